theorem dX9_putTale_142 : decode cX9_putTale 142 = .ok (.aload_n 0, 1) := by decide +kernel
theorem dX9_putTale_143 : decode cX9_putTale 143 = .ok (.invokevirtual 90, 3) := by decide +kernel
theorem dX9_putTale_146 : decode cX9_putTale 146 = .ok (.iinc 6 1, 3) := by decide +kernel
theorem dX9_putTale_149 : decode cX9_putTale 149 = .ok (.goto (-129), 3) := by decide +kernel
theorem dX9_putTale_152 : decode cX9_putTale 152 = .ok (.return_, 1) := by decide +kernel
theorem dX9_putIdle_0 : decode cX9_putIdle 0 = .ok (.aload_n 0, 1) := by decide +kernel
theorem dX9_putIdle_1 : decode cX9_putIdle 1 = .ok (.getfield 12, 3) := by decide +kernel
theorem dX9_putIdle_4 : decode cX9_putIdle 4 = .ok (.bipush 65, 2) := by decide +kernel
theorem dX9_putIdle_6 : decode cX9_putIdle 6 = .ok (.putfield 53, 3) := by decide +kernel
theorem dX9_putIdle_9 : decode cX9_putIdle 9 = .ok (.aload_n 0, 1) := by decide +kernel
theorem dX9_putIdle_10 : decode cX9_putIdle 10 = .ok (.getfield 12, 3) := by decide +kernel
theorem dX9_putIdle_13 : decode cX9_putIdle 13 = .ok (.aload_n 1, 1) := by decide +kernel
theorem dX9_putIdle_14 : decode cX9_putIdle 14 = .ok (.getfield 93, 3) := by decide +kernel
theorem dX9_putIdle_17 : decode cX9_putIdle 17 = .ok (.putfield 67, 3) := by decide +kernel
theorem dX9_putIdle_20 : decode cX9_putIdle 20 = .ok (.aload_n 0, 1) := by decide +kernel
theorem dX9_putIdle_21 : decode cX9_putIdle 21 = .ok (.getfield 12, 3) := by decide +kernel
theorem dX9_putIdle_24 : decode cX9_putIdle 24 = .ok (.iconst (-1), 1) := by decide +kernel
theorem dX9_putIdle_25 : decode cX9_putIdle 25 = .ok (.putfield 70, 3) := by decide +kernel
theorem dX9_putIdle_28 : decode cX9_putIdle 28 = .ok (.aload_n 0, 1) := by decide +kernel
theorem dX9_putIdle_29 : decode cX9_putIdle 29 = .ok (.getfield 12, 3) := by decide +kernel
theorem dX9_putIdle_32 : decode cX9_putIdle 32 = .ok (.aload_n 1, 1) := by decide +kernel
theorem dX9_putIdle_33 : decode cX9_putIdle 33 = .ok (.getfield 96, 3) := by decide +kernel
theorem dX9_putIdle_36 : decode cX9_putIdle 36 = .ok (.putfield 76, 3) := by decide +kernel
theorem dX9_putIdle_39 : decode cX9_putIdle 39 = .ok (.aload_n 0, 1) := by decide +kernel
theorem dX9_putIdle_40 : decode cX9_putIdle 40 = .ok (.getfield 12, 3) := by decide +kernel
theorem dX9_putIdle_43 : decode cX9_putIdle 43 = .ok (.aload_n 2, 1) := by decide +kernel
theorem dX9_putIdle_44 : decode cX9_putIdle 44 = .ok (.iconst 3, 1) := by decide +kernel
theorem dX9_putIdle_45 : decode cX9_putIdle 45 = .ok (.invokevirtual 83, 3) := by decide +kernel
theorem dX9_putIdle_48 : decode cX9_putIdle 48 = .ok (.putfield 88, 3) := by decide +kernel
theorem dX9_putIdle_51 : decode cX9_putIdle 51 = .ok (.aload_n 0, 1) := by decide +kernel
theorem dX9_putIdle_52 : decode cX9_putIdle 52 = .ok (.invokevirtual 90, 3) := by decide +kernel
theorem dX9_putIdle_55 : decode cX9_putIdle 55 = .ok (.return_, 1) := by decide +kernel
theorem dX9_putSentence_0 : decode cX9_putSentence 0 = .ok (.aload_n 0, 1) := by decide +kernel
theorem dX9_putSentence_1 : decode cX9_putSentence 1 = .ok (.getfield 22, 3) := by decide +kernel
theorem dX9_putSentence_4 : decode cX9_putSentence 4 = .ok (.getfield 26, 3) := by decide +kernel
theorem dX9_putSentence_7 : decode cX9_putSentence 7 = .ok (.ifCond .le 12, 3) := by decide +kernel
theorem dX9_putSentence_10 : decode cX9_putSentence 10 = .ok (.aload_n 0, 1) := by decide +kernel
theorem dX9_putSentence_11 : decode cX9_putSentence 11 = .ok (.getfield 22, 3) := by decide +kernel
theorem dX9_putSentence_14 : decode cX9_putSentence 14 = .ok (.bipush 32, 2) := by decide +kernel
theorem dX9_putSentence_16 : decode cX9_putSentence 16 = .ok (.invokevirtual 99, 3) := by decide +kernel
theorem dX9_putSentence_19 : decode cX9_putSentence 19 = .ok (.aload_n 0, 1) := by decide +kernel
theorem dX9_putSentence_20 : decode cX9_putSentence 20 = .ok (.getfield 12, 3) := by decide +kernel
theorem dX9_putSentence_23 : decode cX9_putSentence 23 = .ok (.getfield 53, 3) := by decide +kernel
theorem dX9_putSentence_26 : decode cX9_putSentence 26 = .ok (.invokestatic 103, 3) := by decide +kernel
theorem dX9_putSentence_29 : decode cX9_putSentence 29 = .ok (.astore_n 1, 1) := by decide +kernel
theorem dX9_putSentence_30 : decode cX9_putSentence 30 = .ok (.iconst 0, 1) := by decide +kernel
theorem dX9_putSentence_31 : decode cX9_putSentence 31 = .ok (.istore_n 2, 1) := by decide +kernel
theorem dX9_putSentence_32 : decode cX9_putSentence 32 = .ok (.iload_n 2, 1) := by decide +kernel
theorem dX9_putSentence_33 : decode cX9_putSentence 33 = .ok (.aload_n 1, 1) := by decide +kernel
theorem dX9_putSentence_34 : decode cX9_putSentence 34 = .ok (.invokevirtual 107, 3) := by decide +kernel
theorem dX9_putSentence_37 : decode cX9_putSentence 37 = .ok (.if_icmp .ge 18, 3) := by decide +kernel
theorem dX9_putSentence_40 : decode cX9_putSentence 40 = .ok (.aload_n 0, 1) := by decide +kernel
theorem dX9_putSentence_41 : decode cX9_putSentence 41 = .ok (.aload_n 1, 1) := by decide +kernel
theorem dX9_putSentence_42 : decode cX9_putSentence 42 = .ok (.iload_n 2, 1) := by decide +kernel
theorem dX9_putSentence_43 : decode cX9_putSentence 43 = .ok (.invokevirtual 112, 3) := by decide +kernel
theorem dX9_putSentence_46 : decode cX9_putSentence 46 = .ok (.invokevirtual 116, 3) := by decide +kernel
theorem dX9_putSentence_49 : decode cX9_putSentence 49 = .ok (.iinc 2 1, 3) := by decide +kernel
theorem dX9_putSentence_52 : decode cX9_putSentence 52 = .ok (.goto (-20), 3) := by decide +kernel
theorem dX9_putSentence_55 : decode cX9_putSentence 55 = .ok (.return_, 1) := by decide +kernel
theorem dX9_putPart_0 : decode cX9_putPart 0 = .ok (.iload_n 1, 1) := by decide +kernel
theorem dX9_putPart_1 : decode cX9_putPart 1 = .ok (.lookupswitch 120 #[(78, 43), (79, 64), (84, 85), (88, 106)], 43) := by decide +kernel
theorem dX9_putPart_44 : decode cX9_putPart 44 = .ok (.aload_n 0, 1) := by decide +kernel
theorem dX9_putPart_45 : decode cX9_putPart 45 = .ok (.aload_n 0, 1) := by decide +kernel
theorem dX9_putPart_46 : decode cX9_putPart 46 = .ok (.getfield 18, 3) := by decide +kernel
theorem dX9_putPart_49 : decode cX9_putPart 49 = .ok (.aload_n 0, 1) := by decide +kernel
theorem dX9_putPart_50 : decode cX9_putPart 50 = .ok (.getfield 12, 3) := by decide +kernel
theorem dX9_putPart_53 : decode cX9_putPart 53 = .ok (.getfield 67, 3) := by decide +kernel
theorem dX9_putPart_56 : decode cX9_putPart 56 = .ok (.invokevirtual 120, 3) := by decide +kernel
theorem dX9_putPart_59 : decode cX9_putPart 59 = .ok (.invokevirtual 126, 3) := by decide +kernel
theorem dX9_putPart_62 : decode cX9_putPart 62 = .ok (.goto 67, 3) := by decide +kernel
theorem dX9_putPart_65 : decode cX9_putPart 65 = .ok (.aload_n 0, 1) := by decide +kernel
theorem dX9_putPart_66 : decode cX9_putPart 66 = .ok (.aload_n 0, 1) := by decide +kernel
theorem dX9_putPart_67 : decode cX9_putPart 67 = .ok (.getfield 18, 3) := by decide +kernel
theorem dX9_putPart_70 : decode cX9_putPart 70 = .ok (.aload_n 0, 1) := by decide +kernel
theorem dX9_putPart_71 : decode cX9_putPart 71 = .ok (.getfield 12, 3) := by decide +kernel
theorem dX9_putPart_74 : decode cX9_putPart 74 = .ok (.getfield 70, 3) := by decide +kernel
theorem dX9_putPart_77 : decode cX9_putPart 77 = .ok (.invokevirtual 120, 3) := by decide +kernel
theorem dX9_putPart_80 : decode cX9_putPart 80 = .ok (.invokevirtual 126, 3) := by decide +kernel
theorem dX9_putPart_83 : decode cX9_putPart 83 = .ok (.goto 46, 3) := by decide +kernel
theorem dX9_putPart_86 : decode cX9_putPart 86 = .ok (.aload_n 0, 1) := by decide +kernel
theorem dX9_putPart_87 : decode cX9_putPart 87 = .ok (.aload_n 0, 1) := by decide +kernel
theorem dX9_putPart_88 : decode cX9_putPart 88 = .ok (.getfield 18, 3) := by decide +kernel
theorem dX9_putPart_91 : decode cX9_putPart 91 = .ok (.aload_n 0, 1) := by decide +kernel
theorem dX9_putPart_92 : decode cX9_putPart 92 = .ok (.getfield 12, 3) := by decide +kernel
theorem dX9_putPart_95 : decode cX9_putPart 95 = .ok (.getfield 76, 3) := by decide +kernel
theorem dX9_putPart_98 : decode cX9_putPart 98 = .ok (.invokevirtual 130, 3) := by decide +kernel
theorem dX9_putPart_101 : decode cX9_putPart 101 = .ok (.invokevirtual 126, 3) := by decide +kernel
theorem dX9_putPart_104 : decode cX9_putPart 104 = .ok (.goto 25, 3) := by decide +kernel
theorem dX9_putPart_107 : decode cX9_putPart 107 = .ok (.aload_n 0, 1) := by decide +kernel
theorem dX9_putPart_108 : decode cX9_putPart 108 = .ok (.aload_n 0, 1) := by decide +kernel
theorem dX9_putPart_109 : decode cX9_putPart 109 = .ok (.getfield 12, 3) := by decide +kernel
theorem dX9_putPart_112 : decode cX9_putPart 112 = .ok (.getfield 88, 3) := by decide +kernel
theorem dX9_putPart_115 : decode cX9_putPart 115 = .ok (.invokevirtual 133, 3) := by decide +kernel
theorem dX9_putPart_118 : decode cX9_putPart 118 = .ok (.goto 11, 3) := by decide +kernel
theorem dX9_putPart_121 : decode cX9_putPart 121 = .ok (.aload_n 0, 1) := by decide +kernel
theorem dX9_putPart_122 : decode cX9_putPart 122 = .ok (.getfield 22, 3) := by decide +kernel
theorem dX9_putPart_125 : decode cX9_putPart 125 = .ok (.iload_n 1, 1) := by decide +kernel
theorem dX9_putPart_126 : decode cX9_putPart 126 = .ok (.invokevirtual 99, 3) := by decide +kernel
theorem dX9_putPart_129 : decode cX9_putPart 129 = .ok (.return_, 1) := by decide +kernel
theorem dX9_putWord_0 : decode cX9_putWord 0 = .ok (.bipush 56, 2) := by decide +kernel
theorem dX9_putWord_2 : decode cX9_putWord 2 = .ok (.istore_n 3, 1) := by decide +kernel
theorem dX9_putWord_3 : decode cX9_putWord 3 = .ok (.iload_n 3, 1) := by decide +kernel
theorem dX9_putWord_4 : decode cX9_putWord 4 = .ok (.ifCond .lt 33, 3) := by decide +kernel
theorem dX9_putWord_7 : decode cX9_putWord 7 = .ok (.lload_n 1, 1) := by decide +kernel
theorem dX9_putWord_8 : decode cX9_putWord 8 = .ok (.iload_n 3, 1) := by decide +kernel
theorem dX9_putWord_9 : decode cX9_putWord 9 = .ok (.lshr, 1) := by decide +kernel
theorem dX9_putWord_10 : decode cX9_putWord 10 = .ok (.ldc2_w 136, 3) := by decide +kernel
theorem dX9_putWord_13 : decode cX9_putWord 13 = .ok (.land, 1) := by decide +kernel
theorem dX9_putWord_14 : decode cX9_putWord 14 = .ok (.l2i, 1) := by decide +kernel
theorem dX9_putWord_15 : decode cX9_putWord 15 = .ok (.istore 4, 2) := by decide +kernel
theorem dX9_putWord_17 : decode cX9_putWord 17 = .ok (.iload 4, 2) := by decide +kernel
theorem dX9_putWord_19 : decode cX9_putWord 19 = .ok (.ifCond .eq 12, 3) := by decide +kernel
theorem dX9_putWord_22 : decode cX9_putWord 22 = .ok (.aload_n 0, 1) := by decide +kernel
theorem dX9_putWord_23 : decode cX9_putWord 23 = .ok (.getfield 22, 3) := by decide +kernel
theorem dX9_putWord_26 : decode cX9_putWord 26 = .ok (.iload 4, 2) := by decide +kernel
theorem dX9_putWord_28 : decode cX9_putWord 28 = .ok (.invokevirtual 99, 3) := by decide +kernel
theorem dX9_putWord_31 : decode cX9_putWord 31 = .ok (.iinc 3 (-8), 3) := by decide +kernel
theorem dX9_putWord_34 : decode cX9_putWord 34 = .ok (.goto (-31), 3) := by decide +kernel
theorem dX9_putWord_37 : decode cX9_putWord 37 = .ok (.return_, 1) := by decide +kernel
theorem dX9_putNumber_0 : decode cX9_putNumber 0 = .ok (.sipush 1000, 3) := by decide +kernel
theorem dX9_putNumber_3 : decode cX9_putNumber 3 = .ok (.istore_n 2, 1) := by decide +kernel
theorem dX9_putNumber_4 : decode cX9_putNumber 4 = .ok (.iload_n 2, 1) := by decide +kernel
theorem dX9_putNumber_5 : decode cX9_putNumber 5 = .ok (.iconst 1, 1) := by decide +kernel
theorem dX9_putNumber_6 : decode cX9_putNumber 6 = .ok (.if_icmp .lt 32, 3) := by decide +kernel
theorem dX9_putNumber_9 : decode cX9_putNumber 9 = .ok (.iload_n 1, 1) := by decide +kernel
theorem dX9_putNumber_10 : decode cX9_putNumber 10 = .ok (.iload_n 2, 1) := by decide +kernel
theorem dX9_putNumber_11 : decode cX9_putNumber 11 = .ok (.if_icmp .lt 19, 3) := by decide +kernel
theorem dX9_putNumber_14 : decode cX9_putNumber 14 = .ok (.aload_n 0, 1) := by decide +kernel
theorem dX9_putNumber_15 : decode cX9_putNumber 15 = .ok (.getfield 22, 3) := by decide +kernel
theorem dX9_putNumber_18 : decode cX9_putNumber 18 = .ok (.bipush 48, 2) := by decide +kernel
theorem dX9_putNumber_20 : decode cX9_putNumber 20 = .ok (.iload_n 1, 1) := by decide +kernel
theorem dX9_putNumber_21 : decode cX9_putNumber 21 = .ok (.iload_n 2, 1) := by decide +kernel
theorem dX9_putNumber_22 : decode cX9_putNumber 22 = .ok (.idiv, 1) := by decide +kernel
theorem dX9_putNumber_23 : decode cX9_putNumber 23 = .ok (.bipush 10, 2) := by decide +kernel
theorem dX9_putNumber_25 : decode cX9_putNumber 25 = .ok (.irem, 1) := by decide +kernel
theorem dX9_putNumber_26 : decode cX9_putNumber 26 = .ok (.iadd, 1) := by decide +kernel
theorem dX9_putNumber_27 : decode cX9_putNumber 27 = .ok (.invokevirtual 99, 3) := by decide +kernel
theorem dX9_putNumber_30 : decode cX9_putNumber 30 = .ok (.iload_n 2, 1) := by decide +kernel
theorem dX9_putNumber_31 : decode cX9_putNumber 31 = .ok (.bipush 10, 2) := by decide +kernel
theorem dX9_putNumber_33 : decode cX9_putNumber 33 = .ok (.idiv, 1) := by decide +kernel
theorem dX9_putNumber_34 : decode cX9_putNumber 34 = .ok (.istore_n 2, 1) := by decide +kernel
theorem dX9_putNumber_35 : decode cX9_putNumber 35 = .ok (.goto (-31), 3) := by decide +kernel
theorem dX9_putNumber_38 : decode cX9_putNumber 38 = .ok (.return_, 1) := by decide +kernel
theorem dX10_init_0 : decode cX10_init 0 = .ok (.aload_n 0, 1) := by decide +kernel
theorem dX10_init_1 : decode cX10_init 1 = .ok (.invokespecial 1, 3) := by decide +kernel
theorem dX10_init_4 : decode cX10_init 4 = .ok (.new 7, 3) := by decide +kernel
theorem dX10_init_7 : decode cX10_init 7 = .ok (.dup, 1) := by decide +kernel
theorem dX10_init_8 : decode cX10_init 8 = .ok (.invokespecial 9, 3) := by decide +kernel
theorem dX10_init_11 : decode cX10_init 11 = .ok (.astore_n 1, 1) := by decide +kernel
theorem dX10_init_12 : decode cX10_init 12 = .ok (.aload_n 0, 1) := by decide +kernel
theorem dX10_init_13 : decode cX10_init 13 = .ok (.aload_n 1, 1) := by decide +kernel
theorem dX10_init_14 : decode cX10_init 14 = .ok (.putfield 10, 3) := by decide +kernel
theorem dX10_init_17 : decode cX10_init 17 = .ok (.aload_n 0, 1) := by decide +kernel
theorem dX10_init_18 : decode cX10_init 18 = .ok (.iconst 3, 1) := by decide +kernel
theorem dX10_init_19 : decode cX10_init 19 = .ok (.anewarray 7, 3) := by decide +kernel
theorem dX10_init_22 : decode cX10_init 22 = .ok (.putfield 16, 3) := by decide +kernel
theorem dX10_init_25 : decode cX10_init 25 = .ok (.aload_n 0, 1) := by decide +kernel
theorem dX10_init_26 : decode cX10_init 26 = .ok (.new 20, 3) := by decide +kernel
theorem dX10_init_29 : decode cX10_init 29 = .ok (.dup, 1) := by decide +kernel
theorem dX10_init_30 : decode cX10_init 30 = .ok (.aload_n 1, 1) := by decide +kernel
theorem dX10_init_31 : decode cX10_init 31 = .ok (.getfield 22, 3) := by decide +kernel
theorem dX10_init_34 : decode cX10_init 34 = .ok (.aload_n 1, 1) := by decide +kernel
theorem dX10_init_35 : decode cX10_init 35 = .ok (.getfield 26, 3) := by decide +kernel
theorem dX10_init_38 : decode cX10_init 38 = .ok (.invokespecial 30, 3) := by decide +kernel
theorem dX10_init_41 : decode cX10_init 41 = .ok (.putfield 33, 3) := by decide +kernel
theorem dX10_init_44 : decode cX10_init 44 = .ok (.aload_n 0, 1) := by decide +kernel
theorem dX10_init_45 : decode cX10_init 45 = .ok (.new 37, 3) := by decide +kernel
theorem dX10_init_48 : decode cX10_init 48 = .ok (.dup, 1) := by decide +kernel
theorem dX10_init_49 : decode cX10_init 49 = .ok (.aload_n 1, 1) := by decide +kernel
theorem dX10_init_50 : decode cX10_init 50 = .ok (.getfield 26, 3) := by decide +kernel
theorem dX10_init_53 : decode cX10_init 53 = .ok (.aload_n 1, 1) := by decide +kernel
theorem dX10_init_54 : decode cX10_init 54 = .ok (.getfield 39, 3) := by decide +kernel
theorem dX10_init_57 : decode cX10_init 57 = .ok (.invokespecial 43, 3) := by decide +kernel
theorem dX10_init_60 : decode cX10_init 60 = .ok (.putfield 46, 3) := by decide +kernel
theorem dX10_init_63 : decode cX10_init 63 = .ok (.aload_n 0, 1) := by decide +kernel
theorem dX10_init_64 : decode cX10_init 64 = .ok (.new 50, 3) := by decide +kernel
theorem dX10_init_67 : decode cX10_init 67 = .ok (.dup, 1) := by decide +kernel
theorem dX10_init_68 : decode cX10_init 68 = .ok (.aload_n 1, 1) := by decide +kernel
theorem dX10_init_69 : decode cX10_init 69 = .ok (.getfield 26, 3) := by decide +kernel
theorem dX10_init_72 : decode cX10_init 72 = .ok (.aload_n 1, 1) := by decide +kernel
theorem dX10_init_73 : decode cX10_init 73 = .ok (.getfield 52, 3) := by decide +kernel
theorem dX10_init_76 : decode cX10_init 76 = .ok (.invokespecial 55, 3) := by decide +kernel
theorem dX10_init_79 : decode cX10_init 79 = .ok (.putfield 56, 3) := by decide +kernel
theorem dX10_init_82 : decode cX10_init 82 = .ok (.return_, 1) := by decide +kernel
theorem dX10_name_0 : decode cX10_name 0 = .ok (.aload_n 0, 1) := by decide +kernel
theorem dX10_name_1 : decode cX10_name 1 = .ok (.getfield 10, 3) := by decide +kernel
theorem dX10_name_4 : decode cX10_name 4 = .ok (.getfield 26, 3) := by decide +kernel
theorem dX10_name_7 : decode cX10_name 7 = .ok (.lload_n 1, 1) := by decide +kernel
theorem dX10_name_8 : decode cX10_name 8 = .ok (.invokevirtual 60, 3) := by decide +kernel
theorem dX10_name_11 : decode cX10_name 11 = .ok (.ireturn, 1) := by decide +kernel
theorem dX10_thing_0 : decode cX10_thing 0 = .ok (.aload_n 0, 1) := by decide +kernel
theorem dX10_thing_1 : decode cX10_thing 1 = .ok (.getfield 10, 3) := by decide +kernel
theorem dX10_thing_4 : decode cX10_thing 4 = .ok (.getfield 26, 3) := by decide +kernel
theorem dX10_thing_7 : decode cX10_thing 7 = .ok (.lload_n 1, 1) := by decide +kernel
theorem dX10_thing_8 : decode cX10_thing 8 = .ok (.iload_n 3, 1) := by decide +kernel
theorem dX10_thing_9 : decode cX10_thing 9 = .ok (.invokevirtual 66, 3) := by decide +kernel
theorem dX10_thing_12 : decode cX10_thing 12 = .ok (.ireturn, 1) := by decide +kernel
theorem dX10_span_0 : decode cX10_span 0 = .ok (.aload_n 0, 1) := by decide +kernel
theorem dX10_span_1 : decode cX10_span 1 = .ok (.getfield 10, 3) := by decide +kernel
theorem dX10_span_4 : decode cX10_span 4 = .ok (.getfield 22, 3) := by decide +kernel
theorem dX10_span_7 : decode cX10_span 7 = .ok (.iload_n 1, 1) := by decide +kernel
theorem dX10_span_8 : decode cX10_span 8 = .ok (.iload_n 2, 1) := by decide +kernel
theorem dX10_span_9 : decode cX10_span 9 = .ok (.iload_n 3, 1) := by decide +kernel
theorem dX10_span_10 : decode cX10_span 10 = .ok (.invokevirtual 70, 3) := by decide +kernel
theorem dX10_span_13 : decode cX10_span 13 = .ok (.ifCond .ne 5, 3) := by decide +kernel
theorem dX10_span_16 : decode cX10_span 16 = .ok (.iconst 0, 1) := by decide +kernel
theorem dX10_span_17 : decode cX10_span 17 = .ok (.ireturn, 1) := by decide +kernel
theorem dX10_span_18 : decode cX10_span 18 = .ok (.aload_n 0, 1) := by decide +kernel
theorem dX10_span_19 : decode cX10_span 19 = .ok (.getfield 33, 3) := by decide +kernel
theorem dX10_span_22 : decode cX10_span 22 = .ok (.invokevirtual 76, 3) := by decide +kernel
theorem dX10_span_25 : decode cX10_span 25 = .ok (.iconst 1, 1) := by decide +kernel
theorem dX10_span_26 : decode cX10_span 26 = .ok (.ireturn, 1) := by decide +kernel
theorem dX10_ways_0 : decode cX10_ways 0 = .ok (.iload_n 1, 1) := by decide +kernel
theorem dX10_ways_1 : decode cX10_ways 1 = .ok (.ifCond .lt 9, 3) := by decide +kernel
theorem dX10_ways_4 : decode cX10_ways 4 = .ok (.iload_n 1, 1) := by decide +kernel
theorem dX10_ways_5 : decode cX10_ways 5 = .ok (.bipush 64, 2) := by decide +kernel
theorem dX10_ways_7 : decode cX10_ways 7 = .ok (.if_icmp .lt 5, 3) := by decide +kernel
theorem dX10_ways_10 : decode cX10_ways 10 = .ok (.iconst 0, 1) := by decide +kernel
theorem dX10_ways_11 : decode cX10_ways 11 = .ok (.ireturn, 1) := by decide +kernel
theorem dX10_ways_12 : decode cX10_ways 12 = .ok (.aload_n 0, 1) := by decide +kernel
theorem dX10_ways_13 : decode cX10_ways 13 = .ok (.getfield 10, 3) := by decide +kernel
theorem dX10_ways_16 : decode cX10_ways 16 = .ok (.getfield 22, 3) := by decide +kernel
theorem dX10_ways_19 : decode cX10_ways 19 = .ok (.iload_n 1, 1) := by decide +kernel
theorem dX10_ways_20 : decode cX10_ways 20 = .ok (.putfield 79, 3) := by decide +kernel
theorem dX10_ways_23 : decode cX10_ways 23 = .ok (.aload_n 0, 1) := by decide +kernel
theorem dX10_ways_24 : decode cX10_ways 24 = .ok (.getfield 33, 3) := by decide +kernel
theorem dX10_ways_27 : decode cX10_ways 27 = .ok (.invokevirtual 76, 3) := by decide +kernel
theorem dX10_ways_30 : decode cX10_ways 30 = .ok (.iconst 1, 1) := by decide +kernel
theorem dX10_ways_31 : decode cX10_ways 31 = .ok (.ireturn, 1) := by decide +kernel
theorem dX10_choose_0 : decode cX10_choose 0 = .ok (.aload_n 0, 1) := by decide +kernel
theorem dX10_choose_1 : decode cX10_choose 1 = .ok (.getfield 10, 3) := by decide +kernel
theorem dX10_choose_4 : decode cX10_choose 4 = .ok (.getfield 22, 3) := by decide +kernel
theorem dX10_choose_7 : decode cX10_choose 7 = .ok (.aload_n 0, 1) := by decide +kernel
theorem dX10_choose_8 : decode cX10_choose 8 = .ok (.getfield 10, 3) := by decide +kernel
theorem dX10_choose_11 : decode cX10_choose 11 = .ok (.getfield 26, 3) := by decide +kernel
theorem dX10_choose_14 : decode cX10_choose 14 = .ok (.iload_n 1, 1) := by decide +kernel
theorem dX10_choose_15 : decode cX10_choose 15 = .ok (.iload_n 2, 1) := by decide +kernel
theorem dX10_choose_16 : decode cX10_choose 16 = .ok (.iload_n 3, 1) := by decide +kernel
theorem dX10_choose_17 : decode cX10_choose 17 = .ok (.iload 4, 2) := by decide +kernel
theorem dX10_choose_19 : decode cX10_choose 19 = .ok (.iload 5, 2) := by decide +kernel
theorem dX10_choose_21 : decode cX10_choose 21 = .ok (.iload 6, 2) := by decide +kernel
theorem dX10_choose_23 : decode cX10_choose 23 = .ok (.invokevirtual 83, 3) := by decide +kernel
theorem dX10_choose_26 : decode cX10_choose 26 = .ok (.ifCond .ne 5, 3) := by decide +kernel
theorem dX10_choose_29 : decode cX10_choose 29 = .ok (.iconst (-1), 1) := by decide +kernel
theorem dX10_choose_30 : decode cX10_choose 30 = .ok (.ireturn, 1) := by decide +kernel
theorem dX10_choose_31 : decode cX10_choose 31 = .ok (.aload_n 0, 1) := by decide +kernel
theorem dX10_choose_32 : decode cX10_choose 32 = .ok (.getfield 33, 3) := by decide +kernel
theorem dX10_choose_35 : decode cX10_choose 35 = .ok (.invokevirtual 76, 3) := by decide +kernel
theorem dX10_choose_38 : decode cX10_choose 38 = .ok (.aload_n 0, 1) := by decide +kernel
theorem dX10_choose_39 : decode cX10_choose 39 = .ok (.getfield 33, 3) := by decide +kernel
theorem dX10_choose_42 : decode cX10_choose 42 = .ok (.invokevirtual 87, 3) := by decide +kernel
theorem dX10_choose_45 : decode cX10_choose 45 = .ok (.ireturn, 1) := by decide +kernel
theorem dX10_sets_0 : decode cX10_sets 0 = .ok (.aload_n 0, 1) := by decide +kernel
theorem dX10_sets_1 : decode cX10_sets 1 = .ok (.getfield 10, 3) := by decide +kernel
theorem dX10_sets_4 : decode cX10_sets 4 = .ok (.getfield 22, 3) := by decide +kernel
theorem dX10_sets_7 : decode cX10_sets 7 = .ok (.invokevirtual 91, 3) := by decide +kernel
theorem dX10_sets_10 : decode cX10_sets 10 = .ok (.ifCond .eq 13, 3) := by decide +kernel
theorem dX10_sets_13 : decode cX10_sets 13 = .ok (.aload_n 0, 1) := by decide +kernel
theorem dX10_sets_14 : decode cX10_sets 14 = .ok (.getfield 33, 3) := by decide +kernel
theorem dX10_sets_17 : decode cX10_sets 17 = .ok (.invokevirtual 87, 3) := by decide +kernel
theorem dX10_sets_20 : decode cX10_sets 20 = .ok (.goto 4, 3) := by decide +kernel
theorem dX10_sets_23 : decode cX10_sets 23 = .ok (.iconst (-1), 1) := by decide +kernel
theorem dX10_sets_24 : decode cX10_sets 24 = .ok (.ireturn, 1) := by decide +kernel
theorem dX10_set_0 : decode cX10_set 0 = .ok (.aload_n 0, 1) := by decide +kernel
theorem dX10_set_1 : decode cX10_set 1 = .ok (.getfield 33, 3) := by decide +kernel
theorem dX10_set_4 : decode cX10_set 4 = .ok (.iload_n 1, 1) := by decide +kernel
theorem dX10_set_5 : decode cX10_set 5 = .ok (.invokevirtual 95, 3) := by decide +kernel
theorem dX10_set_8 : decode cX10_set 8 = .ok (.ifCond .eq 14, 3) := by decide +kernel
theorem dX10_set_11 : decode cX10_set 11 = .ok (.aload_n 0, 1) := by decide +kernel
theorem dX10_set_12 : decode cX10_set 12 = .ok (.getfield 33, 3) := by decide +kernel
theorem dX10_set_15 : decode cX10_set 15 = .ok (.iload_n 2, 1) := by decide +kernel
theorem dX10_set_16 : decode cX10_set 16 = .ok (.invokevirtual 99, 3) := by decide +kernel
theorem dX10_set_19 : decode cX10_set 19 = .ok (.goto 4, 3) := by decide +kernel
theorem dX10_set_22 : decode cX10_set 22 = .ok (.iconst (-1), 1) := by decide +kernel
theorem dX10_set_23 : decode cX10_set 23 = .ok (.ireturn, 1) := by decide +kernel
theorem dX10_tells_0 : decode cX10_tells 0 = .ok (.aload_n 0, 1) := by decide +kernel
theorem dX10_tells_1 : decode cX10_tells 1 = .ok (.getfield 33, 3) := by decide +kernel
theorem dX10_tells_4 : decode cX10_tells 4 = .ok (.iload_n 1, 1) := by decide +kernel
theorem dX10_tells_5 : decode cX10_tells 5 = .ok (.invokevirtual 95, 3) := by decide +kernel
theorem dX10_tells_8 : decode cX10_tells 8 = .ok (.ifCond .ne 5, 3) := by decide +kernel
theorem dX10_tells_11 : decode cX10_tells 11 = .ok (.iconst (-1), 1) := by decide +kernel
theorem dX10_tells_12 : decode cX10_tells 12 = .ok (.ireturn, 1) := by decide +kernel
theorem dX10_tells_13 : decode cX10_tells 13 = .ok (.aload_n 0, 1) := by decide +kernel
theorem dX10_tells_14 : decode cX10_tells 14 = .ok (.getfield 33, 3) := by decide +kernel
theorem dX10_tells_17 : decode cX10_tells 17 = .ok (.getfield 103, 3) := by decide +kernel
theorem dX10_tells_20 : decode cX10_tells 20 = .ok (.iload_n 2, 1) := by decide +kernel
theorem dX10_tells_21 : decode cX10_tells 21 = .ok (.if_icmp .ne 8, 3) := by decide +kernel
theorem dX10_tells_24 : decode cX10_tells 24 = .ok (.bipush 64, 2) := by decide +kernel
theorem dX10_tells_26 : decode cX10_tells 26 = .ok (.goto 11, 3) := by decide +kernel
theorem dX10_tells_29 : decode cX10_tells 29 = .ok (.aload_n 0, 1) := by decide +kernel
theorem dX10_tells_30 : decode cX10_tells 30 = .ok (.getfield 33, 3) := by decide +kernel
theorem dX10_tells_33 : decode cX10_tells 33 = .ok (.iload_n 2, 1) := by decide +kernel
theorem dX10_tells_34 : decode cX10_tells 34 = .ok (.invokevirtual 106, 3) := by decide +kernel
theorem dX10_tells_37 : decode cX10_tells 37 = .ok (.ireturn, 1) := by decide +kernel
theorem dX10_sheet_0 : decode cX10_sheet 0 = .ok (.aload_n 0, 1) := by decide +kernel
theorem dX10_sheet_1 : decode cX10_sheet 1 = .ok (.getfield 10, 3) := by decide +kernel
theorem dX10_sheet_4 : decode cX10_sheet 4 = .ok (.getfield 22, 3) := by decide +kernel
theorem dX10_sheet_7 : decode cX10_sheet 7 = .ok (.invokevirtual 91, 3) := by decide +kernel
theorem dX10_sheet_10 : decode cX10_sheet 10 = .ok (.ifCond .eq 14, 3) := by decide +kernel
theorem dX10_sheet_13 : decode cX10_sheet 13 = .ok (.iload_n 1, 1) := by decide +kernel
theorem dX10_sheet_14 : decode cX10_sheet 14 = .ok (.iconst 1, 1) := by decide +kernel
theorem dX10_sheet_15 : decode cX10_sheet 15 = .ok (.if_icmp .lt 9, 3) := by decide +kernel
theorem dX10_sheet_18 : decode cX10_sheet 18 = .ok (.iload_n 1, 1) := by decide +kernel
theorem dX10_sheet_19 : decode cX10_sheet 19 = .ok (.bipush 20, 2) := by decide +kernel
theorem dX10_sheet_21 : decode cX10_sheet 21 = .ok (.if_icmp .le 5, 3) := by decide +kernel
theorem dX10_sheet_24 : decode cX10_sheet 24 = .ok (.iconst (-1), 1) := by decide +kernel
theorem dX10_sheet_25 : decode cX10_sheet 25 = .ok (.ireturn, 1) := by decide +kernel
theorem dX10_sheet_26 : decode cX10_sheet 26 = .ok (.aload_n 0, 1) := by decide +kernel
theorem dX10_sheet_27 : decode cX10_sheet 27 = .ok (.getfield 10, 3) := by decide +kernel
theorem dX10_sheet_30 : decode cX10_sheet 30 = .ok (.getfield 109, 3) := by decide +kernel
theorem dX10_sheet_33 : decode cX10_sheet 33 = .ok (.astore_n 2, 1) := by decide +kernel
theorem dX10_sheet_34 : decode cX10_sheet 34 = .ok (.aload_n 2, 1) := by decide +kernel
theorem dX10_sheet_35 : decode cX10_sheet 35 = .ok (.iconst 0, 1) := by decide +kernel
theorem dX10_sheet_36 : decode cX10_sheet 36 = .ok (.putfield 113, 3) := by decide +kernel
theorem dX10_sheet_39 : decode cX10_sheet 39 = .ok (.iconst 0, 1) := by decide +kernel
theorem dX10_sheet_40 : decode cX10_sheet 40 = .ok (.istore_n 3, 1) := by decide +kernel
theorem dX10_sheet_41 : decode cX10_sheet 41 = .ok (.iload_n 3, 1) := by decide +kernel
theorem dX10_sheet_42 : decode cX10_sheet 42 = .ok (.ldc 118, 2) := by decide +kernel
theorem dX10_sheet_44 : decode cX10_sheet 44 = .ok (.if_icmp .ge 40, 3) := by decide +kernel
theorem dX10_sheet_47 : decode cX10_sheet 47 = .ok (.aload_n 2, 1) := by decide +kernel
theorem dX10_sheet_48 : decode cX10_sheet 48 = .ok (.getfield 113, 3) := by decide +kernel
theorem dX10_sheet_51 : decode cX10_sheet 51 = .ok (.iload_n 1, 1) := by decide +kernel
theorem dX10_sheet_52 : decode cX10_sheet 52 = .ok (.if_icmp .ge 32, 3) := by decide +kernel
theorem dX10_sheet_55 : decode cX10_sheet 55 = .ok (.aload_n 0, 1) := by decide +kernel
theorem dX10_sheet_56 : decode cX10_sheet 56 = .ok (.getfield 33, 3) := by decide +kernel
theorem dX10_sheet_59 : decode cX10_sheet 59 = .ok (.iload_n 3, 1) := by decide +kernel
theorem dX10_sheet_60 : decode cX10_sheet 60 = .ok (.invokevirtual 95, 3) := by decide +kernel
theorem dX10_sheet_63 : decode cX10_sheet 63 = .ok (.ifCond .eq 21, 3) := by decide +kernel
theorem dX10_sheet_66 : decode cX10_sheet 66 = .ok (.aload_n 2, 1) := by decide +kernel
theorem dX10_sheet_67 : decode cX10_sheet 67 = .ok (.iload_n 3, 1) := by decide +kernel
theorem dX10_sheet_68 : decode cX10_sheet 68 = .ok (.aload_n 0, 1) := by decide +kernel
theorem dX10_sheet_69 : decode cX10_sheet 69 = .ok (.getfield 33, 3) := by decide +kernel
theorem dX10_sheet_72 : decode cX10_sheet 72 = .ok (.getfield 103, 3) := by decide +kernel
theorem dX10_sheet_75 : decode cX10_sheet 75 = .ok (.invokevirtual 119, 3) := by decide +kernel
theorem dX10_sheet_78 : decode cX10_sheet 78 = .ok (.iinc 3 1, 3) := by decide +kernel
theorem dX10_sheet_81 : decode cX10_sheet 81 = .ok (.goto (-40), 3) := by decide +kernel
theorem dX10_sheet_84 : decode cX10_sheet 84 = .ok (.aload_n 2, 1) := by decide +kernel
theorem dX10_sheet_85 : decode cX10_sheet 85 = .ok (.getfield 113, 3) := by decide +kernel
theorem dX10_sheet_88 : decode cX10_sheet 88 = .ok (.ireturn, 1) := by decide +kernel
theorem dX10_on_0 : decode cX10_on 0 = .ok (.aload_n 0, 1) := by decide +kernel
theorem dX10_on_1 : decode cX10_on 1 = .ok (.getfield 10, 3) := by decide +kernel
theorem dX10_on_4 : decode cX10_on 4 = .ok (.getfield 109, 3) := by decide +kernel
theorem dX10_on_7 : decode cX10_on 7 = .ok (.iload_n 1, 1) := by decide +kernel
theorem dX10_on_8 : decode cX10_on 8 = .ok (.invokevirtual 123, 3) := by decide +kernel
theorem dX10_on_11 : decode cX10_on 11 = .ok (.ireturn, 1) := by decide +kernel
theorem dX10_write_0 : decode cX10_write 0 = .ok (.aload_n 0, 1) := by decide +kernel
theorem dX10_write_1 : decode cX10_write 1 = .ok (.getfield 10, 3) := by decide +kernel
theorem dX10_write_4 : decode cX10_write 4 = .ok (.getfield 22, 3) := by decide +kernel
theorem dX10_write_7 : decode cX10_write 7 = .ok (.astore 4, 2) := by decide +kernel
theorem dX10_write_9 : decode cX10_write 9 = .ok (.aload_n 0, 1) := by decide +kernel
theorem dX10_write_10 : decode cX10_write 10 = .ok (.getfield 33, 3) := by decide +kernel
theorem dX10_write_13 : decode cX10_write 13 = .ok (.iload_n 1, 1) := by decide +kernel
theorem dX10_write_14 : decode cX10_write 14 = .ok (.invokevirtual 95, 3) := by decide +kernel
theorem dX10_write_17 : decode cX10_write 17 = .ok (.ifCond .eq 18, 3) := by decide +kernel
theorem dX10_write_20 : decode cX10_write 20 = .ok (.iload_n 2, 1) := by decide +kernel
theorem dX10_write_21 : decode cX10_write 21 = .ok (.ifCond .eq 16, 3) := by decide +kernel
theorem dX10_write_24 : decode cX10_write 24 = .ok (.aload 4, 2) := by decide +kernel
theorem dX10_write_26 : decode cX10_write 26 = .ok (.getfield 126, 3) := by decide +kernel
theorem dX10_write_29 : decode cX10_write 29 = .ok (.invokestatic 129, 3) := by decide +kernel
theorem dX10_write_32 : decode cX10_write 32 = .ok (.ifCond .ne 5, 3) := by decide +kernel
theorem dX10_write_35 : decode cX10_write 35 = .ok (.iconst (-1), 1) := by decide +kernel
theorem dX10_write_36 : decode cX10_write 36 = .ok (.ireturn, 1) := by decide +kernel
theorem dX10_write_37 : decode cX10_write 37 = .ok (.aload 4, 2) := by decide +kernel
theorem dX10_write_39 : decode cX10_write 39 = .ok (.invokevirtual 132, 3) := by decide +kernel
theorem dX10_write_42 : decode cX10_write 42 = .ok (.ifCond .eq 21, 3) := by decide +kernel
theorem dX10_write_45 : decode cX10_write 45 = .ok (.iload_n 3, 1) := by decide +kernel
theorem dX10_write_46 : decode cX10_write 46 = .ok (.ifCond .lt 15, 3) := by decide +kernel
theorem dX10_write_49 : decode cX10_write 49 = .ok (.iload_n 3, 1) := by decide +kernel
theorem dX10_write_50 : decode cX10_write 50 = .ok (.aload 4, 2) := by decide +kernel
theorem dX10_write_52 : decode cX10_write 52 = .ok (.getfield 126, 3) := by decide +kernel
theorem dX10_write_55 : decode cX10_write 55 = .ok (.invokestatic 135, 3) := by decide +kernel
theorem dX10_write_58 : decode cX10_write 58 = .ok (.if_icmp .le 5, 3) := by decide +kernel
theorem dX10_write_61 : decode cX10_write 61 = .ok (.iconst (-1), 1) := by decide +kernel
theorem dX10_write_62 : decode cX10_write 62 = .ok (.ireturn, 1) := by decide +kernel
theorem dX10_write_63 : decode cX10_write 63 = .ok (.aload_n 0, 1) := by decide +kernel
theorem dX10_write_64 : decode cX10_write 64 = .ok (.getfield 46, 3) := by decide +kernel
theorem dX10_write_67 : decode cX10_write 67 = .ok (.aload 4, 2) := by decide +kernel
theorem dX10_write_69 : decode cX10_write 69 = .ok (.aload_n 0, 1) := by decide +kernel
theorem dX10_write_70 : decode cX10_write 70 = .ok (.getfield 33, 3) := by decide +kernel
theorem dX10_write_73 : decode cX10_write 73 = .ok (.iload_n 2, 1) := by decide +kernel
theorem dX10_write_74 : decode cX10_write 74 = .ok (.iload_n 3, 1) := by decide +kernel
theorem dX10_write_75 : decode cX10_write 75 = .ok (.invokevirtual 138, 3) := by decide +kernel
theorem dX10_write_78 : decode cX10_write 78 = .ok (.aload_n 0, 1) := by decide +kernel
theorem dX10_write_79 : decode cX10_write 79 = .ok (.getfield 10, 3) := by decide +kernel
theorem dX10_write_82 : decode cX10_write 82 = .ok (.getfield 39, 3) := by decide +kernel
theorem dX10_write_85 : decode cX10_write 85 = .ok (.getfield 142, 3) := by decide +kernel
theorem dX10_write_88 : decode cX10_write 88 = .ok (.ireturn, 1) := by decide +kernel
theorem dX10_written_0 : decode cX10_written 0 = .ok (.aload_n 0, 1) := by decide +kernel
theorem dX10_written_1 : decode cX10_written 1 = .ok (.getfield 10, 3) := by decide +kernel
theorem dX10_written_4 : decode cX10_written 4 = .ok (.getfield 39, 3) := by decide +kernel
theorem dX10_written_7 : decode cX10_written 7 = .ok (.iload_n 1, 1) := by decide +kernel
theorem dX10_written_8 : decode cX10_written 8 = .ok (.invokevirtual 147, 3) := by decide +kernel
theorem dX10_written_11 : decode cX10_written 11 = .ok (.ireturn, 1) := by decide +kernel
theorem dX10_take_0 : decode cX10_take 0 = .ok (.aload_n 0, 1) := by decide +kernel
theorem dX10_take_1 : decode cX10_take 1 = .ok (.getfield 10, 3) := by decide +kernel
theorem dX10_take_4 : decode cX10_take 4 = .ok (.getfield 39, 3) := by decide +kernel
theorem dX10_take_7 : decode cX10_take 7 = .ok (.getfield 142, 3) := by decide +kernel
theorem dX10_take_10 : decode cX10_take 10 = .ok (.ifCond .ne 5, 3) := by decide +kernel
theorem dX10_take_13 : decode cX10_take 13 = .ok (.iconst (-1), 1) := by decide +kernel
theorem dX10_take_14 : decode cX10_take 14 = .ok (.ireturn, 1) := by decide +kernel
theorem dX10_take_15 : decode cX10_take 15 = .ok (.aload_n 0, 1) := by decide +kernel
theorem dX10_take_16 : decode cX10_take 16 = .ok (.getfield 10, 3) := by decide +kernel
theorem dX10_take_19 : decode cX10_take 19 = .ok (.getfield 52, 3) := by decide +kernel
theorem dX10_take_22 : decode cX10_take 22 = .ok (.aload_n 0, 1) := by decide +kernel
theorem dX10_take_23 : decode cX10_take 23 = .ok (.getfield 10, 3) := by decide +kernel
theorem dX10_take_26 : decode cX10_take 26 = .ok (.getfield 39, 3) := by decide +kernel
theorem dX10_take_29 : decode cX10_take 29 = .ok (.invokevirtual 150, 3) := by decide +kernel
theorem dX10_take_32 : decode cX10_take 32 = .ok (.aload_n 0, 1) := by decide +kernel
theorem dX10_take_33 : decode cX10_take 33 = .ok (.getfield 10, 3) := by decide +kernel
theorem dX10_take_36 : decode cX10_take 36 = .ok (.getfield 52, 3) := by decide +kernel
theorem dX10_take_39 : decode cX10_take 39 = .ok (.getfield 142, 3) := by decide +kernel
theorem dX10_take_42 : decode cX10_take 42 = .ok (.ireturn, 1) := by decide +kernel
theorem dX10_feed_0 : decode cX10_feed 0 = .ok (.aload_n 0, 1) := by decide +kernel
theorem dX10_feed_1 : decode cX10_feed 1 = .ok (.getfield 10, 3) := by decide +kernel
theorem dX10_feed_4 : decode cX10_feed 4 = .ok (.getfield 52, 3) := by decide +kernel
theorem dX10_feed_7 : decode cX10_feed 7 = .ok (.astore 6, 2) := by decide +kernel
theorem dX10_feed_9 : decode cX10_feed 9 = .ok (.aload 6, 2) := by decide +kernel
theorem dX10_feed_11 : decode cX10_feed 11 = .ok (.getfield 142, 3) := by decide +kernel
theorem dX10_feed_14 : decode cX10_feed 14 = .ok (.bipush 20, 2) := by decide +kernel
theorem dX10_feed_16 : decode cX10_feed 16 = .ok (.iadd, 1) := by decide +kernel
theorem dX10_feed_17 : decode cX10_feed 17 = .ok (.sipush 400, 3) := by decide +kernel
theorem dX10_feed_20 : decode cX10_feed 20 = .ok (.if_icmp .le 5, 3) := by decide +kernel
theorem dX10_feed_23 : decode cX10_feed 23 = .ok (.iconst (-1), 1) := by decide +kernel
theorem dX10_feed_24 : decode cX10_feed 24 = .ok (.ireturn, 1) := by decide +kernel
theorem dX10_feed_25 : decode cX10_feed 25 = .ok (.aload 6, 2) := by decide +kernel
theorem dX10_feed_27 : decode cX10_feed 27 = .ok (.iload_n 1, 1) := by decide +kernel
theorem dX10_feed_28 : decode cX10_feed 28 = .ok (.invokevirtual 154, 3) := by decide +kernel
theorem dX10_feed_31 : decode cX10_feed 31 = .ok (.aload 6, 2) := by decide +kernel
theorem dX10_feed_33 : decode cX10_feed 33 = .ok (.iload_n 2, 1) := by decide +kernel
theorem dX10_feed_34 : decode cX10_feed 34 = .ok (.invokevirtual 154, 3) := by decide +kernel
theorem dX10_feed_37 : decode cX10_feed 37 = .ok (.aload 6, 2) := by decide +kernel
theorem dX10_feed_39 : decode cX10_feed 39 = .ok (.iload_n 3, 1) := by decide +kernel
theorem dX10_feed_40 : decode cX10_feed 40 = .ok (.invokevirtual 154, 3) := by decide +kernel
theorem dX10_feed_43 : decode cX10_feed 43 = .ok (.aload 6, 2) := by decide +kernel
theorem dX10_feed_45 : decode cX10_feed 45 = .ok (.iload 4, 2) := by decide +kernel
theorem dX10_feed_47 : decode cX10_feed 47 = .ok (.invokevirtual 154, 3) := by decide +kernel
theorem dX10_feed_50 : decode cX10_feed 50 = .ok (.aload 6, 2) := by decide +kernel
theorem dX10_feed_52 : decode cX10_feed 52 = .ok (.iload 5, 2) := by decide +kernel
theorem dX10_feed_54 : decode cX10_feed 54 = .ok (.invokevirtual 154, 3) := by decide +kernel
theorem dX10_feed_57 : decode cX10_feed 57 = .ok (.aload 6, 2) := by decide +kernel
theorem dX10_feed_59 : decode cX10_feed 59 = .ok (.getfield 142, 3) := by decide +kernel
theorem dX10_feed_62 : decode cX10_feed 62 = .ok (.ireturn, 1) := by decide +kernel
theorem dX10_end_0 : decode cX10_end 0 = .ok (.iload_n 1, 1) := by decide +kernel
theorem dX10_end_1 : decode cX10_end 1 = .ok (.ifCond .lt 17, 3) := by decide +kernel
theorem dX10_end_4 : decode cX10_end 4 = .ok (.iload_n 1, 1) := by decide +kernel
theorem dX10_end_5 : decode cX10_end 5 = .ok (.aload_n 0, 1) := by decide +kernel
theorem dX10_end_6 : decode cX10_end 6 = .ok (.getfield 10, 3) := by decide +kernel
theorem dX10_end_9 : decode cX10_end 9 = .ok (.getfield 52, 3) := by decide +kernel
theorem dX10_end_12 : decode cX10_end 12 = .ok (.getfield 142, 3) := by decide +kernel
theorem dX10_end_15 : decode cX10_end 15 = .ok (.if_icmp .le 5, 3) := by decide +kernel
theorem dX10_end_18 : decode cX10_end 18 = .ok (.iconst (-1), 1) := by decide +kernel
theorem dX10_end_19 : decode cX10_end 19 = .ok (.ireturn, 1) := by decide +kernel
theorem dX10_end_20 : decode cX10_end 20 = .ok (.aload_n 0, 1) := by decide +kernel
theorem dX10_end_21 : decode cX10_end 21 = .ok (.getfield 10, 3) := by decide +kernel
theorem dX10_end_24 : decode cX10_end 24 = .ok (.getfield 52, 3) := by decide +kernel
theorem dX10_end_27 : decode cX10_end 27 = .ok (.iload_n 1, 1) := by decide +kernel
theorem dX10_end_28 : decode cX10_end 28 = .ok (.putfield 142, 3) := by decide +kernel
theorem dX10_end_31 : decode cX10_end 31 = .ok (.iload_n 1, 1) := by decide +kernel
theorem dX10_end_32 : decode cX10_end 32 = .ok (.ireturn, 1) := by decide +kernel
theorem dX10_read_0 : decode cX10_read 0 = .ok (.iconst (-1), 1) := by decide +kernel
theorem dX10_read_1 : decode cX10_read 1 = .ok (.istore_n 1, 1) := by decide +kernel
theorem dX10_read_2 : decode cX10_read 2 = .ok (.aload_n 0, 1) := by decide +kernel
theorem dX10_read_3 : decode cX10_read 3 = .ok (.getfield 56, 3) := by decide +kernel
theorem dX10_read_6 : decode cX10_read 6 = .ok (.invokevirtual 158, 3) := by decide +kernel
theorem dX10_read_9 : decode cX10_read 9 = .ok (.ifCond .eq 71, 3) := by decide +kernel
theorem dX10_read_12 : decode cX10_read 12 = .ok (.aload_n 0, 1) := by decide +kernel
theorem dX10_read_13 : decode cX10_read 13 = .ok (.getfield 56, 3) := by decide +kernel
theorem dX10_read_16 : decode cX10_read 16 = .ok (.getfield 161, 3) := by decide +kernel
theorem dX10_read_19 : decode cX10_read 19 = .ok (.aload_n 0, 1) := by decide +kernel
theorem dX10_read_20 : decode cX10_read 20 = .ok (.getfield 56, 3) := by decide +kernel
theorem dX10_read_23 : decode cX10_read 23 = .ok (.getfield 165, 3) := by decide +kernel
theorem dX10_read_26 : decode cX10_read 26 = .ok (.aload_n 0, 1) := by decide +kernel
theorem dX10_read_27 : decode cX10_read 27 = .ok (.getfield 10, 3) := by decide +kernel
theorem dX10_read_30 : decode cX10_read 30 = .ok (.getfield 168, 3) := by decide +kernel
theorem dX10_read_33 : decode cX10_read 33 = .ok (.invokevirtual 172, 3) := by decide +kernel
theorem dX10_read_36 : decode cX10_read 36 = .ok (.istore_n 1, 1) := by decide +kernel
theorem dX10_read_37 : decode cX10_read 37 = .ok (.aload_n 0, 1) := by decide +kernel
theorem dX10_read_38 : decode cX10_read 38 = .ok (.getfield 10, 3) := by decide +kernel
theorem dX10_read_41 : decode cX10_read 41 = .ok (.iload_n 1, 1) := by decide +kernel
theorem dX10_read_42 : decode cX10_read 42 = .ok (.iconst (-1), 1) := by decide +kernel
theorem dX10_read_43 : decode cX10_read 43 = .ok (.if_icmp .ne 7, 3) := by decide +kernel
theorem dX10_read_46 : decode cX10_read 46 = .ok (.iconst 2, 1) := by decide +kernel
theorem dX10_read_47 : decode cX10_read 47 = .ok (.goto 4, 3) := by decide +kernel
theorem dX10_read_50 : decode cX10_read 50 = .ok (.iconst 0, 1) := by decide +kernel
theorem dX10_read_51 : decode cX10_read 51 = .ok (.putfield 178, 3) := by decide +kernel
theorem dX10_read_54 : decode cX10_read 54 = .ok (.aload_n 0, 1) := by decide +kernel
theorem dX10_read_55 : decode cX10_read 55 = .ok (.getfield 10, 3) := by decide +kernel
theorem dX10_read_58 : decode cX10_read 58 = .ok (.iload_n 1, 1) := by decide +kernel
theorem dX10_read_59 : decode cX10_read 59 = .ok (.iconst (-1), 1) := by decide +kernel
theorem dX10_read_60 : decode cX10_read 60 = .ok (.if_icmp .ne 13, 3) := by decide +kernel
theorem dX10_read_63 : decode cX10_read 63 = .ok (.aload_n 0, 1) := by decide +kernel
theorem dX10_read_64 : decode cX10_read 64 = .ok (.getfield 56, 3) := by decide +kernel
theorem dX10_read_67 : decode cX10_read 67 = .ok (.getfield 181, 3) := by decide +kernel
theorem dX10_read_70 : decode cX10_read 70 = .ok (.goto 4, 3) := by decide +kernel
theorem dX10_read_73 : decode cX10_read 73 = .ok (.iconst (-1), 1) := by decide +kernel
theorem dX10_read_74 : decode cX10_read 74 = .ok (.putfield 184, 3) := by decide +kernel
theorem dX10_read_77 : decode cX10_read 77 = .ok (.goto 25, 3) := by decide +kernel
theorem dX10_read_80 : decode cX10_read 80 = .ok (.aload_n 0, 1) := by decide +kernel
theorem dX10_read_81 : decode cX10_read 81 = .ok (.getfield 10, 3) := by decide +kernel
theorem dX10_read_84 : decode cX10_read 84 = .ok (.iconst 1, 1) := by decide +kernel
theorem dX10_read_85 : decode cX10_read 85 = .ok (.putfield 178, 3) := by decide +kernel
theorem dX10_read_88 : decode cX10_read 88 = .ok (.aload_n 0, 1) := by decide +kernel
theorem dX10_read_89 : decode cX10_read 89 = .ok (.getfield 10, 3) := by decide +kernel
theorem dX10_read_92 : decode cX10_read 92 = .ok (.aload_n 0, 1) := by decide +kernel
theorem dX10_read_93 : decode cX10_read 93 = .ok (.getfield 56, 3) := by decide +kernel
theorem dX10_read_96 : decode cX10_read 96 = .ok (.getfield 187, 3) := by decide +kernel
theorem dX10_read_99 : decode cX10_read 99 = .ok (.putfield 184, 3) := by decide +kernel
theorem dX10_read_102 : decode cX10_read 102 = .ok (.aload_n 0, 1) := by decide +kernel
theorem dX10_read_103 : decode cX10_read 103 = .ok (.getfield 10, 3) := by decide +kernel
theorem dX10_read_106 : decode cX10_read 106 = .ok (.getfield 52, 3) := by decide +kernel
theorem dX10_read_109 : decode cX10_read 109 = .ok (.iconst 0, 1) := by decide +kernel
theorem dX10_read_110 : decode cX10_read 110 = .ok (.putfield 142, 3) := by decide +kernel
theorem dX10_read_113 : decode cX10_read 113 = .ok (.iload_n 1, 1) := by decide +kernel
theorem dX10_read_114 : decode cX10_read 114 = .ok (.ireturn, 1) := by decide +kernel
theorem dX10_fault_0 : decode cX10_fault 0 = .ok (.iload_n 1, 1) := by decide +kernel
theorem dX10_fault_1 : decode cX10_fault 1 = .ok (.lookupswitch 43 #[(0, 27), (1, 35)], 27) := by decide +kernel
theorem dX10_fault_28 : decode cX10_fault 28 = .ok (.aload_n 0, 1) := by decide +kernel
theorem dX10_fault_29 : decode cX10_fault 29 = .ok (.getfield 10, 3) := by decide +kernel
theorem dX10_fault_32 : decode cX10_fault 32 = .ok (.getfield 178, 3) := by decide +kernel
theorem dX10_fault_35 : decode cX10_fault 35 = .ok (.ireturn, 1) := by decide +kernel
theorem dX10_fault_36 : decode cX10_fault 36 = .ok (.aload_n 0, 1) := by decide +kernel
theorem dX10_fault_37 : decode cX10_fault 37 = .ok (.getfield 10, 3) := by decide +kernel
theorem dX10_fault_40 : decode cX10_fault 40 = .ok (.getfield 184, 3) := by decide +kernel
theorem dX10_fault_43 : decode cX10_fault 43 = .ok (.ireturn, 1) := by decide +kernel
theorem dX10_fault_44 : decode cX10_fault 44 = .ok (.iconst (-1), 1) := by decide +kernel
theorem dX10_fault_45 : decode cX10_fault 45 = .ok (.ireturn, 1) := by decide +kernel
theorem dX10_got_0 : decode cX10_got 0 = .ok (.iload_n 1, 1) := by decide +kernel
theorem dX10_got_1 : decode cX10_got 1 = .ok (.ifCond .lt 9, 3) := by decide +kernel
theorem dX10_got_4 : decode cX10_got 4 = .ok (.iload_n 1, 1) := by decide +kernel
theorem dX10_got_5 : decode cX10_got 5 = .ok (.bipush 11, 2) := by decide +kernel
theorem dX10_got_7 : decode cX10_got 7 = .ok (.if_icmp .lt 7, 3) := by decide +kernel
theorem dX10_got_10 : decode cX10_got 10 = .ok (.iconst (-1), 1) := by decide +kernel
theorem dX10_got_11 : decode cX10_got 11 = .ok (.goto 12, 3) := by decide +kernel
theorem dX10_got_14 : decode cX10_got 14 = .ok (.aload_n 0, 1) := by decide +kernel
theorem dX10_got_15 : decode cX10_got 15 = .ok (.getfield 10, 3) := by decide +kernel
theorem dX10_got_18 : decode cX10_got 18 = .ok (.getfield 168, 3) := by decide +kernel
theorem dX10_got_21 : decode cX10_got 21 = .ok (.iload_n 1, 1) := by decide +kernel
theorem dX10_got_22 : decode cX10_got 22 = .ok (.iaload, 1) := by decide +kernel
theorem dX10_got_23 : decode cX10_got 23 = .ok (.ireturn, 1) := by decide +kernel
theorem dX10_count_0 : decode cX10_count 0 = .ok (.iload_n 1, 1) := by decide +kernel
theorem dX10_count_1 : decode cX10_count 1 = .ok (.tableswitch 90 0 4 #[35, 46, 57, 68, 79], 35) := by decide +kernel
theorem dX10_count_36 : decode cX10_count 36 = .ok (.aload_n 0, 1) := by decide +kernel
theorem dX10_count_37 : decode cX10_count 37 = .ok (.getfield 10, 3) := by decide +kernel
theorem dX10_count_40 : decode cX10_count 40 = .ok (.getfield 26, 3) := by decide +kernel
theorem dX10_count_43 : decode cX10_count 43 = .ok (.getfield 190, 3) := by decide +kernel
theorem dX10_count_46 : decode cX10_count 46 = .ok (.ireturn, 1) := by decide +kernel
theorem dX10_count_47 : decode cX10_count 47 = .ok (.aload_n 0, 1) := by decide +kernel
theorem dX10_count_48 : decode cX10_count 48 = .ok (.getfield 10, 3) := by decide +kernel
theorem dX10_count_51 : decode cX10_count 51 = .ok (.getfield 26, 3) := by decide +kernel
theorem dX10_count_54 : decode cX10_count 54 = .ok (.getfield 193, 3) := by decide +kernel
theorem dX10_count_57 : decode cX10_count 57 = .ok (.ireturn, 1) := by decide +kernel
theorem dX10_count_58 : decode cX10_count 58 = .ok (.aload_n 0, 1) := by decide +kernel
theorem dX10_count_59 : decode cX10_count 59 = .ok (.getfield 10, 3) := by decide +kernel
theorem dX10_count_62 : decode cX10_count 62 = .ok (.getfield 39, 3) := by decide +kernel
theorem dX10_count_65 : decode cX10_count 65 = .ok (.getfield 142, 3) := by decide +kernel
theorem dX10_count_68 : decode cX10_count 68 = .ok (.ireturn, 1) := by decide +kernel
theorem dX10_count_69 : decode cX10_count 69 = .ok (.aload_n 0, 1) := by decide +kernel
theorem dX10_count_70 : decode cX10_count 70 = .ok (.getfield 10, 3) := by decide +kernel
theorem dX10_count_73 : decode cX10_count 73 = .ok (.getfield 109, 3) := by decide +kernel
theorem dX10_count_76 : decode cX10_count 76 = .ok (.getfield 113, 3) := by decide +kernel
theorem dX10_count_79 : decode cX10_count 79 = .ok (.ireturn, 1) := by decide +kernel
theorem dX10_count_80 : decode cX10_count 80 = .ok (.aload_n 0, 1) := by decide +kernel
theorem dX10_count_81 : decode cX10_count 81 = .ok (.getfield 10, 3) := by decide +kernel
theorem dX10_count_84 : decode cX10_count 84 = .ok (.getfield 52, 3) := by decide +kernel
theorem dX10_count_87 : decode cX10_count 87 = .ok (.getfield 142, 3) := by decide +kernel
theorem dX10_count_90 : decode cX10_count 90 = .ok (.ireturn, 1) := by decide +kernel
theorem dX10_count_91 : decode cX10_count 91 = .ok (.iconst (-1), 1) := by decide +kernel
theorem dX10_count_92 : decode cX10_count 92 = .ok (.ireturn, 1) := by decide +kernel
theorem dX10_image_0 : decode cX10_image 0 = .ok (.iload_n 1, 1) := by decide +kernel
theorem dX10_image_1 : decode cX10_image 1 = .ok (.ifCond .lt 8, 3) := by decide +kernel
theorem dX10_image_4 : decode cX10_image 4 = .ok (.iload_n 1, 1) := by decide +kernel
theorem dX10_image_5 : decode cX10_image 5 = .ok (.iconst 3, 1) := by decide +kernel
theorem dX10_image_6 : decode cX10_image 6 = .ok (.if_icmp .lt 5, 3) := by decide +kernel
theorem dX10_image_9 : decode cX10_image 9 = .ok (.iconst 0, 1) := by decide +kernel
theorem dX10_image_10 : decode cX10_image 10 = .ok (.ireturn, 1) := by decide +kernel
theorem dX10_image_11 : decode cX10_image 11 = .ok (.aload_n 0, 1) := by decide +kernel
theorem dX10_image_12 : decode cX10_image 12 = .ok (.getfield 16, 3) := by decide +kernel
theorem dX10_image_15 : decode cX10_image 15 = .ok (.iload_n 1, 1) := by decide +kernel
theorem dX10_image_16 : decode cX10_image 16 = .ok (.aaload, 1) := by decide +kernel
theorem dX10_image_17 : decode cX10_image 17 = .ok (.ifnonnull 16, 3) := by decide +kernel
theorem dX10_image_20 : decode cX10_image 20 = .ok (.aload_n 0, 1) := by decide +kernel
theorem dX10_image_21 : decode cX10_image 21 = .ok (.getfield 16, 3) := by decide +kernel
theorem dX10_image_24 : decode cX10_image 24 = .ok (.iload_n 1, 1) := by decide +kernel
theorem dX10_image_25 : decode cX10_image 25 = .ok (.new 7, 3) := by decide +kernel
theorem dX10_image_28 : decode cX10_image 28 = .ok (.dup, 1) := by decide +kernel
theorem dX10_image_29 : decode cX10_image 29 = .ok (.invokespecial 9, 3) := by decide +kernel
theorem dX10_image_32 : decode cX10_image 32 = .ok (.aastore, 1) := by decide +kernel
theorem dX10_image_33 : decode cX10_image 33 = .ok (.aload_n 0, 1) := by decide +kernel
theorem dX10_image_34 : decode cX10_image 34 = .ok (.getfield 16, 3) := by decide +kernel
theorem dX10_image_37 : decode cX10_image 37 = .ok (.iload_n 1, 1) := by decide +kernel
theorem dX10_image_38 : decode cX10_image 38 = .ok (.aaload, 1) := by decide +kernel
theorem dX10_image_39 : decode cX10_image 39 = .ok (.aload_n 0, 1) := by decide +kernel
theorem dX10_image_40 : decode cX10_image 40 = .ok (.getfield 10, 3) := by decide +kernel
theorem dX10_image_43 : decode cX10_image 43 = .ok (.invokevirtual 196, 3) := by decide +kernel
theorem dX10_image_46 : decode cX10_image 46 = .ok (.iconst 1, 1) := by decide +kernel
theorem dX10_image_47 : decode cX10_image 47 = .ok (.ireturn, 1) := by decide +kernel
theorem dX10_again_0 : decode cX10_again 0 = .ok (.iload_n 1, 1) := by decide +kernel
theorem dX10_again_1 : decode cX10_again 1 = .ok (.ifCond .lt 17, 3) := by decide +kernel
theorem dX10_again_4 : decode cX10_again 4 = .ok (.iload_n 1, 1) := by decide +kernel
theorem dX10_again_5 : decode cX10_again 5 = .ok (.iconst 3, 1) := by decide +kernel
theorem dX10_again_6 : decode cX10_again 6 = .ok (.if_icmp .ge 12, 3) := by decide +kernel
theorem dX10_again_9 : decode cX10_again 9 = .ok (.aload_n 0, 1) := by decide +kernel
theorem dX10_again_10 : decode cX10_again 10 = .ok (.getfield 16, 3) := by decide +kernel
theorem dX10_again_13 : decode cX10_again 13 = .ok (.iload_n 1, 1) := by decide +kernel
theorem dX10_again_14 : decode cX10_again 14 = .ok (.aaload, 1) := by decide +kernel
theorem dX10_again_15 : decode cX10_again 15 = .ok (.ifnonnull 5, 3) := by decide +kernel
theorem dX10_again_18 : decode cX10_again 18 = .ok (.iconst 0, 1) := by decide +kernel
theorem dX10_again_19 : decode cX10_again 19 = .ok (.ireturn, 1) := by decide +kernel
theorem dX10_again_20 : decode cX10_again 20 = .ok (.aload_n 0, 1) := by decide +kernel
theorem dX10_again_21 : decode cX10_again 21 = .ok (.getfield 10, 3) := by decide +kernel
theorem dX10_again_24 : decode cX10_again 24 = .ok (.aload_n 0, 1) := by decide +kernel
theorem dX10_again_25 : decode cX10_again 25 = .ok (.getfield 16, 3) := by decide +kernel
theorem dX10_again_28 : decode cX10_again 28 = .ok (.iload_n 1, 1) := by decide +kernel
theorem dX10_again_29 : decode cX10_again 29 = .ok (.aaload, 1) := by decide +kernel
theorem dX10_again_30 : decode cX10_again 30 = .ok (.invokevirtual 196, 3) := by decide +kernel
theorem dX10_again_33 : decode cX10_again 33 = .ok (.aload_n 0, 1) := by decide +kernel
theorem dX10_again_34 : decode cX10_again 34 = .ok (.getfield 33, 3) := by decide +kernel
theorem dX10_again_37 : decode cX10_again 37 = .ok (.invokevirtual 76, 3) := by decide +kernel
theorem dX10_again_40 : decode cX10_again 40 = .ok (.iconst 1, 1) := by decide +kernel
theorem dX10_again_41 : decode cX10_again 41 = .ok (.ireturn, 1) := by decide +kernel
theorem dX10_bodyLength_0 : decode cX10_bodyLength 0 = .ok (.iload_n 0, 1) := by decide +kernel
theorem dX10_bodyLength_1 : decode cX10_bodyLength 1 = .ok (.bipush 7, 2) := by decide +kernel
theorem dX10_bodyLength_3 : decode cX10_bodyLength 3 = .ok (.if_icmp .ne 7, 3) := by decide +kernel
theorem dX10_bodyLength_6 : decode cX10_bodyLength 6 = .ok (.iconst 3, 1) := by decide +kernel
theorem dX10_bodyLength_7 : decode cX10_bodyLength 7 = .ok (.goto 4, 3) := by decide +kernel
theorem dX10_bodyLength_10 : decode cX10_bodyLength 10 = .ok (.iconst 2, 1) := by decide +kernel
theorem dX10_bodyLength_11 : decode cX10_bodyLength 11 = .ok (.ireturn, 1) := by decide +kernel
theorem dX10_mayTurn_0 : decode cX10_mayTurn 0 = .ok (.iload_n 0, 1) := by decide +kernel
theorem dX10_mayTurn_1 : decode cX10_mayTurn 1 = .ok (.iconst 3, 1) := by decide +kernel
theorem dX10_mayTurn_2 : decode cX10_mayTurn 2 = .ok (.if_icmp .lt 12, 3) := by decide +kernel
theorem dX10_mayTurn_5 : decode cX10_mayTurn 5 = .ok (.iload_n 0, 1) := by decide +kernel
theorem dX10_mayTurn_6 : decode cX10_mayTurn 6 = .ok (.iconst 5, 1) := by decide +kernel
theorem dX10_mayTurn_7 : decode cX10_mayTurn 7 = .ok (.if_icmp .gt 7, 3) := by decide +kernel
theorem dX10_mayTurn_10 : decode cX10_mayTurn 10 = .ok (.iconst 1, 1) := by decide +kernel
theorem dX10_mayTurn_11 : decode cX10_mayTurn 11 = .ok (.goto 4, 3) := by decide +kernel
theorem dX10_mayTurn_14 : decode cX10_mayTurn 14 = .ok (.iconst 0, 1) := by decide +kernel
theorem dX10_mayTurn_15 : decode cX10_mayTurn 15 = .ok (.ireturn, 1) := by decide +kernel
theorem dX10_hasPair_0 : decode cX10_hasPair 0 = .ok (.iload_n 0, 1) := by decide +kernel
theorem dX10_hasPair_1 : decode cX10_hasPair 1 = .ok (.iconst 4, 1) := by decide +kernel
theorem dX10_hasPair_2 : decode cX10_hasPair 2 = .ok (.if_icmp .eq 8, 3) := by decide +kernel
theorem dX10_hasPair_5 : decode cX10_hasPair 5 = .ok (.iload_n 0, 1) := by decide +kernel
theorem dX10_hasPair_6 : decode cX10_hasPair 6 = .ok (.iconst 5, 1) := by decide +kernel
theorem dX10_hasPair_7 : decode cX10_hasPair 7 = .ok (.if_icmp .ne 7, 3) := by decide +kernel
theorem dX10_hasPair_10 : decode cX10_hasPair 10 = .ok (.iconst 1, 1) := by decide +kernel
theorem dX10_hasPair_11 : decode cX10_hasPair 11 = .ok (.goto 4, 3) := by decide +kernel
theorem dX10_hasPair_14 : decode cX10_hasPair 14 = .ok (.iconst 0, 1) := by decide +kernel
theorem dX10_hasPair_15 : decode cX10_hasPair 15 = .ok (.ireturn, 1) := by decide +kernel
theorem dX10_unturned_0 : decode cX10_unturned 0 = .ok (.iload_n 0, 1) := by decide +kernel
theorem dX10_unturned_1 : decode cX10_unturned 1 = .ok (.ifCond .eq 14, 3) := by decide +kernel
theorem dX10_unturned_4 : decode cX10_unturned 4 = .ok (.iload_n 1, 1) := by decide +kernel
theorem dX10_unturned_5 : decode cX10_unturned 5 = .ok (.iconst 2, 1) := by decide +kernel
theorem dX10_unturned_6 : decode cX10_unturned 6 = .ok (.if_icmp .ge 9, 3) := by decide +kernel
theorem dX10_unturned_9 : decode cX10_unturned 9 = .ok (.iconst 1, 1) := by decide +kernel
theorem dX10_unturned_10 : decode cX10_unturned 10 = .ok (.iload_n 1, 1) := by decide +kernel
theorem dX10_unturned_11 : decode cX10_unturned 11 = .ok (.isub, 1) := by decide +kernel
theorem dX10_unturned_12 : decode cX10_unturned 12 = .ok (.goto 4, 3) := by decide +kernel
theorem dX10_unturned_15 : decode cX10_unturned 15 = .ok (.iload_n 1, 1) := by decide +kernel
theorem dX10_unturned_16 : decode cX10_unturned 16 = .ok (.ireturn, 1) := by decide +kernel
theorem dX10_formAt_0 : decode cX10_formAt 0 = .ok (.iload_n 0, 1) := by decide +kernel
theorem dX10_formAt_1 : decode cX10_formAt 1 = .ok (.iconst 4, 1) := by decide +kernel
theorem dX10_formAt_2 : decode cX10_formAt 2 = .ok (.imul, 1) := by decide +kernel
theorem dX10_formAt_3 : decode cX10_formAt 3 = .ok (.iload_n 1, 1) := by decide +kernel
theorem dX10_formAt_4 : decode cX10_formAt 4 = .ok (.iload_n 2, 1) := by decide +kernel
theorem dX10_formAt_5 : decode cX10_formAt 5 = .ok (.invokestatic 199, 3) := by decide +kernel
theorem dX10_formAt_8 : decode cX10_formAt 8 = .ok (.iadd, 1) := by decide +kernel
theorem dX10_formAt_9 : decode cX10_formAt 9 = .ok (.istore_n 3, 1) := by decide +kernel
theorem dX10_formAt_10 : decode cX10_formAt 10 = .ok (.iload_n 3, 1) := by decide +kernel
theorem dX10_formAt_11 : decode cX10_formAt 11 = .ok (.ifCond .lt 12, 3) := by decide +kernel
theorem dX10_formAt_14 : decode cX10_formAt 14 = .ok (.iload_n 3, 1) := by decide +kernel
theorem dX10_formAt_15 : decode cX10_formAt 15 = .ok (.ldc 203, 2) := by decide +kernel
theorem dX10_formAt_17 : decode cX10_formAt 17 = .ok (.invokevirtual 205, 3) := by decide +kernel
theorem dX10_formAt_20 : decode cX10_formAt 20 = .ok (.if_icmp .lt 8, 3) := by decide +kernel
theorem dX10_formAt_23 : decode cX10_formAt 23 = .ok (.bipush 32, 2) := by decide +kernel
theorem dX10_formAt_25 : decode cX10_formAt 25 = .ok (.goto 9, 3) := by decide +kernel
theorem dX10_formAt_28 : decode cX10_formAt 28 = .ok (.ldc 203, 2) := by decide +kernel
theorem dX10_formAt_30 : decode cX10_formAt 30 = .ok (.iload_n 3, 1) := by decide +kernel
theorem dX10_formAt_31 : decode cX10_formAt 31 = .ok (.invokevirtual 209, 3) := by decide +kernel
theorem dX10_formAt_34 : decode cX10_formAt 34 = .ok (.ireturn, 1) := by decide +kernel
theorem dX10_numberAt_0 : decode cX10_numberAt 0 = .ok (.iload_n 1, 1) := by decide +kernel
theorem dX10_numberAt_1 : decode cX10_numberAt 1 = .ok (.iload_n 0, 1) := by decide +kernel
theorem dX10_numberAt_2 : decode cX10_numberAt 2 = .ok (.bipush 6, 2) := by decide +kernel
theorem dX10_numberAt_4 : decode cX10_numberAt 4 = .ok (.if_icmp .ne 7, 3) := by decide +kernel
theorem dX10_numberAt_7 : decode cX10_numberAt 7 = .ok (.iconst 1, 1) := by decide +kernel
theorem dX10_numberAt_8 : decode cX10_numberAt 8 = .ok (.goto 4, 3) := by decide +kernel
theorem dX10_numberAt_11 : decode cX10_numberAt 11 = .ok (.iconst 0, 1) := by decide +kernel
theorem dX10_numberAt_12 : decode cX10_numberAt 12 = .ok (.if_icmp .eq 7, 3) := by decide +kernel
theorem dX10_numberAt_15 : decode cX10_numberAt 15 = .ok (.iconst 1, 1) := by decide +kernel
theorem dX10_numberAt_16 : decode cX10_numberAt 16 = .ok (.goto 4, 3) := by decide +kernel
theorem dX10_numberAt_19 : decode cX10_numberAt 19 = .ok (.iconst 0, 1) := by decide +kernel
theorem dX10_numberAt_20 : decode cX10_numberAt 20 = .ok (.iload_n 2, 1) := by decide +kernel
theorem dX10_numberAt_21 : decode cX10_numberAt 21 = .ok (.invokestatic 199, 3) := by decide +kernel
theorem dX10_numberAt_24 : decode cX10_numberAt 24 = .ok (.ireturn, 1) := by decide +kernel
theorem dX10_isOfM_0 : decode cX10_isOfM 0 = .ok (.iload_n 1, 1) := by decide +kernel
theorem dX10_isOfM_1 : decode cX10_isOfM 1 = .ok (.bipush 71, 2) := by decide +kernel
theorem dX10_isOfM_3 : decode cX10_isOfM 3 = .ok (.if_icmp .eq 14, 3) := by decide +kernel
theorem dX10_isOfM_6 : decode cX10_isOfM 6 = .ok (.iload_n 1, 1) := by decide +kernel
theorem dX10_isOfM_7 : decode cX10_isOfM 7 = .ok (.bipush 80, 2) := by decide +kernel
theorem dX10_isOfM_9 : decode cX10_isOfM 9 = .ok (.if_icmp .ne 12, 3) := by decide +kernel
theorem dX10_isOfM_12 : decode cX10_isOfM 12 = .ok (.iload_n 0, 1) := by decide +kernel
theorem dX10_isOfM_13 : decode cX10_isOfM 13 = .ok (.iconst 4, 1) := by decide +kernel
theorem dX10_isOfM_14 : decode cX10_isOfM 14 = .ok (.if_icmp .ne 7, 3) := by decide +kernel
theorem dX10_isOfM_17 : decode cX10_isOfM 17 = .ok (.iconst 1, 1) := by decide +kernel
theorem dX10_isOfM_18 : decode cX10_isOfM 18 = .ok (.goto 4, 3) := by decide +kernel
theorem dX10_isOfM_21 : decode cX10_isOfM 21 = .ok (.iconst 0, 1) := by decide +kernel
theorem dX10_isOfM_22 : decode cX10_isOfM 22 = .ok (.ireturn, 1) := by decide +kernel
theorem dX10_isQuestion_0 : decode cX10_isQuestion 0 = .ok (.iload_n 0, 1) := by decide +kernel
theorem dX10_isQuestion_1 : decode cX10_isQuestion 1 = .ok (.bipush 80, 2) := by decide +kernel
theorem dX10_isQuestion_3 : decode cX10_isQuestion 3 = .ok (.if_icmp .lt 7, 3) := by decide +kernel
theorem dX10_isQuestion_6 : decode cX10_isQuestion 6 = .ok (.iconst 1, 1) := by decide +kernel
theorem dX10_isQuestion_7 : decode cX10_isQuestion 7 = .ok (.goto 4, 3) := by decide +kernel
theorem dX10_isQuestion_10 : decode cX10_isQuestion 10 = .ok (.iconst 0, 1) := by decide +kernel
theorem dX10_isQuestion_11 : decode cX10_isQuestion 11 = .ok (.ireturn, 1) := by decide +kernel
theorem dX10_isLetter_0 : decode cX10_isLetter 0 = .ok (.iload_n 0, 1) := by decide +kernel
theorem dX10_isLetter_1 : decode cX10_isLetter 1 = .ok (.bipush 97, 2) := by decide +kernel
theorem dX10_isLetter_3 : decode cX10_isLetter 3 = .ok (.if_icmp .lt 13, 3) := by decide +kernel
theorem dX10_isLetter_6 : decode cX10_isLetter 6 = .ok (.iload_n 0, 1) := by decide +kernel
theorem dX10_isLetter_7 : decode cX10_isLetter 7 = .ok (.bipush 122, 2) := by decide +kernel
theorem dX10_isLetter_9 : decode cX10_isLetter 9 = .ok (.if_icmp .gt 7, 3) := by decide +kernel
theorem dX10_isLetter_12 : decode cX10_isLetter 12 = .ok (.iconst 1, 1) := by decide +kernel
theorem dX10_isLetter_13 : decode cX10_isLetter 13 = .ok (.goto 4, 3) := by decide +kernel
theorem dX10_isLetter_16 : decode cX10_isLetter 16 = .ok (.iconst 0, 1) := by decide +kernel
theorem dX10_isLetter_17 : decode cX10_isLetter 17 = .ok (.ireturn, 1) := by decide +kernel
theorem dX10_isDigit_0 : decode cX10_isDigit 0 = .ok (.iload_n 0, 1) := by decide +kernel
theorem dX10_isDigit_1 : decode cX10_isDigit 1 = .ok (.bipush 48, 2) := by decide +kernel
theorem dX10_isDigit_3 : decode cX10_isDigit 3 = .ok (.if_icmp .lt 13, 3) := by decide +kernel
theorem dX10_isDigit_6 : decode cX10_isDigit 6 = .ok (.iload_n 0, 1) := by decide +kernel
theorem dX10_isDigit_7 : decode cX10_isDigit 7 = .ok (.bipush 57, 2) := by decide +kernel
theorem dX10_isDigit_9 : decode cX10_isDigit 9 = .ok (.if_icmp .gt 7, 3) := by decide +kernel
theorem dX10_isDigit_12 : decode cX10_isDigit 12 = .ok (.iconst 1, 1) := by decide +kernel
theorem dX10_isDigit_13 : decode cX10_isDigit 13 = .ok (.goto 4, 3) := by decide +kernel
theorem dX10_isDigit_16 : decode cX10_isDigit 16 = .ok (.iconst 0, 1) := by decide +kernel
theorem dX10_isDigit_17 : decode cX10_isDigit 17 = .ok (.ireturn, 1) := by decide +kernel
theorem dX10_textOf_0 : decode cX10_textOf 0 = .ok (.iload_n 0, 1) := by decide +kernel
theorem dX10_textOf_1 : decode cX10_textOf 1 = .ok (.tableswitch 127 65 83 #[91, 94, 97, 100, 103, 106, 109, 112, 127, 127, 127, 127, 127, 127, 127, 115, 118, 121, 124], 91) := by decide +kernel
theorem dX10_textOf_92 : decode cX10_textOf 92 = .ok (.ldc 213, 2) := by decide +kernel
theorem dX10_textOf_94 : decode cX10_textOf 94 = .ok (.areturn, 1) := by decide +kernel
theorem dX10_textOf_95 : decode cX10_textOf 95 = .ok (.ldc 215, 2) := by decide +kernel
theorem dX10_textOf_97 : decode cX10_textOf 97 = .ok (.areturn, 1) := by decide +kernel
theorem dX10_textOf_98 : decode cX10_textOf 98 = .ok (.ldc 217, 2) := by decide +kernel
theorem dX10_textOf_100 : decode cX10_textOf 100 = .ok (.areturn, 1) := by decide +kernel
theorem dX10_textOf_101 : decode cX10_textOf 101 = .ok (.ldc 219, 2) := by decide +kernel
theorem dX10_textOf_103 : decode cX10_textOf 103 = .ok (.areturn, 1) := by decide +kernel
theorem dX10_textOf_104 : decode cX10_textOf 104 = .ok (.ldc 221, 2) := by decide +kernel
theorem dX10_textOf_106 : decode cX10_textOf 106 = .ok (.areturn, 1) := by decide +kernel
theorem dX10_textOf_107 : decode cX10_textOf 107 = .ok (.ldc 223, 2) := by decide +kernel
theorem dX10_textOf_109 : decode cX10_textOf 109 = .ok (.areturn, 1) := by decide +kernel
theorem dX10_textOf_110 : decode cX10_textOf 110 = .ok (.ldc 225, 2) := by decide +kernel
theorem dX10_textOf_112 : decode cX10_textOf 112 = .ok (.areturn, 1) := by decide +kernel
theorem dX10_textOf_113 : decode cX10_textOf 113 = .ok (.ldc 227, 2) := by decide +kernel
theorem dX10_textOf_115 : decode cX10_textOf 115 = .ok (.areturn, 1) := by decide +kernel
theorem dX10_textOf_116 : decode cX10_textOf 116 = .ok (.ldc 229, 2) := by decide +kernel
theorem dX10_textOf_118 : decode cX10_textOf 118 = .ok (.areturn, 1) := by decide +kernel
theorem dX10_textOf_119 : decode cX10_textOf 119 = .ok (.ldc 231, 2) := by decide +kernel
theorem dX10_textOf_121 : decode cX10_textOf 121 = .ok (.areturn, 1) := by decide +kernel
theorem dX10_textOf_122 : decode cX10_textOf 122 = .ok (.ldc 233, 2) := by decide +kernel
theorem dX10_textOf_124 : decode cX10_textOf 124 = .ok (.areturn, 1) := by decide +kernel
theorem dX10_textOf_125 : decode cX10_textOf 125 = .ok (.ldc 235, 2) := by decide +kernel
theorem dX10_textOf_127 : decode cX10_textOf 127 = .ok (.areturn, 1) := by decide +kernel
theorem dX10_textOf_128 : decode cX10_textOf 128 = .ok (.ldc 237, 2) := by decide +kernel
theorem dX10_textOf_130 : decode cX10_textOf 130 = .ok (.areturn, 1) := by decide +kernel
theorem dX10_answerOf_0 : decode cX10_answerOf 0 = .ok (.iload_n 0, 1) := by decide +kernel
theorem dX10_answerOf_1 : decode cX10_answerOf 1 = .ok (.tableswitch 91 0 7 #[47, 54, 61, 67, 47, 74, 54, 83], 47) := by decide +kernel
theorem dX10_answerOf_48 : decode cX10_answerOf 48 = .ok (.iload_n 1, 1) := by decide +kernel
theorem dX10_answerOf_49 : decode cX10_answerOf 49 = .ok (.iload_n 2, 1) := by decide +kernel
theorem dX10_answerOf_50 : decode cX10_answerOf 50 = .ok (.iadd, 1) := by decide +kernel
theorem dX10_answerOf_51 : decode cX10_answerOf 51 = .ok (.invokestatic 239, 3) := by decide +kernel
theorem dX10_answerOf_54 : decode cX10_answerOf 54 = .ok (.ireturn, 1) := by decide +kernel
theorem dX10_answerOf_55 : decode cX10_answerOf 55 = .ok (.iload_n 1, 1) := by decide +kernel
theorem dX10_answerOf_56 : decode cX10_answerOf 56 = .ok (.iload_n 2, 1) := by decide +kernel
theorem dX10_answerOf_57 : decode cX10_answerOf 57 = .ok (.isub, 1) := by decide +kernel
theorem dX10_answerOf_58 : decode cX10_answerOf 58 = .ok (.invokestatic 239, 3) := by decide +kernel
theorem dX10_answerOf_61 : decode cX10_answerOf 61 = .ok (.ireturn, 1) := by decide +kernel
theorem dX10_answerOf_62 : decode cX10_answerOf 62 = .ok (.iload_n 1, 1) := by decide +kernel
theorem dX10_answerOf_63 : decode cX10_answerOf 63 = .ok (.iload_n 2, 1) := by decide +kernel
theorem dX10_answerOf_64 : decode cX10_answerOf 64 = .ok (.invokestatic 242, 3) := by decide +kernel
theorem dX10_answerOf_67 : decode cX10_answerOf 67 = .ok (.ireturn, 1) := by decide +kernel
theorem dX10_answerOf_68 : decode cX10_answerOf 68 = .ok (.iload_n 1, 1) := by decide +kernel
theorem dX10_answerOf_69 : decode cX10_answerOf 69 = .ok (.iload_n 2, 1) := by decide +kernel
theorem dX10_answerOf_70 : decode cX10_answerOf 70 = .ok (.imul, 1) := by decide +kernel
theorem dX10_answerOf_71 : decode cX10_answerOf 71 = .ok (.invokestatic 239, 3) := by decide +kernel
theorem dX10_answerOf_74 : decode cX10_answerOf 74 = .ok (.ireturn, 1) := by decide +kernel
theorem dX10_answerOf_75 : decode cX10_answerOf 75 = .ok (.iconst 2, 1) := by decide +kernel
theorem dX10_answerOf_76 : decode cX10_answerOf 76 = .ok (.iload_n 1, 1) := by decide +kernel
theorem dX10_answerOf_77 : decode cX10_answerOf 77 = .ok (.imul, 1) := by decide +kernel
theorem dX10_answerOf_78 : decode cX10_answerOf 78 = .ok (.iload_n 2, 1) := by decide +kernel
theorem dX10_answerOf_79 : decode cX10_answerOf 79 = .ok (.iadd, 1) := by decide +kernel
theorem dX10_answerOf_80 : decode cX10_answerOf 80 = .ok (.invokestatic 239, 3) := by decide +kernel
theorem dX10_answerOf_83 : decode cX10_answerOf 83 = .ok (.ireturn, 1) := by decide +kernel
theorem dX10_answerOf_84 : decode cX10_answerOf 84 = .ok (.iload_n 1, 1) := by decide +kernel
theorem dX10_answerOf_85 : decode cX10_answerOf 85 = .ok (.iload_n 2, 1) := by decide +kernel
theorem dX10_answerOf_86 : decode cX10_answerOf 86 = .ok (.iadd, 1) := by decide +kernel
theorem dX10_answerOf_87 : decode cX10_answerOf 87 = .ok (.iload_n 3, 1) := by decide +kernel
theorem dX10_answerOf_88 : decode cX10_answerOf 88 = .ok (.invokestatic 242, 3) := by decide +kernel
theorem dX10_answerOf_91 : decode cX10_answerOf 91 = .ok (.ireturn, 1) := by decide +kernel
theorem dX10_answerOf_92 : decode cX10_answerOf 92 = .ok (.bipush (-2), 2) := by decide +kernel
theorem dX10_answerOf_94 : decode cX10_answerOf 94 = .ok (.ireturn, 1) := by decide +kernel
theorem dX10_atLeastOne_0 : decode cX10_atLeastOne 0 = .ok (.iload_n 0, 1) := by decide +kernel
theorem dX10_atLeastOne_1 : decode cX10_atLeastOne 1 = .ok (.iconst 1, 1) := by decide +kernel
theorem dX10_atLeastOne_2 : decode cX10_atLeastOne 2 = .ok (.if_icmp .ge 8, 3) := by decide +kernel
theorem dX10_atLeastOne_5 : decode cX10_atLeastOne 5 = .ok (.bipush (-2), 2) := by decide +kernel
theorem dX10_atLeastOne_7 : decode cX10_atLeastOne 7 = .ok (.goto 4, 3) := by decide +kernel
theorem dX10_atLeastOne_10 : decode cX10_atLeastOne 10 = .ok (.iload_n 0, 1) := by decide +kernel
theorem dX10_atLeastOne_11 : decode cX10_atLeastOne 11 = .ok (.ireturn, 1) := by decide +kernel
theorem dX10_share_0 : decode cX10_share 0 = .ok (.iload_n 1, 1) := by decide +kernel
theorem dX10_share_1 : decode cX10_share 1 = .ok (.iconst 1, 1) := by decide +kernel
theorem dX10_share_2 : decode cX10_share 2 = .ok (.if_icmp .lt 9, 3) := by decide +kernel
theorem dX10_share_5 : decode cX10_share 5 = .ok (.iload_n 0, 1) := by decide +kernel
theorem dX10_share_6 : decode cX10_share 6 = .ok (.iload_n 1, 1) := by decide +kernel
theorem dX10_share_7 : decode cX10_share 7 = .ok (.irem, 1) := by decide +kernel
theorem dX10_share_8 : decode cX10_share 8 = .ok (.ifCond .eq 8, 3) := by decide +kernel
theorem dX10_share_11 : decode cX10_share 11 = .ok (.bipush (-2), 2) := by decide +kernel
theorem dX10_share_13 : decode cX10_share 13 = .ok (.goto 9, 3) := by decide +kernel
theorem dX10_share_16 : decode cX10_share 16 = .ok (.iload_n 0, 1) := by decide +kernel
theorem dX10_share_17 : decode cX10_share 17 = .ok (.iload_n 1, 1) := by decide +kernel
theorem dX10_share_18 : decode cX10_share 18 = .ok (.idiv, 1) := by decide +kernel
theorem dX10_share_19 : decode cX10_share 19 = .ok (.invokestatic 239, 3) := by decide +kernel
theorem dX10_share_22 : decode cX10_share 22 = .ok (.ireturn, 1) := by decide +kernel
theorem dX11_init_0 : decode cX11_init 0 = .ok (.aload_n 0, 1) := by decide +kernel
theorem dX11_init_1 : decode cX11_init 1 = .ok (.invokespecial 1, 3) := by decide +kernel
theorem dX11_init_4 : decode cX11_init 4 = .ok (.aload_n 0, 1) := by decide +kernel
theorem dX11_init_5 : decode cX11_init 5 = .ok (.sipush 3848, 3) := by decide +kernel
theorem dX11_init_8 : decode cX11_init 8 = .ok (.newarray .int, 2) := by decide +kernel
theorem dX11_init_10 : decode cX11_init 10 = .ok (.putfield 7, 3) := by decide +kernel
theorem dX11_init_13 : decode cX11_init 13 = .ok (.aload_n 0, 1) := by decide +kernel
theorem dX11_init_14 : decode cX11_init 14 = .ok (.bipush 48, 2) := by decide +kernel
theorem dX11_init_16 : decode cX11_init 16 = .ok (.newarray .long, 2) := by decide +kernel
theorem dX11_init_18 : decode cX11_init 18 = .ok (.putfield 13, 3) := by decide +kernel
theorem dX11_init_21 : decode cX11_init 21 = .ok (.aload_n 0, 1) := by decide +kernel
theorem dX11_init_22 : decode cX11_init 22 = .ok (.iconst 3, 1) := by decide +kernel
theorem dX11_init_23 : decode cX11_init 23 = .ok (.newarray .boolean, 2) := by decide +kernel
theorem dX11_init_25 : decode cX11_init 25 = .ok (.putfield 17, 3) := by decide +kernel
theorem dX11_init_28 : decode cX11_init 28 = .ok (.aload_n 0, 1) := by decide +kernel
theorem dX11_init_29 : decode cX11_init 29 = .ok (.bipush 20, 2) := by decide +kernel
theorem dX11_init_31 : decode cX11_init 31 = .ok (.newarray .int, 2) := by decide +kernel
theorem dX11_init_33 : decode cX11_init 33 = .ok (.putfield 21, 3) := by decide +kernel
theorem dX11_init_36 : decode cX11_init 36 = .ok (.aload_n 0, 1) := by decide +kernel
theorem dX11_init_37 : decode cX11_init 37 = .ok (.bipush 35, 2) := by decide +kernel
theorem dX11_init_39 : decode cX11_init 39 = .ok (.newarray .int, 2) := by decide +kernel
theorem dX11_init_41 : decode cX11_init 41 = .ok (.putfield 24, 3) := by decide +kernel
theorem dX11_init_44 : decode cX11_init 44 = .ok (.aload_n 0, 1) := by decide +kernel
theorem dX11_init_45 : decode cX11_init 45 = .ok (.getfield 7, 3) := by decide +kernel
theorem dX11_init_48 : decode cX11_init 48 = .ok (.iconst 2, 1) := by decide +kernel
theorem dX11_init_49 : decode cX11_init 49 = .ok (.iconst (-1), 1) := by decide +kernel
theorem dX11_init_50 : decode cX11_init 50 = .ok (.iastore, 1) := by decide +kernel
theorem dX11_init_51 : decode cX11_init 51 = .ok (.aload_n 0, 1) := by decide +kernel
theorem dX11_init_52 : decode cX11_init 52 = .ok (.getfield 7, 3) := by decide +kernel
theorem dX11_init_55 : decode cX11_init 55 = .ok (.bipush 13, 2) := by decide +kernel
theorem dX11_init_57 : decode cX11_init 57 = .ok (.iconst (-1), 1) := by decide +kernel
theorem dX11_init_58 : decode cX11_init 58 = .ok (.iastore, 1) := by decide +kernel
theorem dX11_init_59 : decode cX11_init 59 = .ok (.iconst 0, 1) := by decide +kernel
theorem dX11_init_60 : decode cX11_init 60 = .ok (.istore_n 1, 1) := by decide +kernel
theorem dX11_init_61 : decode cX11_init 61 = .ok (.iload_n 1, 1) := by decide +kernel
theorem dX11_init_62 : decode cX11_init 62 = .ok (.bipush 11, 2) := by decide +kernel
theorem dX11_init_64 : decode cX11_init 64 = .ok (.if_icmp .ge 19, 3) := by decide +kernel
theorem dX11_init_67 : decode cX11_init 67 = .ok (.aload_n 0, 1) := by decide +kernel
theorem dX11_init_68 : decode cX11_init 68 = .ok (.getfield 7, 3) := by decide +kernel
theorem dX11_init_71 : decode cX11_init 71 = .ok (.bipush 30, 2) := by decide +kernel
theorem dX11_init_73 : decode cX11_init 73 = .ok (.iload_n 1, 1) := by decide +kernel
theorem dX11_init_74 : decode cX11_init 74 = .ok (.iadd, 1) := by decide +kernel
theorem dX11_init_75 : decode cX11_init 75 = .ok (.iconst (-1), 1) := by decide +kernel
theorem dX11_init_76 : decode cX11_init 76 = .ok (.iastore, 1) := by decide +kernel
theorem dX11_init_77 : decode cX11_init 77 = .ok (.iinc 1 1, 3) := by decide +kernel
theorem dX11_init_80 : decode cX11_init 80 = .ok (.goto (-19), 3) := by decide +kernel
theorem dX11_init_83 : decode cX11_init 83 = .ok (.iconst 0, 1) := by decide +kernel
theorem dX11_init_84 : decode cX11_init 84 = .ok (.istore_n 1, 1) := by decide +kernel
theorem dX11_init_85 : decode cX11_init 85 = .ok (.iload_n 1, 1) := by decide +kernel
theorem dX11_init_86 : decode cX11_init 86 = .ok (.iconst 4, 1) := by decide +kernel
theorem dX11_init_87 : decode cX11_init 87 = .ok (.if_icmp .ge 36, 3) := by decide +kernel
theorem dX11_init_90 : decode cX11_init 90 = .ok (.aload_n 0, 1) := by decide +kernel
theorem dX11_init_91 : decode cX11_init 91 = .ok (.getfield 7, 3) := by decide +kernel
theorem dX11_init_94 : decode cX11_init 94 = .ok (.bipush 14, 2) := by decide +kernel
theorem dX11_init_96 : decode cX11_init 96 = .ok (.iconst 2, 1) := by decide +kernel
theorem dX11_init_97 : decode cX11_init 97 = .ok (.iload_n 1, 1) := by decide +kernel
theorem dX11_init_98 : decode cX11_init 98 = .ok (.imul, 1) := by decide +kernel
theorem dX11_init_99 : decode cX11_init 99 = .ok (.iadd, 1) := by decide +kernel
theorem dX11_init_100 : decode cX11_init 100 = .ok (.iconst 1, 1) := by decide +kernel
theorem dX11_init_101 : decode cX11_init 101 = .ok (.iastore, 1) := by decide +kernel
theorem dX11_init_102 : decode cX11_init 102 = .ok (.aload_n 0, 1) := by decide +kernel
theorem dX11_init_103 : decode cX11_init 103 = .ok (.getfield 7, 3) := by decide +kernel
theorem dX11_init_106 : decode cX11_init 106 = .ok (.bipush 14, 2) := by decide +kernel
theorem dX11_init_108 : decode cX11_init 108 = .ok (.iconst 2, 1) := by decide +kernel
theorem dX11_init_109 : decode cX11_init 109 = .ok (.iload_n 1, 1) := by decide +kernel
theorem dX11_init_110 : decode cX11_init 110 = .ok (.imul, 1) := by decide +kernel
theorem dX11_init_111 : decode cX11_init 111 = .ok (.iadd, 1) := by decide +kernel
theorem dX11_init_112 : decode cX11_init 112 = .ok (.iconst 1, 1) := by decide +kernel
theorem dX11_init_113 : decode cX11_init 113 = .ok (.iadd, 1) := by decide +kernel
theorem dX11_init_114 : decode cX11_init 114 = .ok (.bipush 20, 2) := by decide +kernel
theorem dX11_init_116 : decode cX11_init 116 = .ok (.iastore, 1) := by decide +kernel
theorem dX11_init_117 : decode cX11_init 117 = .ok (.iinc 1 1, 3) := by decide +kernel
theorem dX11_init_120 : decode cX11_init 120 = .ok (.goto (-35), 3) := by decide +kernel
theorem dX11_init_123 : decode cX11_init 123 = .ok (.return_, 1) := by decide +kernel
theorem dX11_isIn_0 : decode cX11_isIn 0 = .ok (.iload_n 0, 1) := by decide +kernel
theorem dX11_isIn_1 : decode cX11_isIn 1 = .ok (.iload_n 1, 1) := by decide +kernel
theorem dX11_isIn_2 : decode cX11_isIn 2 = .ok (.if_icmp .lt 12, 3) := by decide +kernel
theorem dX11_isIn_5 : decode cX11_isIn 5 = .ok (.iload_n 0, 1) := by decide +kernel
theorem dX11_isIn_6 : decode cX11_isIn 6 = .ok (.iload_n 2, 1) := by decide +kernel
theorem dX11_isIn_7 : decode cX11_isIn 7 = .ok (.if_icmp .gt 7, 3) := by decide +kernel
theorem dX11_isIn_10 : decode cX11_isIn 10 = .ok (.iconst 1, 1) := by decide +kernel
theorem dX11_isIn_11 : decode cX11_isIn 11 = .ok (.goto 4, 3) := by decide +kernel
theorem dX11_isIn_14 : decode cX11_isIn 14 = .ok (.iconst 0, 1) := by decide +kernel
theorem dX11_isIn_15 : decode cX11_isIn 15 = .ok (.ireturn, 1) := by decide +kernel
theorem dX11_wordOf_0 : decode cX11_wordOf 0 = .ok (.lload_n 0, 1) := by decide +kernel
theorem dX11_wordOf_1 : decode cX11_wordOf 1 = .ok (.ldc2_w 27, 3) := by decide +kernel
theorem dX11_wordOf_4 : decode cX11_wordOf 4 = .ok (.lcmp, 1) := by decide +kernel
theorem dX11_wordOf_5 : decode cX11_wordOf 5 = .ok (.ifCond .ne 6, 3) := by decide +kernel
theorem dX11_wordOf_8 : decode cX11_wordOf 8 = .ok (.bipush 10, 2) := by decide +kernel
theorem dX11_wordOf_10 : decode cX11_wordOf 10 = .ok (.ireturn, 1) := by decide +kernel
theorem dX11_wordOf_11 : decode cX11_wordOf 11 = .ok (.lload_n 0, 1) := by decide +kernel
theorem dX11_wordOf_12 : decode cX11_wordOf 12 = .ok (.ldc2_w 29, 3) := by decide +kernel
theorem dX11_wordOf_15 : decode cX11_wordOf 15 = .ok (.lcmp, 1) := by decide +kernel
theorem dX11_wordOf_16 : decode cX11_wordOf 16 = .ok (.ifCond .ne 6, 3) := by decide +kernel
theorem dX11_wordOf_19 : decode cX11_wordOf 19 = .ok (.bipush 11, 2) := by decide +kernel
theorem dX11_wordOf_21 : decode cX11_wordOf 21 = .ok (.ireturn, 1) := by decide +kernel
theorem dX11_wordOf_22 : decode cX11_wordOf 22 = .ok (.lload_n 0, 1) := by decide +kernel
theorem dX11_wordOf_23 : decode cX11_wordOf 23 = .ok (.ldc2_w 31, 3) := by decide +kernel
theorem dX11_wordOf_26 : decode cX11_wordOf 26 = .ok (.lcmp, 1) := by decide +kernel
theorem dX11_wordOf_27 : decode cX11_wordOf 27 = .ok (.ifCond .ne 6, 3) := by decide +kernel
theorem dX11_wordOf_30 : decode cX11_wordOf 30 = .ok (.bipush 12, 2) := by decide +kernel
theorem dX11_wordOf_32 : decode cX11_wordOf 32 = .ok (.ireturn, 1) := by decide +kernel
theorem dX11_wordOf_33 : decode cX11_wordOf 33 = .ok (.lload_n 0, 1) := by decide +kernel
theorem dX11_wordOf_34 : decode cX11_wordOf 34 = .ok (.ldc2_w 33, 3) := by decide +kernel
theorem dX11_wordOf_37 : decode cX11_wordOf 37 = .ok (.lcmp, 1) := by decide +kernel
theorem dX11_wordOf_38 : decode cX11_wordOf 38 = .ok (.ifCond .ne 6, 3) := by decide +kernel
theorem dX11_wordOf_41 : decode cX11_wordOf 41 = .ok (.bipush 13, 2) := by decide +kernel
theorem dX11_wordOf_43 : decode cX11_wordOf 43 = .ok (.ireturn, 1) := by decide +kernel
theorem dX11_wordOf_44 : decode cX11_wordOf 44 = .ok (.lload_n 0, 1) := by decide +kernel
theorem dX11_wordOf_45 : decode cX11_wordOf 45 = .ok (.ldc2_w 35, 3) := by decide +kernel
theorem dX11_wordOf_48 : decode cX11_wordOf 48 = .ok (.lcmp, 1) := by decide +kernel
theorem dX11_wordOf_49 : decode cX11_wordOf 49 = .ok (.ifCond .ne 6, 3) := by decide +kernel
theorem dX11_wordOf_52 : decode cX11_wordOf 52 = .ok (.bipush 14, 2) := by decide +kernel
theorem dX11_wordOf_54 : decode cX11_wordOf 54 = .ok (.ireturn, 1) := by decide +kernel
theorem dX11_wordOf_55 : decode cX11_wordOf 55 = .ok (.lload_n 0, 1) := by decide +kernel
theorem dX11_wordOf_56 : decode cX11_wordOf 56 = .ok (.ldc2_w 37, 3) := by decide +kernel
theorem dX11_wordOf_59 : decode cX11_wordOf 59 = .ok (.lcmp, 1) := by decide +kernel
theorem dX11_wordOf_60 : decode cX11_wordOf 60 = .ok (.ifCond .ne 6, 3) := by decide +kernel
theorem dX11_wordOf_63 : decode cX11_wordOf 63 = .ok (.bipush 15, 2) := by decide +kernel
theorem dX11_wordOf_65 : decode cX11_wordOf 65 = .ok (.ireturn, 1) := by decide +kernel
theorem dX11_wordOf_66 : decode cX11_wordOf 66 = .ok (.lload_n 0, 1) := by decide +kernel
theorem dX11_wordOf_67 : decode cX11_wordOf 67 = .ok (.ldc2_w 39, 3) := by decide +kernel
theorem dX11_wordOf_70 : decode cX11_wordOf 70 = .ok (.lcmp, 1) := by decide +kernel
theorem dX11_wordOf_71 : decode cX11_wordOf 71 = .ok (.ifCond .ne 6, 3) := by decide +kernel
theorem dX11_wordOf_74 : decode cX11_wordOf 74 = .ok (.bipush 16, 2) := by decide +kernel
theorem dX11_wordOf_76 : decode cX11_wordOf 76 = .ok (.ireturn, 1) := by decide +kernel
theorem dX11_wordOf_77 : decode cX11_wordOf 77 = .ok (.lload_n 0, 1) := by decide +kernel
theorem dX11_wordOf_78 : decode cX11_wordOf 78 = .ok (.ldc2_w 41, 3) := by decide +kernel
theorem dX11_wordOf_81 : decode cX11_wordOf 81 = .ok (.lcmp, 1) := by decide +kernel
theorem dX11_wordOf_82 : decode cX11_wordOf 82 = .ok (.ifCond .ne 6, 3) := by decide +kernel
theorem dX11_wordOf_85 : decode cX11_wordOf 85 = .ok (.bipush 17, 2) := by decide +kernel
theorem dX11_wordOf_87 : decode cX11_wordOf 87 = .ok (.ireturn, 1) := by decide +kernel
theorem dX11_wordOf_88 : decode cX11_wordOf 88 = .ok (.lload_n 0, 1) := by decide +kernel
theorem dX11_wordOf_89 : decode cX11_wordOf 89 = .ok (.ldc2_w 43, 3) := by decide +kernel
theorem dX11_wordOf_92 : decode cX11_wordOf 92 = .ok (.lcmp, 1) := by decide +kernel
theorem dX11_wordOf_93 : decode cX11_wordOf 93 = .ok (.ifCond .ne 6, 3) := by decide +kernel
theorem dX11_wordOf_96 : decode cX11_wordOf 96 = .ok (.bipush 18, 2) := by decide +kernel
theorem dX11_wordOf_98 : decode cX11_wordOf 98 = .ok (.ireturn, 1) := by decide +kernel
theorem dX11_wordOf_99 : decode cX11_wordOf 99 = .ok (.lload_n 0, 1) := by decide +kernel
theorem dX11_wordOf_100 : decode cX11_wordOf 100 = .ok (.ldc2_w 45, 3) := by decide +kernel
theorem dX11_wordOf_103 : decode cX11_wordOf 103 = .ok (.lcmp, 1) := by decide +kernel
theorem dX11_wordOf_104 : decode cX11_wordOf 104 = .ok (.ifCond .ne 6, 3) := by decide +kernel
theorem dX11_wordOf_107 : decode cX11_wordOf 107 = .ok (.bipush 19, 2) := by decide +kernel
theorem dX11_wordOf_109 : decode cX11_wordOf 109 = .ok (.ireturn, 1) := by decide +kernel
theorem dX11_wordOf_110 : decode cX11_wordOf 110 = .ok (.lload_n 0, 1) := by decide +kernel
theorem dX11_wordOf_111 : decode cX11_wordOf 111 = .ok (.ldc2_w 47, 3) := by decide +kernel
theorem dX11_wordOf_114 : decode cX11_wordOf 114 = .ok (.lcmp, 1) := by decide +kernel
theorem dX11_wordOf_115 : decode cX11_wordOf 115 = .ok (.ifCond .ne 6, 3) := by decide +kernel
theorem dX11_wordOf_118 : decode cX11_wordOf 118 = .ok (.bipush 20, 2) := by decide +kernel
theorem dX11_wordOf_120 : decode cX11_wordOf 120 = .ok (.ireturn, 1) := by decide +kernel
theorem dX11_wordOf_121 : decode cX11_wordOf 121 = .ok (.lload_n 0, 1) := by decide +kernel
theorem dX11_wordOf_122 : decode cX11_wordOf 122 = .ok (.ldc2_w 49, 3) := by decide +kernel
theorem dX11_wordOf_125 : decode cX11_wordOf 125 = .ok (.lcmp, 1) := by decide +kernel
theorem dX11_wordOf_126 : decode cX11_wordOf 126 = .ok (.ifCond .ne 6, 3) := by decide +kernel
theorem dX11_wordOf_129 : decode cX11_wordOf 129 = .ok (.bipush 21, 2) := by decide +kernel
theorem dX11_wordOf_131 : decode cX11_wordOf 131 = .ok (.ireturn, 1) := by decide +kernel
theorem dX11_wordOf_132 : decode cX11_wordOf 132 = .ok (.lload_n 0, 1) := by decide +kernel
theorem dX11_wordOf_133 : decode cX11_wordOf 133 = .ok (.ldc2_w 51, 3) := by decide +kernel
theorem dX11_wordOf_136 : decode cX11_wordOf 136 = .ok (.lcmp, 1) := by decide +kernel
theorem dX11_wordOf_137 : decode cX11_wordOf 137 = .ok (.ifCond .ne 6, 3) := by decide +kernel
theorem dX11_wordOf_140 : decode cX11_wordOf 140 = .ok (.bipush 22, 2) := by decide +kernel
theorem dX11_wordOf_142 : decode cX11_wordOf 142 = .ok (.ireturn, 1) := by decide +kernel
theorem dX11_wordOf_143 : decode cX11_wordOf 143 = .ok (.lload_n 0, 1) := by decide +kernel
theorem dX11_wordOf_144 : decode cX11_wordOf 144 = .ok (.ldc2_w 53, 3) := by decide +kernel
theorem dX11_wordOf_147 : decode cX11_wordOf 147 = .ok (.lcmp, 1) := by decide +kernel
theorem dX11_wordOf_148 : decode cX11_wordOf 148 = .ok (.ifCond .ne 6, 3) := by decide +kernel
theorem dX11_wordOf_151 : decode cX11_wordOf 151 = .ok (.bipush 23, 2) := by decide +kernel
theorem dX11_wordOf_153 : decode cX11_wordOf 153 = .ok (.ireturn, 1) := by decide +kernel
theorem dX11_wordOf_154 : decode cX11_wordOf 154 = .ok (.lload_n 0, 1) := by decide +kernel
theorem dX11_wordOf_155 : decode cX11_wordOf 155 = .ok (.ldc2_w 55, 3) := by decide +kernel
theorem dX11_wordOf_158 : decode cX11_wordOf 158 = .ok (.lcmp, 1) := by decide +kernel
theorem dX11_wordOf_159 : decode cX11_wordOf 159 = .ok (.ifCond .ne 6, 3) := by decide +kernel
theorem dX11_wordOf_162 : decode cX11_wordOf 162 = .ok (.bipush 24, 2) := by decide +kernel
theorem dX11_wordOf_164 : decode cX11_wordOf 164 = .ok (.ireturn, 1) := by decide +kernel
theorem dX11_wordOf_165 : decode cX11_wordOf 165 = .ok (.lload_n 0, 1) := by decide +kernel
theorem dX11_wordOf_166 : decode cX11_wordOf 166 = .ok (.ldc2_w 57, 3) := by decide +kernel
theorem dX11_wordOf_169 : decode cX11_wordOf 169 = .ok (.lcmp, 1) := by decide +kernel
theorem dX11_wordOf_170 : decode cX11_wordOf 170 = .ok (.ifCond .ne 6, 3) := by decide +kernel
theorem dX11_wordOf_173 : decode cX11_wordOf 173 = .ok (.bipush 25, 2) := by decide +kernel
theorem dX11_wordOf_175 : decode cX11_wordOf 175 = .ok (.ireturn, 1) := by decide +kernel
theorem dX11_wordOf_176 : decode cX11_wordOf 176 = .ok (.lload_n 0, 1) := by decide +kernel
theorem dX11_wordOf_177 : decode cX11_wordOf 177 = .ok (.ldc2_w 59, 3) := by decide +kernel
theorem dX11_wordOf_180 : decode cX11_wordOf 180 = .ok (.lcmp, 1) := by decide +kernel
theorem dX11_wordOf_181 : decode cX11_wordOf 181 = .ok (.ifCond .ne 6, 3) := by decide +kernel
theorem dX11_wordOf_184 : decode cX11_wordOf 184 = .ok (.bipush 26, 2) := by decide +kernel
theorem dX11_wordOf_186 : decode cX11_wordOf 186 = .ok (.ireturn, 1) := by decide +kernel
theorem dX11_wordOf_187 : decode cX11_wordOf 187 = .ok (.lload_n 0, 1) := by decide +kernel
theorem dX11_wordOf_188 : decode cX11_wordOf 188 = .ok (.ldc2_w 61, 3) := by decide +kernel
theorem dX11_wordOf_191 : decode cX11_wordOf 191 = .ok (.lcmp, 1) := by decide +kernel
theorem dX11_wordOf_192 : decode cX11_wordOf 192 = .ok (.ifCond .ne 6, 3) := by decide +kernel
theorem dX11_wordOf_195 : decode cX11_wordOf 195 = .ok (.bipush 27, 2) := by decide +kernel
theorem dX11_wordOf_197 : decode cX11_wordOf 197 = .ok (.ireturn, 1) := by decide +kernel
theorem dX11_wordOf_198 : decode cX11_wordOf 198 = .ok (.lload_n 0, 1) := by decide +kernel
theorem dX11_wordOf_199 : decode cX11_wordOf 199 = .ok (.ldc2_w 63, 3) := by decide +kernel
theorem dX11_wordOf_202 : decode cX11_wordOf 202 = .ok (.lcmp, 1) := by decide +kernel
theorem dX11_wordOf_203 : decode cX11_wordOf 203 = .ok (.ifCond .ne 6, 3) := by decide +kernel
theorem dX11_wordOf_206 : decode cX11_wordOf 206 = .ok (.bipush 28, 2) := by decide +kernel
theorem dX11_wordOf_208 : decode cX11_wordOf 208 = .ok (.ireturn, 1) := by decide +kernel
theorem dX11_wordOf_209 : decode cX11_wordOf 209 = .ok (.iconst 4, 1) := by decide +kernel
theorem dX11_wordOf_210 : decode cX11_wordOf 210 = .ok (.ireturn, 1) := by decide +kernel
theorem dX11_spelt_0 : decode cX11_spelt 0 = .ok (.iload_n 0, 1) := by decide +kernel
theorem dX11_spelt_1 : decode cX11_spelt 1 = .ok (.tableswitch 167 10 28 #[91, 95, 99, 103, 107, 111, 115, 119, 123, 127, 131, 135, 139, 143, 147, 151, 155, 159, 163], 91) := by decide +kernel
theorem dX11_spelt_92 : decode cX11_spelt 92 = .ok (.ldc2_w 27, 3) := by decide +kernel
theorem dX11_spelt_95 : decode cX11_spelt 95 = .ok (.lreturn, 1) := by decide +kernel
theorem dX11_spelt_96 : decode cX11_spelt 96 = .ok (.ldc2_w 29, 3) := by decide +kernel
theorem dX11_spelt_99 : decode cX11_spelt 99 = .ok (.lreturn, 1) := by decide +kernel
theorem dX11_spelt_100 : decode cX11_spelt 100 = .ok (.ldc2_w 31, 3) := by decide +kernel
theorem dX11_spelt_103 : decode cX11_spelt 103 = .ok (.lreturn, 1) := by decide +kernel
theorem dX11_spelt_104 : decode cX11_spelt 104 = .ok (.ldc2_w 33, 3) := by decide +kernel
theorem dX11_spelt_107 : decode cX11_spelt 107 = .ok (.lreturn, 1) := by decide +kernel
theorem dX11_spelt_108 : decode cX11_spelt 108 = .ok (.ldc2_w 35, 3) := by decide +kernel
theorem dX11_spelt_111 : decode cX11_spelt 111 = .ok (.lreturn, 1) := by decide +kernel
theorem dX11_spelt_112 : decode cX11_spelt 112 = .ok (.ldc2_w 37, 3) := by decide +kernel
theorem dX11_spelt_115 : decode cX11_spelt 115 = .ok (.lreturn, 1) := by decide +kernel
theorem dX11_spelt_116 : decode cX11_spelt 116 = .ok (.ldc2_w 39, 3) := by decide +kernel
theorem dX11_spelt_119 : decode cX11_spelt 119 = .ok (.lreturn, 1) := by decide +kernel
theorem dX11_spelt_120 : decode cX11_spelt 120 = .ok (.ldc2_w 41, 3) := by decide +kernel
theorem dX11_spelt_123 : decode cX11_spelt 123 = .ok (.lreturn, 1) := by decide +kernel
theorem dX11_spelt_124 : decode cX11_spelt 124 = .ok (.ldc2_w 43, 3) := by decide +kernel
theorem dX11_spelt_127 : decode cX11_spelt 127 = .ok (.lreturn, 1) := by decide +kernel
theorem dX11_spelt_128 : decode cX11_spelt 128 = .ok (.ldc2_w 45, 3) := by decide +kernel
theorem dX11_spelt_131 : decode cX11_spelt 131 = .ok (.lreturn, 1) := by decide +kernel
theorem dX11_spelt_132 : decode cX11_spelt 132 = .ok (.ldc2_w 47, 3) := by decide +kernel
theorem dX11_spelt_135 : decode cX11_spelt 135 = .ok (.lreturn, 1) := by decide +kernel
theorem dX11_spelt_136 : decode cX11_spelt 136 = .ok (.ldc2_w 49, 3) := by decide +kernel
theorem dX11_spelt_139 : decode cX11_spelt 139 = .ok (.lreturn, 1) := by decide +kernel
theorem dX11_spelt_140 : decode cX11_spelt 140 = .ok (.ldc2_w 51, 3) := by decide +kernel
theorem dX11_spelt_143 : decode cX11_spelt 143 = .ok (.lreturn, 1) := by decide +kernel
theorem dX11_spelt_144 : decode cX11_spelt 144 = .ok (.ldc2_w 53, 3) := by decide +kernel
theorem dX11_spelt_147 : decode cX11_spelt 147 = .ok (.lreturn, 1) := by decide +kernel
theorem dX11_spelt_148 : decode cX11_spelt 148 = .ok (.ldc2_w 55, 3) := by decide +kernel
theorem dX11_spelt_151 : decode cX11_spelt 151 = .ok (.lreturn, 1) := by decide +kernel
theorem dX11_spelt_152 : decode cX11_spelt 152 = .ok (.ldc2_w 57, 3) := by decide +kernel
theorem dX11_spelt_155 : decode cX11_spelt 155 = .ok (.lreturn, 1) := by decide +kernel
theorem dX11_spelt_156 : decode cX11_spelt 156 = .ok (.ldc2_w 59, 3) := by decide +kernel
theorem dX11_spelt_159 : decode cX11_spelt 159 = .ok (.lreturn, 1) := by decide +kernel
theorem dX11_spelt_160 : decode cX11_spelt 160 = .ok (.ldc2_w 61, 3) := by decide +kernel
theorem dX11_spelt_163 : decode cX11_spelt 163 = .ok (.lreturn, 1) := by decide +kernel
theorem dX11_spelt_164 : decode cX11_spelt 164 = .ok (.ldc2_w 63, 3) := by decide +kernel
theorem dX11_spelt_167 : decode cX11_spelt 167 = .ok (.lreturn, 1) := by decide +kernel
theorem dX11_spelt_168 : decode cX11_spelt 168 = .ok (.lconst 0, 1) := by decide +kernel
theorem dX11_spelt_169 : decode cX11_spelt 169 = .ok (.lreturn, 1) := by decide +kernel
theorem dX11_named_0 : decode cX11_named 0 = .ok (.iconst 0, 1) := by decide +kernel
theorem dX11_named_1 : decode cX11_named 1 = .ok (.istore_n 3, 1) := by decide +kernel
theorem dX11_named_2 : decode cX11_named 2 = .ok (.iload_n 3, 1) := by decide +kernel
theorem dX11_named_3 : decode cX11_named 3 = .ok (.aload_n 0, 1) := by decide +kernel
theorem dX11_named_4 : decode cX11_named 4 = .ok (.getfield 7, 3) := by decide +kernel
theorem dX11_named_7 : decode cX11_named 7 = .ok (.iconst 0, 1) := by decide +kernel
theorem dX11_named_8 : decode cX11_named 8 = .ok (.iaload, 1) := by decide +kernel
theorem dX11_named_9 : decode cX11_named 9 = .ok (.if_icmp .ge 25, 3) := by decide +kernel
theorem dX11_named_12 : decode cX11_named 12 = .ok (.aload_n 0, 1) := by decide +kernel
theorem dX11_named_13 : decode cX11_named 13 = .ok (.getfield 13, 3) := by decide +kernel
theorem dX11_named_16 : decode cX11_named 16 = .ok (.iload_n 3, 1) := by decide +kernel
theorem dX11_named_17 : decode cX11_named 17 = .ok (.laload, 1) := by decide +kernel
theorem dX11_named_18 : decode cX11_named 18 = .ok (.lload_n 1, 1) := by decide +kernel
theorem dX11_named_19 : decode cX11_named 19 = .ok (.lcmp, 1) := by decide +kernel
theorem dX11_named_20 : decode cX11_named 20 = .ok (.ifCond .ne 8, 3) := by decide +kernel
theorem dX11_named_23 : decode cX11_named 23 = .ok (.bipush 40, 2) := by decide +kernel
theorem dX11_named_25 : decode cX11_named 25 = .ok (.iload_n 3, 1) := by decide +kernel
theorem dX11_named_26 : decode cX11_named 26 = .ok (.iadd, 1) := by decide +kernel
theorem dX11_named_27 : decode cX11_named 27 = .ok (.ireturn, 1) := by decide +kernel
theorem dX11_named_28 : decode cX11_named 28 = .ok (.iinc 3 1, 3) := by decide +kernel
theorem dX11_named_31 : decode cX11_named 31 = .ok (.goto (-29), 3) := by decide +kernel
theorem dX11_named_34 : decode cX11_named 34 = .ok (.iconst 0, 1) := by decide +kernel
theorem dX11_named_35 : decode cX11_named 35 = .ok (.istore_n 3, 1) := by decide +kernel
theorem dX11_named_36 : decode cX11_named 36 = .ok (.iload_n 3, 1) := by decide +kernel
theorem dX11_named_37 : decode cX11_named 37 = .ok (.aload_n 0, 1) := by decide +kernel
theorem dX11_named_38 : decode cX11_named 38 = .ok (.getfield 7, 3) := by decide +kernel
theorem dX11_named_41 : decode cX11_named 41 = .ok (.iconst 1, 1) := by decide +kernel
theorem dX11_named_42 : decode cX11_named 42 = .ok (.iaload, 1) := by decide +kernel
theorem dX11_named_43 : decode cX11_named 43 = .ok (.if_icmp .ge 28, 3) := by decide +kernel
theorem dX11_named_46 : decode cX11_named 46 = .ok (.aload_n 0, 1) := by decide +kernel
theorem dX11_named_47 : decode cX11_named 47 = .ok (.getfield 13, 3) := by decide +kernel
theorem dX11_named_50 : decode cX11_named 50 = .ok (.bipush 6, 2) := by decide +kernel
theorem dX11_named_52 : decode cX11_named 52 = .ok (.iload_n 3, 1) := by decide +kernel
theorem dX11_named_53 : decode cX11_named 53 = .ok (.iadd, 1) := by decide +kernel
theorem dX11_named_54 : decode cX11_named 54 = .ok (.laload, 1) := by decide +kernel
theorem dX11_named_55 : decode cX11_named 55 = .ok (.lload_n 1, 1) := by decide +kernel
theorem dX11_named_56 : decode cX11_named 56 = .ok (.lcmp, 1) := by decide +kernel
theorem dX11_named_57 : decode cX11_named 57 = .ok (.ifCond .ne 8, 3) := by decide +kernel
theorem dX11_named_60 : decode cX11_named 60 = .ok (.bipush 50, 2) := by decide +kernel
theorem dX11_named_62 : decode cX11_named 62 = .ok (.iload_n 3, 1) := by decide +kernel
theorem dX11_named_63 : decode cX11_named 63 = .ok (.iadd, 1) := by decide +kernel
theorem dX11_named_64 : decode cX11_named 64 = .ok (.ireturn, 1) := by decide +kernel
theorem dX11_named_65 : decode cX11_named 65 = .ok (.iinc 3 1, 3) := by decide +kernel
theorem dX11_named_68 : decode cX11_named 68 = .ok (.goto (-32), 3) := by decide +kernel
theorem dX11_named_71 : decode cX11_named 71 = .ok (.iconst 4, 1) := by decide +kernel
theorem dX11_named_72 : decode cX11_named 72 = .ok (.ireturn, 1) := by decide +kernel
theorem dX11_canBe_0 : decode cX11_canBe 0 = .ok (.lload_n 1, 1) := by decide +kernel
theorem dX11_canBe_1 : decode cX11_canBe 1 = .ok (.lconst 0, 1) := by decide +kernel
theorem dX11_canBe_2 : decode cX11_canBe 2 = .ok (.lcmp, 1) := by decide +kernel
theorem dX11_canBe_3 : decode cX11_canBe 3 = .ok (.ifCond .le 7, 3) := by decide +kernel
theorem dX11_canBe_6 : decode cX11_canBe 6 = .ok (.iconst 1, 1) := by decide +kernel
theorem dX11_canBe_7 : decode cX11_canBe 7 = .ok (.goto 4, 3) := by decide +kernel
theorem dX11_canBe_10 : decode cX11_canBe 10 = .ok (.iconst 0, 1) := by decide +kernel
theorem dX11_canBe_11 : decode cX11_canBe 11 = .ok (.istore_n 3, 1) := by decide +kernel
theorem dX11_canBe_12 : decode cX11_canBe 12 = .ok (.lload_n 1, 1) := by decide +kernel
theorem dX11_canBe_13 : decode cX11_canBe 13 = .ok (.lstore 4, 2) := by decide +kernel
theorem dX11_canBe_15 : decode cX11_canBe 15 = .ok (.lload 4, 2) := by decide +kernel
theorem dX11_canBe_17 : decode cX11_canBe 17 = .ok (.lconst 0, 1) := by decide +kernel
theorem dX11_canBe_18 : decode cX11_canBe 18 = .ok (.lcmp, 1) := by decide +kernel
theorem dX11_canBe_19 : decode cX11_canBe 19 = .ok (.ifCond .le 44, 3) := by decide +kernel
theorem dX11_canBe_22 : decode cX11_canBe 22 = .ok (.lload 4, 2) := by decide +kernel
theorem dX11_canBe_24 : decode cX11_canBe 24 = .ok (.ldc2_w 65, 3) := by decide +kernel
theorem dX11_canBe_27 : decode cX11_canBe 27 = .ok (.land, 1) := by decide +kernel
theorem dX11_canBe_28 : decode cX11_canBe 28 = .ok (.l2i, 1) := by decide +kernel
theorem dX11_canBe_29 : decode cX11_canBe 29 = .ok (.istore 6, 2) := by decide +kernel
theorem dX11_canBe_31 : decode cX11_canBe 31 = .ok (.iload_n 3, 1) := by decide +kernel
theorem dX11_canBe_32 : decode cX11_canBe 32 = .ok (.ifCond .eq 19, 3) := by decide +kernel
theorem dX11_canBe_35 : decode cX11_canBe 35 = .ok (.iload 6, 2) := by decide +kernel
theorem dX11_canBe_37 : decode cX11_canBe 37 = .ok (.bipush 97, 2) := by decide +kernel
theorem dX11_canBe_39 : decode cX11_canBe 39 = .ok (.bipush 122, 2) := by decide +kernel
theorem dX11_canBe_41 : decode cX11_canBe 41 = .ok (.invokestatic 67, 3) := by decide +kernel
theorem dX11_canBe_44 : decode cX11_canBe 44 = .ok (.ifCond .eq 7, 3) := by decide +kernel
theorem dX11_canBe_47 : decode cX11_canBe 47 = .ok (.iconst 1, 1) := by decide +kernel
theorem dX11_canBe_48 : decode cX11_canBe 48 = .ok (.goto 4, 3) := by decide +kernel
theorem dX11_canBe_51 : decode cX11_canBe 51 = .ok (.iconst 0, 1) := by decide +kernel
theorem dX11_canBe_52 : decode cX11_canBe 52 = .ok (.istore_n 3, 1) := by decide +kernel
theorem dX11_canBe_53 : decode cX11_canBe 53 = .ok (.lload 4, 2) := by decide +kernel
theorem dX11_canBe_55 : decode cX11_canBe 55 = .ok (.bipush 8, 2) := by decide +kernel
theorem dX11_canBe_57 : decode cX11_canBe 57 = .ok (.lshr, 1) := by decide +kernel
theorem dX11_canBe_58 : decode cX11_canBe 58 = .ok (.lstore 4, 2) := by decide +kernel
theorem dX11_canBe_60 : decode cX11_canBe 60 = .ok (.goto (-45), 3) := by decide +kernel
theorem dX11_canBe_63 : decode cX11_canBe 63 = .ok (.iload_n 3, 1) := by decide +kernel
theorem dX11_canBe_64 : decode cX11_canBe 64 = .ok (.ifCond .eq 24, 3) := by decide +kernel
theorem dX11_canBe_67 : decode cX11_canBe 67 = .ok (.lload_n 1, 1) := by decide +kernel
theorem dX11_canBe_68 : decode cX11_canBe 68 = .ok (.invokestatic 71, 3) := by decide +kernel
theorem dX11_canBe_71 : decode cX11_canBe 71 = .ok (.iconst 4, 1) := by decide +kernel
theorem dX11_canBe_72 : decode cX11_canBe 72 = .ok (.if_icmp .ne 16, 3) := by decide +kernel
theorem dX11_canBe_75 : decode cX11_canBe 75 = .ok (.aload_n 0, 1) := by decide +kernel
theorem dX11_canBe_76 : decode cX11_canBe 76 = .ok (.lload_n 1, 1) := by decide +kernel
theorem dX11_canBe_77 : decode cX11_canBe 77 = .ok (.invokevirtual 75, 3) := by decide +kernel
theorem dX11_canBe_80 : decode cX11_canBe 80 = .ok (.iconst 4, 1) := by decide +kernel
theorem dX11_canBe_81 : decode cX11_canBe 81 = .ok (.if_icmp .ne 7, 3) := by decide +kernel
theorem dX11_canBe_84 : decode cX11_canBe 84 = .ok (.iconst 1, 1) := by decide +kernel
theorem dX11_canBe_85 : decode cX11_canBe 85 = .ok (.goto 4, 3) := by decide +kernel
theorem dX11_canBe_88 : decode cX11_canBe 88 = .ok (.iconst 0, 1) := by decide +kernel
theorem dX11_canBe_89 : decode cX11_canBe 89 = .ok (.ireturn, 1) := by decide +kernel
theorem dX11_name_0 : decode cX11_name 0 = .ok (.aload_n 0, 1) := by decide +kernel
theorem dX11_name_1 : decode cX11_name 1 = .ok (.getfield 7, 3) := by decide +kernel
theorem dX11_name_4 : decode cX11_name 4 = .ok (.iconst 0, 1) := by decide +kernel
theorem dX11_name_5 : decode cX11_name 5 = .ok (.iaload, 1) := by decide +kernel
theorem dX11_name_6 : decode cX11_name 6 = .ok (.bipush 6, 2) := by decide +kernel
theorem dX11_name_8 : decode cX11_name 8 = .ok (.if_icmp .eq 11, 3) := by decide +kernel
theorem dX11_name_11 : decode cX11_name 11 = .ok (.aload_n 0, 1) := by decide +kernel
theorem dX11_name_12 : decode cX11_name 12 = .ok (.lload_n 1, 1) := by decide +kernel
theorem dX11_name_13 : decode cX11_name 13 = .ok (.invokevirtual 78, 3) := by decide +kernel
theorem dX11_name_16 : decode cX11_name 16 = .ok (.ifCond .ne 5, 3) := by decide +kernel
theorem dX11_name_19 : decode cX11_name 19 = .ok (.iconst (-1), 1) := by decide +kernel
theorem dX11_name_20 : decode cX11_name 20 = .ok (.ireturn, 1) := by decide +kernel
theorem dX11_name_21 : decode cX11_name 21 = .ok (.aload_n 0, 1) := by decide +kernel
theorem dX11_name_22 : decode cX11_name 22 = .ok (.getfield 13, 3) := by decide +kernel
theorem dX11_name_25 : decode cX11_name 25 = .ok (.aload_n 0, 1) := by decide +kernel
theorem dX11_name_26 : decode cX11_name 26 = .ok (.getfield 7, 3) := by decide +kernel
theorem dX11_name_29 : decode cX11_name 29 = .ok (.iconst 0, 1) := by decide +kernel
theorem dX11_name_30 : decode cX11_name 30 = .ok (.iaload, 1) := by decide +kernel
theorem dX11_name_31 : decode cX11_name 31 = .ok (.lload_n 1, 1) := by decide +kernel
theorem dX11_name_32 : decode cX11_name 32 = .ok (.lastore, 1) := by decide +kernel
theorem dX11_name_33 : decode cX11_name 33 = .ok (.aload_n 0, 1) := by decide +kernel
theorem dX11_name_34 : decode cX11_name 34 = .ok (.getfield 7, 3) := by decide +kernel
theorem dX11_name_37 : decode cX11_name 37 = .ok (.iconst 0, 1) := by decide +kernel
theorem dX11_name_38 : decode cX11_name 38 = .ok (.dup2, 1) := by decide +kernel
theorem dX11_name_39 : decode cX11_name 39 = .ok (.iaload, 1) := by decide +kernel
theorem dX11_name_40 : decode cX11_name 40 = .ok (.iconst 1, 1) := by decide +kernel
theorem dX11_name_41 : decode cX11_name 41 = .ok (.iadd, 1) := by decide +kernel
theorem dX11_name_42 : decode cX11_name 42 = .ok (.iastore, 1) := by decide +kernel
theorem dX11_name_43 : decode cX11_name 43 = .ok (.aload_n 0, 1) := by decide +kernel
theorem dX11_name_44 : decode cX11_name 44 = .ok (.getfield 7, 3) := by decide +kernel
theorem dX11_name_47 : decode cX11_name 47 = .ok (.iconst 0, 1) := by decide +kernel
theorem dX11_name_48 : decode cX11_name 48 = .ok (.iaload, 1) := by decide +kernel
theorem dX11_name_49 : decode cX11_name 49 = .ok (.iconst 1, 1) := by decide +kernel
theorem dX11_name_50 : decode cX11_name 50 = .ok (.isub, 1) := by decide +kernel
theorem dX11_name_51 : decode cX11_name 51 = .ok (.ireturn, 1) := by decide +kernel
theorem dX11_thing_0 : decode cX11_thing 0 = .ok (.aload_n 0, 1) := by decide +kernel
theorem dX11_thing_1 : decode cX11_thing 1 = .ok (.getfield 7, 3) := by decide +kernel
theorem dX11_thing_4 : decode cX11_thing 4 = .ok (.iconst 1, 1) := by decide +kernel
theorem dX11_thing_5 : decode cX11_thing 5 = .ok (.iaload, 1) := by decide +kernel
theorem dX11_thing_6 : decode cX11_thing 6 = .ok (.bipush 6, 2) := by decide +kernel
theorem dX11_thing_8 : decode cX11_thing 8 = .ok (.if_icmp .eq 22, 3) := by decide +kernel
theorem dX11_thing_11 : decode cX11_thing 11 = .ok (.aload_n 0, 1) := by decide +kernel
theorem dX11_thing_12 : decode cX11_thing 12 = .ok (.lload_n 1, 1) := by decide +kernel
theorem dX11_thing_13 : decode cX11_thing 13 = .ok (.invokevirtual 78, 3) := by decide +kernel
theorem dX11_thing_16 : decode cX11_thing 16 = .ok (.ifCond .eq 14, 3) := by decide +kernel
theorem dX11_thing_19 : decode cX11_thing 19 = .ok (.iload_n 3, 1) := by decide +kernel
theorem dX11_thing_20 : decode cX11_thing 20 = .ok (.iconst 1, 1) := by decide +kernel
theorem dX11_thing_21 : decode cX11_thing 21 = .ok (.sipush 9999, 3) := by decide +kernel
theorem dX11_thing_24 : decode cX11_thing 24 = .ok (.invokestatic 67, 3) := by decide +kernel
theorem dX11_thing_27 : decode cX11_thing 27 = .ok (.ifCond .ne 5, 3) := by decide +kernel
theorem dX11_thing_30 : decode cX11_thing 30 = .ok (.iconst (-1), 1) := by decide +kernel
theorem dX11_thing_31 : decode cX11_thing 31 = .ok (.ireturn, 1) := by decide +kernel
theorem dX11_thing_32 : decode cX11_thing 32 = .ok (.aload_n 0, 1) := by decide +kernel
theorem dX11_thing_33 : decode cX11_thing 33 = .ok (.getfield 13, 3) := by decide +kernel
theorem dX11_thing_36 : decode cX11_thing 36 = .ok (.bipush 6, 2) := by decide +kernel
theorem dX11_thing_38 : decode cX11_thing 38 = .ok (.aload_n 0, 1) := by decide +kernel
theorem dX11_thing_39 : decode cX11_thing 39 = .ok (.getfield 7, 3) := by decide +kernel
theorem dX11_thing_42 : decode cX11_thing 42 = .ok (.iconst 1, 1) := by decide +kernel
theorem dX11_thing_43 : decode cX11_thing 43 = .ok (.iaload, 1) := by decide +kernel
theorem dX11_thing_44 : decode cX11_thing 44 = .ok (.iadd, 1) := by decide +kernel
theorem dX11_thing_45 : decode cX11_thing 45 = .ok (.lload_n 1, 1) := by decide +kernel
theorem dX11_thing_46 : decode cX11_thing 46 = .ok (.lastore, 1) := by decide +kernel
theorem dX11_thing_47 : decode cX11_thing 47 = .ok (.aload_n 0, 1) := by decide +kernel
theorem dX11_thing_48 : decode cX11_thing 48 = .ok (.getfield 7, 3) := by decide +kernel
theorem dX11_thing_51 : decode cX11_thing 51 = .ok (.bipush 22, 2) := by decide +kernel
theorem dX11_thing_53 : decode cX11_thing 53 = .ok (.aload_n 0, 1) := by decide +kernel
theorem dX11_thing_54 : decode cX11_thing 54 = .ok (.getfield 7, 3) := by decide +kernel
theorem dX11_thing_57 : decode cX11_thing 57 = .ok (.iconst 1, 1) := by decide +kernel
theorem dX11_thing_58 : decode cX11_thing 58 = .ok (.iaload, 1) := by decide +kernel
theorem dX11_thing_59 : decode cX11_thing 59 = .ok (.iadd, 1) := by decide +kernel
theorem dX11_thing_60 : decode cX11_thing 60 = .ok (.iload_n 3, 1) := by decide +kernel
theorem dX11_thing_61 : decode cX11_thing 61 = .ok (.iastore, 1) := by decide +kernel
theorem dX11_thing_62 : decode cX11_thing 62 = .ok (.aload_n 0, 1) := by decide +kernel
theorem dX11_thing_63 : decode cX11_thing 63 = .ok (.getfield 7, 3) := by decide +kernel
theorem dX11_thing_66 : decode cX11_thing 66 = .ok (.iconst 1, 1) := by decide +kernel
theorem dX11_thing_67 : decode cX11_thing 67 = .ok (.dup2, 1) := by decide +kernel
theorem dX11_thing_68 : decode cX11_thing 68 = .ok (.iaload, 1) := by decide +kernel
theorem dX11_thing_69 : decode cX11_thing 69 = .ok (.iconst 1, 1) := by decide +kernel
theorem dX11_thing_70 : decode cX11_thing 70 = .ok (.iadd, 1) := by decide +kernel
theorem dX11_thing_71 : decode cX11_thing 71 = .ok (.iastore, 1) := by decide +kernel
theorem dX11_thing_72 : decode cX11_thing 72 = .ok (.aload_n 0, 1) := by decide +kernel
theorem dX11_thing_73 : decode cX11_thing 73 = .ok (.getfield 7, 3) := by decide +kernel
theorem dX11_thing_76 : decode cX11_thing 76 = .ok (.iconst 1, 1) := by decide +kernel
theorem dX11_thing_77 : decode cX11_thing 77 = .ok (.iaload, 1) := by decide +kernel
theorem dX11_thing_78 : decode cX11_thing 78 = .ok (.iconst 1, 1) := by decide +kernel
theorem dX11_thing_79 : decode cX11_thing 79 = .ok (.isub, 1) := by decide +kernel
theorem dX11_thing_80 : decode cX11_thing 80 = .ok (.ireturn, 1) := by decide +kernel
theorem dX11_span_0 : decode cX11_span 0 = .ok (.iload_n 1, 1) := by decide +kernel
theorem dX11_span_1 : decode cX11_span 1 = .ok (.iconst 0, 1) := by decide +kernel
theorem dX11_span_2 : decode cX11_span 2 = .ok (.iconst 3, 1) := by decide +kernel
theorem dX11_span_3 : decode cX11_span 3 = .ok (.invokestatic 67, 3) := by decide +kernel
theorem dX11_span_6 : decode cX11_span 6 = .ok (.ifCond .eq 31, 3) := by decide +kernel
theorem dX11_span_9 : decode cX11_span 9 = .ok (.iload_n 2, 1) := by decide +kernel
theorem dX11_span_10 : decode cX11_span 10 = .ok (.iconst 1, 1) := by decide +kernel
theorem dX11_span_11 : decode cX11_span 11 = .ok (.bipush 60, 2) := by decide +kernel
theorem dX11_span_13 : decode cX11_span 13 = .ok (.invokestatic 67, 3) := by decide +kernel
theorem dX11_span_16 : decode cX11_span 16 = .ok (.ifCond .eq 21, 3) := by decide +kernel
theorem dX11_span_19 : decode cX11_span 19 = .ok (.iload_n 3, 1) := by decide +kernel
theorem dX11_span_20 : decode cX11_span 20 = .ok (.iload_n 2, 1) := by decide +kernel
theorem dX11_span_21 : decode cX11_span 21 = .ok (.bipush 60, 2) := by decide +kernel
theorem dX11_span_23 : decode cX11_span 23 = .ok (.invokestatic 67, 3) := by decide +kernel
theorem dX11_span_26 : decode cX11_span 26 = .ok (.ifCond .eq 11, 3) := by decide +kernel
theorem dX11_span_29 : decode cX11_span 29 = .ok (.iload_n 3, 1) := by decide +kernel
theorem dX11_span_30 : decode cX11_span 30 = .ok (.iload_n 2, 1) := by decide +kernel
theorem dX11_span_31 : decode cX11_span 31 = .ok (.isub, 1) := by decide +kernel
theorem dX11_span_32 : decode cX11_span 32 = .ok (.bipush 19, 2) := by decide +kernel
theorem dX11_span_34 : decode cX11_span 34 = .ok (.if_icmp .le 5, 3) := by decide +kernel
theorem dX11_span_37 : decode cX11_span 37 = .ok (.iconst 0, 1) := by decide +kernel
theorem dX11_span_38 : decode cX11_span 38 = .ok (.ireturn, 1) := by decide +kernel
theorem dX11_span_39 : decode cX11_span 39 = .ok (.aload_n 0, 1) := by decide +kernel
theorem dX11_span_40 : decode cX11_span 40 = .ok (.getfield 7, 3) := by decide +kernel
theorem dX11_span_43 : decode cX11_span 43 = .ok (.bipush 14, 2) := by decide +kernel
theorem dX11_span_45 : decode cX11_span 45 = .ok (.iconst 2, 1) := by decide +kernel
theorem dX11_span_46 : decode cX11_span 46 = .ok (.iload_n 1, 1) := by decide +kernel
theorem dX11_span_47 : decode cX11_span 47 = .ok (.imul, 1) := by decide +kernel
theorem dX11_span_48 : decode cX11_span 48 = .ok (.iadd, 1) := by decide +kernel
theorem dX11_span_49 : decode cX11_span 49 = .ok (.iload_n 2, 1) := by decide +kernel
theorem dX11_span_50 : decode cX11_span 50 = .ok (.iastore, 1) := by decide +kernel
theorem dX11_span_51 : decode cX11_span 51 = .ok (.aload_n 0, 1) := by decide +kernel
theorem dX11_span_52 : decode cX11_span 52 = .ok (.getfield 7, 3) := by decide +kernel
theorem dX11_span_55 : decode cX11_span 55 = .ok (.bipush 14, 2) := by decide +kernel
theorem dX11_span_57 : decode cX11_span 57 = .ok (.iconst 2, 1) := by decide +kernel
theorem dX11_span_58 : decode cX11_span 58 = .ok (.iload_n 1, 1) := by decide +kernel
theorem dX11_span_59 : decode cX11_span 59 = .ok (.imul, 1) := by decide +kernel
theorem dX11_span_60 : decode cX11_span 60 = .ok (.iadd, 1) := by decide +kernel
theorem dX11_span_61 : decode cX11_span 61 = .ok (.iconst 1, 1) := by decide +kernel
theorem dX11_span_62 : decode cX11_span 62 = .ok (.iadd, 1) := by decide +kernel
theorem dX11_span_63 : decode cX11_span 63 = .ok (.iload_n 3, 1) := by decide +kernel
theorem dX11_span_64 : decode cX11_span 64 = .ok (.iastore, 1) := by decide +kernel
theorem dX11_span_65 : decode cX11_span 65 = .ok (.iconst 1, 1) := by decide +kernel
theorem dX11_span_66 : decode cX11_span 66 = .ok (.ireturn, 1) := by decide +kernel
theorem dX11_ways_0 : decode cX11_ways 0 = .ok (.iload_n 1, 1) := by decide +kernel
theorem dX11_ways_1 : decode cX11_ways 1 = .ok (.iconst 0, 1) := by decide +kernel
theorem dX11_ways_2 : decode cX11_ways 2 = .ok (.bipush 63, 2) := by decide +kernel
theorem dX11_ways_4 : decode cX11_ways 4 = .ok (.invokestatic 67, 3) := by decide +kernel
theorem dX11_ways_7 : decode cX11_ways 7 = .ok (.ifCond .ne 5, 3) := by decide +kernel
theorem dX11_ways_10 : decode cX11_ways 10 = .ok (.iconst 0, 1) := by decide +kernel
theorem dX11_ways_11 : decode cX11_ways 11 = .ok (.ireturn, 1) := by decide +kernel
theorem dX11_ways_12 : decode cX11_ways 12 = .ok (.aload_n 0, 1) := by decide +kernel
theorem dX11_ways_13 : decode cX11_ways 13 = .ok (.getfield 7, 3) := by decide +kernel
theorem dX11_ways_16 : decode cX11_ways 16 = .ok (.bipush 8, 2) := by decide +kernel
theorem dX11_ways_18 : decode cX11_ways 18 = .ok (.iload_n 1, 1) := by decide +kernel
theorem dX11_ways_19 : decode cX11_ways 19 = .ok (.iastore, 1) := by decide +kernel
theorem dX11_ways_20 : decode cX11_ways 20 = .ok (.iconst 1, 1) := by decide +kernel
theorem dX11_ways_21 : decode cX11_ways 21 = .ok (.ireturn, 1) := by decide +kernel
theorem dX11_shape_0 : decode cX11_shape 0 = .ok (.aload_n 0, 1) := by decide +kernel
theorem dX11_shape_1 : decode cX11_shape 1 = .ok (.getfield 7, 3) := by decide +kernel
theorem dX11_shape_4 : decode cX11_shape 4 = .ok (.iconst 2, 1) := by decide +kernel
theorem dX11_shape_5 : decode cX11_shape 5 = .ok (.iaload, 1) := by decide +kernel
theorem dX11_shape_6 : decode cX11_shape 6 = .ok (.ireturn, 1) := by decide +kernel
theorem dX11_n_0 : decode cX11_n 0 = .ok (.aload_n 0, 1) := by decide +kernel
theorem dX11_n_1 : decode cX11_n 1 = .ok (.getfield 7, 3) := by decide +kernel
theorem dX11_n_4 : decode cX11_n 4 = .ok (.iconst 3, 1) := by decide +kernel
theorem dX11_n_5 : decode cX11_n 5 = .ok (.iaload, 1) := by decide +kernel
theorem dX11_n_6 : decode cX11_n 6 = .ok (.ireturn, 1) := by decide +kernel
theorem dX11_m_0 : decode cX11_m 0 = .ok (.aload_n 0, 1) := by decide +kernel
theorem dX11_m_1 : decode cX11_m 1 = .ok (.getfield 7, 3) := by decide +kernel
theorem dX11_m_4 : decode cX11_m 4 = .ok (.iconst 4, 1) := by decide +kernel
theorem dX11_m_5 : decode cX11_m 5 = .ok (.iaload, 1) := by decide +kernel
theorem dX11_m_6 : decode cX11_m 6 = .ok (.ireturn, 1) := by decide +kernel
theorem dX11_t_0 : decode cX11_t 0 = .ok (.aload_n 0, 1) := by decide +kernel
theorem dX11_t_1 : decode cX11_t 1 = .ok (.getfield 7, 3) := by decide +kernel
theorem dX11_t_4 : decode cX11_t 4 = .ok (.iconst 5, 1) := by decide +kernel
theorem dX11_t_5 : decode cX11_t 5 = .ok (.iaload, 1) := by decide +kernel
theorem dX11_t_6 : decode cX11_t 6 = .ok (.ireturn, 1) := by decide +kernel
theorem dX11_isIdle_0 : decode cX11_isIdle 0 = .ok (.aload_n 0, 1) := by decide +kernel
theorem dX11_isIdle_1 : decode cX11_isIdle 1 = .ok (.getfield 7, 3) := by decide +kernel
theorem dX11_isIdle_4 : decode cX11_isIdle 4 = .ok (.bipush 6, 2) := by decide +kernel
theorem dX11_isIdle_6 : decode cX11_isIdle 6 = .ok (.iaload, 1) := by decide +kernel
theorem dX11_isIdle_7 : decode cX11_isIdle 7 = .ok (.ifCond .lt 7, 3) := by decide +kernel
theorem dX11_isIdle_10 : decode cX11_isIdle 10 = .ok (.iconst 1, 1) := by decide +kernel
theorem dX11_isIdle_11 : decode cX11_isIdle 11 = .ok (.goto 4, 3) := by decide +kernel
theorem dX11_isIdle_14 : decode cX11_isIdle 14 = .ok (.iconst 0, 1) := by decide +kernel
theorem dX11_isIdle_15 : decode cX11_isIdle 15 = .ok (.ireturn, 1) := by decide +kernel
theorem dX11_hasOther_0 : decode cX11_hasOther 0 = .ok (.iload_n 0, 1) := by decide +kernel
theorem dX11_hasOther_1 : decode cX11_hasOther 1 = .ok (.iconst 4, 1) := by decide +kernel
theorem dX11_hasOther_2 : decode cX11_hasOther 2 = .ok (.if_icmp .eq 8, 3) := by decide +kernel
theorem dX11_hasOther_5 : decode cX11_hasOther 5 = .ok (.iload_n 0, 1) := by decide +kernel
theorem dX11_hasOther_6 : decode cX11_hasOther 6 = .ok (.iconst 5, 1) := by decide +kernel
theorem dX11_hasOther_7 : decode cX11_hasOther 7 = .ok (.if_icmp .ne 7, 3) := by decide +kernel
theorem dX11_hasOther_10 : decode cX11_hasOther 10 = .ok (.iconst 1, 1) := by decide +kernel
theorem dX11_hasOther_11 : decode cX11_hasOther 11 = .ok (.goto 4, 3) := by decide +kernel
theorem dX11_hasOther_14 : decode cX11_hasOther 14 = .ok (.iconst 0, 1) := by decide +kernel
theorem dX11_hasOther_15 : decode cX11_hasOther 15 = .ok (.ireturn, 1) := by decide +kernel
theorem dX11_canTurn_0 : decode cX11_canTurn 0 = .ok (.iload_n 0, 1) := by decide +kernel
theorem dX11_canTurn_1 : decode cX11_canTurn 1 = .ok (.iconst 3, 1) := by decide +kernel
theorem dX11_canTurn_2 : decode cX11_canTurn 2 = .ok (.iconst 5, 1) := by decide +kernel
theorem dX11_canTurn_3 : decode cX11_canTurn 3 = .ok (.invokestatic 67, 3) := by decide +kernel
theorem dX11_canTurn_6 : decode cX11_canTurn 6 = .ok (.ireturn, 1) := by decide +kernel
theorem dX11_isName_0 : decode cX11_isName 0 = .ok (.iload_n 1, 1) := by decide +kernel
theorem dX11_isName_1 : decode cX11_isName 1 = .ok (.iconst 0, 1) := by decide +kernel
theorem dX11_isName_2 : decode cX11_isName 2 = .ok (.aload_n 0, 1) := by decide +kernel
theorem dX11_isName_3 : decode cX11_isName 3 = .ok (.getfield 7, 3) := by decide +kernel
theorem dX11_isName_6 : decode cX11_isName 6 = .ok (.iconst 0, 1) := by decide +kernel
theorem dX11_isName_7 : decode cX11_isName 7 = .ok (.iaload, 1) := by decide +kernel
theorem dX11_isName_8 : decode cX11_isName 8 = .ok (.iconst 1, 1) := by decide +kernel
theorem dX11_isName_9 : decode cX11_isName 9 = .ok (.isub, 1) := by decide +kernel
theorem dX11_isName_10 : decode cX11_isName 10 = .ok (.invokestatic 67, 3) := by decide +kernel
theorem dX11_isName_13 : decode cX11_isName 13 = .ok (.ireturn, 1) := by decide +kernel
theorem dX11_isThing_0 : decode cX11_isThing 0 = .ok (.iload_n 1, 1) := by decide +kernel
theorem dX11_isThing_1 : decode cX11_isThing 1 = .ok (.iconst 0, 1) := by decide +kernel
theorem dX11_isThing_2 : decode cX11_isThing 2 = .ok (.aload_n 0, 1) := by decide +kernel
theorem dX11_isThing_3 : decode cX11_isThing 3 = .ok (.getfield 7, 3) := by decide +kernel
theorem dX11_isThing_6 : decode cX11_isThing 6 = .ok (.iconst 1, 1) := by decide +kernel
theorem dX11_isThing_7 : decode cX11_isThing 7 = .ok (.iaload, 1) := by decide +kernel
theorem dX11_isThing_8 : decode cX11_isThing 8 = .ok (.iconst 1, 1) := by decide +kernel
theorem dX11_isThing_9 : decode cX11_isThing 9 = .ok (.isub, 1) := by decide +kernel
theorem dX11_isThing_10 : decode cX11_isThing 10 = .ok (.invokestatic 67, 3) := by decide +kernel
theorem dX11_isThing_13 : decode cX11_isThing 13 = .ok (.ireturn, 1) := by decide +kernel
theorem dX11_choose_0 : decode cX11_choose 0 = .ok (.iload_n 1, 1) := by decide +kernel
theorem dX11_choose_1 : decode cX11_choose 1 = .ok (.iconst 0, 1) := by decide +kernel
theorem dX11_choose_2 : decode cX11_choose 2 = .ok (.bipush 7, 2) := by decide +kernel
theorem dX11_choose_4 : decode cX11_choose 4 = .ok (.invokestatic 67, 3) := by decide +kernel
theorem dX11_choose_7 : decode cX11_choose 7 = .ok (.ifCond .eq 40, 3) := by decide +kernel
theorem dX11_choose_10 : decode cX11_choose 10 = .ok (.aload_n 0, 1) := by decide +kernel
theorem dX11_choose_11 : decode cX11_choose 11 = .ok (.iload_n 2, 1) := by decide +kernel
theorem dX11_choose_12 : decode cX11_choose 12 = .ok (.invokevirtual 82, 3) := by decide +kernel
theorem dX11_choose_15 : decode cX11_choose 15 = .ok (.ifCond .eq 32, 3) := by decide +kernel
theorem dX11_choose_18 : decode cX11_choose 18 = .ok (.aload_n 0, 1) := by decide +kernel
theorem dX11_choose_19 : decode cX11_choose 19 = .ok (.iload 4, 2) := by decide +kernel
theorem dX11_choose_21 : decode cX11_choose 21 = .ok (.invokevirtual 86, 3) := by decide +kernel
theorem dX11_choose_24 : decode cX11_choose 24 = .ok (.ifCond .eq 23, 3) := by decide +kernel
theorem dX11_choose_27 : decode cX11_choose 27 = .ok (.iload_n 1, 1) := by decide +kernel
theorem dX11_choose_28 : decode cX11_choose 28 = .ok (.invokestatic 89, 3) := by decide +kernel
theorem dX11_choose_31 : decode cX11_choose 31 = .ok (.ifCond .eq 18, 3) := by decide +kernel
theorem dX11_choose_34 : decode cX11_choose 34 = .ok (.aload_n 0, 1) := by decide +kernel
theorem dX11_choose_35 : decode cX11_choose 35 = .ok (.iload_n 3, 1) := by decide +kernel
theorem dX11_choose_36 : decode cX11_choose 36 = .ok (.invokevirtual 82, 3) := by decide +kernel
theorem dX11_choose_39 : decode cX11_choose 39 = .ok (.ifCond .eq 8, 3) := by decide +kernel
theorem dX11_choose_42 : decode cX11_choose 42 = .ok (.iload_n 3, 1) := by decide +kernel
theorem dX11_choose_43 : decode cX11_choose 43 = .ok (.iload_n 2, 1) := by decide +kernel
theorem dX11_choose_44 : decode cX11_choose 44 = .ok (.if_icmp .ne 5, 3) := by decide +kernel
theorem dX11_choose_47 : decode cX11_choose 47 = .ok (.iconst (-1), 1) := by decide +kernel
theorem dX11_choose_48 : decode cX11_choose 48 = .ok (.ireturn, 1) := by decide +kernel
theorem dX11_choose_49 : decode cX11_choose 49 = .ok (.iload 5, 2) := by decide +kernel
theorem dX11_choose_51 : decode cX11_choose 51 = .ok (.iconst (-1), 1) := by decide +kernel
theorem dX11_choose_52 : decode cX11_choose 52 = .ok (.if_icmp .ne 13, 3) := by decide +kernel
theorem dX11_choose_55 : decode cX11_choose 55 = .ok (.iload 6, 2) := by decide +kernel
theorem dX11_choose_57 : decode cX11_choose 57 = .ok (.iconst (-1), 1) := by decide +kernel
theorem dX11_choose_58 : decode cX11_choose 58 = .ok (.if_icmp .ne 7, 3) := by decide +kernel
theorem dX11_choose_61 : decode cX11_choose 61 = .ok (.iconst 1, 1) := by decide +kernel
theorem dX11_choose_62 : decode cX11_choose 62 = .ok (.goto 4, 3) := by decide +kernel
theorem dX11_choose_65 : decode cX11_choose 65 = .ok (.iconst 0, 1) := by decide +kernel
theorem dX11_choose_66 : decode cX11_choose 66 = .ok (.istore 7, 2) := by decide +kernel
theorem dX11_choose_68 : decode cX11_choose 68 = .ok (.aload_n 0, 1) := by decide +kernel
theorem dX11_choose_69 : decode cX11_choose 69 = .ok (.iload 5, 2) := by decide +kernel
theorem dX11_choose_71 : decode cX11_choose 71 = .ok (.invokevirtual 82, 3) := by decide +kernel
theorem dX11_choose_74 : decode cX11_choose 74 = .ok (.ifCond .eq 42, 3) := by decide +kernel
theorem dX11_choose_77 : decode cX11_choose 77 = .ok (.aload_n 0, 1) := by decide +kernel
theorem dX11_choose_78 : decode cX11_choose 78 = .ok (.iload 6, 2) := by decide +kernel
theorem dX11_choose_80 : decode cX11_choose 80 = .ok (.invokevirtual 86, 3) := by decide +kernel
theorem dX11_choose_83 : decode cX11_choose 83 = .ok (.ifCond .eq 33, 3) := by decide +kernel
theorem dX11_choose_86 : decode cX11_choose 86 = .ok (.iload 5, 2) := by decide +kernel
theorem dX11_choose_88 : decode cX11_choose 88 = .ok (.iload_n 2, 1) := by decide +kernel
theorem dX11_choose_89 : decode cX11_choose 89 = .ok (.if_icmp .eq 27, 3) := by decide +kernel
theorem dX11_choose_92 : decode cX11_choose 92 = .ok (.iload 6, 2) := by decide +kernel
theorem dX11_choose_94 : decode cX11_choose 94 = .ok (.iload 4, 2) := by decide +kernel
theorem dX11_choose_96 : decode cX11_choose 96 = .ok (.if_icmp .eq 20, 3) := by decide +kernel
theorem dX11_choose_99 : decode cX11_choose 99 = .ok (.iload_n 1, 1) := by decide +kernel
theorem dX11_choose_100 : decode cX11_choose 100 = .ok (.invokestatic 89, 3) := by decide +kernel
theorem dX11_choose_103 : decode cX11_choose 103 = .ok (.ifCond .eq 9, 3) := by decide +kernel
theorem dX11_choose_106 : decode cX11_choose 106 = .ok (.iload 5, 2) := by decide +kernel
theorem dX11_choose_108 : decode cX11_choose 108 = .ok (.iload_n 3, 1) := by decide +kernel
theorem dX11_choose_109 : decode cX11_choose 109 = .ok (.if_icmp .eq 7, 3) := by decide +kernel
theorem dX11_choose_112 : decode cX11_choose 112 = .ok (.iconst 1, 1) := by decide +kernel
theorem dX11_choose_113 : decode cX11_choose 113 = .ok (.goto 4, 3) := by decide +kernel
theorem dX11_choose_116 : decode cX11_choose 116 = .ok (.iconst 0, 1) := by decide +kernel
theorem dX11_choose_117 : decode cX11_choose 117 = .ok (.istore 8, 2) := by decide +kernel
theorem dX11_choose_119 : decode cX11_choose 119 = .ok (.iload 7, 2) := by decide +kernel
theorem dX11_choose_121 : decode cX11_choose 121 = .ok (.ifCond .ne 10, 3) := by decide +kernel
theorem dX11_choose_124 : decode cX11_choose 124 = .ok (.iload 8, 2) := by decide +kernel
theorem dX11_choose_126 : decode cX11_choose 126 = .ok (.ifCond .ne 5, 3) := by decide +kernel
theorem dX11_choose_129 : decode cX11_choose 129 = .ok (.iconst (-1), 1) := by decide +kernel
theorem dX11_choose_130 : decode cX11_choose 130 = .ok (.ireturn, 1) := by decide +kernel
theorem dX11_choose_131 : decode cX11_choose 131 = .ok (.aload_n 0, 1) := by decide +kernel
theorem dX11_choose_132 : decode cX11_choose 132 = .ok (.getfield 7, 3) := by decide +kernel
theorem dX11_choose_135 : decode cX11_choose 135 = .ok (.iconst 2, 1) := by decide +kernel
theorem dX11_choose_136 : decode cX11_choose 136 = .ok (.iload_n 1, 1) := by decide +kernel
theorem dX11_choose_137 : decode cX11_choose 137 = .ok (.iastore, 1) := by decide +kernel
theorem dX11_choose_138 : decode cX11_choose 138 = .ok (.aload_n 0, 1) := by decide +kernel
theorem dX11_choose_139 : decode cX11_choose 139 = .ok (.getfield 7, 3) := by decide +kernel
theorem dX11_choose_142 : decode cX11_choose 142 = .ok (.iconst 3, 1) := by decide +kernel
theorem dX11_choose_143 : decode cX11_choose 143 = .ok (.iload_n 2, 1) := by decide +kernel
theorem dX11_choose_144 : decode cX11_choose 144 = .ok (.iastore, 1) := by decide +kernel
theorem dX11_choose_145 : decode cX11_choose 145 = .ok (.aload_n 0, 1) := by decide +kernel
theorem dX11_choose_146 : decode cX11_choose 146 = .ok (.getfield 7, 3) := by decide +kernel
theorem dX11_choose_149 : decode cX11_choose 149 = .ok (.iconst 4, 1) := by decide +kernel
theorem dX11_choose_150 : decode cX11_choose 150 = .ok (.iload_n 1, 1) := by decide +kernel
theorem dX11_choose_151 : decode cX11_choose 151 = .ok (.invokestatic 89, 3) := by decide +kernel
theorem dX11_choose_154 : decode cX11_choose 154 = .ok (.ifCond .eq 7, 3) := by decide +kernel
theorem dX11_choose_157 : decode cX11_choose 157 = .ok (.iload_n 3, 1) := by decide +kernel
theorem dX11_choose_158 : decode cX11_choose 158 = .ok (.goto 4, 3) := by decide +kernel
theorem dX11_choose_161 : decode cX11_choose 161 = .ok (.iconst (-1), 1) := by decide +kernel
theorem dX11_choose_162 : decode cX11_choose 162 = .ok (.iastore, 1) := by decide +kernel
theorem dX11_choose_163 : decode cX11_choose 163 = .ok (.aload_n 0, 1) := by decide +kernel
theorem dX11_choose_164 : decode cX11_choose 164 = .ok (.getfield 7, 3) := by decide +kernel
theorem dX11_choose_167 : decode cX11_choose 167 = .ok (.iconst 5, 1) := by decide +kernel
theorem dX11_choose_168 : decode cX11_choose 168 = .ok (.iload 4, 2) := by decide +kernel
theorem dX11_choose_170 : decode cX11_choose 170 = .ok (.iastore, 1) := by decide +kernel
theorem dX11_choose_171 : decode cX11_choose 171 = .ok (.aload_n 0, 1) := by decide +kernel
theorem dX11_choose_172 : decode cX11_choose 172 = .ok (.getfield 7, 3) := by decide +kernel
theorem dX11_choose_175 : decode cX11_choose 175 = .ok (.bipush 6, 2) := by decide +kernel
theorem dX11_choose_177 : decode cX11_choose 177 = .ok (.iload 5, 2) := by decide +kernel
theorem dX11_choose_179 : decode cX11_choose 179 = .ok (.iastore, 1) := by decide +kernel
theorem dX11_choose_180 : decode cX11_choose 180 = .ok (.aload_n 0, 1) := by decide +kernel
theorem dX11_choose_181 : decode cX11_choose 181 = .ok (.getfield 7, 3) := by decide +kernel
theorem dX11_choose_184 : decode cX11_choose 184 = .ok (.bipush 7, 2) := by decide +kernel
theorem dX11_choose_186 : decode cX11_choose 186 = .ok (.iload 6, 2) := by decide +kernel
theorem dX11_choose_188 : decode cX11_choose 188 = .ok (.iastore, 1) := by decide +kernel
theorem dX11_choose_189 : decode cX11_choose 189 = .ok (.aload_n 0, 1) := by decide +kernel
theorem dX11_choose_190 : decode cX11_choose 190 = .ok (.iconst (-1), 1) := by decide +kernel
theorem dX11_choose_191 : decode cX11_choose 191 = .ok (.invokevirtual 92, 3) := by decide +kernel
theorem dX11_choose_194 : decode cX11_choose 194 = .ok (.ireturn, 1) := by decide +kernel
theorem dX11_answerOf_0 : decode cX11_answerOf 0 = .ok (.iconst 0, 1) := by decide +kernel
theorem dX11_answerOf_1 : decode cX11_answerOf 1 = .ok (.istore 4, 2) := by decide +kernel
theorem dX11_answerOf_3 : decode cX11_answerOf 3 = .ok (.iload_n 0, 1) := by decide +kernel
theorem dX11_answerOf_4 : decode cX11_answerOf 4 = .ok (.tableswitch 96 0 6 #[44, 52, 60, 78, 44, 86, 52], 44) := by decide +kernel
theorem dX11_answerOf_48 : decode cX11_answerOf 48 = .ok (.iload_n 1, 1) := by decide +kernel
theorem dX11_answerOf_49 : decode cX11_answerOf 49 = .ok (.iload_n 2, 1) := by decide +kernel
theorem dX11_answerOf_50 : decode cX11_answerOf 50 = .ok (.iadd, 1) := by decide +kernel
theorem dX11_answerOf_51 : decode cX11_answerOf 51 = .ok (.istore 4, 2) := by decide +kernel
theorem dX11_answerOf_53 : decode cX11_answerOf 53 = .ok (.goto 66, 3) := by decide +kernel
theorem dX11_answerOf_56 : decode cX11_answerOf 56 = .ok (.iload_n 1, 1) := by decide +kernel
theorem dX11_answerOf_57 : decode cX11_answerOf 57 = .ok (.iload_n 2, 1) := by decide +kernel
theorem dX11_answerOf_58 : decode cX11_answerOf 58 = .ok (.isub, 1) := by decide +kernel
theorem dX11_answerOf_59 : decode cX11_answerOf 59 = .ok (.istore 4, 2) := by decide +kernel
theorem dX11_answerOf_61 : decode cX11_answerOf 61 = .ok (.goto 58, 3) := by decide +kernel
theorem dX11_answerOf_64 : decode cX11_answerOf 64 = .ok (.iload_n 1, 1) := by decide +kernel
theorem dX11_answerOf_65 : decode cX11_answerOf 65 = .ok (.iload_n 2, 1) := by decide +kernel
theorem dX11_answerOf_66 : decode cX11_answerOf 66 = .ok (.irem, 1) := by decide +kernel
theorem dX11_answerOf_67 : decode cX11_answerOf 67 = .ok (.ifCond .ne 9, 3) := by decide +kernel
theorem dX11_answerOf_70 : decode cX11_answerOf 70 = .ok (.iload_n 1, 1) := by decide +kernel
theorem dX11_answerOf_71 : decode cX11_answerOf 71 = .ok (.iload_n 2, 1) := by decide +kernel
theorem dX11_answerOf_72 : decode cX11_answerOf 72 = .ok (.idiv, 1) := by decide +kernel
theorem dX11_answerOf_73 : decode cX11_answerOf 73 = .ok (.goto 4, 3) := by decide +kernel
theorem dX11_answerOf_76 : decode cX11_answerOf 76 = .ok (.iconst 0, 1) := by decide +kernel
theorem dX11_answerOf_77 : decode cX11_answerOf 77 = .ok (.istore 4, 2) := by decide +kernel
theorem dX11_answerOf_79 : decode cX11_answerOf 79 = .ok (.goto 40, 3) := by decide +kernel
theorem dX11_answerOf_82 : decode cX11_answerOf 82 = .ok (.iload_n 1, 1) := by decide +kernel
theorem dX11_answerOf_83 : decode cX11_answerOf 83 = .ok (.iload_n 2, 1) := by decide +kernel
theorem dX11_answerOf_84 : decode cX11_answerOf 84 = .ok (.imul, 1) := by decide +kernel
theorem dX11_answerOf_85 : decode cX11_answerOf 85 = .ok (.istore 4, 2) := by decide +kernel
theorem dX11_answerOf_87 : decode cX11_answerOf 87 = .ok (.goto 32, 3) := by decide +kernel
theorem dX11_answerOf_90 : decode cX11_answerOf 90 = .ok (.iconst 2, 1) := by decide +kernel
theorem dX11_answerOf_91 : decode cX11_answerOf 91 = .ok (.iload_n 1, 1) := by decide +kernel
theorem dX11_answerOf_92 : decode cX11_answerOf 92 = .ok (.imul, 1) := by decide +kernel
theorem dX11_answerOf_93 : decode cX11_answerOf 93 = .ok (.iload_n 2, 1) := by decide +kernel
theorem dX11_answerOf_94 : decode cX11_answerOf 94 = .ok (.iadd, 1) := by decide +kernel
theorem dX11_answerOf_95 : decode cX11_answerOf 95 = .ok (.istore 4, 2) := by decide +kernel
theorem dX11_answerOf_97 : decode cX11_answerOf 97 = .ok (.goto 22, 3) := by decide +kernel
theorem dX11_answerOf_100 : decode cX11_answerOf 100 = .ok (.iload_n 1, 1) := by decide +kernel
theorem dX11_answerOf_101 : decode cX11_answerOf 101 = .ok (.iload_n 2, 1) := by decide +kernel
theorem dX11_answerOf_102 : decode cX11_answerOf 102 = .ok (.iadd, 1) := by decide +kernel
theorem dX11_answerOf_103 : decode cX11_answerOf 103 = .ok (.iload_n 3, 1) := by decide +kernel
theorem dX11_answerOf_104 : decode cX11_answerOf 104 = .ok (.irem, 1) := by decide +kernel
theorem dX11_answerOf_105 : decode cX11_answerOf 105 = .ok (.ifCond .ne 11, 3) := by decide +kernel
theorem dX11_answerOf_108 : decode cX11_answerOf 108 = .ok (.iload_n 1, 1) := by decide +kernel
theorem dX11_answerOf_109 : decode cX11_answerOf 109 = .ok (.iload_n 2, 1) := by decide +kernel
theorem dX11_answerOf_110 : decode cX11_answerOf 110 = .ok (.iadd, 1) := by decide +kernel
theorem dX11_answerOf_111 : decode cX11_answerOf 111 = .ok (.iload_n 3, 1) := by decide +kernel
theorem dX11_answerOf_112 : decode cX11_answerOf 112 = .ok (.idiv, 1) := by decide +kernel
theorem dX11_answerOf_113 : decode cX11_answerOf 113 = .ok (.goto 4, 3) := by decide +kernel
theorem dX11_answerOf_116 : decode cX11_answerOf 116 = .ok (.iconst 0, 1) := by decide +kernel
theorem dX11_answerOf_117 : decode cX11_answerOf 117 = .ok (.istore 4, 2) := by decide +kernel
theorem dX11_answerOf_119 : decode cX11_answerOf 119 = .ok (.iload 4, 2) := by decide +kernel
theorem dX11_answerOf_121 : decode cX11_answerOf 121 = .ok (.iconst 1, 1) := by decide +kernel
theorem dX11_answerOf_122 : decode cX11_answerOf 122 = .ok (.if_icmp .ge 8, 3) := by decide +kernel
theorem dX11_answerOf_125 : decode cX11_answerOf 125 = .ok (.bipush (-2), 2) := by decide +kernel
theorem dX11_answerOf_127 : decode cX11_answerOf 127 = .ok (.goto 5, 3) := by decide +kernel
theorem dX11_answerOf_130 : decode cX11_answerOf 130 = .ok (.iload 4, 2) := by decide +kernel
theorem dX11_answerOf_132 : decode cX11_answerOf 132 = .ok (.ireturn, 1) := by decide +kernel
theorem dX11_answer_0 : decode cX11_answer 0 = .ok (.aload_n 0, 1) := by decide +kernel
theorem dX11_answer_1 : decode cX11_answer 1 = .ok (.invokevirtual 96, 3) := by decide +kernel
theorem dX11_answer_4 : decode cX11_answer 4 = .ok (.aload_n 0, 1) := by decide +kernel
theorem dX11_answer_5 : decode cX11_answer 5 = .ok (.getfield 100, 3) := by decide +kernel
theorem dX11_answer_8 : decode cX11_answer 8 = .ok (.aload_n 0, 1) := by decide +kernel
theorem dX11_answer_9 : decode cX11_answer 9 = .ok (.getfield 104, 3) := by decide +kernel
theorem dX11_answer_12 : decode cX11_answer 12 = .ok (.aload_n 0, 1) := by decide +kernel
theorem dX11_answer_13 : decode cX11_answer 13 = .ok (.getfield 107, 3) := by decide +kernel
theorem dX11_answer_16 : decode cX11_answer 16 = .ok (.invokestatic 110, 3) := by decide +kernel
theorem dX11_answer_19 : decode cX11_answer 19 = .ok (.ireturn, 1) := by decide +kernel
theorem dX11_way_0 : decode cX11_way 0 = .ok (.iload_n 1, 1) := by decide +kernel
theorem dX11_way_1 : decode cX11_way 1 = .ok (.tableswitch 165 0 4 #[35, 45, 78, 88, 108], 35) := by decide +kernel
theorem dX11_way_36 : decode cX11_way 36 = .ok (.aload_n 0, 1) := by decide +kernel
theorem dX11_way_37 : decode cX11_way 37 = .ok (.getfield 100, 3) := by decide +kernel
theorem dX11_way_40 : decode cX11_way 40 = .ok (.aload_n 0, 1) := by decide +kernel
theorem dX11_way_41 : decode cX11_way 41 = .ok (.getfield 104, 3) := by decide +kernel
theorem dX11_way_44 : decode cX11_way 44 = .ok (.iadd, 1) := by decide +kernel
theorem dX11_way_45 : decode cX11_way 45 = .ok (.ireturn, 1) := by decide +kernel
theorem dX11_way_46 : decode cX11_way 46 = .ok (.aload_n 0, 1) := by decide +kernel
theorem dX11_way_47 : decode cX11_way 47 = .ok (.getfield 100, 3) := by decide +kernel
theorem dX11_way_50 : decode cX11_way 50 = .ok (.aload_n 0, 1) := by decide +kernel
theorem dX11_way_51 : decode cX11_way 51 = .ok (.getfield 104, 3) := by decide +kernel
theorem dX11_way_54 : decode cX11_way 54 = .ok (.if_icmp .le 15, 3) := by decide +kernel
theorem dX11_way_57 : decode cX11_way 57 = .ok (.aload_n 0, 1) := by decide +kernel
theorem dX11_way_58 : decode cX11_way 58 = .ok (.getfield 100, 3) := by decide +kernel
theorem dX11_way_61 : decode cX11_way 61 = .ok (.aload_n 0, 1) := by decide +kernel
theorem dX11_way_62 : decode cX11_way 62 = .ok (.getfield 104, 3) := by decide +kernel
theorem dX11_way_65 : decode cX11_way 65 = .ok (.isub, 1) := by decide +kernel
theorem dX11_way_66 : decode cX11_way 66 = .ok (.goto 12, 3) := by decide +kernel
theorem dX11_way_69 : decode cX11_way 69 = .ok (.aload_n 0, 1) := by decide +kernel
theorem dX11_way_70 : decode cX11_way 70 = .ok (.getfield 104, 3) := by decide +kernel
theorem dX11_way_73 : decode cX11_way 73 = .ok (.aload_n 0, 1) := by decide +kernel
theorem dX11_way_74 : decode cX11_way 74 = .ok (.getfield 100, 3) := by decide +kernel
theorem dX11_way_77 : decode cX11_way 77 = .ok (.isub, 1) := by decide +kernel
theorem dX11_way_78 : decode cX11_way 78 = .ok (.ireturn, 1) := by decide +kernel
theorem dX11_way_79 : decode cX11_way 79 = .ok (.aload_n 0, 1) := by decide +kernel
theorem dX11_way_80 : decode cX11_way 80 = .ok (.getfield 100, 3) := by decide +kernel
theorem dX11_way_83 : decode cX11_way 83 = .ok (.aload_n 0, 1) := by decide +kernel
theorem dX11_way_84 : decode cX11_way 84 = .ok (.getfield 104, 3) := by decide +kernel
theorem dX11_way_87 : decode cX11_way 87 = .ok (.imul, 1) := by decide +kernel
theorem dX11_way_88 : decode cX11_way 88 = .ok (.ireturn, 1) := by decide +kernel
theorem dX11_way_89 : decode cX11_way 89 = .ok (.aload_n 0, 1) := by decide +kernel
theorem dX11_way_90 : decode cX11_way 90 = .ok (.getfield 100, 3) := by decide +kernel
theorem dX11_way_93 : decode cX11_way 93 = .ok (.aload_n 0, 1) := by decide +kernel
theorem dX11_way_94 : decode cX11_way 94 = .ok (.getfield 104, 3) := by decide +kernel
theorem dX11_way_97 : decode cX11_way 97 = .ok (.iadd, 1) := by decide +kernel
theorem dX11_way_98 : decode cX11_way 98 = .ok (.aload_n 0, 1) := by decide +kernel
theorem dX11_way_99 : decode cX11_way 99 = .ok (.getfield 107, 3) := by decide +kernel
theorem dX11_way_102 : decode cX11_way 102 = .ok (.iadd, 1) := by decide +kernel
theorem dX11_way_103 : decode cX11_way 103 = .ok (.aload_n 0, 1) := by decide +kernel
theorem dX11_way_104 : decode cX11_way 104 = .ok (.getfield 114, 3) := by decide +kernel
theorem dX11_way_107 : decode cX11_way 107 = .ok (.iadd, 1) := by decide +kernel
theorem dX11_way_108 : decode cX11_way 108 = .ok (.ireturn, 1) := by decide +kernel
theorem dX11_way_109 : decode cX11_way 109 = .ok (.aload_n 0, 1) := by decide +kernel
theorem dX11_way_110 : decode cX11_way 110 = .ok (.getfield 100, 3) := by decide +kernel
theorem dX11_way_113 : decode cX11_way 113 = .ok (.aload_n 0, 1) := by decide +kernel
theorem dX11_way_114 : decode cX11_way 114 = .ok (.getfield 104, 3) := by decide +kernel
theorem dX11_way_117 : decode cX11_way 117 = .ok (.if_icmp .le 10, 3) := by decide +kernel
theorem dX11_way_120 : decode cX11_way 120 = .ok (.aload_n 0, 1) := by decide +kernel
theorem dX11_way_121 : decode cX11_way 121 = .ok (.getfield 100, 3) := by decide +kernel
theorem dX11_way_124 : decode cX11_way 124 = .ok (.goto 7, 3) := by decide +kernel
theorem dX11_way_127 : decode cX11_way 127 = .ok (.aload_n 0, 1) := by decide +kernel
theorem dX11_way_128 : decode cX11_way 128 = .ok (.getfield 104, 3) := by decide +kernel
theorem dX11_way_131 : decode cX11_way 131 = .ok (.istore_n 2, 1) := by decide +kernel
theorem dX11_way_132 : decode cX11_way 132 = .ok (.aload_n 0, 1) := by decide +kernel
theorem dX11_way_133 : decode cX11_way 133 = .ok (.getfield 107, 3) := by decide +kernel
theorem dX11_way_136 : decode cX11_way 136 = .ok (.iload_n 2, 1) := by decide +kernel
theorem dX11_way_137 : decode cX11_way 137 = .ok (.if_icmp .le 10, 3) := by decide +kernel
theorem dX11_way_140 : decode cX11_way 140 = .ok (.aload_n 0, 1) := by decide +kernel
theorem dX11_way_141 : decode cX11_way 141 = .ok (.getfield 107, 3) := by decide +kernel
theorem dX11_way_144 : decode cX11_way 144 = .ok (.goto 4, 3) := by decide +kernel
theorem dX11_way_147 : decode cX11_way 147 = .ok (.iload_n 2, 1) := by decide +kernel
theorem dX11_way_148 : decode cX11_way 148 = .ok (.istore_n 2, 1) := by decide +kernel
theorem dX11_way_149 : decode cX11_way 149 = .ok (.aload_n 0, 1) := by decide +kernel
theorem dX11_way_150 : decode cX11_way 150 = .ok (.getfield 114, 3) := by decide +kernel
theorem dX11_way_153 : decode cX11_way 153 = .ok (.iload_n 2, 1) := by decide +kernel
theorem dX11_way_154 : decode cX11_way 154 = .ok (.if_icmp .le 10, 3) := by decide +kernel
theorem dX11_way_157 : decode cX11_way 157 = .ok (.aload_n 0, 1) := by decide +kernel
theorem dX11_way_158 : decode cX11_way 158 = .ok (.getfield 114, 3) := by decide +kernel
theorem dX11_way_161 : decode cX11_way 161 = .ok (.goto 4, 3) := by decide +kernel
theorem dX11_way_164 : decode cX11_way 164 = .ok (.iload_n 2, 1) := by decide +kernel
theorem dX11_way_165 : decode cX11_way 165 = .ok (.ireturn, 1) := by decide +kernel
theorem dX11_way_166 : decode cX11_way 166 = .ok (.aload_n 0, 1) := by decide +kernel
theorem dX11_way_167 : decode cX11_way 167 = .ok (.invokevirtual 117, 3) := by decide +kernel
theorem dX11_way_170 : decode cX11_way 170 = .ok (.aload_n 0, 1) := by decide +kernel
theorem dX11_way_171 : decode cX11_way 171 = .ok (.getfield 114, 3) := by decide +kernel
theorem dX11_way_174 : decode cX11_way 174 = .ok (.iadd, 1) := by decide +kernel
theorem dX11_way_175 : decode cX11_way 175 = .ok (.ireturn, 1) := by decide +kernel
theorem dX11_isTempting_0 : decode cX11_isTempting 0 = .ok (.aload_n 0, 1) := by decide +kernel
theorem dX11_isTempting_1 : decode cX11_isTempting 1 = .ok (.getfield 7, 3) := by decide +kernel
theorem dX11_isTempting_4 : decode cX11_isTempting 4 = .ok (.bipush 8, 2) := by decide +kernel
theorem dX11_isTempting_6 : decode cX11_isTempting 6 = .ok (.iaload, 1) := by decide +kernel
theorem dX11_isTempting_7 : decode cX11_isTempting 7 = .ok (.iload_n 1, 1) := by decide +kernel
theorem dX11_isTempting_8 : decode cX11_isTempting 8 = .ok (.ishr, 1) := by decide +kernel
theorem dX11_isTempting_9 : decode cX11_isTempting 9 = .ok (.iconst 1, 1) := by decide +kernel
theorem dX11_isTempting_10 : decode cX11_isTempting 10 = .ok (.iand, 1) := by decide +kernel
theorem dX11_isTempting_11 : decode cX11_isTempting 11 = .ok (.ifCond .ne 5, 3) := by decide +kernel
theorem dX11_isTempting_14 : decode cX11_isTempting 14 = .ok (.iconst 0, 1) := by decide +kernel
theorem dX11_isTempting_15 : decode cX11_isTempting 15 = .ok (.ireturn, 1) := by decide +kernel
theorem dX11_isTempting_16 : decode cX11_isTempting 16 = .ok (.aload_n 0, 1) := by decide +kernel
theorem dX11_isTempting_17 : decode cX11_isTempting 17 = .ok (.invokevirtual 96, 3) := by decide +kernel
theorem dX11_isTempting_20 : decode cX11_isTempting 20 = .ok (.istore_n 2, 1) := by decide +kernel
theorem dX11_isTempting_21 : decode cX11_isTempting 21 = .ok (.iload_n 1, 1) := by decide +kernel
theorem dX11_isTempting_22 : decode cX11_isTempting 22 = .ok (.tableswitch 101 0 4 #[34, 49, 66, 77, 99], 34) := by decide +kernel
theorem dX11_isTempting_56 : decode cX11_isTempting 56 = .ok (.iload_n 2, 1) := by decide +kernel
theorem dX11_isTempting_57 : decode cX11_isTempting 57 = .ok (.ifCond .eq 12, 3) := by decide +kernel
theorem dX11_isTempting_60 : decode cX11_isTempting 60 = .ok (.iload_n 2, 1) := by decide +kernel
theorem dX11_isTempting_61 : decode cX11_isTempting 61 = .ok (.iconst 4, 1) := by decide +kernel
theorem dX11_isTempting_62 : decode cX11_isTempting 62 = .ok (.if_icmp .eq 7, 3) := by decide +kernel
theorem dX11_isTempting_65 : decode cX11_isTempting 65 = .ok (.iconst 1, 1) := by decide +kernel
theorem dX11_isTempting_66 : decode cX11_isTempting 66 = .ok (.goto 4, 3) := by decide +kernel
theorem dX11_isTempting_69 : decode cX11_isTempting 69 = .ok (.iconst 0, 1) := by decide +kernel
theorem dX11_isTempting_70 : decode cX11_isTempting 70 = .ok (.ireturn, 1) := by decide +kernel
theorem dX11_isTempting_71 : decode cX11_isTempting 71 = .ok (.iload_n 2, 1) := by decide +kernel
theorem dX11_isTempting_72 : decode cX11_isTempting 72 = .ok (.iconst 1, 1) := by decide +kernel
theorem dX11_isTempting_73 : decode cX11_isTempting 73 = .ok (.if_icmp .eq 13, 3) := by decide +kernel
theorem dX11_isTempting_76 : decode cX11_isTempting 76 = .ok (.iload_n 2, 1) := by decide +kernel
theorem dX11_isTempting_77 : decode cX11_isTempting 77 = .ok (.bipush 6, 2) := by decide +kernel
theorem dX11_isTempting_79 : decode cX11_isTempting 79 = .ok (.if_icmp .eq 7, 3) := by decide +kernel
theorem dX11_isTempting_82 : decode cX11_isTempting 82 = .ok (.iconst 1, 1) := by decide +kernel
theorem dX11_isTempting_83 : decode cX11_isTempting 83 = .ok (.goto 4, 3) := by decide +kernel
theorem dX11_isTempting_86 : decode cX11_isTempting 86 = .ok (.iconst 0, 1) := by decide +kernel
theorem dX11_isTempting_87 : decode cX11_isTempting 87 = .ok (.ireturn, 1) := by decide +kernel
theorem dX11_isTempting_88 : decode cX11_isTempting 88 = .ok (.iload_n 2, 1) := by decide +kernel
theorem dX11_isTempting_89 : decode cX11_isTempting 89 = .ok (.iconst 3, 1) := by decide +kernel
theorem dX11_isTempting_90 : decode cX11_isTempting 90 = .ok (.if_icmp .eq 7, 3) := by decide +kernel
theorem dX11_isTempting_93 : decode cX11_isTempting 93 = .ok (.iconst 1, 1) := by decide +kernel
theorem dX11_isTempting_94 : decode cX11_isTempting 94 = .ok (.goto 4, 3) := by decide +kernel
theorem dX11_isTempting_97 : decode cX11_isTempting 97 = .ok (.iconst 0, 1) := by decide +kernel
theorem dX11_isTempting_98 : decode cX11_isTempting 98 = .ok (.ireturn, 1) := by decide +kernel
theorem dX11_isTempting_99 : decode cX11_isTempting 99 = .ok (.aload_n 0, 1) := by decide +kernel
theorem dX11_isTempting_100 : decode cX11_isTempting 100 = .ok (.invokevirtual 120, 3) := by decide +kernel
theorem dX11_isTempting_103 : decode cX11_isTempting 103 = .ok (.ifCond .ne 12, 3) := by decide +kernel
theorem dX11_isTempting_106 : decode cX11_isTempting 106 = .ok (.iload_n 2, 1) := by decide +kernel
theorem dX11_isTempting_107 : decode cX11_isTempting 107 = .ok (.ifCond .eq 12, 3) := by decide +kernel
theorem dX11_isTempting_110 : decode cX11_isTempting 110 = .ok (.iload_n 2, 1) := by decide +kernel
theorem dX11_isTempting_111 : decode cX11_isTempting 111 = .ok (.iconst 4, 1) := by decide +kernel
theorem dX11_isTempting_112 : decode cX11_isTempting 112 = .ok (.if_icmp .eq 7, 3) := by decide +kernel
theorem dX11_isTempting_115 : decode cX11_isTempting 115 = .ok (.iconst 1, 1) := by decide +kernel
theorem dX11_isTempting_116 : decode cX11_isTempting 116 = .ok (.goto 4, 3) := by decide +kernel
theorem dX11_isTempting_119 : decode cX11_isTempting 119 = .ok (.iconst 0, 1) := by decide +kernel
theorem dX11_isTempting_120 : decode cX11_isTempting 120 = .ok (.ireturn, 1) := by decide +kernel
theorem dX11_isTempting_121 : decode cX11_isTempting 121 = .ok (.iconst 1, 1) := by decide +kernel
theorem dX11_isTempting_122 : decode cX11_isTempting 122 = .ok (.ireturn, 1) := by decide +kernel
theorem dX11_isTempting_123 : decode cX11_isTempting 123 = .ok (.aload_n 0, 1) := by decide +kernel
theorem dX11_isTempting_124 : decode cX11_isTempting 124 = .ok (.invokevirtual 120, 3) := by decide +kernel
theorem dX11_isTempting_127 : decode cX11_isTempting 127 = .ok (.ireturn, 1) := by decide +kernel
theorem dX11_isRight_0 : decode cX11_isRight 0 = .ok (.aload_n 0, 1) := by decide +kernel
theorem dX11_isRight_1 : decode cX11_isRight 1 = .ok (.getfield 7, 3) := by decide +kernel
theorem dX11_isRight_4 : decode cX11_isRight 4 = .ok (.bipush 22, 2) := by decide +kernel
theorem dX11_isRight_6 : decode cX11_isRight 6 = .ok (.aload_n 0, 1) := by decide +kernel
theorem dX11_isRight_7 : decode cX11_isRight 7 = .ok (.invokevirtual 124, 3) := by decide +kernel
theorem dX11_isRight_10 : decode cX11_isRight 10 = .ok (.iadd, 1) := by decide +kernel
theorem dX11_isRight_11 : decode cX11_isRight 11 = .ok (.iaload, 1) := by decide +kernel
theorem dX11_isRight_12 : decode cX11_isRight 12 = .ok (.istore_n 1, 1) := by decide +kernel
theorem dX11_isRight_13 : decode cX11_isRight 13 = .ok (.aload_n 0, 1) := by decide +kernel
theorem dX11_isRight_14 : decode cX11_isRight 14 = .ok (.invokevirtual 96, 3) := by decide +kernel
theorem dX11_isRight_17 : decode cX11_isRight 17 = .ok (.istore_n 2, 1) := by decide +kernel
theorem dX11_isRight_18 : decode cX11_isRight 18 = .ok (.aload_n 0, 1) := by decide +kernel
theorem dX11_isRight_19 : decode cX11_isRight 19 = .ok (.invokevirtual 117, 3) := by decide +kernel
theorem dX11_isRight_22 : decode cX11_isRight 22 = .ok (.istore_n 3, 1) := by decide +kernel
theorem dX11_isRight_23 : decode cX11_isRight 23 = .ok (.iload_n 3, 1) := by decide +kernel
theorem dX11_isRight_24 : decode cX11_isRight 24 = .ok (.ifCond .le 62, 3) := by decide +kernel
theorem dX11_isRight_27 : decode cX11_isRight 27 = .ok (.iload_n 3, 1) := by decide +kernel
theorem dX11_isRight_28 : decode cX11_isRight 28 = .ok (.iload_n 1, 1) := by decide +kernel
theorem dX11_isRight_29 : decode cX11_isRight 29 = .ok (.if_icmp .gt 57, 3) := by decide +kernel
theorem dX11_isRight_32 : decode cX11_isRight 32 = .ok (.iload_n 2, 1) := by decide +kernel
theorem dX11_isRight_33 : decode cX11_isRight 33 = .ok (.iconst 3, 1) := by decide +kernel
theorem dX11_isRight_34 : decode cX11_isRight 34 = .ok (.if_icmp .eq 11, 3) := by decide +kernel
theorem dX11_isRight_37 : decode cX11_isRight 37 = .ok (.aload_n 0, 1) := by decide +kernel
theorem dX11_isRight_38 : decode cX11_isRight 38 = .ok (.getfield 100, 3) := by decide +kernel
theorem dX11_isRight_41 : decode cX11_isRight 41 = .ok (.iload_n 1, 1) := by decide +kernel
theorem dX11_isRight_42 : decode cX11_isRight 42 = .ok (.if_icmp .gt 44, 3) := by decide +kernel
theorem dX11_isRight_45 : decode cX11_isRight 45 = .ok (.iload_n 2, 1) := by decide +kernel
theorem dX11_isRight_46 : decode cX11_isRight 46 = .ok (.iconst 2, 1) := by decide +kernel
theorem dX11_isRight_47 : decode cX11_isRight 47 = .ok (.if_icmp .eq 11, 3) := by decide +kernel
theorem dX11_isRight_50 : decode cX11_isRight 50 = .ok (.aload_n 0, 1) := by decide +kernel
theorem dX11_isRight_51 : decode cX11_isRight 51 = .ok (.getfield 104, 3) := by decide +kernel
theorem dX11_isRight_54 : decode cX11_isRight 54 = .ok (.iload_n 1, 1) := by decide +kernel
theorem dX11_isRight_55 : decode cX11_isRight 55 = .ok (.if_icmp .gt 31, 3) := by decide +kernel
theorem dX11_isRight_58 : decode cX11_isRight 58 = .ok (.iload_n 2, 1) := by decide +kernel
theorem dX11_isRight_59 : decode cX11_isRight 59 = .ok (.bipush 7, 2) := by decide +kernel
theorem dX11_isRight_61 : decode cX11_isRight 61 = .ok (.if_icmp .eq 8, 3) := by decide +kernel
theorem dX11_isRight_64 : decode cX11_isRight 64 = .ok (.iload_n 2, 1) := by decide +kernel
theorem dX11_isRight_65 : decode cX11_isRight 65 = .ok (.iconst 5, 1) := by decide +kernel
theorem dX11_isRight_66 : decode cX11_isRight 66 = .ok (.if_icmp .ne 16, 3) := by decide +kernel
theorem dX11_isRight_69 : decode cX11_isRight 69 = .ok (.aload_n 0, 1) := by decide +kernel
theorem dX11_isRight_70 : decode cX11_isRight 70 = .ok (.getfield 100, 3) := by decide +kernel
theorem dX11_isRight_73 : decode cX11_isRight 73 = .ok (.aload_n 0, 1) := by decide +kernel
theorem dX11_isRight_74 : decode cX11_isRight 74 = .ok (.getfield 104, 3) := by decide +kernel
theorem dX11_isRight_77 : decode cX11_isRight 77 = .ok (.iadd, 1) := by decide +kernel
theorem dX11_isRight_78 : decode cX11_isRight 78 = .ok (.iload_n 1, 1) := by decide +kernel
theorem dX11_isRight_79 : decode cX11_isRight 79 = .ok (.if_icmp .gt 7, 3) := by decide +kernel
theorem dX11_isRight_82 : decode cX11_isRight 82 = .ok (.iconst 1, 1) := by decide +kernel
theorem dX11_isRight_83 : decode cX11_isRight 83 = .ok (.goto 4, 3) := by decide +kernel
theorem dX11_isRight_86 : decode cX11_isRight 86 = .ok (.iconst 0, 1) := by decide +kernel
theorem dX11_isRight_87 : decode cX11_isRight 87 = .ok (.ireturn, 1) := by decide +kernel
theorem dX11_isUnlike_0 : decode cX11_isUnlike 0 = .ok (.iconst 1, 1) := by decide +kernel
theorem dX11_isUnlike_1 : decode cX11_isUnlike 1 = .ok (.istore_n 1, 1) := by decide +kernel
theorem dX11_isUnlike_2 : decode cX11_isUnlike 2 = .ok (.iconst 0, 1) := by decide +kernel
theorem dX11_isUnlike_3 : decode cX11_isUnlike 3 = .ok (.istore_n 2, 1) := by decide +kernel
theorem dX11_isUnlike_4 : decode cX11_isUnlike 4 = .ok (.iload_n 2, 1) := by decide +kernel
theorem dX11_isUnlike_5 : decode cX11_isUnlike 5 = .ok (.bipush 6, 2) := by decide +kernel
theorem dX11_isUnlike_7 : decode cX11_isUnlike 7 = .ok (.if_icmp .ge 86, 3) := by decide +kernel
theorem dX11_isUnlike_10 : decode cX11_isUnlike 10 = .ok (.iload_n 1, 1) := by decide +kernel
theorem dX11_isUnlike_11 : decode cX11_isUnlike 11 = .ok (.ifCond .eq 82, 3) := by decide +kernel
theorem dX11_isUnlike_14 : decode cX11_isUnlike 14 = .ok (.aload_n 0, 1) := by decide +kernel
theorem dX11_isUnlike_15 : decode cX11_isUnlike 15 = .ok (.iload_n 2, 1) := by decide +kernel
theorem dX11_isUnlike_16 : decode cX11_isUnlike 16 = .ok (.invokevirtual 127, 3) := by decide +kernel
theorem dX11_isUnlike_19 : decode cX11_isUnlike 19 = .ok (.ifCond .ne 6, 3) := by decide +kernel
theorem dX11_isUnlike_22 : decode cX11_isUnlike 22 = .ok (.goto 65, 3) := by decide +kernel
theorem dX11_isUnlike_25 : decode cX11_isUnlike 25 = .ok (.aload_n 0, 1) := by decide +kernel
theorem dX11_isUnlike_26 : decode cX11_isUnlike 26 = .ok (.iload_n 2, 1) := by decide +kernel
theorem dX11_isUnlike_27 : decode cX11_isUnlike 27 = .ok (.invokevirtual 130, 3) := by decide +kernel
theorem dX11_isUnlike_30 : decode cX11_isUnlike 30 = .ok (.aload_n 0, 1) := by decide +kernel
theorem dX11_isUnlike_31 : decode cX11_isUnlike 31 = .ok (.invokevirtual 117, 3) := by decide +kernel
theorem dX11_isUnlike_34 : decode cX11_isUnlike 34 = .ok (.if_icmp .eq 7, 3) := by decide +kernel
theorem dX11_isUnlike_37 : decode cX11_isUnlike 37 = .ok (.iconst 1, 1) := by decide +kernel
theorem dX11_isUnlike_38 : decode cX11_isUnlike 38 = .ok (.goto 4, 3) := by decide +kernel
theorem dX11_isUnlike_41 : decode cX11_isUnlike 41 = .ok (.iconst 0, 1) := by decide +kernel
theorem dX11_isUnlike_42 : decode cX11_isUnlike 42 = .ok (.istore_n 1, 1) := by decide +kernel
theorem dX11_isUnlike_43 : decode cX11_isUnlike 43 = .ok (.iconst 0, 1) := by decide +kernel
theorem dX11_isUnlike_44 : decode cX11_isUnlike 44 = .ok (.istore_n 3, 1) := by decide +kernel
theorem dX11_isUnlike_45 : decode cX11_isUnlike 45 = .ok (.iload_n 3, 1) := by decide +kernel
theorem dX11_isUnlike_46 : decode cX11_isUnlike 46 = .ok (.iload_n 2, 1) := by decide +kernel
theorem dX11_isUnlike_47 : decode cX11_isUnlike 47 = .ok (.if_icmp .ge 40, 3) := by decide +kernel
theorem dX11_isUnlike_50 : decode cX11_isUnlike 50 = .ok (.iload_n 1, 1) := by decide +kernel
theorem dX11_isUnlike_51 : decode cX11_isUnlike 51 = .ok (.ifCond .eq 36, 3) := by decide +kernel
theorem dX11_isUnlike_54 : decode cX11_isUnlike 54 = .ok (.aload_n 0, 1) := by decide +kernel
theorem dX11_isUnlike_55 : decode cX11_isUnlike 55 = .ok (.iload_n 3, 1) := by decide +kernel
theorem dX11_isUnlike_56 : decode cX11_isUnlike 56 = .ok (.invokevirtual 127, 3) := by decide +kernel
theorem dX11_isUnlike_59 : decode cX11_isUnlike 59 = .ok (.ifCond .eq 16, 3) := by decide +kernel
theorem dX11_isUnlike_62 : decode cX11_isUnlike 62 = .ok (.aload_n 0, 1) := by decide +kernel
theorem dX11_isUnlike_63 : decode cX11_isUnlike 63 = .ok (.iload_n 3, 1) := by decide +kernel
theorem dX11_isUnlike_64 : decode cX11_isUnlike 64 = .ok (.invokevirtual 130, 3) := by decide +kernel
theorem dX11_isUnlike_67 : decode cX11_isUnlike 67 = .ok (.aload_n 0, 1) := by decide +kernel
theorem dX11_isUnlike_68 : decode cX11_isUnlike 68 = .ok (.iload_n 2, 1) := by decide +kernel
theorem dX11_isUnlike_69 : decode cX11_isUnlike 69 = .ok (.invokevirtual 130, 3) := by decide +kernel
theorem dX11_isUnlike_72 : decode cX11_isUnlike 72 = .ok (.if_icmp .eq 7, 3) := by decide +kernel
theorem dX11_isUnlike_75 : decode cX11_isUnlike 75 = .ok (.iconst 1, 1) := by decide +kernel
theorem dX11_isUnlike_76 : decode cX11_isUnlike 76 = .ok (.goto 4, 3) := by decide +kernel
theorem dX11_isUnlike_79 : decode cX11_isUnlike 79 = .ok (.iconst 0, 1) := by decide +kernel
theorem dX11_isUnlike_80 : decode cX11_isUnlike 80 = .ok (.istore_n 1, 1) := by decide +kernel
theorem dX11_isUnlike_81 : decode cX11_isUnlike 81 = .ok (.iinc 3 1, 3) := by decide +kernel
theorem dX11_isUnlike_84 : decode cX11_isUnlike 84 = .ok (.goto (-39), 3) := by decide +kernel
theorem dX11_isUnlike_87 : decode cX11_isUnlike 87 = .ok (.iinc 2 1, 3) := by decide +kernel
theorem dX11_isUnlike_90 : decode cX11_isUnlike 90 = .ok (.goto (-86), 3) := by decide +kernel
theorem dX11_isUnlike_93 : decode cX11_isUnlike 93 = .ok (.iload_n 1, 1) := by decide +kernel
theorem dX11_isUnlike_94 : decode cX11_isUnlike 94 = .ok (.ireturn, 1) := by decide +kernel
theorem dX11_least_0 : decode cX11_least 0 = .ok (.aload_n 0, 1) := by decide +kernel
theorem dX11_least_1 : decode cX11_least 1 = .ok (.getfield 7, 3) := by decide +kernel
theorem dX11_least_4 : decode cX11_least 4 = .ok (.bipush 14, 2) := by decide +kernel
theorem dX11_least_6 : decode cX11_least 6 = .ok (.iconst 2, 1) := by decide +kernel
theorem dX11_least_7 : decode cX11_least 7 = .ok (.iload_n 1, 1) := by decide +kernel
theorem dX11_least_8 : decode cX11_least 8 = .ok (.imul, 1) := by decide +kernel
theorem dX11_least_9 : decode cX11_least 9 = .ok (.iadd, 1) := by decide +kernel
theorem dX11_least_10 : decode cX11_least 10 = .ok (.iaload, 1) := by decide +kernel
theorem dX11_least_11 : decode cX11_least 11 = .ok (.ireturn, 1) := by decide +kernel
theorem dX11_greatest_0 : decode cX11_greatest 0 = .ok (.aload_n 0, 1) := by decide +kernel
theorem dX11_greatest_1 : decode cX11_greatest 1 = .ok (.getfield 7, 3) := by decide +kernel
theorem dX11_greatest_4 : decode cX11_greatest 4 = .ok (.bipush 14, 2) := by decide +kernel
theorem dX11_greatest_6 : decode cX11_greatest 6 = .ok (.iconst 2, 1) := by decide +kernel
theorem dX11_greatest_7 : decode cX11_greatest 7 = .ok (.iload_n 1, 1) := by decide +kernel
theorem dX11_greatest_8 : decode cX11_greatest 8 = .ok (.imul, 1) := by decide +kernel
theorem dX11_greatest_9 : decode cX11_greatest 9 = .ok (.iadd, 1) := by decide +kernel
theorem dX11_greatest_10 : decode cX11_greatest 10 = .ok (.iconst 1, 1) := by decide +kernel
theorem dX11_greatest_11 : decode cX11_greatest 11 = .ok (.iadd, 1) := by decide +kernel
theorem dX11_greatest_12 : decode cX11_greatest 12 = .ok (.iaload, 1) := by decide +kernel
theorem dX11_greatest_13 : decode cX11_greatest 13 = .ok (.ireturn, 1) := by decide +kernel
theorem dX11_scan_0 : decode cX11_scan 0 = .ok (.iconst 0, 1) := by decide +kernel
theorem dX11_scan_1 : decode cX11_scan 1 = .ok (.istore_n 2, 1) := by decide +kernel
theorem dX11_scan_2 : decode cX11_scan 2 = .ok (.aload_n 0, 1) := by decide +kernel
theorem dX11_scan_3 : decode cX11_scan 3 = .ok (.invokevirtual 96, 3) := by decide +kernel
theorem dX11_scan_6 : decode cX11_scan 6 = .ok (.bipush 7, 2) := by decide +kernel
theorem dX11_scan_8 : decode cX11_scan 8 = .ok (.if_icmp .ne 7, 3) := by decide +kernel
theorem dX11_scan_11 : decode cX11_scan 11 = .ok (.iconst 1, 1) := by decide +kernel
theorem dX11_scan_12 : decode cX11_scan 12 = .ok (.goto 4, 3) := by decide +kernel
theorem dX11_scan_15 : decode cX11_scan 15 = .ok (.iconst 0, 1) := by decide +kernel
theorem dX11_scan_16 : decode cX11_scan 16 = .ok (.istore_n 3, 1) := by decide +kernel
theorem dX11_scan_17 : decode cX11_scan 17 = .ok (.aload_n 0, 1) := by decide +kernel
theorem dX11_scan_18 : decode cX11_scan 18 = .ok (.aload_n 0, 1) := by decide +kernel
theorem dX11_scan_19 : decode cX11_scan 19 = .ok (.iconst 0, 1) := by decide +kernel
theorem dX11_scan_20 : decode cX11_scan 20 = .ok (.invokevirtual 133, 3) := by decide +kernel
theorem dX11_scan_23 : decode cX11_scan 23 = .ok (.putfield 100, 3) := by decide +kernel
theorem dX11_scan_26 : decode cX11_scan 26 = .ok (.aload_n 0, 1) := by decide +kernel
theorem dX11_scan_27 : decode cX11_scan 27 = .ok (.getfield 100, 3) := by decide +kernel
theorem dX11_scan_30 : decode cX11_scan 30 = .ok (.aload_n 0, 1) := by decide +kernel
theorem dX11_scan_31 : decode cX11_scan 31 = .ok (.iconst 0, 1) := by decide +kernel
theorem dX11_scan_32 : decode cX11_scan 32 = .ok (.invokevirtual 136, 3) := by decide +kernel
theorem dX11_scan_35 : decode cX11_scan 35 = .ok (.if_icmp .gt 217, 3) := by decide +kernel
theorem dX11_scan_38 : decode cX11_scan 38 = .ok (.aload_n 0, 1) := by decide +kernel
theorem dX11_scan_39 : decode cX11_scan 39 = .ok (.aload_n 0, 1) := by decide +kernel
theorem dX11_scan_40 : decode cX11_scan 40 = .ok (.iconst 1, 1) := by decide +kernel
theorem dX11_scan_41 : decode cX11_scan 41 = .ok (.invokevirtual 133, 3) := by decide +kernel
theorem dX11_scan_44 : decode cX11_scan 44 = .ok (.putfield 104, 3) := by decide +kernel
theorem dX11_scan_47 : decode cX11_scan 47 = .ok (.aload_n 0, 1) := by decide +kernel
theorem dX11_scan_48 : decode cX11_scan 48 = .ok (.getfield 104, 3) := by decide +kernel
theorem dX11_scan_51 : decode cX11_scan 51 = .ok (.aload_n 0, 1) := by decide +kernel
theorem dX11_scan_52 : decode cX11_scan 52 = .ok (.iconst 1, 1) := by decide +kernel
theorem dX11_scan_53 : decode cX11_scan 53 = .ok (.invokevirtual 136, 3) := by decide +kernel
theorem dX11_scan_56 : decode cX11_scan 56 = .ok (.if_icmp .gt 183, 3) := by decide +kernel
theorem dX11_scan_59 : decode cX11_scan 59 = .ok (.aload_n 0, 1) := by decide +kernel
theorem dX11_scan_60 : decode cX11_scan 60 = .ok (.iload_n 3, 1) := by decide +kernel
theorem dX11_scan_61 : decode cX11_scan 61 = .ok (.ifCond .eq 11, 3) := by decide +kernel
theorem dX11_scan_64 : decode cX11_scan 64 = .ok (.aload_n 0, 1) := by decide +kernel
theorem dX11_scan_65 : decode cX11_scan 65 = .ok (.iconst 2, 1) := by decide +kernel
theorem dX11_scan_66 : decode cX11_scan 66 = .ok (.invokevirtual 133, 3) := by decide +kernel
theorem dX11_scan_69 : decode cX11_scan 69 = .ok (.goto 4, 3) := by decide +kernel
theorem dX11_scan_72 : decode cX11_scan 72 = .ok (.iconst 0, 1) := by decide +kernel
theorem dX11_scan_73 : decode cX11_scan 73 = .ok (.putfield 107, 3) := by decide +kernel
theorem dX11_scan_76 : decode cX11_scan 76 = .ok (.aload_n 0, 1) := by decide +kernel
theorem dX11_scan_77 : decode cX11_scan 77 = .ok (.getfield 107, 3) := by decide +kernel
theorem dX11_scan_80 : decode cX11_scan 80 = .ok (.iload_n 3, 1) := by decide +kernel
theorem dX11_scan_81 : decode cX11_scan 81 = .ok (.ifCond .eq 11, 3) := by decide +kernel
theorem dX11_scan_84 : decode cX11_scan 84 = .ok (.aload_n 0, 1) := by decide +kernel
theorem dX11_scan_85 : decode cX11_scan 85 = .ok (.iconst 2, 1) := by decide +kernel
theorem dX11_scan_86 : decode cX11_scan 86 = .ok (.invokevirtual 136, 3) := by decide +kernel
theorem dX11_scan_89 : decode cX11_scan 89 = .ok (.goto 4, 3) := by decide +kernel
theorem dX11_scan_92 : decode cX11_scan 92 = .ok (.iconst 0, 1) := by decide +kernel
theorem dX11_scan_93 : decode cX11_scan 93 = .ok (.if_icmp .gt 133, 3) := by decide +kernel
theorem dX11_scan_96 : decode cX11_scan 96 = .ok (.aload_n 0, 1) := by decide +kernel
theorem dX11_scan_97 : decode cX11_scan 97 = .ok (.invokevirtual 139, 3) := by decide +kernel
theorem dX11_scan_100 : decode cX11_scan 100 = .ok (.ifCond .ne 6, 3) := by decide +kernel
theorem dX11_scan_103 : decode cX11_scan 103 = .ok (.goto 110, 3) := by decide +kernel
theorem dX11_scan_106 : decode cX11_scan 106 = .ok (.aload_n 0, 1) := by decide +kernel
theorem dX11_scan_107 : decode cX11_scan 107 = .ok (.aload_n 0, 1) := by decide +kernel
theorem dX11_scan_108 : decode cX11_scan 108 = .ok (.invokevirtual 120, 3) := by decide +kernel
theorem dX11_scan_111 : decode cX11_scan 111 = .ok (.ifCond .eq 11, 3) := by decide +kernel
theorem dX11_scan_114 : decode cX11_scan 114 = .ok (.aload_n 0, 1) := by decide +kernel
theorem dX11_scan_115 : decode cX11_scan 115 = .ok (.iconst 3, 1) := by decide +kernel
theorem dX11_scan_116 : decode cX11_scan 116 = .ok (.invokevirtual 133, 3) := by decide +kernel
theorem dX11_scan_119 : decode cX11_scan 119 = .ok (.goto 4, 3) := by decide +kernel
theorem dX11_scan_122 : decode cX11_scan 122 = .ok (.iconst 0, 1) := by decide +kernel
theorem dX11_scan_123 : decode cX11_scan 123 = .ok (.putfield 114, 3) := by decide +kernel
theorem dX11_scan_126 : decode cX11_scan 126 = .ok (.aload_n 0, 1) := by decide +kernel
theorem dX11_scan_127 : decode cX11_scan 127 = .ok (.getfield 114, 3) := by decide +kernel
theorem dX11_scan_130 : decode cX11_scan 130 = .ok (.aload_n 0, 1) := by decide +kernel
theorem dX11_scan_131 : decode cX11_scan 131 = .ok (.invokevirtual 120, 3) := by decide +kernel
theorem dX11_scan_134 : decode cX11_scan 134 = .ok (.ifCond .eq 11, 3) := by decide +kernel
theorem dX11_scan_137 : decode cX11_scan 137 = .ok (.aload_n 0, 1) := by decide +kernel
theorem dX11_scan_138 : decode cX11_scan 138 = .ok (.iconst 3, 1) := by decide +kernel
theorem dX11_scan_139 : decode cX11_scan 139 = .ok (.invokevirtual 136, 3) := by decide +kernel
theorem dX11_scan_142 : decode cX11_scan 142 = .ok (.goto 4, 3) := by decide +kernel
theorem dX11_scan_145 : decode cX11_scan 145 = .ok (.iconst 0, 1) := by decide +kernel
theorem dX11_scan_146 : decode cX11_scan 146 = .ok (.if_icmp .gt 67, 3) := by decide +kernel
theorem dX11_scan_149 : decode cX11_scan 149 = .ok (.aload_n 0, 1) := by decide +kernel
theorem dX11_scan_150 : decode cX11_scan 150 = .ok (.invokevirtual 120, 3) := by decide +kernel
theorem dX11_scan_153 : decode cX11_scan 153 = .ok (.ifCond .eq 25, 3) := by decide +kernel
theorem dX11_scan_156 : decode cX11_scan 156 = .ok (.aload_n 0, 1) := by decide +kernel
theorem dX11_scan_157 : decode cX11_scan 157 = .ok (.getfield 114, 3) := by decide +kernel
theorem dX11_scan_160 : decode cX11_scan 160 = .ok (.aload_n 0, 1) := by decide +kernel
theorem dX11_scan_161 : decode cX11_scan 161 = .ok (.getfield 7, 3) := by decide +kernel
theorem dX11_scan_164 : decode cX11_scan 164 = .ok (.bipush 22, 2) := by decide +kernel
theorem dX11_scan_166 : decode cX11_scan 166 = .ok (.aload_n 0, 1) := by decide +kernel
theorem dX11_scan_167 : decode cX11_scan 167 = .ok (.getfield 7, 3) := by decide +kernel
theorem dX11_scan_170 : decode cX11_scan 170 = .ok (.bipush 7, 2) := by decide +kernel
theorem dX11_scan_172 : decode cX11_scan 172 = .ok (.iaload, 1) := by decide +kernel
theorem dX11_scan_173 : decode cX11_scan 173 = .ok (.iadd, 1) := by decide +kernel
theorem dX11_scan_174 : decode cX11_scan 174 = .ok (.iaload, 1) := by decide +kernel
theorem dX11_scan_175 : decode cX11_scan 175 = .ok (.if_icmp .gt 25, 3) := by decide +kernel
theorem dX11_scan_178 : decode cX11_scan 178 = .ok (.aload_n 0, 1) := by decide +kernel
theorem dX11_scan_179 : decode cX11_scan 179 = .ok (.invokevirtual 142, 3) := by decide +kernel
theorem dX11_scan_182 : decode cX11_scan 182 = .ok (.ifCond .ne 6, 3) := by decide +kernel
theorem dX11_scan_185 : decode cX11_scan 185 = .ok (.goto 15, 3) := by decide +kernel
theorem dX11_scan_188 : decode cX11_scan 188 = .ok (.iinc 2 1, 3) := by decide +kernel
theorem dX11_scan_191 : decode cX11_scan 191 = .ok (.iload_n 2, 1) := by decide +kernel
theorem dX11_scan_192 : decode cX11_scan 192 = .ok (.iload_n 1, 1) := by decide +kernel
theorem dX11_scan_193 : decode cX11_scan 193 = .ok (.iconst 1, 1) := by decide +kernel
theorem dX11_scan_194 : decode cX11_scan 194 = .ok (.iadd, 1) := by decide +kernel
theorem dX11_scan_195 : decode cX11_scan 195 = .ok (.if_icmp .ne 5, 3) := by decide +kernel
theorem dX11_scan_198 : decode cX11_scan 198 = .ok (.iload_n 2, 1) := by decide +kernel
theorem dX11_scan_199 : decode cX11_scan 199 = .ok (.ireturn, 1) := by decide +kernel
theorem dX11_scan_200 : decode cX11_scan 200 = .ok (.aload_n 0, 1) := by decide +kernel
theorem dX11_scan_201 : decode cX11_scan 201 = .ok (.dup, 1) := by decide +kernel
theorem dX11_scan_202 : decode cX11_scan 202 = .ok (.getfield 114, 3) := by decide +kernel
theorem dX11_scan_205 : decode cX11_scan 205 = .ok (.iconst 1, 1) := by decide +kernel
theorem dX11_scan_206 : decode cX11_scan 206 = .ok (.iadd, 1) := by decide +kernel
theorem dX11_scan_207 : decode cX11_scan 207 = .ok (.putfield 114, 3) := by decide +kernel
theorem dX11_scan_210 : decode cX11_scan 210 = .ok (.goto (-84), 3) := by decide +kernel
theorem dX11_scan_213 : decode cX11_scan 213 = .ok (.aload_n 0, 1) := by decide +kernel
theorem dX11_scan_214 : decode cX11_scan 214 = .ok (.dup, 1) := by decide +kernel
theorem dX11_scan_215 : decode cX11_scan 215 = .ok (.getfield 107, 3) := by decide +kernel
theorem dX11_scan_218 : decode cX11_scan 218 = .ok (.iconst 1, 1) := by decide +kernel
theorem dX11_scan_219 : decode cX11_scan 219 = .ok (.iadd, 1) := by decide +kernel
theorem dX11_scan_220 : decode cX11_scan 220 = .ok (.putfield 107, 3) := by decide +kernel
theorem dX11_scan_223 : decode cX11_scan 223 = .ok (.goto (-147), 3) := by decide +kernel
theorem dX11_scan_226 : decode cX11_scan 226 = .ok (.aload_n 0, 1) := by decide +kernel
theorem dX11_scan_227 : decode cX11_scan 227 = .ok (.dup, 1) := by decide +kernel
theorem dX11_scan_228 : decode cX11_scan 228 = .ok (.getfield 104, 3) := by decide +kernel
theorem dX11_scan_231 : decode cX11_scan 231 = .ok (.iconst 1, 1) := by decide +kernel
theorem dX11_scan_232 : decode cX11_scan 232 = .ok (.iadd, 1) := by decide +kernel
theorem dX11_scan_233 : decode cX11_scan 233 = .ok (.putfield 104, 3) := by decide +kernel
theorem dX11_scan_236 : decode cX11_scan 236 = .ok (.goto (-189), 3) := by decide +kernel
theorem dX11_scan_239 : decode cX11_scan 239 = .ok (.aload_n 0, 1) := by decide +kernel
theorem dX11_scan_240 : decode cX11_scan 240 = .ok (.dup, 1) := by decide +kernel
theorem dX11_scan_241 : decode cX11_scan 241 = .ok (.getfield 100, 3) := by decide +kernel
theorem dX11_scan_244 : decode cX11_scan 244 = .ok (.iconst 1, 1) := by decide +kernel
theorem dX11_scan_245 : decode cX11_scan 245 = .ok (.iadd, 1) := by decide +kernel
theorem dX11_scan_246 : decode cX11_scan 246 = .ok (.putfield 100, 3) := by decide +kernel
theorem dX11_scan_249 : decode cX11_scan 249 = .ok (.goto (-223), 3) := by decide +kernel
theorem dX11_scan_252 : decode cX11_scan 252 = .ok (.iload_n 2, 1) := by decide +kernel
theorem dX11_scan_253 : decode cX11_scan 253 = .ok (.ireturn, 1) := by decide +kernel
theorem dX11_looks_0 : decode cX11_looks 0 = .ok (.aload_n 0, 1) := by decide +kernel
theorem dX11_looks_1 : decode cX11_looks 1 = .ok (.invokevirtual 96, 3) := by decide +kernel
theorem dX11_looks_4 : decode cX11_looks 4 = .ok (.ifCond .lt 28, 3) := by decide +kernel
theorem dX11_looks_7 : decode cX11_looks 7 = .ok (.iload_n 1, 1) := by decide +kernel
theorem dX11_looks_8 : decode cX11_looks 8 = .ok (.ifCond .lt 24, 3) := by decide +kernel
theorem dX11_looks_11 : decode cX11_looks 11 = .ok (.iload_n 1, 1) := by decide +kernel
theorem dX11_looks_12 : decode cX11_looks 12 = .ok (.ldc 145, 2) := by decide +kernel
theorem dX11_looks_14 : decode cX11_looks 14 = .ok (.if_icmp .ge 18, 3) := by decide +kernel
theorem dX11_looks_17 : decode cX11_looks 17 = .ok (.aload_n 0, 1) := by decide +kernel
theorem dX11_looks_18 : decode cX11_looks 18 = .ok (.iload_n 1, 1) := by decide +kernel
theorem dX11_looks_19 : decode cX11_looks 19 = .ok (.invokevirtual 92, 3) := by decide +kernel
theorem dX11_looks_22 : decode cX11_looks 22 = .ok (.iload_n 1, 1) := by decide +kernel
theorem dX11_looks_23 : decode cX11_looks 23 = .ok (.iconst 1, 1) := by decide +kernel
theorem dX11_looks_24 : decode cX11_looks 24 = .ok (.iadd, 1) := by decide +kernel
theorem dX11_looks_25 : decode cX11_looks 25 = .ok (.if_icmp .ne 7, 3) := by decide +kernel
theorem dX11_looks_28 : decode cX11_looks 28 = .ok (.iconst 1, 1) := by decide +kernel
theorem dX11_looks_29 : decode cX11_looks 29 = .ok (.goto 4, 3) := by decide +kernel
theorem dX11_looks_32 : decode cX11_looks 32 = .ok (.iconst 0, 1) := by decide +kernel
theorem dX11_looks_33 : decode cX11_looks 33 = .ok (.ireturn, 1) := by decide +kernel
theorem dX11_sets_0 : decode cX11_sets 0 = .ok (.aload_n 0, 1) := by decide +kernel
theorem dX11_sets_1 : decode cX11_sets 1 = .ok (.invokevirtual 96, 3) := by decide +kernel
theorem dX11_sets_4 : decode cX11_sets 4 = .ok (.ifCond .ge 7, 3) := by decide +kernel
theorem dX11_sets_7 : decode cX11_sets 7 = .ok (.iconst (-1), 1) := by decide +kernel
theorem dX11_sets_8 : decode cX11_sets 8 = .ok (.goto 8, 3) := by decide +kernel
theorem dX11_sets_11 : decode cX11_sets 11 = .ok (.aload_n 0, 1) := by decide +kernel
theorem dX11_sets_12 : decode cX11_sets 12 = .ok (.iconst (-1), 1) := by decide +kernel
theorem dX11_sets_13 : decode cX11_sets 13 = .ok (.invokevirtual 92, 3) := by decide +kernel
theorem dX11_sets_16 : decode cX11_sets 16 = .ok (.ireturn, 1) := by decide +kernel
theorem dX11_set_0 : decode cX11_set 0 = .ok (.iload_n 2, 1) := by decide +kernel
theorem dX11_set_1 : decode cX11_set 1 = .ok (.iconst 0, 1) := by decide +kernel
theorem dX11_set_2 : decode cX11_set 2 = .ok (.bipush 10, 2) := by decide +kernel
theorem dX11_set_4 : decode cX11_set 4 = .ok (.invokestatic 67, 3) := by decide +kernel
theorem dX11_set_7 : decode cX11_set 7 = .ok (.ifCond .eq 11, 3) := by decide +kernel
theorem dX11_set_10 : decode cX11_set 10 = .ok (.aload_n 0, 1) := by decide +kernel
theorem dX11_set_11 : decode cX11_set 11 = .ok (.iload_n 1, 1) := by decide +kernel
theorem dX11_set_12 : decode cX11_set 12 = .ok (.invokevirtual 146, 3) := by decide +kernel
theorem dX11_set_15 : decode cX11_set 15 = .ok (.ifCond .ne 5, 3) := by decide +kernel
theorem dX11_set_18 : decode cX11_set 18 = .ok (.iconst (-1), 1) := by decide +kernel
theorem dX11_set_19 : decode cX11_set 19 = .ok (.ireturn, 1) := by decide +kernel
theorem dX11_set_20 : decode cX11_set 20 = .ok (.iload_n 2, 1) := by decide +kernel
theorem dX11_set_21 : decode cX11_set 21 = .ok (.tableswitch 60 0 4 #[35, 40, 45, 50, 55], 35) := by decide +kernel
theorem dX11_set_56 : decode cX11_set 56 = .ok (.aload_n 0, 1) := by decide +kernel
theorem dX11_set_57 : decode cX11_set 57 = .ok (.getfield 100, 3) := by decide +kernel
theorem dX11_set_60 : decode cX11_set 60 = .ok (.ireturn, 1) := by decide +kernel
theorem dX11_set_61 : decode cX11_set 61 = .ok (.aload_n 0, 1) := by decide +kernel
theorem dX11_set_62 : decode cX11_set 62 = .ok (.getfield 104, 3) := by decide +kernel
theorem dX11_set_65 : decode cX11_set 65 = .ok (.ireturn, 1) := by decide +kernel
theorem dX11_set_66 : decode cX11_set 66 = .ok (.aload_n 0, 1) := by decide +kernel
theorem dX11_set_67 : decode cX11_set 67 = .ok (.getfield 107, 3) := by decide +kernel
theorem dX11_set_70 : decode cX11_set 70 = .ok (.ireturn, 1) := by decide +kernel
theorem dX11_set_71 : decode cX11_set 71 = .ok (.aload_n 0, 1) := by decide +kernel
theorem dX11_set_72 : decode cX11_set 72 = .ok (.getfield 114, 3) := by decide +kernel
theorem dX11_set_75 : decode cX11_set 75 = .ok (.ireturn, 1) := by decide +kernel
theorem dX11_set_76 : decode cX11_set 76 = .ok (.aload_n 0, 1) := by decide +kernel
theorem dX11_set_77 : decode cX11_set 77 = .ok (.invokevirtual 117, 3) := by decide +kernel
theorem dX11_set_80 : decode cX11_set 80 = .ok (.ireturn, 1) := by decide +kernel
theorem dX11_set_81 : decode cX11_set 81 = .ok (.aload_n 0, 1) := by decide +kernel
theorem dX11_set_82 : decode cX11_set 82 = .ok (.iload_n 2, 1) := by decide +kernel
theorem dX11_set_83 : decode cX11_set 83 = .ok (.iconst 5, 1) := by decide +kernel
theorem dX11_set_84 : decode cX11_set 84 = .ok (.isub, 1) := by decide +kernel
theorem dX11_set_85 : decode cX11_set 85 = .ok (.invokevirtual 130, 3) := by decide +kernel
theorem dX11_set_88 : decode cX11_set 88 = .ok (.ireturn, 1) := by decide +kernel
theorem dX11_tells_0 : decode cX11_tells 0 = .ok (.aload_n 0, 1) := by decide +kernel
theorem dX11_tells_1 : decode cX11_tells 1 = .ok (.iload_n 1, 1) := by decide +kernel
theorem dX11_tells_2 : decode cX11_tells 2 = .ok (.invokevirtual 146, 3) := by decide +kernel
theorem dX11_tells_5 : decode cX11_tells 5 = .ok (.ifCond .ne 5, 3) := by decide +kernel
theorem dX11_tells_8 : decode cX11_tells 8 = .ok (.iconst (-1), 1) := by decide +kernel
theorem dX11_tells_9 : decode cX11_tells 9 = .ok (.ireturn, 1) := by decide +kernel
theorem dX11_tells_10 : decode cX11_tells 10 = .ok (.aload_n 0, 1) := by decide +kernel
theorem dX11_tells_11 : decode cX11_tells 11 = .ok (.invokevirtual 117, 3) := by decide +kernel
theorem dX11_tells_14 : decode cX11_tells 14 = .ok (.iload_n 2, 1) := by decide +kernel
theorem dX11_tells_15 : decode cX11_tells 15 = .ok (.if_icmp .ne 8, 3) := by decide +kernel
theorem dX11_tells_18 : decode cX11_tells 18 = .ok (.bipush 64, 2) := by decide +kernel
theorem dX11_tells_20 : decode cX11_tells 20 = .ok (.goto 4, 3) := by decide +kernel
theorem dX11_tells_23 : decode cX11_tells 23 = .ok (.iconst 0, 1) := by decide +kernel
theorem dX11_tells_24 : decode cX11_tells 24 = .ok (.istore_n 3, 1) := by decide +kernel
theorem dX11_tells_25 : decode cX11_tells 25 = .ok (.iconst 0, 1) := by decide +kernel
theorem dX11_tells_26 : decode cX11_tells 26 = .ok (.istore 4, 2) := by decide +kernel
theorem dX11_tells_28 : decode cX11_tells 28 = .ok (.iload 4, 2) := by decide +kernel
theorem dX11_tells_30 : decode cX11_tells 30 = .ok (.bipush 6, 2) := by decide +kernel
theorem dX11_tells_32 : decode cX11_tells 32 = .ok (.if_icmp .ge 35, 3) := by decide +kernel
theorem dX11_tells_35 : decode cX11_tells 35 = .ok (.aload_n 0, 1) := by decide +kernel
theorem dX11_tells_36 : decode cX11_tells 36 = .ok (.iload 4, 2) := by decide +kernel
theorem dX11_tells_38 : decode cX11_tells 38 = .ok (.invokevirtual 127, 3) := by decide +kernel
theorem dX11_tells_41 : decode cX11_tells 41 = .ok (.ifCond .eq 20, 3) := by decide +kernel
theorem dX11_tells_44 : decode cX11_tells 44 = .ok (.aload_n 0, 1) := by decide +kernel
theorem dX11_tells_45 : decode cX11_tells 45 = .ok (.iload 4, 2) := by decide +kernel
theorem dX11_tells_47 : decode cX11_tells 47 = .ok (.invokevirtual 130, 3) := by decide +kernel
theorem dX11_tells_50 : decode cX11_tells 50 = .ok (.iload_n 2, 1) := by decide +kernel
theorem dX11_tells_51 : decode cX11_tells 51 = .ok (.if_icmp .ne 10, 3) := by decide +kernel
theorem dX11_tells_54 : decode cX11_tells 54 = .ok (.iload_n 3, 1) := by decide +kernel
theorem dX11_tells_55 : decode cX11_tells 55 = .ok (.iconst 1, 1) := by decide +kernel
theorem dX11_tells_56 : decode cX11_tells 56 = .ok (.iload 4, 2) := by decide +kernel
theorem dX11_tells_58 : decode cX11_tells 58 = .ok (.ishl, 1) := by decide +kernel
theorem dX11_tells_59 : decode cX11_tells 59 = .ok (.ior, 1) := by decide +kernel
theorem dX11_tells_60 : decode cX11_tells 60 = .ok (.istore_n 3, 1) := by decide +kernel
theorem dX11_tells_61 : decode cX11_tells 61 = .ok (.iinc 4 1, 3) := by decide +kernel
theorem dX11_tells_64 : decode cX11_tells 64 = .ok (.goto (-36), 3) := by decide +kernel
theorem dX11_tells_67 : decode cX11_tells 67 = .ok (.iload_n 3, 1) := by decide +kernel
theorem dX11_tells_68 : decode cX11_tells 68 = .ok (.ireturn, 1) := by decide +kernel
theorem dX11_sheet_0 : decode cX11_sheet 0 = .ok (.aload_n 0, 1) := by decide +kernel
theorem dX11_sheet_1 : decode cX11_sheet 1 = .ok (.invokevirtual 96, 3) := by decide +kernel
theorem dX11_sheet_4 : decode cX11_sheet 4 = .ok (.ifCond .lt 13, 3) := by decide +kernel
theorem dX11_sheet_7 : decode cX11_sheet 7 = .ok (.iload_n 1, 1) := by decide +kernel
theorem dX11_sheet_8 : decode cX11_sheet 8 = .ok (.iconst 1, 1) := by decide +kernel
theorem dX11_sheet_9 : decode cX11_sheet 9 = .ok (.bipush 20, 2) := by decide +kernel
theorem dX11_sheet_11 : decode cX11_sheet 11 = .ok (.invokestatic 67, 3) := by decide +kernel
theorem dX11_sheet_14 : decode cX11_sheet 14 = .ok (.ifCond .ne 5, 3) := by decide +kernel
theorem dX11_sheet_17 : decode cX11_sheet 17 = .ok (.iconst (-1), 1) := by decide +kernel
theorem dX11_sheet_18 : decode cX11_sheet 18 = .ok (.ireturn, 1) := by decide +kernel
theorem dX11_sheet_19 : decode cX11_sheet 19 = .ok (.iconst 0, 1) := by decide +kernel
theorem dX11_sheet_20 : decode cX11_sheet 20 = .ok (.istore_n 2, 1) := by decide +kernel
theorem dX11_sheet_21 : decode cX11_sheet 21 = .ok (.aload_n 0, 1) := by decide +kernel
theorem dX11_sheet_22 : decode cX11_sheet 22 = .ok (.getfield 7, 3) := by decide +kernel
theorem dX11_sheet_25 : decode cX11_sheet 25 = .ok (.bipush 9, 2) := by decide +kernel
theorem dX11_sheet_27 : decode cX11_sheet 27 = .ok (.iconst 0, 1) := by decide +kernel
theorem dX11_sheet_28 : decode cX11_sheet 28 = .ok (.iastore, 1) := by decide +kernel
theorem dX11_sheet_29 : decode cX11_sheet 29 = .ok (.aload_n 0, 1) := by decide +kernel
theorem dX11_sheet_30 : decode cX11_sheet 30 = .ok (.invokevirtual 96, 3) := by decide +kernel
theorem dX11_sheet_33 : decode cX11_sheet 33 = .ok (.bipush 7, 2) := by decide +kernel
theorem dX11_sheet_35 : decode cX11_sheet 35 = .ok (.if_icmp .ne 7, 3) := by decide +kernel
theorem dX11_sheet_38 : decode cX11_sheet 38 = .ok (.iconst 1, 1) := by decide +kernel
theorem dX11_sheet_39 : decode cX11_sheet 39 = .ok (.goto 4, 3) := by decide +kernel
theorem dX11_sheet_42 : decode cX11_sheet 42 = .ok (.iconst 0, 1) := by decide +kernel
theorem dX11_sheet_43 : decode cX11_sheet 43 = .ok (.istore_n 3, 1) := by decide +kernel
theorem dX11_sheet_44 : decode cX11_sheet 44 = .ok (.aload_n 0, 1) := by decide +kernel
theorem dX11_sheet_45 : decode cX11_sheet 45 = .ok (.aload_n 0, 1) := by decide +kernel
theorem dX11_sheet_46 : decode cX11_sheet 46 = .ok (.iconst 0, 1) := by decide +kernel
theorem dX11_sheet_47 : decode cX11_sheet 47 = .ok (.invokevirtual 133, 3) := by decide +kernel
theorem dX11_sheet_50 : decode cX11_sheet 50 = .ok (.putfield 100, 3) := by decide +kernel
theorem dX11_sheet_53 : decode cX11_sheet 53 = .ok (.aload_n 0, 1) := by decide +kernel
theorem dX11_sheet_54 : decode cX11_sheet 54 = .ok (.getfield 100, 3) := by decide +kernel
theorem dX11_sheet_57 : decode cX11_sheet 57 = .ok (.aload_n 0, 1) := by decide +kernel
theorem dX11_sheet_58 : decode cX11_sheet 58 = .ok (.iconst 0, 1) := by decide +kernel
theorem dX11_sheet_59 : decode cX11_sheet 59 = .ok (.invokevirtual 136, 3) := by decide +kernel
theorem dX11_sheet_62 : decode cX11_sheet 62 = .ok (.if_icmp .gt 226, 3) := by decide +kernel
theorem dX11_sheet_65 : decode cX11_sheet 65 = .ok (.aload_n 0, 1) := by decide +kernel
theorem dX11_sheet_66 : decode cX11_sheet 66 = .ok (.aload_n 0, 1) := by decide +kernel
theorem dX11_sheet_67 : decode cX11_sheet 67 = .ok (.iconst 1, 1) := by decide +kernel
theorem dX11_sheet_68 : decode cX11_sheet 68 = .ok (.invokevirtual 133, 3) := by decide +kernel
theorem dX11_sheet_71 : decode cX11_sheet 71 = .ok (.putfield 104, 3) := by decide +kernel
theorem dX11_sheet_74 : decode cX11_sheet 74 = .ok (.aload_n 0, 1) := by decide +kernel
theorem dX11_sheet_75 : decode cX11_sheet 75 = .ok (.getfield 104, 3) := by decide +kernel
theorem dX11_sheet_78 : decode cX11_sheet 78 = .ok (.aload_n 0, 1) := by decide +kernel
theorem dX11_sheet_79 : decode cX11_sheet 79 = .ok (.iconst 1, 1) := by decide +kernel
theorem dX11_sheet_80 : decode cX11_sheet 80 = .ok (.invokevirtual 136, 3) := by decide +kernel
theorem dX11_sheet_83 : decode cX11_sheet 83 = .ok (.if_icmp .gt 192, 3) := by decide +kernel
theorem dX11_sheet_86 : decode cX11_sheet 86 = .ok (.aload_n 0, 1) := by decide +kernel
theorem dX11_sheet_87 : decode cX11_sheet 87 = .ok (.iload_n 3, 1) := by decide +kernel
theorem dX11_sheet_88 : decode cX11_sheet 88 = .ok (.ifCond .eq 11, 3) := by decide +kernel
theorem dX11_sheet_91 : decode cX11_sheet 91 = .ok (.aload_n 0, 1) := by decide +kernel
theorem dX11_sheet_92 : decode cX11_sheet 92 = .ok (.iconst 2, 1) := by decide +kernel
theorem dX11_sheet_93 : decode cX11_sheet 93 = .ok (.invokevirtual 133, 3) := by decide +kernel
theorem dX11_sheet_96 : decode cX11_sheet 96 = .ok (.goto 4, 3) := by decide +kernel
theorem dX11_sheet_99 : decode cX11_sheet 99 = .ok (.iconst 0, 1) := by decide +kernel
theorem dX11_sheet_100 : decode cX11_sheet 100 = .ok (.putfield 107, 3) := by decide +kernel
theorem dX11_sheet_103 : decode cX11_sheet 103 = .ok (.aload_n 0, 1) := by decide +kernel
theorem dX11_sheet_104 : decode cX11_sheet 104 = .ok (.getfield 107, 3) := by decide +kernel
theorem dX11_sheet_107 : decode cX11_sheet 107 = .ok (.iload_n 3, 1) := by decide +kernel
theorem dX11_sheet_108 : decode cX11_sheet 108 = .ok (.ifCond .eq 11, 3) := by decide +kernel
theorem dX11_sheet_111 : decode cX11_sheet 111 = .ok (.aload_n 0, 1) := by decide +kernel
theorem dX11_sheet_112 : decode cX11_sheet 112 = .ok (.iconst 2, 1) := by decide +kernel
theorem dX11_sheet_113 : decode cX11_sheet 113 = .ok (.invokevirtual 136, 3) := by decide +kernel
theorem dX11_sheet_116 : decode cX11_sheet 116 = .ok (.goto 4, 3) := by decide +kernel
theorem dX11_sheet_119 : decode cX11_sheet 119 = .ok (.iconst 0, 1) := by decide +kernel
theorem dX11_sheet_120 : decode cX11_sheet 120 = .ok (.if_icmp .gt 142, 3) := by decide +kernel
theorem dX11_sheet_123 : decode cX11_sheet 123 = .ok (.aload_n 0, 1) := by decide +kernel
theorem dX11_sheet_124 : decode cX11_sheet 124 = .ok (.invokevirtual 139, 3) := by decide +kernel
theorem dX11_sheet_127 : decode cX11_sheet 127 = .ok (.ifCond .ne 6, 3) := by decide +kernel
theorem dX11_sheet_130 : decode cX11_sheet 130 = .ok (.goto 119, 3) := by decide +kernel
theorem dX11_sheet_133 : decode cX11_sheet 133 = .ok (.aload_n 0, 1) := by decide +kernel
theorem dX11_sheet_134 : decode cX11_sheet 134 = .ok (.aload_n 0, 1) := by decide +kernel
theorem dX11_sheet_135 : decode cX11_sheet 135 = .ok (.invokevirtual 120, 3) := by decide +kernel
theorem dX11_sheet_138 : decode cX11_sheet 138 = .ok (.ifCond .eq 11, 3) := by decide +kernel
theorem dX11_sheet_141 : decode cX11_sheet 141 = .ok (.aload_n 0, 1) := by decide +kernel
theorem dX11_sheet_142 : decode cX11_sheet 142 = .ok (.iconst 3, 1) := by decide +kernel
theorem dX11_sheet_143 : decode cX11_sheet 143 = .ok (.invokevirtual 133, 3) := by decide +kernel
theorem dX11_sheet_146 : decode cX11_sheet 146 = .ok (.goto 4, 3) := by decide +kernel
theorem dX11_sheet_149 : decode cX11_sheet 149 = .ok (.iconst 0, 1) := by decide +kernel
theorem dX11_sheet_150 : decode cX11_sheet 150 = .ok (.putfield 114, 3) := by decide +kernel
theorem dX11_sheet_153 : decode cX11_sheet 153 = .ok (.aload_n 0, 1) := by decide +kernel
theorem dX11_sheet_154 : decode cX11_sheet 154 = .ok (.getfield 114, 3) := by decide +kernel
theorem dX11_sheet_157 : decode cX11_sheet 157 = .ok (.aload_n 0, 1) := by decide +kernel
theorem dX11_sheet_158 : decode cX11_sheet 158 = .ok (.invokevirtual 120, 3) := by decide +kernel
theorem dX11_sheet_161 : decode cX11_sheet 161 = .ok (.ifCond .eq 11, 3) := by decide +kernel
theorem dX11_sheet_164 : decode cX11_sheet 164 = .ok (.aload_n 0, 1) := by decide +kernel
theorem dX11_sheet_165 : decode cX11_sheet 165 = .ok (.iconst 3, 1) := by decide +kernel
theorem dX11_sheet_166 : decode cX11_sheet 166 = .ok (.invokevirtual 136, 3) := by decide +kernel
theorem dX11_sheet_169 : decode cX11_sheet 169 = .ok (.goto 4, 3) := by decide +kernel
theorem dX11_sheet_172 : decode cX11_sheet 172 = .ok (.iconst 0, 1) := by decide +kernel
theorem dX11_sheet_173 : decode cX11_sheet 173 = .ok (.if_icmp .gt 76, 3) := by decide +kernel
theorem dX11_sheet_176 : decode cX11_sheet 176 = .ok (.aload_n 0, 1) := by decide +kernel
theorem dX11_sheet_177 : decode cX11_sheet 177 = .ok (.invokevirtual 120, 3) := by decide +kernel
theorem dX11_sheet_180 : decode cX11_sheet 180 = .ok (.ifCond .eq 25, 3) := by decide +kernel
theorem dX11_sheet_183 : decode cX11_sheet 183 = .ok (.aload_n 0, 1) := by decide +kernel
theorem dX11_sheet_184 : decode cX11_sheet 184 = .ok (.getfield 114, 3) := by decide +kernel
theorem dX11_sheet_187 : decode cX11_sheet 187 = .ok (.aload_n 0, 1) := by decide +kernel
theorem dX11_sheet_188 : decode cX11_sheet 188 = .ok (.getfield 7, 3) := by decide +kernel
theorem dX11_sheet_191 : decode cX11_sheet 191 = .ok (.bipush 22, 2) := by decide +kernel
theorem dX11_sheet_193 : decode cX11_sheet 193 = .ok (.aload_n 0, 1) := by decide +kernel
theorem dX11_sheet_194 : decode cX11_sheet 194 = .ok (.getfield 7, 3) := by decide +kernel
theorem dX11_sheet_197 : decode cX11_sheet 197 = .ok (.bipush 7, 2) := by decide +kernel
theorem dX11_sheet_199 : decode cX11_sheet 199 = .ok (.iaload, 1) := by decide +kernel
theorem dX11_sheet_200 : decode cX11_sheet 200 = .ok (.iadd, 1) := by decide +kernel
theorem dX11_sheet_201 : decode cX11_sheet 201 = .ok (.iaload, 1) := by decide +kernel
theorem dX11_sheet_202 : decode cX11_sheet 202 = .ok (.if_icmp .gt 34, 3) := by decide +kernel
theorem dX11_sheet_205 : decode cX11_sheet 205 = .ok (.aload_n 0, 1) := by decide +kernel
theorem dX11_sheet_206 : decode cX11_sheet 206 = .ok (.invokevirtual 142, 3) := by decide +kernel
theorem dX11_sheet_209 : decode cX11_sheet 209 = .ok (.ifCond .ne 6, 3) := by decide +kernel
theorem dX11_sheet_212 : decode cX11_sheet 212 = .ok (.goto 24, 3) := by decide +kernel
theorem dX11_sheet_215 : decode cX11_sheet 215 = .ok (.aload_n 0, 1) := by decide +kernel
theorem dX11_sheet_216 : decode cX11_sheet 216 = .ok (.iload_n 2, 1) := by decide +kernel
theorem dX11_sheet_217 : decode cX11_sheet 217 = .ok (.invokevirtual 149, 3) := by decide +kernel
theorem dX11_sheet_220 : decode cX11_sheet 220 = .ok (.iinc 2 1, 3) := by decide +kernel
theorem dX11_sheet_223 : decode cX11_sheet 223 = .ok (.aload_n 0, 1) := by decide +kernel
theorem dX11_sheet_224 : decode cX11_sheet 224 = .ok (.getfield 7, 3) := by decide +kernel
theorem dX11_sheet_227 : decode cX11_sheet 227 = .ok (.bipush 9, 2) := by decide +kernel
theorem dX11_sheet_229 : decode cX11_sheet 229 = .ok (.iaload, 1) := by decide +kernel
theorem dX11_sheet_230 : decode cX11_sheet 230 = .ok (.iload_n 1, 1) := by decide +kernel
theorem dX11_sheet_231 : decode cX11_sheet 231 = .ok (.if_icmp .ne 5, 3) := by decide +kernel
theorem dX11_sheet_234 : decode cX11_sheet 234 = .ok (.iload_n 1, 1) := by decide +kernel
theorem dX11_sheet_235 : decode cX11_sheet 235 = .ok (.ireturn, 1) := by decide +kernel
theorem dX11_sheet_236 : decode cX11_sheet 236 = .ok (.aload_n 0, 1) := by decide +kernel
theorem dX11_sheet_237 : decode cX11_sheet 237 = .ok (.dup, 1) := by decide +kernel
theorem dX11_sheet_238 : decode cX11_sheet 238 = .ok (.getfield 114, 3) := by decide +kernel
theorem dX11_sheet_241 : decode cX11_sheet 241 = .ok (.iconst 1, 1) := by decide +kernel
theorem dX11_sheet_242 : decode cX11_sheet 242 = .ok (.iadd, 1) := by decide +kernel
theorem dX11_sheet_243 : decode cX11_sheet 243 = .ok (.putfield 114, 3) := by decide +kernel
theorem dX11_sheet_246 : decode cX11_sheet 246 = .ok (.goto (-93), 3) := by decide +kernel
theorem dX11_sheet_249 : decode cX11_sheet 249 = .ok (.aload_n 0, 1) := by decide +kernel
theorem dX11_sheet_250 : decode cX11_sheet 250 = .ok (.dup, 1) := by decide +kernel
theorem dX11_sheet_251 : decode cX11_sheet 251 = .ok (.getfield 107, 3) := by decide +kernel
theorem dX11_sheet_254 : decode cX11_sheet 254 = .ok (.iconst 1, 1) := by decide +kernel
theorem dX11_sheet_255 : decode cX11_sheet 255 = .ok (.iadd, 1) := by decide +kernel
theorem dX11_sheet_256 : decode cX11_sheet 256 = .ok (.putfield 107, 3) := by decide +kernel
theorem dX11_sheet_259 : decode cX11_sheet 259 = .ok (.goto (-156), 3) := by decide +kernel
theorem dX11_sheet_262 : decode cX11_sheet 262 = .ok (.aload_n 0, 1) := by decide +kernel
theorem dX11_sheet_263 : decode cX11_sheet 263 = .ok (.dup, 1) := by decide +kernel
theorem dX11_sheet_264 : decode cX11_sheet 264 = .ok (.getfield 104, 3) := by decide +kernel
theorem dX11_sheet_267 : decode cX11_sheet 267 = .ok (.iconst 1, 1) := by decide +kernel
theorem dX11_sheet_268 : decode cX11_sheet 268 = .ok (.iadd, 1) := by decide +kernel
theorem dX11_sheet_269 : decode cX11_sheet 269 = .ok (.putfield 104, 3) := by decide +kernel
theorem dX11_sheet_272 : decode cX11_sheet 272 = .ok (.goto (-198), 3) := by decide +kernel
theorem dX11_sheet_275 : decode cX11_sheet 275 = .ok (.aload_n 0, 1) := by decide +kernel
theorem dX11_sheet_276 : decode cX11_sheet 276 = .ok (.dup, 1) := by decide +kernel
theorem dX11_sheet_277 : decode cX11_sheet 277 = .ok (.getfield 100, 3) := by decide +kernel
theorem dX11_sheet_280 : decode cX11_sheet 280 = .ok (.iconst 1, 1) := by decide +kernel
theorem dX11_sheet_281 : decode cX11_sheet 281 = .ok (.iadd, 1) := by decide +kernel
theorem dX11_sheet_282 : decode cX11_sheet 282 = .ok (.putfield 100, 3) := by decide +kernel
theorem dX11_sheet_285 : decode cX11_sheet 285 = .ok (.goto (-232), 3) := by decide +kernel
theorem dX11_sheet_288 : decode cX11_sheet 288 = .ok (.aload_n 0, 1) := by decide +kernel
theorem dX11_sheet_289 : decode cX11_sheet 289 = .ok (.getfield 7, 3) := by decide +kernel
theorem dX11_sheet_292 : decode cX11_sheet 292 = .ok (.bipush 9, 2) := by decide +kernel
theorem dX11_sheet_294 : decode cX11_sheet 294 = .ok (.iaload, 1) := by decide +kernel
theorem dX11_sheet_295 : decode cX11_sheet 295 = .ok (.ireturn, 1) := by decide +kernel
theorem dX11_comes_0 : decode cX11_comes 0 = .ok (.aload_n 0, 1) := by decide +kernel
theorem dX11_comes_1 : decode cX11_comes 1 = .ok (.invokevirtual 117, 3) := by decide +kernel
theorem dX11_comes_4 : decode cX11_comes 4 = .ok (.istore_n 2, 1) := by decide +kernel
theorem dX11_comes_5 : decode cX11_comes 5 = .ok (.iconst 0, 1) := by decide +kernel
theorem dX11_comes_6 : decode cX11_comes 6 = .ok (.istore_n 3, 1) := by decide +kernel
theorem dX11_comes_7 : decode cX11_comes 7 = .ok (.iload_n 3, 1) := by decide +kernel
theorem dX11_comes_8 : decode cX11_comes 8 = .ok (.aload_n 0, 1) := by decide +kernel
theorem dX11_comes_9 : decode cX11_comes 9 = .ok (.getfield 7, 3) := by decide +kernel
theorem dX11_comes_12 : decode cX11_comes 12 = .ok (.bipush 9, 2) := by decide +kernel
theorem dX11_comes_14 : decode cX11_comes 14 = .ok (.iaload, 1) := by decide +kernel
theorem dX11_comes_15 : decode cX11_comes 15 = .ok (.if_icmp .ge 20, 3) := by decide +kernel
theorem dX11_comes_18 : decode cX11_comes 18 = .ok (.aload_n 0, 1) := by decide +kernel
theorem dX11_comes_19 : decode cX11_comes 19 = .ok (.getfield 21, 3) := by decide +kernel
theorem dX11_comes_22 : decode cX11_comes 22 = .ok (.iload_n 3, 1) := by decide +kernel
theorem dX11_comes_23 : decode cX11_comes 23 = .ok (.iaload, 1) := by decide +kernel
theorem dX11_comes_24 : decode cX11_comes 24 = .ok (.iload_n 2, 1) := by decide +kernel
theorem dX11_comes_25 : decode cX11_comes 25 = .ok (.if_icmp .ne 4, 3) := by decide +kernel
theorem dX11_comes_28 : decode cX11_comes 28 = .ok (.return_, 1) := by decide +kernel
theorem dX11_comes_29 : decode cX11_comes 29 = .ok (.iinc 3 1, 3) := by decide +kernel
theorem dX11_comes_32 : decode cX11_comes 32 = .ok (.goto (-25), 3) := by decide +kernel
theorem dX11_comes_35 : decode cX11_comes 35 = .ok (.aload_n 0, 1) := by decide +kernel
theorem dX11_comes_36 : decode cX11_comes 36 = .ok (.getfield 21, 3) := by decide +kernel
theorem dX11_comes_39 : decode cX11_comes 39 = .ok (.aload_n 0, 1) := by decide +kernel
theorem dX11_comes_40 : decode cX11_comes 40 = .ok (.getfield 7, 3) := by decide +kernel
theorem dX11_comes_43 : decode cX11_comes 43 = .ok (.bipush 9, 2) := by decide +kernel
theorem dX11_comes_45 : decode cX11_comes 45 = .ok (.iaload, 1) := by decide +kernel
theorem dX11_comes_46 : decode cX11_comes 46 = .ok (.iload_n 2, 1) := by decide +kernel
theorem dX11_comes_47 : decode cX11_comes 47 = .ok (.iastore, 1) := by decide +kernel
theorem dX11_comes_48 : decode cX11_comes 48 = .ok (.aload_n 0, 1) := by decide +kernel
theorem dX11_comes_49 : decode cX11_comes 49 = .ok (.getfield 7, 3) := by decide +kernel
theorem dX11_comes_52 : decode cX11_comes 52 = .ok (.bipush 42, 2) := by decide +kernel
theorem dX11_comes_54 : decode cX11_comes 54 = .ok (.aload_n 0, 1) := by decide +kernel
theorem dX11_comes_55 : decode cX11_comes 55 = .ok (.getfield 7, 3) := by decide +kernel
theorem dX11_comes_58 : decode cX11_comes 58 = .ok (.bipush 9, 2) := by decide +kernel
theorem dX11_comes_60 : decode cX11_comes 60 = .ok (.iaload, 1) := by decide +kernel
theorem dX11_comes_61 : decode cX11_comes 61 = .ok (.iadd, 1) := by decide +kernel
theorem dX11_comes_62 : decode cX11_comes 62 = .ok (.iload_n 1, 1) := by decide +kernel
theorem dX11_comes_63 : decode cX11_comes 63 = .ok (.iastore, 1) := by decide +kernel
theorem dX11_comes_64 : decode cX11_comes 64 = .ok (.aload_n 0, 1) := by decide +kernel
theorem dX11_comes_65 : decode cX11_comes 65 = .ok (.getfield 7, 3) := by decide +kernel
theorem dX11_comes_68 : decode cX11_comes 68 = .ok (.bipush 9, 2) := by decide +kernel
theorem dX11_comes_70 : decode cX11_comes 70 = .ok (.dup2, 1) := by decide +kernel
theorem dX11_comes_71 : decode cX11_comes 71 = .ok (.iaload, 1) := by decide +kernel
theorem dX11_comes_72 : decode cX11_comes 72 = .ok (.iconst 1, 1) := by decide +kernel
theorem dX11_comes_73 : decode cX11_comes 73 = .ok (.iadd, 1) := by decide +kernel
theorem dX11_comes_74 : decode cX11_comes 74 = .ok (.iastore, 1) := by decide +kernel
theorem dX11_comes_75 : decode cX11_comes 75 = .ok (.return_, 1) := by decide +kernel
theorem dX11_on_0 : decode cX11_on 0 = .ok (.iload_n 1, 1) := by decide +kernel
theorem dX11_on_1 : decode cX11_on 1 = .ok (.iconst 0, 1) := by decide +kernel
theorem dX11_on_2 : decode cX11_on 2 = .ok (.aload_n 0, 1) := by decide +kernel
theorem dX11_on_3 : decode cX11_on 3 = .ok (.getfield 7, 3) := by decide +kernel
theorem dX11_on_6 : decode cX11_on 6 = .ok (.bipush 9, 2) := by decide +kernel
theorem dX11_on_8 : decode cX11_on 8 = .ok (.iaload, 1) := by decide +kernel
theorem dX11_on_9 : decode cX11_on 9 = .ok (.iconst 1, 1) := by decide +kernel
theorem dX11_on_10 : decode cX11_on 10 = .ok (.isub, 1) := by decide +kernel
theorem dX11_on_11 : decode cX11_on 11 = .ok (.invokestatic 67, 3) := by decide +kernel
theorem dX11_on_14 : decode cX11_on 14 = .ok (.ifCond .eq 15, 3) := by decide +kernel
theorem dX11_on_17 : decode cX11_on 17 = .ok (.aload_n 0, 1) := by decide +kernel
theorem dX11_on_18 : decode cX11_on 18 = .ok (.getfield 7, 3) := by decide +kernel
theorem dX11_on_21 : decode cX11_on 21 = .ok (.bipush 42, 2) := by decide +kernel
theorem dX11_on_23 : decode cX11_on 23 = .ok (.iload_n 1, 1) := by decide +kernel
theorem dX11_on_24 : decode cX11_on 24 = .ok (.iadd, 1) := by decide +kernel
theorem dX11_on_25 : decode cX11_on 25 = .ok (.iaload, 1) := by decide +kernel
theorem dX11_on_26 : decode cX11_on 26 = .ok (.goto 4, 3) := by decide +kernel
theorem dX11_on_29 : decode cX11_on 29 = .ok (.iconst (-1), 1) := by decide +kernel
theorem dX11_on_30 : decode cX11_on 30 = .ok (.ireturn, 1) := by decide +kernel
theorem dX11_puts_0 : decode cX11_puts 0 = .ok (.aload_n 0, 1) := by decide +kernel
theorem dX11_puts_1 : decode cX11_puts 1 = .ok (.getfield 7, 3) := by decide +kernel
theorem dX11_puts_4 : decode cX11_puts 4 = .ok (.bipush 62, 2) := by decide +kernel
theorem dX11_puts_6 : decode cX11_puts 6 = .ok (.aload_n 0, 1) := by decide +kernel
theorem dX11_puts_7 : decode cX11_puts 7 = .ok (.getfield 7, 3) := by decide +kernel
theorem dX11_puts_10 : decode cX11_puts 10 = .ok (.bipush 10, 2) := by decide +kernel
theorem dX11_puts_12 : decode cX11_puts 12 = .ok (.iaload, 1) := by decide +kernel
theorem dX11_puts_13 : decode cX11_puts 13 = .ok (.iadd, 1) := by decide +kernel
theorem dX11_puts_14 : decode cX11_puts 14 = .ok (.iload_n 1, 1) := by decide +kernel
theorem dX11_puts_15 : decode cX11_puts 15 = .ok (.iastore, 1) := by decide +kernel
theorem dX11_puts_16 : decode cX11_puts 16 = .ok (.aload_n 0, 1) := by decide +kernel
theorem dX11_puts_17 : decode cX11_puts 17 = .ok (.getfield 7, 3) := by decide +kernel
theorem dX11_puts_20 : decode cX11_puts 20 = .ok (.bipush 10, 2) := by decide +kernel
theorem dX11_puts_22 : decode cX11_puts 22 = .ok (.dup2, 1) := by decide +kernel
theorem dX11_puts_23 : decode cX11_puts 23 = .ok (.iaload, 1) := by decide +kernel
theorem dX11_puts_24 : decode cX11_puts 24 = .ok (.iconst 1, 1) := by decide +kernel
theorem dX11_puts_25 : decode cX11_puts 25 = .ok (.iadd, 1) := by decide +kernel
theorem dX11_puts_26 : decode cX11_puts 26 = .ok (.iastore, 1) := by decide +kernel
theorem dX11_puts_27 : decode cX11_puts 27 = .ok (.return_, 1) := by decide +kernel
theorem dX11_blank_0 : decode cX11_blank 0 = .ok (.aload_n 0, 1) := by decide +kernel
theorem dX11_blank_1 : decode cX11_blank 1 = .ok (.getfield 7, 3) := by decide +kernel
theorem dX11_blank_4 : decode cX11_blank 4 = .ok (.bipush 10, 2) := by decide +kernel
theorem dX11_blank_6 : decode cX11_blank 6 = .ok (.iaload, 1) := by decide +kernel
theorem dX11_blank_7 : decode cX11_blank 7 = .ok (.ifCond .le 9, 3) := by decide +kernel
theorem dX11_blank_10 : decode cX11_blank 10 = .ok (.aload_n 0, 1) := by decide +kernel
theorem dX11_blank_11 : decode cX11_blank 11 = .ok (.bipush 32, 2) := by decide +kernel
theorem dX11_blank_13 : decode cX11_blank 13 = .ok (.invokevirtual 153, 3) := by decide +kernel
theorem dX11_blank_16 : decode cX11_blank 16 = .ok (.return_, 1) := by decide +kernel
theorem dX11_says_0 : decode cX11_says 0 = .ok (.aload_n 0, 1) := by decide +kernel
theorem dX11_says_1 : decode cX11_says 1 = .ok (.invokevirtual 156, 3) := by decide +kernel
theorem dX11_says_4 : decode cX11_says 4 = .ok (.bipush 56, 2) := by decide +kernel
theorem dX11_says_6 : decode cX11_says 6 = .ok (.istore_n 3, 1) := by decide +kernel
theorem dX11_says_7 : decode cX11_says 7 = .ok (.iload_n 3, 1) := by decide +kernel
theorem dX11_says_8 : decode cX11_says 8 = .ok (.ifCond .lt 29, 3) := by decide +kernel
theorem dX11_says_11 : decode cX11_says 11 = .ok (.lload_n 1, 1) := by decide +kernel
theorem dX11_says_12 : decode cX11_says 12 = .ok (.iload_n 3, 1) := by decide +kernel
theorem dX11_says_13 : decode cX11_says 13 = .ok (.lshr, 1) := by decide +kernel
theorem dX11_says_14 : decode cX11_says 14 = .ok (.lconst 0, 1) := by decide +kernel
theorem dX11_says_15 : decode cX11_says 15 = .ok (.lcmp, 1) := by decide +kernel
theorem dX11_says_16 : decode cX11_says 16 = .ok (.ifCond .le 15, 3) := by decide +kernel
theorem dX11_says_19 : decode cX11_says 19 = .ok (.aload_n 0, 1) := by decide +kernel
theorem dX11_says_20 : decode cX11_says 20 = .ok (.lload_n 1, 1) := by decide +kernel
theorem dX11_says_21 : decode cX11_says 21 = .ok (.iload_n 3, 1) := by decide +kernel
theorem dX11_says_22 : decode cX11_says 22 = .ok (.lshr, 1) := by decide +kernel
theorem dX11_says_23 : decode cX11_says 23 = .ok (.ldc2_w 65, 3) := by decide +kernel
theorem dX11_says_26 : decode cX11_says 26 = .ok (.land, 1) := by decide +kernel
theorem dX11_says_27 : decode cX11_says 27 = .ok (.l2i, 1) := by decide +kernel
theorem dX11_says_28 : decode cX11_says 28 = .ok (.invokevirtual 153, 3) := by decide +kernel
theorem dX11_says_31 : decode cX11_says 31 = .ok (.iinc 3 (-8), 3) := by decide +kernel
theorem dX11_says_34 : decode cX11_says 34 = .ok (.goto (-27), 3) := by decide +kernel
theorem dX11_says_37 : decode cX11_says 37 = .ok (.return_, 1) := by decide +kernel
theorem dX11_keyword_0 : decode cX11_keyword 0 = .ok (.aload_n 0, 1) := by decide +kernel
theorem dX11_keyword_1 : decode cX11_keyword 1 = .ok (.iload_n 1, 1) := by decide +kernel
theorem dX11_keyword_2 : decode cX11_keyword 2 = .ok (.invokestatic 159, 3) := by decide +kernel
theorem dX11_keyword_5 : decode cX11_keyword 5 = .ok (.invokevirtual 163, 3) := by decide +kernel
theorem dX11_keyword_8 : decode cX11_keyword 8 = .ok (.return_, 1) := by decide +kernel
theorem dX11_number_0 : decode cX11_number 0 = .ok (.aload_n 0, 1) := by decide +kernel
theorem dX11_number_1 : decode cX11_number 1 = .ok (.invokevirtual 156, 3) := by decide +kernel
theorem dX11_number_4 : decode cX11_number 4 = .ok (.iconst 1, 1) := by decide +kernel
theorem dX11_number_5 : decode cX11_number 5 = .ok (.istore_n 2, 1) := by decide +kernel
theorem dX11_number_6 : decode cX11_number 6 = .ok (.iload_n 1, 1) := by decide +kernel
theorem dX11_number_7 : decode cX11_number 7 = .ok (.iload_n 2, 1) := by decide +kernel
theorem dX11_number_8 : decode cX11_number 8 = .ok (.idiv, 1) := by decide +kernel
theorem dX11_number_9 : decode cX11_number 9 = .ok (.bipush 9, 2) := by decide +kernel
theorem dX11_number_11 : decode cX11_number 11 = .ok (.if_icmp .le 11, 3) := by decide +kernel
theorem dX11_number_14 : decode cX11_number 14 = .ok (.iload_n 2, 1) := by decide +kernel
theorem dX11_number_15 : decode cX11_number 15 = .ok (.bipush 10, 2) := by decide +kernel
theorem dX11_number_17 : decode cX11_number 17 = .ok (.imul, 1) := by decide +kernel
theorem dX11_number_18 : decode cX11_number 18 = .ok (.istore_n 2, 1) := by decide +kernel
theorem dX11_number_19 : decode cX11_number 19 = .ok (.goto (-13), 3) := by decide +kernel
theorem dX11_number_22 : decode cX11_number 22 = .ok (.iload_n 2, 1) := by decide +kernel
theorem dX11_number_23 : decode cX11_number 23 = .ok (.ifCond .le 24, 3) := by decide +kernel
theorem dX11_number_26 : decode cX11_number 26 = .ok (.aload_n 0, 1) := by decide +kernel
theorem dX11_number_27 : decode cX11_number 27 = .ok (.bipush 48, 2) := by decide +kernel
theorem dX11_number_29 : decode cX11_number 29 = .ok (.iload_n 1, 1) := by decide +kernel
theorem dX11_number_30 : decode cX11_number 30 = .ok (.iload_n 2, 1) := by decide +kernel
theorem dX11_number_31 : decode cX11_number 31 = .ok (.idiv, 1) := by decide +kernel
theorem dX11_number_32 : decode cX11_number 32 = .ok (.bipush 10, 2) := by decide +kernel
theorem dX11_number_34 : decode cX11_number 34 = .ok (.irem, 1) := by decide +kernel
theorem dX11_number_35 : decode cX11_number 35 = .ok (.iadd, 1) := by decide +kernel
theorem dX11_number_36 : decode cX11_number 36 = .ok (.invokevirtual 153, 3) := by decide +kernel
theorem dX11_number_39 : decode cX11_number 39 = .ok (.iload_n 2, 1) := by decide +kernel
theorem dX11_number_40 : decode cX11_number 40 = .ok (.bipush 10, 2) := by decide +kernel
theorem dX11_number_42 : decode cX11_number 42 = .ok (.idiv, 1) := by decide +kernel
theorem dX11_number_43 : decode cX11_number 43 = .ok (.istore_n 2, 1) := by decide +kernel
theorem dX11_number_44 : decode cX11_number 44 = .ok (.goto (-22), 3) := by decide +kernel
theorem dX11_number_47 : decode cX11_number 47 = .ok (.return_, 1) := by decide +kernel
theorem dX11_nameOf_0 : decode cX11_nameOf 0 = .ok (.aload_n 0, 1) := by decide +kernel
theorem dX11_nameOf_1 : decode cX11_nameOf 1 = .ok (.aload_n 0, 1) := by decide +kernel
theorem dX11_nameOf_2 : decode cX11_nameOf 2 = .ok (.getfield 13, 3) := by decide +kernel
theorem dX11_nameOf_5 : decode cX11_nameOf 5 = .ok (.iload_n 1, 1) := by decide +kernel
theorem dX11_nameOf_6 : decode cX11_nameOf 6 = .ok (.laload, 1) := by decide +kernel
theorem dX11_nameOf_7 : decode cX11_nameOf 7 = .ok (.invokevirtual 163, 3) := by decide +kernel
theorem dX11_nameOf_10 : decode cX11_nameOf 10 = .ok (.return_, 1) := by decide +kernel
theorem dX11_thingOf_0 : decode cX11_thingOf 0 = .ok (.aload_n 0, 1) := by decide +kernel
theorem dX11_thingOf_1 : decode cX11_thingOf 1 = .ok (.aload_n 0, 1) := by decide +kernel
theorem dX11_thingOf_2 : decode cX11_thingOf 2 = .ok (.getfield 13, 3) := by decide +kernel
theorem dX11_thingOf_5 : decode cX11_thingOf 5 = .ok (.bipush 6, 2) := by decide +kernel
theorem dX11_thingOf_7 : decode cX11_thingOf 7 = .ok (.iload_n 1, 1) := by decide +kernel
theorem dX11_thingOf_8 : decode cX11_thingOf 8 = .ok (.iadd, 1) := by decide +kernel
theorem dX11_thingOf_9 : decode cX11_thingOf 9 = .ok (.laload, 1) := by decide +kernel
theorem dX11_thingOf_10 : decode cX11_thingOf 10 = .ok (.invokevirtual 163, 3) := by decide +kernel
theorem dX11_thingOf_13 : decode cX11_thingOf 13 = .ok (.return_, 1) := by decide +kernel
theorem dX11_sentence_0 : decode cX11_sentence 0 = .ok (.iload_n 1, 1) := by decide +kernel
theorem dX11_sentence_1 : decode cX11_sentence 1 = .ok (.bipush 7, 2) := by decide +kernel
theorem dX11_sentence_3 : decode cX11_sentence 3 = .ok (.if_icmp .ne 9, 3) := by decide +kernel
theorem dX11_sentence_6 : decode cX11_sentence 6 = .ok (.aload_n 0, 1) := by decide +kernel
theorem dX11_sentence_7 : decode cX11_sentence 7 = .ok (.bipush 23, 2) := by decide +kernel
theorem dX11_sentence_9 : decode cX11_sentence 9 = .ok (.invokevirtual 167, 3) := by decide +kernel
theorem dX11_sentence_12 : decode cX11_sentence 12 = .ok (.iload_n 1, 1) := by decide +kernel
theorem dX11_sentence_13 : decode cX11_sentence 13 = .ok (.iconst 5, 1) := by decide +kernel
theorem dX11_sentence_14 : decode cX11_sentence 14 = .ok (.if_icmp .eq 8, 3) := by decide +kernel
theorem dX11_sentence_17 : decode cX11_sentence 17 = .ok (.aload_n 0, 1) := by decide +kernel
theorem dX11_sentence_18 : decode cX11_sentence 18 = .ok (.iload_n 2, 1) := by decide +kernel
theorem dX11_sentence_19 : decode cX11_sentence 19 = .ok (.invokevirtual 170, 3) := by decide +kernel
theorem dX11_sentence_22 : decode cX11_sentence 22 = .ok (.iload_n 1, 1) := by decide +kernel
theorem dX11_sentence_23 : decode cX11_sentence 23 = .ok (.tableswitch 93 0 7 #[45, 45, 54, 63, 72, 93, 45, 45], 45) := by decide +kernel
theorem dX11_sentence_68 : decode cX11_sentence 68 = .ok (.aload_n 0, 1) := by decide +kernel
theorem dX11_sentence_69 : decode cX11_sentence 69 = .ok (.bipush 10, 2) := by decide +kernel
theorem dX11_sentence_71 : decode cX11_sentence 71 = .ok (.invokevirtual 167, 3) := by decide +kernel
theorem dX11_sentence_74 : decode cX11_sentence 74 = .ok (.goto 66, 3) := by decide +kernel
theorem dX11_sentence_77 : decode cX11_sentence 77 = .ok (.aload_n 0, 1) := by decide +kernel
theorem dX11_sentence_78 : decode cX11_sentence 78 = .ok (.bipush 12, 2) := by decide +kernel
theorem dX11_sentence_80 : decode cX11_sentence 80 = .ok (.invokevirtual 167, 3) := by decide +kernel
theorem dX11_sentence_83 : decode cX11_sentence 83 = .ok (.goto 57, 3) := by decide +kernel
theorem dX11_sentence_86 : decode cX11_sentence 86 = .ok (.aload_n 0, 1) := by decide +kernel
theorem dX11_sentence_87 : decode cX11_sentence 87 = .ok (.bipush 13, 2) := by decide +kernel
theorem dX11_sentence_89 : decode cX11_sentence 89 = .ok (.invokevirtual 167, 3) := by decide +kernel
theorem dX11_sentence_92 : decode cX11_sentence 92 = .ok (.goto 48, 3) := by decide +kernel
theorem dX11_sentence_95 : decode cX11_sentence 95 = .ok (.aload_n 0, 1) := by decide +kernel
theorem dX11_sentence_96 : decode cX11_sentence 96 = .ok (.bipush 14, 2) := by decide +kernel
theorem dX11_sentence_98 : decode cX11_sentence 98 = .ok (.invokevirtual 167, 3) := by decide +kernel
theorem dX11_sentence_101 : decode cX11_sentence 101 = .ok (.aload_n 0, 1) := by decide +kernel
theorem dX11_sentence_102 : decode cX11_sentence 102 = .ok (.bipush 15, 2) := by decide +kernel
theorem dX11_sentence_104 : decode cX11_sentence 104 = .ok (.invokevirtual 167, 3) := by decide +kernel
theorem dX11_sentence_107 : decode cX11_sentence 107 = .ok (.aload_n 0, 1) := by decide +kernel
theorem dX11_sentence_108 : decode cX11_sentence 108 = .ok (.bipush 16, 2) := by decide +kernel
theorem dX11_sentence_110 : decode cX11_sentence 110 = .ok (.invokevirtual 167, 3) := by decide +kernel
theorem dX11_sentence_113 : decode cX11_sentence 113 = .ok (.goto 27, 3) := by decide +kernel
theorem dX11_sentence_116 : decode cX11_sentence 116 = .ok (.aload_n 0, 1) := by decide +kernel
theorem dX11_sentence_117 : decode cX11_sentence 117 = .ok (.bipush 17, 2) := by decide +kernel
theorem dX11_sentence_119 : decode cX11_sentence 119 = .ok (.invokevirtual 167, 3) := by decide +kernel
theorem dX11_sentence_122 : decode cX11_sentence 122 = .ok (.aload_n 0, 1) := by decide +kernel
theorem dX11_sentence_123 : decode cX11_sentence 123 = .ok (.bipush 18, 2) := by decide +kernel
theorem dX11_sentence_125 : decode cX11_sentence 125 = .ok (.invokevirtual 167, 3) := by decide +kernel
theorem dX11_sentence_128 : decode cX11_sentence 128 = .ok (.aload_n 0, 1) := by decide +kernel
theorem dX11_sentence_129 : decode cX11_sentence 129 = .ok (.bipush 19, 2) := by decide +kernel
theorem dX11_sentence_131 : decode cX11_sentence 131 = .ok (.invokevirtual 167, 3) := by decide +kernel
theorem dX11_sentence_134 : decode cX11_sentence 134 = .ok (.aload_n 0, 1) := by decide +kernel
theorem dX11_sentence_135 : decode cX11_sentence 135 = .ok (.bipush 20, 2) := by decide +kernel
theorem dX11_sentence_137 : decode cX11_sentence 137 = .ok (.invokevirtual 167, 3) := by decide +kernel
theorem dX11_sentence_140 : decode cX11_sentence 140 = .ok (.aload_n 0, 1) := by decide +kernel
theorem dX11_sentence_141 : decode cX11_sentence 141 = .ok (.iload 5, 2) := by decide +kernel
theorem dX11_sentence_143 : decode cX11_sentence 143 = .ok (.invokevirtual 173, 3) := by decide +kernel
theorem dX11_sentence_146 : decode cX11_sentence 146 = .ok (.iload_n 1, 1) := by decide +kernel
theorem dX11_sentence_147 : decode cX11_sentence 147 = .ok (.iconst 1, 1) := by decide +kernel
theorem dX11_sentence_148 : decode cX11_sentence 148 = .ok (.if_icmp .eq 8, 3) := by decide +kernel
theorem dX11_sentence_151 : decode cX11_sentence 151 = .ok (.iload_n 1, 1) := by decide +kernel
theorem dX11_sentence_152 : decode cX11_sentence 152 = .ok (.iconst 4, 1) := by decide +kernel
theorem dX11_sentence_153 : decode cX11_sentence 153 = .ok (.if_icmp .ne 12, 3) := by decide +kernel
theorem dX11_sentence_156 : decode cX11_sentence 156 = .ok (.aload_n 0, 1) := by decide +kernel
theorem dX11_sentence_157 : decode cX11_sentence 157 = .ok (.bipush 11, 2) := by decide +kernel
theorem dX11_sentence_159 : decode cX11_sentence 159 = .ok (.invokevirtual 167, 3) := by decide +kernel
theorem dX11_sentence_162 : decode cX11_sentence 162 = .ok (.goto 9, 3) := by decide +kernel
theorem dX11_sentence_165 : decode cX11_sentence 165 = .ok (.aload_n 0, 1) := by decide +kernel
theorem dX11_sentence_166 : decode cX11_sentence 166 = .ok (.iload 4, 2) := by decide +kernel
theorem dX11_sentence_168 : decode cX11_sentence 168 = .ok (.invokevirtual 176, 3) := by decide +kernel
theorem dX11_sentence_171 : decode cX11_sentence 171 = .ok (.iload_n 1, 1) := by decide +kernel
theorem dX11_sentence_172 : decode cX11_sentence 172 = .ok (.bipush 6, 2) := by decide +kernel
theorem dX11_sentence_174 : decode cX11_sentence 174 = .ok (.if_icmp .ne 20, 3) := by decide +kernel
theorem dX11_sentence_177 : decode cX11_sentence 177 = .ok (.aload_n 0, 1) := by decide +kernel
theorem dX11_sentence_178 : decode cX11_sentence 178 = .ok (.bipush 21, 2) := by decide +kernel
theorem dX11_sentence_180 : decode cX11_sentence 180 = .ok (.invokevirtual 167, 3) := by decide +kernel
theorem dX11_sentence_183 : decode cX11_sentence 183 = .ok (.aload_n 0, 1) := by decide +kernel
theorem dX11_sentence_184 : decode cX11_sentence 184 = .ok (.bipush 22, 2) := by decide +kernel
theorem dX11_sentence_186 : decode cX11_sentence 186 = .ok (.invokevirtual 167, 3) := by decide +kernel
theorem dX11_sentence_189 : decode cX11_sentence 189 = .ok (.aload_n 0, 1) := by decide +kernel
theorem dX11_sentence_190 : decode cX11_sentence 190 = .ok (.iload_n 3, 1) := by decide +kernel
theorem dX11_sentence_191 : decode cX11_sentence 191 = .ok (.invokevirtual 170, 3) := by decide +kernel
theorem dX11_sentence_194 : decode cX11_sentence 194 = .ok (.aload_n 0, 1) := by decide +kernel
theorem dX11_sentence_195 : decode cX11_sentence 195 = .ok (.bipush 46, 2) := by decide +kernel
theorem dX11_sentence_197 : decode cX11_sentence 197 = .ok (.invokevirtual 153, 3) := by decide +kernel
theorem dX11_sentence_200 : decode cX11_sentence 200 = .ok (.return_, 1) := by decide +kernel
theorem dX11_question_0 : decode cX11_question 0 = .ok (.aload_n 0, 1) := by decide +kernel
theorem dX11_question_1 : decode cX11_question 1 = .ok (.bipush 24, 2) := by decide +kernel
theorem dX11_question_3 : decode cX11_question 3 = .ok (.invokevirtual 167, 3) := by decide +kernel
theorem dX11_question_6 : decode cX11_question 6 = .ok (.aload_n 0, 1) := by decide +kernel
theorem dX11_question_7 : decode cX11_question 7 = .ok (.bipush 25, 2) := by decide +kernel
theorem dX11_question_9 : decode cX11_question 9 = .ok (.invokevirtual 167, 3) := by decide +kernel
theorem dX11_question_12 : decode cX11_question 12 = .ok (.aload_n 0, 1) := by decide +kernel
theorem dX11_question_13 : decode cX11_question 13 = .ok (.iload_n 3, 1) := by decide +kernel
theorem dX11_question_14 : decode cX11_question 14 = .ok (.invokevirtual 176, 3) := by decide +kernel
theorem dX11_question_17 : decode cX11_question 17 = .ok (.iload_n 1, 1) := by decide +kernel
theorem dX11_question_18 : decode cX11_question 18 = .ok (.tableswitch 82 8 10 #[26, 40, 67], 26) := by decide +kernel
theorem dX11_question_44 : decode cX11_question 44 = .ok (.aload_n 0, 1) := by decide +kernel
theorem dX11_question_45 : decode cX11_question 45 = .ok (.bipush 10, 2) := by decide +kernel
theorem dX11_question_47 : decode cX11_question 47 = .ok (.invokevirtual 167, 3) := by decide +kernel
theorem dX11_question_50 : decode cX11_question 50 = .ok (.aload_n 0, 1) := by decide +kernel
theorem dX11_question_51 : decode cX11_question 51 = .ok (.iload_n 2, 1) := by decide +kernel
theorem dX11_question_52 : decode cX11_question 52 = .ok (.invokevirtual 170, 3) := by decide +kernel
theorem dX11_question_55 : decode cX11_question 55 = .ok (.goto 56, 3) := by decide +kernel
theorem dX11_question_58 : decode cX11_question 58 = .ok (.aload_n 0, 1) := by decide +kernel
theorem dX11_question_59 : decode cX11_question 59 = .ok (.bipush 20, 2) := by decide +kernel
theorem dX11_question_61 : decode cX11_question 61 = .ok (.invokevirtual 167, 3) := by decide +kernel
theorem dX11_question_64 : decode cX11_question 64 = .ok (.aload_n 0, 1) := by decide +kernel
theorem dX11_question_65 : decode cX11_question 65 = .ok (.bipush 17, 2) := by decide +kernel
theorem dX11_question_67 : decode cX11_question 67 = .ok (.invokevirtual 167, 3) := by decide +kernel
theorem dX11_question_70 : decode cX11_question 70 = .ok (.aload_n 0, 1) := by decide +kernel
theorem dX11_question_71 : decode cX11_question 71 = .ok (.bipush 18, 2) := by decide +kernel
theorem dX11_question_73 : decode cX11_question 73 = .ok (.invokevirtual 167, 3) := by decide +kernel
theorem dX11_question_76 : decode cX11_question 76 = .ok (.aload_n 0, 1) := by decide +kernel
theorem dX11_question_77 : decode cX11_question 77 = .ok (.bipush 19, 2) := by decide +kernel
theorem dX11_question_79 : decode cX11_question 79 = .ok (.invokevirtual 167, 3) := by decide +kernel
theorem dX11_question_82 : decode cX11_question 82 = .ok (.goto 29, 3) := by decide +kernel
theorem dX11_question_85 : decode cX11_question 85 = .ok (.aload_n 0, 1) := by decide +kernel
theorem dX11_question_86 : decode cX11_question 86 = .ok (.bipush 26, 2) := by decide +kernel
theorem dX11_question_88 : decode cX11_question 88 = .ok (.invokevirtual 167, 3) := by decide +kernel
theorem dX11_question_91 : decode cX11_question 91 = .ok (.aload_n 0, 1) := by decide +kernel
theorem dX11_question_92 : decode cX11_question 92 = .ok (.bipush 27, 2) := by decide +kernel
theorem dX11_question_94 : decode cX11_question 94 = .ok (.invokevirtual 167, 3) := by decide +kernel
theorem dX11_question_97 : decode cX11_question 97 = .ok (.goto 14, 3) := by decide +kernel
theorem dX11_question_100 : decode cX11_question 100 = .ok (.aload_n 0, 1) := by decide +kernel
theorem dX11_question_101 : decode cX11_question 101 = .ok (.bipush 28, 2) := by decide +kernel
theorem dX11_question_103 : decode cX11_question 103 = .ok (.invokevirtual 167, 3) := by decide +kernel
theorem dX11_question_106 : decode cX11_question 106 = .ok (.aload_n 0, 1) := by decide +kernel
theorem dX11_question_107 : decode cX11_question 107 = .ok (.iload_n 2, 1) := by decide +kernel
theorem dX11_question_108 : decode cX11_question 108 = .ok (.invokevirtual 170, 3) := by decide +kernel
theorem dX11_question_111 : decode cX11_question 111 = .ok (.aload_n 0, 1) := by decide +kernel
theorem dX11_question_112 : decode cX11_question 112 = .ok (.bipush 63, 2) := by decide +kernel
theorem dX11_question_114 : decode cX11_question 114 = .ok (.invokevirtual 153, 3) := by decide +kernel
theorem dX11_question_117 : decode cX11_question 117 = .ok (.return_, 1) := by decide +kernel
theorem dX11_kindOf_0 : decode cX11_kindOf 0 = .ok (.iload_n 0, 1) := by decide +kernel
theorem dX11_kindOf_1 : decode cX11_kindOf 1 = .ok (.tableswitch 186 0 6 #[43, 63, 83, 103, 123, 144, 165], 43) := by decide +kernel
theorem dX11_kindOf_44 : decode cX11_kindOf 44 = .ok (.iload_n 1, 1) := by decide +kernel
theorem dX11_kindOf_45 : decode cX11_kindOf 45 = .ok (.ifCond .ne 7, 3) := by decide +kernel
theorem dX11_kindOf_48 : decode cX11_kindOf 48 = .ok (.iconst 0, 1) := by decide +kernel
theorem dX11_kindOf_49 : decode cX11_kindOf 49 = .ok (.goto 14, 3) := by decide +kernel
theorem dX11_kindOf_52 : decode cX11_kindOf 52 = .ok (.iload_n 1, 1) := by decide +kernel
theorem dX11_kindOf_53 : decode cX11_kindOf 53 = .ok (.iconst 1, 1) := by decide +kernel
theorem dX11_kindOf_54 : decode cX11_kindOf 54 = .ok (.if_icmp .ne 7, 3) := by decide +kernel
theorem dX11_kindOf_57 : decode cX11_kindOf 57 = .ok (.iconst 2, 1) := by decide +kernel
theorem dX11_kindOf_58 : decode cX11_kindOf 58 = .ok (.goto 5, 3) := by decide +kernel
theorem dX11_kindOf_61 : decode cX11_kindOf 61 = .ok (.bipush 8, 2) := by decide +kernel
theorem dX11_kindOf_63 : decode cX11_kindOf 63 = .ok (.ireturn, 1) := by decide +kernel
theorem dX11_kindOf_64 : decode cX11_kindOf 64 = .ok (.iload_n 1, 1) := by decide +kernel
theorem dX11_kindOf_65 : decode cX11_kindOf 65 = .ok (.ifCond .ne 7, 3) := by decide +kernel
theorem dX11_kindOf_68 : decode cX11_kindOf 68 = .ok (.iconst 0, 1) := by decide +kernel
theorem dX11_kindOf_69 : decode cX11_kindOf 69 = .ok (.goto 14, 3) := by decide +kernel
theorem dX11_kindOf_72 : decode cX11_kindOf 72 = .ok (.iload_n 1, 1) := by decide +kernel
theorem dX11_kindOf_73 : decode cX11_kindOf 73 = .ok (.iconst 1, 1) := by decide +kernel
theorem dX11_kindOf_74 : decode cX11_kindOf 74 = .ok (.if_icmp .ne 7, 3) := by decide +kernel
