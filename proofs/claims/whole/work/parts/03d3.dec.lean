theorem dX11_init_0 : decode cX11_init 0 = .ok (.aload_n 0, 1) := by decide +kernel
theorem dX11_init_1 : decode cX11_init 1 = .ok (.invokespecial 3, 3) := by decide +kernel
theorem dX11_init_4 : decode cX11_init 4 = .ok (.aload_n 0, 1) := by decide +kernel
theorem dX11_init_5 : decode cX11_init 5 = .ok (.sipush 700, 3) := by decide +kernel
theorem dX11_init_8 : decode cX11_init 8 = .ok (.newarray .byte, 2) := by decide +kernel
theorem dX11_init_10 : decode cX11_init 10 = .ok (.putfield 11, 3) := by decide +kernel
theorem dX11_init_13 : decode cX11_init 13 = .ok (.aload_n 0, 1) := by decide +kernel
theorem dX11_init_14 : decode cX11_init 14 = .ok (.new 15, 3) := by decide +kernel
theorem dX11_init_17 : decode cX11_init 17 = .ok (.dup, 1) := by decide +kernel
theorem dX11_init_18 : decode cX11_init 18 = .ok (.invokespecial 17, 3) := by decide +kernel
theorem dX11_init_21 : decode cX11_init 21 = .ok (.putfield 18, 3) := by decide +kernel
theorem dX11_init_24 : decode cX11_init 24 = .ok (.aload_n 0, 1) := by decide +kernel
theorem dX11_init_25 : decode cX11_init 25 = .ok (.new 22, 3) := by decide +kernel
theorem dX11_init_28 : decode cX11_init 28 = .ok (.dup, 1) := by decide +kernel
theorem dX11_init_29 : decode cX11_init 29 = .ok (.aload_n 0, 1) := by decide +kernel
theorem dX11_init_30 : decode cX11_init 30 = .ok (.getfield 11, 3) := by decide +kernel
theorem dX11_init_33 : decode cX11_init 33 = .ok (.invokespecial 24, 3) := by decide +kernel
theorem dX11_init_36 : decode cX11_init 36 = .ok (.putfield 27, 3) := by decide +kernel
theorem dX11_init_39 : decode cX11_init 39 = .ok (.aload_n 0, 1) := by decide +kernel
theorem dX11_init_40 : decode cX11_init 40 = .ok (.new 31, 3) := by decide +kernel
theorem dX11_init_43 : decode cX11_init 43 = .ok (.dup, 1) := by decide +kernel
theorem dX11_init_44 : decode cX11_init 44 = .ok (.aload_n 0, 1) := by decide +kernel
theorem dX11_init_45 : decode cX11_init 45 = .ok (.getfield 18, 3) := by decide +kernel
theorem dX11_init_48 : decode cX11_init 48 = .ok (.invokespecial 33, 3) := by decide +kernel
theorem dX11_init_51 : decode cX11_init 51 = .ok (.putfield 36, 3) := by decide +kernel
theorem dX11_init_54 : decode cX11_init 54 = .ok (.aload_n 0, 1) := by decide +kernel
theorem dX11_init_55 : decode cX11_init 55 = .ok (.new 31, 3) := by decide +kernel
theorem dX11_init_58 : decode cX11_init 58 = .ok (.dup, 1) := by decide +kernel
theorem dX11_init_59 : decode cX11_init 59 = .ok (.aload_n 0, 1) := by decide +kernel
theorem dX11_init_60 : decode cX11_init 60 = .ok (.getfield 18, 3) := by decide +kernel
theorem dX11_init_63 : decode cX11_init 63 = .ok (.invokespecial 33, 3) := by decide +kernel
theorem dX11_init_66 : decode cX11_init 66 = .ok (.putfield 40, 3) := by decide +kernel
theorem dX11_init_69 : decode cX11_init 69 = .ok (.aload_n 0, 1) := by decide +kernel
theorem dX11_init_70 : decode cX11_init 70 = .ok (.new 31, 3) := by decide +kernel
theorem dX11_init_73 : decode cX11_init 73 = .ok (.dup, 1) := by decide +kernel
theorem dX11_init_74 : decode cX11_init 74 = .ok (.aload_n 0, 1) := by decide +kernel
theorem dX11_init_75 : decode cX11_init 75 = .ok (.getfield 18, 3) := by decide +kernel
theorem dX11_init_78 : decode cX11_init 78 = .ok (.invokespecial 33, 3) := by decide +kernel
theorem dX11_init_81 : decode cX11_init 81 = .ok (.putfield 43, 3) := by decide +kernel
theorem dX11_init_84 : decode cX11_init 84 = .ok (.aload_n 0, 1) := by decide +kernel
theorem dX11_init_85 : decode cX11_init 85 = .ok (.new 46, 3) := by decide +kernel
theorem dX11_init_88 : decode cX11_init 88 = .ok (.dup, 1) := by decide +kernel
theorem dX11_init_89 : decode cX11_init 89 = .ok (.aload_n 0, 1) := by decide +kernel
theorem dX11_init_90 : decode cX11_init 90 = .ok (.getfield 18, 3) := by decide +kernel
theorem dX11_init_93 : decode cX11_init 93 = .ok (.invokespecial 48, 3) := by decide +kernel
theorem dX11_init_96 : decode cX11_init 96 = .ok (.putfield 49, 3) := by decide +kernel
theorem dX11_init_99 : decode cX11_init 99 = .ok (.aload_n 0, 1) := by decide +kernel
theorem dX11_init_100 : decode cX11_init 100 = .ok (.new 53, 3) := by decide +kernel
theorem dX11_init_103 : decode cX11_init 103 = .ok (.dup, 1) := by decide +kernel
theorem dX11_init_104 : decode cX11_init 104 = .ok (.invokespecial 55, 3) := by decide +kernel
theorem dX11_init_107 : decode cX11_init 107 = .ok (.putfield 56, 3) := by decide +kernel
theorem dX11_init_110 : decode cX11_init 110 = .ok (.aload_n 0, 1) := by decide +kernel
theorem dX11_init_111 : decode cX11_init 111 = .ok (.new 60, 3) := by decide +kernel
theorem dX11_init_114 : decode cX11_init 114 = .ok (.dup, 1) := by decide +kernel
theorem dX11_init_115 : decode cX11_init 115 = .ok (.invokespecial 62, 3) := by decide +kernel
theorem dX11_init_118 : decode cX11_init 118 = .ok (.putfield 63, 3) := by decide +kernel
theorem dX11_init_121 : decode cX11_init 121 = .ok (.aload_n 0, 1) := by decide +kernel
theorem dX11_init_122 : decode cX11_init 122 = .ok (.new 67, 3) := by decide +kernel
theorem dX11_init_125 : decode cX11_init 125 = .ok (.dup, 1) := by decide +kernel
theorem dX11_init_126 : decode cX11_init 126 = .ok (.aload_n 0, 1) := by decide +kernel
theorem dX11_init_127 : decode cX11_init 127 = .ok (.getfield 18, 3) := by decide +kernel
theorem dX11_init_130 : decode cX11_init 130 = .ok (.aload_n 0, 1) := by decide +kernel
theorem dX11_init_131 : decode cX11_init 131 = .ok (.getfield 49, 3) := by decide +kernel
theorem dX11_init_134 : decode cX11_init 134 = .ok (.aload_n 0, 1) := by decide +kernel
theorem dX11_init_135 : decode cX11_init 135 = .ok (.getfield 63, 3) := by decide +kernel
theorem dX11_init_138 : decode cX11_init 138 = .ok (.invokespecial 69, 3) := by decide +kernel
theorem dX11_init_141 : decode cX11_init 141 = .ok (.putfield 72, 3) := by decide +kernel
theorem dX11_init_144 : decode cX11_init 144 = .ok (.aload_n 0, 1) := by decide +kernel
theorem dX11_init_145 : decode cX11_init 145 = .ok (.new 76, 3) := by decide +kernel
theorem dX11_init_148 : decode cX11_init 148 = .ok (.dup, 1) := by decide +kernel
theorem dX11_init_149 : decode cX11_init 149 = .ok (.aload_n 0, 1) := by decide +kernel
theorem dX11_init_150 : decode cX11_init 150 = .ok (.getfield 18, 3) := by decide +kernel
theorem dX11_init_153 : decode cX11_init 153 = .ok (.aload_n 0, 1) := by decide +kernel
theorem dX11_init_154 : decode cX11_init 154 = .ok (.getfield 49, 3) := by decide +kernel
theorem dX11_init_157 : decode cX11_init 157 = .ok (.invokespecial 78, 3) := by decide +kernel
theorem dX11_init_160 : decode cX11_init 160 = .ok (.putfield 81, 3) := by decide +kernel
theorem dX11_init_163 : decode cX11_init 163 = .ok (.return_, 1) := by decide +kernel
theorem dX11_feed_0 : decode cX11_feed 0 = .ok (.aload_n 0, 1) := by decide +kernel
theorem dX11_feed_1 : decode cX11_feed 1 = .ok (.getfield 85, 3) := by decide +kernel
theorem dX11_feed_4 : decode cX11_feed 4 = .ok (.bipush 20, 2) := by decide +kernel
theorem dX11_feed_6 : decode cX11_feed 6 = .ok (.iadd, 1) := by decide +kernel
theorem dX11_feed_7 : decode cX11_feed 7 = .ok (.sipush 700, 3) := by decide +kernel
theorem dX11_feed_10 : decode cX11_feed 10 = .ok (.if_icmp .le 5, 3) := by decide +kernel
theorem dX11_feed_13 : decode cX11_feed 13 = .ok (.iconst (-1), 1) := by decide +kernel
theorem dX11_feed_14 : decode cX11_feed 14 = .ok (.ireturn, 1) := by decide +kernel
theorem dX11_feed_15 : decode cX11_feed 15 = .ok (.aload_n 0, 1) := by decide +kernel
theorem dX11_feed_16 : decode cX11_feed 16 = .ok (.iload_n 1, 1) := by decide +kernel
theorem dX11_feed_17 : decode cX11_feed 17 = .ok (.invokevirtual 89, 3) := by decide +kernel
theorem dX11_feed_20 : decode cX11_feed 20 = .ok (.aload_n 0, 1) := by decide +kernel
theorem dX11_feed_21 : decode cX11_feed 21 = .ok (.iload_n 2, 1) := by decide +kernel
theorem dX11_feed_22 : decode cX11_feed 22 = .ok (.invokevirtual 89, 3) := by decide +kernel
theorem dX11_feed_25 : decode cX11_feed 25 = .ok (.aload_n 0, 1) := by decide +kernel
theorem dX11_feed_26 : decode cX11_feed 26 = .ok (.iload_n 3, 1) := by decide +kernel
theorem dX11_feed_27 : decode cX11_feed 27 = .ok (.invokevirtual 89, 3) := by decide +kernel
theorem dX11_feed_30 : decode cX11_feed 30 = .ok (.aload_n 0, 1) := by decide +kernel
theorem dX11_feed_31 : decode cX11_feed 31 = .ok (.iload 4, 2) := by decide +kernel
theorem dX11_feed_33 : decode cX11_feed 33 = .ok (.invokevirtual 89, 3) := by decide +kernel
theorem dX11_feed_36 : decode cX11_feed 36 = .ok (.aload_n 0, 1) := by decide +kernel
theorem dX11_feed_37 : decode cX11_feed 37 = .ok (.iload 5, 2) := by decide +kernel
theorem dX11_feed_39 : decode cX11_feed 39 = .ok (.invokevirtual 89, 3) := by decide +kernel
theorem dX11_feed_42 : decode cX11_feed 42 = .ok (.aload_n 0, 1) := by decide +kernel
theorem dX11_feed_43 : decode cX11_feed 43 = .ok (.getfield 85, 3) := by decide +kernel
theorem dX11_feed_46 : decode cX11_feed 46 = .ok (.ireturn, 1) := by decide +kernel
theorem dX11_putBytes_0 : decode cX11_putBytes 0 = .ok (.bipush 24, 2) := by decide +kernel
theorem dX11_putBytes_2 : decode cX11_putBytes 2 = .ok (.istore_n 2, 1) := by decide +kernel
theorem dX11_putBytes_3 : decode cX11_putBytes 3 = .ok (.iload_n 2, 1) := by decide +kernel
theorem dX11_putBytes_4 : decode cX11_putBytes 4 = .ok (.ifCond .lt 42, 3) := by decide +kernel
theorem dX11_putBytes_7 : decode cX11_putBytes 7 = .ok (.aload_n 0, 1) := by decide +kernel
theorem dX11_putBytes_8 : decode cX11_putBytes 8 = .ok (.getfield 85, 3) := by decide +kernel
theorem dX11_putBytes_11 : decode cX11_putBytes 11 = .ok (.sipush 700, 3) := by decide +kernel
theorem dX11_putBytes_14 : decode cX11_putBytes 14 = .ok (.if_icmp .ge 32, 3) := by decide +kernel
theorem dX11_putBytes_17 : decode cX11_putBytes 17 = .ok (.aload_n 0, 1) := by decide +kernel
theorem dX11_putBytes_18 : decode cX11_putBytes 18 = .ok (.getfield 11, 3) := by decide +kernel
theorem dX11_putBytes_21 : decode cX11_putBytes 21 = .ok (.aload_n 0, 1) := by decide +kernel
theorem dX11_putBytes_22 : decode cX11_putBytes 22 = .ok (.getfield 85, 3) := by decide +kernel
theorem dX11_putBytes_25 : decode cX11_putBytes 25 = .ok (.iload_n 1, 1) := by decide +kernel
theorem dX11_putBytes_26 : decode cX11_putBytes 26 = .ok (.iload_n 2, 1) := by decide +kernel
theorem dX11_putBytes_27 : decode cX11_putBytes 27 = .ok (.ishr, 1) := by decide +kernel
theorem dX11_putBytes_28 : decode cX11_putBytes 28 = .ok (.i2b, 1) := by decide +kernel
theorem dX11_putBytes_29 : decode cX11_putBytes 29 = .ok (.bastore, 1) := by decide +kernel
theorem dX11_putBytes_30 : decode cX11_putBytes 30 = .ok (.aload_n 0, 1) := by decide +kernel
theorem dX11_putBytes_31 : decode cX11_putBytes 31 = .ok (.dup, 1) := by decide +kernel
theorem dX11_putBytes_32 : decode cX11_putBytes 32 = .ok (.getfield 85, 3) := by decide +kernel
theorem dX11_putBytes_35 : decode cX11_putBytes 35 = .ok (.iconst 1, 1) := by decide +kernel
theorem dX11_putBytes_36 : decode cX11_putBytes 36 = .ok (.iadd, 1) := by decide +kernel
theorem dX11_putBytes_37 : decode cX11_putBytes 37 = .ok (.putfield 85, 3) := by decide +kernel
theorem dX11_putBytes_40 : decode cX11_putBytes 40 = .ok (.iinc 2 (-8), 3) := by decide +kernel
theorem dX11_putBytes_43 : decode cX11_putBytes 43 = .ok (.goto (-40), 3) := by decide +kernel
theorem dX11_putBytes_46 : decode cX11_putBytes 46 = .ok (.return_, 1) := by decide +kernel
theorem dX11_text_0 : decode cX11_text 0 = .ok (.iload_n 1, 1) := by decide +kernel
theorem dX11_text_1 : decode cX11_text 1 = .ok (.ifCond .lt 11, 3) := by decide +kernel
theorem dX11_text_4 : decode cX11_text 4 = .ok (.iload_n 1, 1) := by decide +kernel
theorem dX11_text_5 : decode cX11_text 5 = .ok (.aload_n 0, 1) := by decide +kernel
theorem dX11_text_6 : decode cX11_text 6 = .ok (.getfield 85, 3) := by decide +kernel
theorem dX11_text_9 : decode cX11_text 9 = .ok (.if_icmp .le 6, 3) := by decide +kernel
theorem dX11_text_12 : decode cX11_text 12 = .ok (.bipush (-2), 2) := by decide +kernel
theorem dX11_text_14 : decode cX11_text 14 = .ok (.ireturn, 1) := by decide +kernel
theorem dX11_text_15 : decode cX11_text 15 = .ok (.aload_n 0, 1) := by decide +kernel
theorem dX11_text_16 : decode cX11_text 16 = .ok (.iconst 0, 1) := by decide +kernel
theorem dX11_text_17 : decode cX11_text 17 = .ok (.putfield 85, 3) := by decide +kernel
theorem dX11_text_20 : decode cX11_text 20 = .ok (.aload_n 0, 1) := by decide +kernel
theorem dX11_text_21 : decode cX11_text 21 = .ok (.getfield 27, 3) := by decide +kernel
theorem dX11_text_24 : decode cX11_text 24 = .ok (.iload_n 1, 1) := by decide +kernel
theorem dX11_text_25 : decode cX11_text 25 = .ok (.invokevirtual 93, 3) := by decide +kernel
theorem dX11_text_28 : decode cX11_text 28 = .ok (.ifCond .ne 5, 3) := by decide +kernel
theorem dX11_text_31 : decode cX11_text 31 = .ok (.iconst (-1), 1) := by decide +kernel
theorem dX11_text_32 : decode cX11_text 32 = .ok (.ireturn, 1) := by decide +kernel
theorem dX11_text_33 : decode cX11_text 33 = .ok (.aload_n 0, 1) := by decide +kernel
theorem dX11_text_34 : decode cX11_text 34 = .ok (.getfield 18, 3) := by decide +kernel
theorem dX11_text_37 : decode cX11_text 37 = .ok (.aload_n 0, 1) := by decide +kernel
theorem dX11_text_38 : decode cX11_text 38 = .ok (.getfield 27, 3) := by decide +kernel
theorem dX11_text_41 : decode cX11_text 41 = .ok (.getfield 97, 3) := by decide +kernel
theorem dX11_text_44 : decode cX11_text 44 = .ok (.invokevirtual 100, 3) := by decide +kernel
theorem dX11_text_47 : decode cX11_text 47 = .ok (.aload_n 0, 1) := by decide +kernel
theorem dX11_text_48 : decode cX11_text 48 = .ok (.getfield 36, 3) := by decide +kernel
theorem dX11_text_51 : decode cX11_text 51 = .ok (.invokevirtual 103, 3) := by decide +kernel
theorem dX11_text_54 : decode cX11_text 54 = .ok (.aload_n 0, 1) := by decide +kernel
theorem dX11_text_55 : decode cX11_text 55 = .ok (.getfield 63, 3) := by decide +kernel
theorem dX11_text_58 : decode cX11_text 58 = .ok (.invokevirtual 106, 3) := by decide +kernel
theorem dX11_text_61 : decode cX11_text 61 = .ok (.aload_n 0, 1) := by decide +kernel
theorem dX11_text_62 : decode cX11_text 62 = .ok (.getfield 56, 3) := by decide +kernel
theorem dX11_text_65 : decode cX11_text 65 = .ok (.invokevirtual 109, 3) := by decide +kernel
theorem dX11_text_68 : decode cX11_text 68 = .ok (.aload_n 0, 1) := by decide +kernel
theorem dX11_text_69 : decode cX11_text 69 = .ok (.iconst 0, 1) := by decide +kernel
theorem dX11_text_70 : decode cX11_text 70 = .ok (.putfield 110, 3) := by decide +kernel
theorem dX11_text_73 : decode cX11_text 73 = .ok (.aload_n 0, 1) := by decide +kernel
theorem dX11_text_74 : decode cX11_text 74 = .ok (.getfield 18, 3) := by decide +kernel
theorem dX11_text_77 : decode cX11_text 77 = .ok (.getfield 114, 3) := by decide +kernel
theorem dX11_text_80 : decode cX11_text 80 = .ok (.ireturn, 1) := by decide +kernel
theorem dX11_fault_0 : decode cX11_fault 0 = .ok (.iload_n 1, 1) := by decide +kernel
theorem dX11_fault_1 : decode cX11_fault 1 = .ok (.ifCond .ne 14, 3) := by decide +kernel
theorem dX11_fault_4 : decode cX11_fault 4 = .ok (.aload_n 0, 1) := by decide +kernel
theorem dX11_fault_5 : decode cX11_fault 5 = .ok (.getfield 27, 3) := by decide +kernel
theorem dX11_fault_8 : decode cX11_fault 8 = .ok (.getfield 117, 3) := by decide +kernel
theorem dX11_fault_11 : decode cX11_fault 11 = .ok (.getfield 121, 3) := by decide +kernel
theorem dX11_fault_14 : decode cX11_fault 14 = .ok (.ireturn, 1) := by decide +kernel
theorem dX11_fault_15 : decode cX11_fault 15 = .ok (.iload_n 1, 1) := by decide +kernel
theorem dX11_fault_16 : decode cX11_fault 16 = .ok (.iconst 1, 1) := by decide +kernel
theorem dX11_fault_17 : decode cX11_fault 17 = .ok (.if_icmp .ne 16, 3) := by decide +kernel
theorem dX11_fault_20 : decode cX11_fault 20 = .ok (.aload_n 0, 1) := by decide +kernel
theorem dX11_fault_21 : decode cX11_fault 21 = .ok (.getfield 27, 3) := by decide +kernel
theorem dX11_fault_24 : decode cX11_fault 24 = .ok (.getfield 117, 3) := by decide +kernel
theorem dX11_fault_27 : decode cX11_fault 27 = .ok (.getfield 126, 3) := by decide +kernel
theorem dX11_fault_30 : decode cX11_fault 30 = .ok (.goto 4, 3) := by decide +kernel
theorem dX11_fault_33 : decode cX11_fault 33 = .ok (.iconst (-1), 1) := by decide +kernel
theorem dX11_fault_34 : decode cX11_fault 34 = .ok (.ireturn, 1) := by decide +kernel
theorem dX11_named_0 : decode cX11_named 0 = .ok (.iload_n 1, 1) := by decide +kernel
theorem dX11_named_1 : decode cX11_named 1 = .ok (.ifCond .ne 12, 3) := by decide +kernel
theorem dX11_named_4 : decode cX11_named 4 = .ok (.aload_n 0, 1) := by decide +kernel
theorem dX11_named_5 : decode cX11_named 5 = .ok (.getfield 18, 3) := by decide +kernel
theorem dX11_named_8 : decode cX11_named 8 = .ok (.iload_n 2, 1) := by decide +kernel
theorem dX11_named_9 : decode cX11_named 9 = .ok (.invokevirtual 129, 3) := by decide +kernel
theorem dX11_named_12 : decode cX11_named 12 = .ok (.ireturn, 1) := by decide +kernel
theorem dX11_named_13 : decode cX11_named 13 = .ok (.iload_n 1, 1) := by decide +kernel
theorem dX11_named_14 : decode cX11_named 14 = .ok (.iconst 1, 1) := by decide +kernel
theorem dX11_named_15 : decode cX11_named 15 = .ok (.if_icmp .ne 14, 3) := by decide +kernel
theorem dX11_named_18 : decode cX11_named 18 = .ok (.aload_n 0, 1) := by decide +kernel
theorem dX11_named_19 : decode cX11_named 19 = .ok (.getfield 18, 3) := by decide +kernel
theorem dX11_named_22 : decode cX11_named 22 = .ok (.iload_n 2, 1) := by decide +kernel
theorem dX11_named_23 : decode cX11_named 23 = .ok (.invokevirtual 133, 3) := by decide +kernel
theorem dX11_named_26 : decode cX11_named 26 = .ok (.goto 4, 3) := by decide +kernel
theorem dX11_named_29 : decode cX11_named 29 = .ok (.iconst (-1), 1) := by decide +kernel
theorem dX11_named_30 : decode cX11_named 30 = .ok (.ireturn, 1) := by decide +kernel
theorem dX11_parish_0 : decode cX11_parish 0 = .ok (.aload_n 0, 1) := by decide +kernel
theorem dX11_parish_1 : decode cX11_parish 1 = .ok (.iload_n 1, 1) := by decide +kernel
theorem dX11_parish_2 : decode cX11_parish 2 = .ok (.invokevirtual 136, 3) := by decide +kernel
theorem dX11_parish_5 : decode cX11_parish 5 = .ok (.ifCond .ne 13, 3) := by decide +kernel
theorem dX11_parish_8 : decode cX11_parish 8 = .ok (.new 139, 3) := by decide +kernel
theorem dX11_parish_11 : decode cX11_parish 11 = .ok (.dup, 1) := by decide +kernel
theorem dX11_parish_12 : decode cX11_parish 12 = .ok (.ldc 141, 2) := by decide +kernel
theorem dX11_parish_14 : decode cX11_parish 14 = .ok (.invokespecial 143, 3) := by decide +kernel
theorem dX11_parish_17 : decode cX11_parish 17 = .ok (.athrow, 1) := by decide +kernel
theorem dX11_parish_18 : decode cX11_parish 18 = .ok (.iload_n 2, 1) := by decide +kernel
theorem dX11_parish_19 : decode cX11_parish 19 = .ok (.ifCond .lt 9, 3) := by decide +kernel
theorem dX11_parish_22 : decode cX11_parish 22 = .ok (.iload_n 2, 1) := by decide +kernel
theorem dX11_parish_23 : decode cX11_parish 23 = .ok (.bipush 7, 2) := by decide +kernel
theorem dX11_parish_25 : decode cX11_parish 25 = .ok (.if_icmp .le 13, 3) := by decide +kernel
theorem dX11_parish_28 : decode cX11_parish 28 = .ok (.new 146, 3) := by decide +kernel
theorem dX11_parish_31 : decode cX11_parish 31 = .ok (.dup, 1) := by decide +kernel
theorem dX11_parish_32 : decode cX11_parish 32 = .ok (.ldc 148, 2) := by decide +kernel
theorem dX11_parish_34 : decode cX11_parish 34 = .ok (.invokespecial 150, 3) := by decide +kernel
theorem dX11_parish_37 : decode cX11_parish 37 = .ok (.athrow, 1) := by decide +kernel
theorem dX11_parish_38 : decode cX11_parish 38 = .ok (.iload_n 2, 1) := by decide +kernel
theorem dX11_parish_39 : decode cX11_parish 39 = .ok (.tableswitch 83 0 7 #[45, 55, 83, 83, 83, 83, 65, 74], 45) := by decide +kernel
theorem dX11_parish_84 : decode cX11_parish 84 = .ok (.aload_n 0, 1) := by decide +kernel
theorem dX11_parish_85 : decode cX11_parish 85 = .ok (.getfield 18, 3) := by decide +kernel
theorem dX11_parish_88 : decode cX11_parish 88 = .ok (.getfield 151, 3) := by decide +kernel
theorem dX11_parish_91 : decode cX11_parish 91 = .ok (.iload_n 1, 1) := by decide +kernel
theorem dX11_parish_92 : decode cX11_parish 92 = .ok (.iaload, 1) := by decide +kernel
theorem dX11_parish_93 : decode cX11_parish 93 = .ok (.ireturn, 1) := by decide +kernel
theorem dX11_parish_94 : decode cX11_parish 94 = .ok (.aload_n 0, 1) := by decide +kernel
theorem dX11_parish_95 : decode cX11_parish 95 = .ok (.getfield 18, 3) := by decide +kernel
theorem dX11_parish_98 : decode cX11_parish 98 = .ok (.getfield 155, 3) := by decide +kernel
theorem dX11_parish_101 : decode cX11_parish 101 = .ok (.iload_n 1, 1) := by decide +kernel
theorem dX11_parish_102 : decode cX11_parish 102 = .ok (.iaload, 1) := by decide +kernel
theorem dX11_parish_103 : decode cX11_parish 103 = .ok (.ireturn, 1) := by decide +kernel
theorem dX11_parish_104 : decode cX11_parish 104 = .ok (.aload_n 0, 1) := by decide +kernel
theorem dX11_parish_105 : decode cX11_parish 105 = .ok (.getfield 36, 3) := by decide +kernel
theorem dX11_parish_108 : decode cX11_parish 108 = .ok (.iload_n 1, 1) := by decide +kernel
theorem dX11_parish_109 : decode cX11_parish 109 = .ok (.invokevirtual 158, 3) := by decide +kernel
theorem dX11_parish_112 : decode cX11_parish 112 = .ok (.ireturn, 1) := by decide +kernel
theorem dX11_parish_113 : decode cX11_parish 113 = .ok (.aload_n 0, 1) := by decide +kernel
theorem dX11_parish_114 : decode cX11_parish 114 = .ok (.getfield 36, 3) := by decide +kernel
theorem dX11_parish_117 : decode cX11_parish 117 = .ok (.iload_n 1, 1) := by decide +kernel
theorem dX11_parish_118 : decode cX11_parish 118 = .ok (.invokevirtual 161, 3) := by decide +kernel
theorem dX11_parish_121 : decode cX11_parish 121 = .ok (.ireturn, 1) := by decide +kernel
theorem dX11_parish_122 : decode cX11_parish 122 = .ok (.aload_n 0, 1) := by decide +kernel
theorem dX11_parish_123 : decode cX11_parish 123 = .ok (.getfield 36, 3) := by decide +kernel
theorem dX11_parish_126 : decode cX11_parish 126 = .ok (.getfield 164, 3) := by decide +kernel
theorem dX11_parish_129 : decode cX11_parish 129 = .ok (.iconst 4, 1) := by decide +kernel
theorem dX11_parish_130 : decode cX11_parish 130 = .ok (.iload_n 1, 1) := by decide +kernel
theorem dX11_parish_131 : decode cX11_parish 131 = .ok (.imul, 1) := by decide +kernel
theorem dX11_parish_132 : decode cX11_parish 132 = .ok (.iload_n 2, 1) := by decide +kernel
theorem dX11_parish_133 : decode cX11_parish 133 = .ok (.iadd, 1) := by decide +kernel
theorem dX11_parish_134 : decode cX11_parish 134 = .ok (.iconst 2, 1) := by decide +kernel
theorem dX11_parish_135 : decode cX11_parish 135 = .ok (.isub, 1) := by decide +kernel
theorem dX11_parish_136 : decode cX11_parish 136 = .ok (.iaload, 1) := by decide +kernel
theorem dX11_parish_137 : decode cX11_parish 137 = .ok (.ireturn, 1) := by decide +kernel
theorem dX11_child_0 : decode cX11_child 0 = .ok (.aload_n 0, 1) := by decide +kernel
theorem dX11_child_1 : decode cX11_child 1 = .ok (.iload_n 1, 1) := by decide +kernel
theorem dX11_child_2 : decode cX11_child 2 = .ok (.invokevirtual 167, 3) := by decide +kernel
theorem dX11_child_5 : decode cX11_child 5 = .ok (.ifCond .ne 5, 3) := by decide +kernel
theorem dX11_child_8 : decode cX11_child 8 = .ok (.iconst (-1), 1) := by decide +kernel
theorem dX11_child_9 : decode cX11_child 9 = .ok (.ireturn, 1) := by decide +kernel
theorem dX11_child_10 : decode cX11_child 10 = .ok (.iload_n 2, 1) := by decide +kernel
theorem dX11_child_11 : decode cX11_child 11 = .ok (.tableswitch 55 0 2 #[25, 35, 45], 25) := by decide +kernel
theorem dX11_child_36 : decode cX11_child 36 = .ok (.aload_n 0, 1) := by decide +kernel
theorem dX11_child_37 : decode cX11_child 37 = .ok (.getfield 36, 3) := by decide +kernel
theorem dX11_child_40 : decode cX11_child 40 = .ok (.getfield 170, 3) := by decide +kernel
theorem dX11_child_43 : decode cX11_child 43 = .ok (.iload_n 1, 1) := by decide +kernel
theorem dX11_child_44 : decode cX11_child 44 = .ok (.iaload, 1) := by decide +kernel
theorem dX11_child_45 : decode cX11_child 45 = .ok (.ireturn, 1) := by decide +kernel
theorem dX11_child_46 : decode cX11_child 46 = .ok (.aload_n 0, 1) := by decide +kernel
theorem dX11_child_47 : decode cX11_child 47 = .ok (.getfield 18, 3) := by decide +kernel
theorem dX11_child_50 : decode cX11_child 50 = .ok (.getfield 173, 3) := by decide +kernel
theorem dX11_child_53 : decode cX11_child 53 = .ok (.iload_n 1, 1) := by decide +kernel
theorem dX11_child_54 : decode cX11_child 54 = .ok (.iaload, 1) := by decide +kernel
theorem dX11_child_55 : decode cX11_child 55 = .ok (.ireturn, 1) := by decide +kernel
theorem dX11_child_56 : decode cX11_child 56 = .ok (.aload_n 0, 1) := by decide +kernel
theorem dX11_child_57 : decode cX11_child 57 = .ok (.getfield 36, 3) := by decide +kernel
theorem dX11_child_60 : decode cX11_child 60 = .ok (.getfield 176, 3) := by decide +kernel
theorem dX11_child_63 : decode cX11_child 63 = .ok (.iload_n 1, 1) := by decide +kernel
theorem dX11_child_64 : decode cX11_child 64 = .ok (.iaload, 1) := by decide +kernel
theorem dX11_child_65 : decode cX11_child 65 = .ok (.ireturn, 1) := by decide +kernel
theorem dX11_child_66 : decode cX11_child 66 = .ok (.iconst (-1), 1) := by decide +kernel
theorem dX11_child_67 : decode cX11_child 67 = .ok (.ireturn, 1) := by decide +kernel
theorem dX11_cake_0 : decode cX11_cake 0 = .ok (.aload_n 0, 1) := by decide +kernel
theorem dX11_cake_1 : decode cX11_cake 1 = .ok (.iload_n 1, 1) := by decide +kernel
theorem dX11_cake_2 : decode cX11_cake 2 = .ok (.invokevirtual 136, 3) := by decide +kernel
theorem dX11_cake_5 : decode cX11_cake 5 = .ok (.ifCond .eq 26, 3) := by decide +kernel
theorem dX11_cake_8 : decode cX11_cake 8 = .ok (.iload_n 2, 1) := by decide +kernel
theorem dX11_cake_9 : decode cX11_cake 9 = .ok (.invokestatic 179, 3) := by decide +kernel
theorem dX11_cake_12 : decode cX11_cake 12 = .ok (.ifCond .eq 19, 3) := by decide +kernel
theorem dX11_cake_15 : decode cX11_cake 15 = .ok (.aload_n 0, 1) := by decide +kernel
theorem dX11_cake_16 : decode cX11_cake 16 = .ok (.getfield 36, 3) := by decide +kernel
theorem dX11_cake_19 : decode cX11_cake 19 = .ok (.getfield 182, 3) := by decide +kernel
theorem dX11_cake_22 : decode cX11_cake 22 = .ok (.iconst 4, 1) := by decide +kernel
theorem dX11_cake_23 : decode cX11_cake 23 = .ok (.iload_n 1, 1) := by decide +kernel
theorem dX11_cake_24 : decode cX11_cake 24 = .ok (.imul, 1) := by decide +kernel
theorem dX11_cake_25 : decode cX11_cake 25 = .ok (.iload_n 2, 1) := by decide +kernel
theorem dX11_cake_26 : decode cX11_cake 26 = .ok (.iadd, 1) := by decide +kernel
theorem dX11_cake_27 : decode cX11_cake 27 = .ok (.iaload, 1) := by decide +kernel
theorem dX11_cake_28 : decode cX11_cake 28 = .ok (.goto 4, 3) := by decide +kernel
theorem dX11_cake_31 : decode cX11_cake 31 = .ok (.iconst (-1), 1) := by decide +kernel
theorem dX11_cake_32 : decode cX11_cake 32 = .ok (.ireturn, 1) := by decide +kernel
theorem dX11_owners_0 : decode cX11_owners 0 = .ok (.aload_n 0, 1) := by decide +kernel
theorem dX11_owners_1 : decode cX11_owners 1 = .ok (.iload_n 1, 1) := by decide +kernel
theorem dX11_owners_2 : decode cX11_owners 2 = .ok (.iload_n 2, 1) := by decide +kernel
theorem dX11_owners_3 : decode cX11_owners 3 = .ok (.invokevirtual 185, 3) := by decide +kernel
theorem dX11_owners_6 : decode cX11_owners 6 = .ok (.ifCond .eq 15, 3) := by decide +kernel
theorem dX11_owners_9 : decode cX11_owners 9 = .ok (.aload_n 0, 1) := by decide +kernel
theorem dX11_owners_10 : decode cX11_owners 10 = .ok (.getfield 36, 3) := by decide +kernel
theorem dX11_owners_13 : decode cX11_owners 13 = .ok (.iload_n 1, 1) := by decide +kernel
theorem dX11_owners_14 : decode cX11_owners 14 = .ok (.iload_n 2, 1) := by decide +kernel
theorem dX11_owners_15 : decode cX11_owners 15 = .ok (.invokevirtual 189, 3) := by decide +kernel
theorem dX11_owners_18 : decode cX11_owners 18 = .ok (.goto 4, 3) := by decide +kernel
theorem dX11_owners_21 : decode cX11_owners 21 = .ok (.iconst (-1), 1) := by decide +kernel
theorem dX11_owners_22 : decode cX11_owners 22 = .ok (.ireturn, 1) := by decide +kernel
theorem dX11_overlap_0 : decode cX11_overlap 0 = .ok (.aload_n 0, 1) := by decide +kernel
theorem dX11_overlap_1 : decode cX11_overlap 1 = .ok (.iload_n 1, 1) := by decide +kernel
theorem dX11_overlap_2 : decode cX11_overlap 2 = .ok (.iload_n 2, 1) := by decide +kernel
theorem dX11_overlap_3 : decode cX11_overlap 3 = .ok (.invokevirtual 193, 3) := by decide +kernel
theorem dX11_overlap_6 : decode cX11_overlap 6 = .ok (.ifCond .eq 15, 3) := by decide +kernel
theorem dX11_overlap_9 : decode cX11_overlap 9 = .ok (.aload_n 0, 1) := by decide +kernel
theorem dX11_overlap_10 : decode cX11_overlap 10 = .ok (.getfield 36, 3) := by decide +kernel
theorem dX11_overlap_13 : decode cX11_overlap 13 = .ok (.iload_n 1, 1) := by decide +kernel
theorem dX11_overlap_14 : decode cX11_overlap 14 = .ok (.iload_n 2, 1) := by decide +kernel
theorem dX11_overlap_15 : decode cX11_overlap 15 = .ok (.invokevirtual 196, 3) := by decide +kernel
theorem dX11_overlap_18 : decode cX11_overlap 18 = .ok (.goto 4, 3) := by decide +kernel
theorem dX11_overlap_21 : decode cX11_overlap 21 = .ok (.iconst (-1), 1) := by decide +kernel
theorem dX11_overlap_22 : decode cX11_overlap 22 = .ok (.ireturn, 1) := by decide +kernel
theorem dX11_taken_0 : decode cX11_taken 0 = .ok (.aload_n 0, 1) := by decide +kernel
theorem dX11_taken_1 : decode cX11_taken 1 = .ok (.getfield 36, 3) := by decide +kernel
theorem dX11_taken_4 : decode cX11_taken 4 = .ok (.iconst 1, 1) := by decide +kernel
theorem dX11_taken_5 : decode cX11_taken 5 = .ok (.invokevirtual 199, 3) := by decide +kernel
theorem dX11_taken_8 : decode cX11_taken 8 = .ok (.ireturn, 1) := by decide +kernel
theorem dX11_disputed_0 : decode cX11_disputed 0 = .ok (.aload_n 0, 1) := by decide +kernel
theorem dX11_disputed_1 : decode cX11_disputed 1 = .ok (.getfield 36, 3) := by decide +kernel
theorem dX11_disputed_4 : decode cX11_disputed 4 = .ok (.iconst 2, 1) := by decide +kernel
theorem dX11_disputed_5 : decode cX11_disputed 5 = .ok (.invokevirtual 199, 3) := by decide +kernel
theorem dX11_disputed_8 : decode cX11_disputed 8 = .ok (.ireturn, 1) := by decide +kernel
theorem dX11_law_0 : decode cX11_law 0 = .ok (.aload_n 0, 1) := by decide +kernel
theorem dX11_law_1 : decode cX11_law 1 = .ok (.getfield 49, 3) := by decide +kernel
theorem dX11_law_4 : decode cX11_law 4 = .ok (.invokevirtual 202, 3) := by decide +kernel
theorem dX11_law_7 : decode cX11_law 7 = .ok (.istore 5, 2) := by decide +kernel
theorem dX11_law_9 : decode cX11_law 9 = .ok (.iload_n 1, 1) := by decide +kernel
theorem dX11_law_10 : decode cX11_law 10 = .ok (.ifCond .ne 62, 3) := by decide +kernel
theorem dX11_law_13 : decode cX11_law 13 = .ok (.aload_n 0, 1) := by decide +kernel
theorem dX11_law_14 : decode cX11_law 14 = .ok (.iload_n 2, 1) := by decide +kernel
theorem dX11_law_15 : decode cX11_law 15 = .ok (.invokevirtual 167, 3) := by decide +kernel
theorem dX11_law_18 : decode cX11_law 18 = .ok (.ifCond .eq 54, 3) := by decide +kernel
theorem dX11_law_21 : decode cX11_law 21 = .ok (.aload_n 0, 1) := by decide +kernel
theorem dX11_law_22 : decode cX11_law 22 = .ok (.iload_n 3, 1) := by decide +kernel
theorem dX11_law_23 : decode cX11_law 23 = .ok (.invokevirtual 136, 3) := by decide +kernel
theorem dX11_law_26 : decode cX11_law 26 = .ok (.ifCond .eq 46, 3) := by decide +kernel
theorem dX11_law_29 : decode cX11_law 29 = .ok (.iload 4, 2) := by decide +kernel
theorem dX11_law_31 : decode cX11_law 31 = .ok (.invokestatic 179, 3) := by decide +kernel
theorem dX11_law_34 : decode cX11_law 34 = .ok (.ifCond .eq 38, 3) := by decide +kernel
theorem dX11_law_37 : decode cX11_law 37 = .ok (.iconst 4, 1) := by decide +kernel
theorem dX11_law_38 : decode cX11_law 38 = .ok (.iload_n 3, 1) := by decide +kernel
theorem dX11_law_39 : decode cX11_law 39 = .ok (.imul, 1) := by decide +kernel
theorem dX11_law_40 : decode cX11_law 40 = .ok (.iload 4, 2) := by decide +kernel
theorem dX11_law_42 : decode cX11_law 42 = .ok (.iadd, 1) := by decide +kernel
theorem dX11_law_43 : decode cX11_law 43 = .ok (.istore 6, 2) := by decide +kernel
theorem dX11_law_45 : decode cX11_law 45 = .ok (.aload_n 0, 1) := by decide +kernel
theorem dX11_law_46 : decode cX11_law 46 = .ok (.getfield 49, 3) := by decide +kernel
theorem dX11_law_49 : decode cX11_law 49 = .ok (.aload_n 0, 1) := by decide +kernel
theorem dX11_law_50 : decode cX11_law 50 = .ok (.getfield 36, 3) := by decide +kernel
theorem dX11_law_53 : decode cX11_law 53 = .ok (.iload_n 2, 1) := by decide +kernel
theorem dX11_law_54 : decode cX11_law 54 = .ok (.iload 6, 2) := by decide +kernel
theorem dX11_law_56 : decode cX11_law 56 = .ok (.aload_n 0, 1) := by decide +kernel
theorem dX11_law_57 : decode cX11_law 57 = .ok (.getfield 36, 3) := by decide +kernel
theorem dX11_law_60 : decode cX11_law 60 = .ok (.getfield 182, 3) := by decide +kernel
theorem dX11_law_63 : decode cX11_law 63 = .ok (.iload 6, 2) := by decide +kernel
theorem dX11_law_65 : decode cX11_law 65 = .ok (.iaload, 1) := by decide +kernel
theorem dX11_law_66 : decode cX11_law 66 = .ok (.iload 5, 2) := by decide +kernel
theorem dX11_law_68 : decode cX11_law 68 = .ok (.invokevirtual 206, 3) := by decide +kernel
theorem dX11_law_71 : decode cX11_law 71 = .ok (.lreturn, 1) := by decide +kernel
theorem dX11_law_72 : decode cX11_law 72 = .ok (.iload_n 1, 1) := by decide +kernel
theorem dX11_law_73 : decode cX11_law 73 = .ok (.iconst 1, 1) := by decide +kernel
theorem dX11_law_74 : decode cX11_law 74 = .ok (.if_icmp .ne 35, 3) := by decide +kernel
theorem dX11_law_77 : decode cX11_law 77 = .ok (.aload_n 0, 1) := by decide +kernel
theorem dX11_law_78 : decode cX11_law 78 = .ok (.iload_n 2, 1) := by decide +kernel
theorem dX11_law_79 : decode cX11_law 79 = .ok (.iload_n 3, 1) := by decide +kernel
theorem dX11_law_80 : decode cX11_law 80 = .ok (.invokevirtual 193, 3) := by decide +kernel
theorem dX11_law_83 : decode cX11_law 83 = .ok (.ifCond .eq 26, 3) := by decide +kernel
theorem dX11_law_86 : decode cX11_law 86 = .ok (.aload_n 0, 1) := by decide +kernel
theorem dX11_law_87 : decode cX11_law 87 = .ok (.getfield 49, 3) := by decide +kernel
theorem dX11_law_90 : decode cX11_law 90 = .ok (.aload_n 0, 1) := by decide +kernel
theorem dX11_law_91 : decode cX11_law 91 = .ok (.getfield 36, 3) := by decide +kernel
theorem dX11_law_94 : decode cX11_law 94 = .ok (.aload_n 0, 1) := by decide +kernel
theorem dX11_law_95 : decode cX11_law 95 = .ok (.getfield 36, 3) := by decide +kernel
theorem dX11_law_98 : decode cX11_law 98 = .ok (.iload_n 2, 1) := by decide +kernel
theorem dX11_law_99 : decode cX11_law 99 = .ok (.iload_n 3, 1) := by decide +kernel
theorem dX11_law_100 : decode cX11_law 100 = .ok (.invokevirtual 196, 3) := by decide +kernel
theorem dX11_law_103 : decode cX11_law 103 = .ok (.iload 5, 2) := by decide +kernel
theorem dX11_law_105 : decode cX11_law 105 = .ok (.invokevirtual 210, 3) := by decide +kernel
theorem dX11_law_108 : decode cX11_law 108 = .ok (.lreturn, 1) := by decide +kernel
theorem dX11_law_109 : decode cX11_law 109 = .ok (.iload_n 1, 1) := by decide +kernel
theorem dX11_law_110 : decode cX11_law 110 = .ok (.iconst 2, 1) := by decide +kernel
theorem dX11_law_111 : decode cX11_law 111 = .ok (.if_icmp .ne 26, 3) := by decide +kernel
theorem dX11_law_114 : decode cX11_law 114 = .ok (.aload_n 0, 1) := by decide +kernel
theorem dX11_law_115 : decode cX11_law 115 = .ok (.iload_n 2, 1) := by decide +kernel
theorem dX11_law_116 : decode cX11_law 116 = .ok (.invokevirtual 167, 3) := by decide +kernel
theorem dX11_law_119 : decode cX11_law 119 = .ok (.ifCond .eq 18, 3) := by decide +kernel
theorem dX11_law_122 : decode cX11_law 122 = .ok (.aload_n 0, 1) := by decide +kernel
theorem dX11_law_123 : decode cX11_law 123 = .ok (.getfield 49, 3) := by decide +kernel
theorem dX11_law_126 : decode cX11_law 126 = .ok (.aload_n 0, 1) := by decide +kernel
theorem dX11_law_127 : decode cX11_law 127 = .ok (.getfield 36, 3) := by decide +kernel
theorem dX11_law_130 : decode cX11_law 130 = .ok (.iload_n 2, 1) := by decide +kernel
theorem dX11_law_131 : decode cX11_law 131 = .ok (.iload 5, 2) := by decide +kernel
theorem dX11_law_133 : decode cX11_law 133 = .ok (.invokevirtual 214, 3) := by decide +kernel
theorem dX11_law_136 : decode cX11_law 136 = .ok (.lreturn, 1) := by decide +kernel
theorem dX11_law_137 : decode cX11_law 137 = .ok (.ldc2_w 217, 3) := by decide +kernel
theorem dX11_law_140 : decode cX11_law 140 = .ok (.lreturn, 1) := by decide +kernel
theorem dX11_beat_0 : decode cX11_beat 0 = .ok (.aload_n 0, 1) := by decide +kernel
theorem dX11_beat_1 : decode cX11_beat 1 = .ok (.iload_n 1, 1) := by decide +kernel
theorem dX11_beat_2 : decode cX11_beat 2 = .ok (.invokevirtual 136, 3) := by decide +kernel
theorem dX11_beat_5 : decode cX11_beat 5 = .ok (.ifCond .eq 18, 3) := by decide +kernel
theorem dX11_beat_8 : decode cX11_beat 8 = .ok (.aload_n 0, 1) := by decide +kernel
theorem dX11_beat_9 : decode cX11_beat 9 = .ok (.iload_n 2, 1) := by decide +kernel
theorem dX11_beat_10 : decode cX11_beat 10 = .ok (.invokevirtual 167, 3) := by decide +kernel
theorem dX11_beat_13 : decode cX11_beat 13 = .ok (.ifCond .eq 10, 3) := by decide +kernel
theorem dX11_beat_16 : decode cX11_beat 16 = .ok (.iload_n 3, 1) := by decide +kernel
theorem dX11_beat_17 : decode cX11_beat 17 = .ok (.invokestatic 179, 3) := by decide +kernel
theorem dX11_beat_20 : decode cX11_beat 20 = .ok (.ifCond .ne 5, 3) := by decide +kernel
theorem dX11_beat_23 : decode cX11_beat 23 = .ok (.iconst (-1), 1) := by decide +kernel
theorem dX11_beat_24 : decode cX11_beat 24 = .ok (.ireturn, 1) := by decide +kernel
theorem dX11_beat_25 : decode cX11_beat 25 = .ok (.iconst 4, 1) := by decide +kernel
theorem dX11_beat_26 : decode cX11_beat 26 = .ok (.iload_n 1, 1) := by decide +kernel
theorem dX11_beat_27 : decode cX11_beat 27 = .ok (.imul, 1) := by decide +kernel
theorem dX11_beat_28 : decode cX11_beat 28 = .ok (.iload_n 3, 1) := by decide +kernel
theorem dX11_beat_29 : decode cX11_beat 29 = .ok (.iadd, 1) := by decide +kernel
theorem dX11_beat_30 : decode cX11_beat 30 = .ok (.istore 4, 2) := by decide +kernel
theorem dX11_beat_32 : decode cX11_beat 32 = .ok (.aload_n 0, 1) := by decide +kernel
theorem dX11_beat_33 : decode cX11_beat 33 = .ok (.getfield 56, 3) := by decide +kernel
theorem dX11_beat_36 : decode cX11_beat 36 = .ok (.aload_n 0, 1) := by decide +kernel
theorem dX11_beat_37 : decode cX11_beat 37 = .ok (.getfield 36, 3) := by decide +kernel
theorem dX11_beat_40 : decode cX11_beat 40 = .ok (.iload 4, 2) := by decide +kernel
theorem dX11_beat_42 : decode cX11_beat 42 = .ok (.iload_n 2, 1) := by decide +kernel
theorem dX11_beat_43 : decode cX11_beat 43 = .ok (.invokevirtual 219, 3) := by decide +kernel
theorem dX11_beat_46 : decode cX11_beat 46 = .ok (.aload_n 0, 1) := by decide +kernel
theorem dX11_beat_47 : decode cX11_beat 47 = .ok (.getfield 49, 3) := by decide +kernel
theorem dX11_beat_50 : decode cX11_beat 50 = .ok (.aload_n 0, 1) := by decide +kernel
theorem dX11_beat_51 : decode cX11_beat 51 = .ok (.getfield 36, 3) := by decide +kernel
theorem dX11_beat_54 : decode cX11_beat 54 = .ok (.iload_n 2, 1) := by decide +kernel
theorem dX11_beat_55 : decode cX11_beat 55 = .ok (.iload 4, 2) := by decide +kernel
theorem dX11_beat_57 : decode cX11_beat 57 = .ok (.aload_n 0, 1) := by decide +kernel
theorem dX11_beat_58 : decode cX11_beat 58 = .ok (.getfield 49, 3) := by decide +kernel
theorem dX11_beat_61 : decode cX11_beat 61 = .ok (.invokevirtual 202, 3) := by decide +kernel
theorem dX11_beat_64 : decode cX11_beat 64 = .ok (.invokevirtual 223, 3) := by decide +kernel
theorem dX11_beat_67 : decode cX11_beat 67 = .ok (.aload_n 0, 1) := by decide +kernel
theorem dX11_beat_68 : decode cX11_beat 68 = .ok (.getfield 36, 3) := by decide +kernel
theorem dX11_beat_71 : decode cX11_beat 71 = .ok (.getfield 164, 3) := by decide +kernel
theorem dX11_beat_74 : decode cX11_beat 74 = .ok (.iload 4, 2) := by decide +kernel
theorem dX11_beat_76 : decode cX11_beat 76 = .ok (.iaload, 1) := by decide +kernel
theorem dX11_beat_77 : decode cX11_beat 77 = .ok (.ireturn, 1) := by decide +kernel
theorem dX11_bake_0 : decode cX11_bake 0 = .ok (.aload_n 0, 1) := by decide +kernel
theorem dX11_bake_1 : decode cX11_bake 1 = .ok (.iload_n 1, 1) := by decide +kernel
theorem dX11_bake_2 : decode cX11_bake 2 = .ok (.invokevirtual 136, 3) := by decide +kernel
theorem dX11_bake_5 : decode cX11_bake 5 = .ok (.ifCond .eq 20, 3) := by decide +kernel
theorem dX11_bake_8 : decode cX11_bake 8 = .ok (.iload_n 2, 1) := by decide +kernel
theorem dX11_bake_9 : decode cX11_bake 9 = .ok (.invokestatic 179, 3) := by decide +kernel
theorem dX11_bake_12 : decode cX11_bake 12 = .ok (.ifCond .eq 13, 3) := by decide +kernel
theorem dX11_bake_15 : decode cX11_bake 15 = .ok (.iload_n 3, 1) := by decide +kernel
theorem dX11_bake_16 : decode cX11_bake 16 = .ok (.ifCond .lt 9, 3) := by decide +kernel
theorem dX11_bake_19 : decode cX11_bake 19 = .ok (.iload_n 3, 1) := by decide +kernel
theorem dX11_bake_20 : decode cX11_bake 20 = .ok (.bipush 9, 2) := by decide +kernel
theorem dX11_bake_22 : decode cX11_bake 22 = .ok (.if_icmp .le 5, 3) := by decide +kernel
theorem dX11_bake_25 : decode cX11_bake 25 = .ok (.iconst 0, 1) := by decide +kernel
theorem dX11_bake_26 : decode cX11_bake 26 = .ok (.ireturn, 1) := by decide +kernel
theorem dX11_bake_27 : decode cX11_bake 27 = .ok (.iconst 4, 1) := by decide +kernel
theorem dX11_bake_28 : decode cX11_bake 28 = .ok (.iload_n 1, 1) := by decide +kernel
theorem dX11_bake_29 : decode cX11_bake 29 = .ok (.imul, 1) := by decide +kernel
theorem dX11_bake_30 : decode cX11_bake 30 = .ok (.iload_n 2, 1) := by decide +kernel
theorem dX11_bake_31 : decode cX11_bake 31 = .ok (.iadd, 1) := by decide +kernel
theorem dX11_bake_32 : decode cX11_bake 32 = .ok (.istore 4, 2) := by decide +kernel
theorem dX11_bake_34 : decode cX11_bake 34 = .ok (.aload_n 0, 1) := by decide +kernel
theorem dX11_bake_35 : decode cX11_bake 35 = .ok (.getfield 36, 3) := by decide +kernel
theorem dX11_bake_38 : decode cX11_bake 38 = .ok (.getfield 182, 3) := by decide +kernel
theorem dX11_bake_41 : decode cX11_bake 41 = .ok (.iload 4, 2) := by decide +kernel
theorem dX11_bake_43 : decode cX11_bake 43 = .ok (.iaload, 1) := by decide +kernel
theorem dX11_bake_44 : decode cX11_bake 44 = .ok (.iload_n 3, 1) := by decide +kernel
theorem dX11_bake_45 : decode cX11_bake 45 = .ok (.if_icmp .ne 5, 3) := by decide +kernel
theorem dX11_bake_48 : decode cX11_bake 48 = .ok (.iconst 0, 1) := by decide +kernel
theorem dX11_bake_49 : decode cX11_bake 49 = .ok (.ireturn, 1) := by decide +kernel
theorem dX11_bake_50 : decode cX11_bake 50 = .ok (.aload_n 0, 1) := by decide +kernel
theorem dX11_bake_51 : decode cX11_bake 51 = .ok (.getfield 56, 3) := by decide +kernel
theorem dX11_bake_54 : decode cX11_bake 54 = .ok (.aload_n 0, 1) := by decide +kernel
theorem dX11_bake_55 : decode cX11_bake 55 = .ok (.getfield 36, 3) := by decide +kernel
theorem dX11_bake_58 : decode cX11_bake 58 = .ok (.iload 4, 2) := by decide +kernel
theorem dX11_bake_60 : decode cX11_bake 60 = .ok (.iconst (-1), 1) := by decide +kernel
theorem dX11_bake_61 : decode cX11_bake 61 = .ok (.invokevirtual 219, 3) := by decide +kernel
theorem dX11_bake_64 : decode cX11_bake 64 = .ok (.aload_n 0, 1) := by decide +kernel
theorem dX11_bake_65 : decode cX11_bake 65 = .ok (.getfield 36, 3) := by decide +kernel
theorem dX11_bake_68 : decode cX11_bake 68 = .ok (.getfield 182, 3) := by decide +kernel
theorem dX11_bake_71 : decode cX11_bake 71 = .ok (.iload 4, 2) := by decide +kernel
theorem dX11_bake_73 : decode cX11_bake 73 = .ok (.iload_n 3, 1) := by decide +kernel
theorem dX11_bake_74 : decode cX11_bake 74 = .ok (.iastore, 1) := by decide +kernel
theorem dX11_bake_75 : decode cX11_bake 75 = .ok (.iconst 1, 1) := by decide +kernel
theorem dX11_bake_76 : decode cX11_bake 76 = .ok (.ireturn, 1) := by decide +kernel
theorem dX11_carry_0 : decode cX11_carry 0 = .ok (.aload_n 0, 1) := by decide +kernel
theorem dX11_carry_1 : decode cX11_carry 1 = .ok (.iload_n 1, 1) := by decide +kernel
theorem dX11_carry_2 : decode cX11_carry 2 = .ok (.invokevirtual 136, 3) := by decide +kernel
theorem dX11_carry_5 : decode cX11_carry 5 = .ok (.ifCond .eq 27, 3) := by decide +kernel
theorem dX11_carry_8 : decode cX11_carry 8 = .ok (.iload_n 2, 1) := by decide +kernel
theorem dX11_carry_9 : decode cX11_carry 9 = .ok (.invokestatic 179, 3) := by decide +kernel
theorem dX11_carry_12 : decode cX11_carry 12 = .ok (.ifCond .eq 20, 3) := by decide +kernel
theorem dX11_carry_15 : decode cX11_carry 15 = .ok (.iload_n 3, 1) := by decide +kernel
theorem dX11_carry_16 : decode cX11_carry 16 = .ok (.ifCond .lt 16, 3) := by decide +kernel
theorem dX11_carry_19 : decode cX11_carry 19 = .ok (.iload_n 3, 1) := by decide +kernel
theorem dX11_carry_20 : decode cX11_carry 20 = .ok (.aload_n 0, 1) := by decide +kernel
theorem dX11_carry_21 : decode cX11_carry 21 = .ok (.getfield 18, 3) := by decide +kernel
theorem dX11_carry_24 : decode cX11_carry 24 = .ok (.iload_n 1, 1) := by decide +kernel
theorem dX11_carry_25 : decode cX11_carry 25 = .ok (.iload_n 2, 1) := by decide +kernel
theorem dX11_carry_26 : decode cX11_carry 26 = .ok (.invokevirtual 227, 3) := by decide +kernel
theorem dX11_carry_29 : decode cX11_carry 29 = .ok (.if_icmp .le 5, 3) := by decide +kernel
theorem dX11_carry_32 : decode cX11_carry 32 = .ok (.iconst (-1), 1) := by decide +kernel
theorem dX11_carry_33 : decode cX11_carry 33 = .ok (.ireturn, 1) := by decide +kernel
theorem dX11_carry_34 : decode cX11_carry 34 = .ok (.iconst 4, 1) := by decide +kernel
theorem dX11_carry_35 : decode cX11_carry 35 = .ok (.iload_n 1, 1) := by decide +kernel
theorem dX11_carry_36 : decode cX11_carry 36 = .ok (.imul, 1) := by decide +kernel
theorem dX11_carry_37 : decode cX11_carry 37 = .ok (.iload_n 2, 1) := by decide +kernel
theorem dX11_carry_38 : decode cX11_carry 38 = .ok (.iadd, 1) := by decide +kernel
theorem dX11_carry_39 : decode cX11_carry 39 = .ok (.istore 4, 2) := by decide +kernel
theorem dX11_carry_41 : decode cX11_carry 41 = .ok (.aload_n 0, 1) := by decide +kernel
theorem dX11_carry_42 : decode cX11_carry 42 = .ok (.getfield 36, 3) := by decide +kernel
theorem dX11_carry_45 : decode cX11_carry 45 = .ok (.getfield 164, 3) := by decide +kernel
theorem dX11_carry_48 : decode cX11_carry 48 = .ok (.iload 4, 2) := by decide +kernel
theorem dX11_carry_50 : decode cX11_carry 50 = .ok (.iaload, 1) := by decide +kernel
theorem dX11_carry_51 : decode cX11_carry 51 = .ok (.iload_n 3, 1) := by decide +kernel
theorem dX11_carry_52 : decode cX11_carry 52 = .ok (.if_icmp .ne 5, 3) := by decide +kernel
theorem dX11_carry_55 : decode cX11_carry 55 = .ok (.iconst (-1), 1) := by decide +kernel
theorem dX11_carry_56 : decode cX11_carry 56 = .ok (.ireturn, 1) := by decide +kernel
theorem dX11_carry_57 : decode cX11_carry 57 = .ok (.aload_n 0, 1) := by decide +kernel
theorem dX11_carry_58 : decode cX11_carry 58 = .ok (.getfield 56, 3) := by decide +kernel
theorem dX11_carry_61 : decode cX11_carry 61 = .ok (.aload_n 0, 1) := by decide +kernel
theorem dX11_carry_62 : decode cX11_carry 62 = .ok (.getfield 36, 3) := by decide +kernel
theorem dX11_carry_65 : decode cX11_carry 65 = .ok (.iload 4, 2) := by decide +kernel
theorem dX11_carry_67 : decode cX11_carry 67 = .ok (.iconst (-1), 1) := by decide +kernel
theorem dX11_carry_68 : decode cX11_carry 68 = .ok (.invokevirtual 219, 3) := by decide +kernel
theorem dX11_carry_71 : decode cX11_carry 71 = .ok (.aload_n 0, 1) := by decide +kernel
theorem dX11_carry_72 : decode cX11_carry 72 = .ok (.getfield 36, 3) := by decide +kernel
theorem dX11_carry_75 : decode cX11_carry 75 = .ok (.getfield 164, 3) := by decide +kernel
theorem dX11_carry_78 : decode cX11_carry 78 = .ok (.iload 4, 2) := by decide +kernel
theorem dX11_carry_80 : decode cX11_carry 80 = .ok (.iload_n 3, 1) := by decide +kernel
theorem dX11_carry_81 : decode cX11_carry 81 = .ok (.iastore, 1) := by decide +kernel
theorem dX11_carry_82 : decode cX11_carry 82 = .ok (.aload_n 0, 1) := by decide +kernel
theorem dX11_carry_83 : decode cX11_carry 83 = .ok (.getfield 36, 3) := by decide +kernel
theorem dX11_carry_86 : decode cX11_carry 86 = .ok (.iload_n 1, 1) := by decide +kernel
theorem dX11_carry_87 : decode cX11_carry 87 = .ok (.invokevirtual 158, 3) := by decide +kernel
theorem dX11_carry_90 : decode cX11_carry 90 = .ok (.ireturn, 1) := by decide +kernel
theorem dX11_go_0 : decode cX11_go 0 = .ok (.iload_n 1, 1) := by decide +kernel
theorem dX11_go_1 : decode cX11_go 1 = .ok (.ifCond .lt 25, 3) := by decide +kernel
theorem dX11_go_4 : decode cX11_go 4 = .ok (.iload_n 1, 1) := by decide +kernel
theorem dX11_go_5 : decode cX11_go 5 = .ok (.sipush 200, 3) := by decide +kernel
theorem dX11_go_8 : decode cX11_go 8 = .ok (.if_icmp .gt 18, 3) := by decide +kernel
theorem dX11_go_11 : decode cX11_go 11 = .ok (.iload_n 1, 1) := by decide +kernel
theorem dX11_go_12 : decode cX11_go 12 = .ok (.sipush 9800, 3) := by decide +kernel
theorem dX11_go_15 : decode cX11_go 15 = .ok (.aload_n 0, 1) := by decide +kernel
theorem dX11_go_16 : decode cX11_go 16 = .ok (.getfield 36, 3) := by decide +kernel
theorem dX11_go_19 : decode cX11_go 19 = .ok (.getfield 230, 3) := by decide +kernel
theorem dX11_go_22 : decode cX11_go 22 = .ok (.isub, 1) := by decide +kernel
theorem dX11_go_23 : decode cX11_go 23 = .ok (.if_icmp .le 5, 3) := by decide +kernel
theorem dX11_go_26 : decode cX11_go 26 = .ok (.iconst (-1), 1) := by decide +kernel
theorem dX11_go_27 : decode cX11_go 27 = .ok (.ireturn, 1) := by decide +kernel
theorem dX11_go_28 : decode cX11_go 28 = .ok (.iload_n 1, 1) := by decide +kernel
theorem dX11_go_29 : decode cX11_go 29 = .ok (.ifCond .le 10, 3) := by decide +kernel
theorem dX11_go_32 : decode cX11_go 32 = .ok (.aload_n 0, 1) := by decide +kernel
theorem dX11_go_33 : decode cX11_go 33 = .ok (.getfield 56, 3) := by decide +kernel
theorem dX11_go_36 : decode cX11_go 36 = .ok (.invokevirtual 109, 3) := by decide +kernel
theorem dX11_go_39 : decode cX11_go 39 = .ok (.aload_n 0, 1) := by decide +kernel
theorem dX11_go_40 : decode cX11_go 40 = .ok (.getfield 49, 3) := by decide +kernel
theorem dX11_go_43 : decode cX11_go 43 = .ok (.aload_n 0, 1) := by decide +kernel
theorem dX11_go_44 : decode cX11_go 44 = .ok (.getfield 36, 3) := by decide +kernel
theorem dX11_go_47 : decode cX11_go 47 = .ok (.iload_n 1, 1) := by decide +kernel
theorem dX11_go_48 : decode cX11_go 48 = .ok (.iconst 1, 1) := by decide +kernel
theorem dX11_go_49 : decode cX11_go 49 = .ok (.invokevirtual 233, 3) := by decide +kernel
theorem dX11_go_52 : decode cX11_go 52 = .ok (.aload_n 0, 1) := by decide +kernel
theorem dX11_go_53 : decode cX11_go 53 = .ok (.getfield 36, 3) := by decide +kernel
theorem dX11_go_56 : decode cX11_go 56 = .ok (.getfield 230, 3) := by decide +kernel
theorem dX11_go_59 : decode cX11_go 59 = .ok (.ireturn, 1) := by decide +kernel
theorem dX11_ahead_0 : decode cX11_ahead 0 = .ok (.iload_n 2, 1) := by decide +kernel
theorem dX11_ahead_1 : decode cX11_ahead 1 = .ok (.iconst 1, 1) := by decide +kernel
theorem dX11_ahead_2 : decode cX11_ahead 2 = .ok (.if_icmp .eq 33, 3) := by decide +kernel
theorem dX11_ahead_5 : decode cX11_ahead 5 = .ok (.iload_n 2, 1) := by decide +kernel
theorem dX11_ahead_6 : decode cX11_ahead 6 = .ok (.iconst 3, 1) := by decide +kernel
theorem dX11_ahead_7 : decode cX11_ahead 7 = .ok (.if_icmp .eq 28, 3) := by decide +kernel
theorem dX11_ahead_10 : decode cX11_ahead 10 = .ok (.iload_n 2, 1) := by decide +kernel
theorem dX11_ahead_11 : decode cX11_ahead 11 = .ok (.ifCond .ne 11, 3) := by decide +kernel
theorem dX11_ahead_14 : decode cX11_ahead 14 = .ok (.aload_n 0, 1) := by decide +kernel
theorem dX11_ahead_15 : decode cX11_ahead 15 = .ok (.iload_n 3, 1) := by decide +kernel
theorem dX11_ahead_16 : decode cX11_ahead 16 = .ok (.invokevirtual 136, 3) := by decide +kernel
theorem dX11_ahead_19 : decode cX11_ahead 19 = .ok (.ifCond .ne 16, 3) := by decide +kernel
theorem dX11_ahead_22 : decode cX11_ahead 22 = .ok (.iload_n 2, 1) := by decide +kernel
theorem dX11_ahead_23 : decode cX11_ahead 23 = .ok (.iconst 2, 1) := by decide +kernel
theorem dX11_ahead_24 : decode cX11_ahead 24 = .ok (.if_icmp .ne 15, 3) := by decide +kernel
theorem dX11_ahead_27 : decode cX11_ahead 27 = .ok (.aload_n 0, 1) := by decide +kernel
theorem dX11_ahead_28 : decode cX11_ahead 28 = .ok (.iload_n 3, 1) := by decide +kernel
theorem dX11_ahead_29 : decode cX11_ahead 29 = .ok (.invokevirtual 167, 3) := by decide +kernel
theorem dX11_ahead_32 : decode cX11_ahead 32 = .ok (.ifCond .eq 7, 3) := by decide +kernel
theorem dX11_ahead_35 : decode cX11_ahead 35 = .ok (.iconst 1, 1) := by decide +kernel
theorem dX11_ahead_36 : decode cX11_ahead 36 = .ok (.goto 4, 3) := by decide +kernel
theorem dX11_ahead_39 : decode cX11_ahead 39 = .ok (.iconst 0, 1) := by decide +kernel
theorem dX11_ahead_40 : decode cX11_ahead 40 = .ok (.istore 4, 2) := by decide +kernel
theorem dX11_ahead_42 : decode cX11_ahead 42 = .ok (.iload_n 1, 1) := by decide +kernel
theorem dX11_ahead_43 : decode cX11_ahead 43 = .ok (.ifCond .lt 15, 3) := by decide +kernel
theorem dX11_ahead_46 : decode cX11_ahead 46 = .ok (.iload_n 1, 1) := by decide +kernel
theorem dX11_ahead_47 : decode cX11_ahead 47 = .ok (.sipush 200, 3) := by decide +kernel
theorem dX11_ahead_50 : decode cX11_ahead 50 = .ok (.if_icmp .gt 8, 3) := by decide +kernel
theorem dX11_ahead_53 : decode cX11_ahead 53 = .ok (.iload 4, 2) := by decide +kernel
theorem dX11_ahead_55 : decode cX11_ahead 55 = .ok (.ifCond .ne 5, 3) := by decide +kernel
theorem dX11_ahead_58 : decode cX11_ahead 58 = .ok (.iconst (-1), 1) := by decide +kernel
theorem dX11_ahead_59 : decode cX11_ahead 59 = .ok (.ireturn, 1) := by decide +kernel
theorem dX11_ahead_60 : decode cX11_ahead 60 = .ok (.aload_n 0, 1) := by decide +kernel
theorem dX11_ahead_61 : decode cX11_ahead 61 = .ok (.getfield 40, 3) := by decide +kernel
theorem dX11_ahead_64 : decode cX11_ahead 64 = .ok (.aload_n 0, 1) := by decide +kernel
theorem dX11_ahead_65 : decode cX11_ahead 65 = .ok (.getfield 36, 3) := by decide +kernel
theorem dX11_ahead_68 : decode cX11_ahead 68 = .ok (.invokevirtual 236, 3) := by decide +kernel
theorem dX11_ahead_71 : decode cX11_ahead 71 = .ok (.aload_n 0, 1) := by decide +kernel
theorem dX11_ahead_72 : decode cX11_ahead 72 = .ok (.getfield 40, 3) := by decide +kernel
theorem dX11_ahead_75 : decode cX11_ahead 75 = .ok (.iload_n 2, 1) := by decide +kernel
theorem dX11_ahead_76 : decode cX11_ahead 76 = .ok (.ifCond .eq 8, 3) := by decide +kernel
theorem dX11_ahead_79 : decode cX11_ahead 79 = .ok (.iload_n 2, 1) := by decide +kernel
theorem dX11_ahead_80 : decode cX11_ahead 80 = .ok (.iconst 3, 1) := by decide +kernel
theorem dX11_ahead_81 : decode cX11_ahead 81 = .ok (.if_icmp .ne 7, 3) := by decide +kernel
theorem dX11_ahead_84 : decode cX11_ahead 84 = .ok (.iconst 1, 1) := by decide +kernel
theorem dX11_ahead_85 : decode cX11_ahead 85 = .ok (.goto 4, 3) := by decide +kernel
theorem dX11_ahead_88 : decode cX11_ahead 88 = .ok (.iconst 0, 1) := by decide +kernel
theorem dX11_ahead_89 : decode cX11_ahead 89 = .ok (.putfield 240, 3) := by decide +kernel
theorem dX11_ahead_92 : decode cX11_ahead 92 = .ok (.aload_n 0, 1) := by decide +kernel
theorem dX11_ahead_93 : decode cX11_ahead 93 = .ok (.getfield 49, 3) := by decide +kernel
theorem dX11_ahead_96 : decode cX11_ahead 96 = .ok (.aload_n 0, 1) := by decide +kernel
theorem dX11_ahead_97 : decode cX11_ahead 97 = .ok (.getfield 40, 3) := by decide +kernel
theorem dX11_ahead_100 : decode cX11_ahead 100 = .ok (.iload_n 1, 1) := by decide +kernel
theorem dX11_ahead_101 : decode cX11_ahead 101 = .ok (.iconst 0, 1) := by decide +kernel
theorem dX11_ahead_102 : decode cX11_ahead 102 = .ok (.invokevirtual 233, 3) := by decide +kernel
theorem dX11_ahead_105 : decode cX11_ahead 105 = .ok (.iload_n 2, 1) := by decide +kernel
theorem dX11_ahead_106 : decode cX11_ahead 106 = .ok (.tableswitch 61 0 2 #[26, 35, 51], 26) := by decide +kernel
theorem dX11_ahead_132 : decode cX11_ahead 132 = .ok (.aload_n 0, 1) := by decide +kernel
theorem dX11_ahead_133 : decode cX11_ahead 133 = .ok (.getfield 40, 3) := by decide +kernel
theorem dX11_ahead_136 : decode cX11_ahead 136 = .ok (.iload_n 3, 1) := by decide +kernel
theorem dX11_ahead_137 : decode cX11_ahead 137 = .ok (.invokevirtual 158, 3) := by decide +kernel
theorem dX11_ahead_140 : decode cX11_ahead 140 = .ok (.ireturn, 1) := by decide +kernel
theorem dX11_ahead_141 : decode cX11_ahead 141 = .ok (.aload_n 0, 1) := by decide +kernel
theorem dX11_ahead_142 : decode cX11_ahead 142 = .ok (.getfield 40, 3) := by decide +kernel
theorem dX11_ahead_145 : decode cX11_ahead 145 = .ok (.getfield 243, 3) := by decide +kernel
theorem dX11_ahead_148 : decode cX11_ahead 148 = .ok (.aload_n 0, 1) := by decide +kernel
theorem dX11_ahead_149 : decode cX11_ahead 149 = .ok (.getfield 36, 3) := by decide +kernel
theorem dX11_ahead_152 : decode cX11_ahead 152 = .ok (.getfield 243, 3) := by decide +kernel
theorem dX11_ahead_155 : decode cX11_ahead 155 = .ok (.isub, 1) := by decide +kernel
theorem dX11_ahead_156 : decode cX11_ahead 156 = .ok (.ireturn, 1) := by decide +kernel
theorem dX11_ahead_157 : decode cX11_ahead 157 = .ok (.aload_n 0, 1) := by decide +kernel
theorem dX11_ahead_158 : decode cX11_ahead 158 = .ok (.getfield 40, 3) := by decide +kernel
theorem dX11_ahead_161 : decode cX11_ahead 161 = .ok (.getfield 170, 3) := by decide +kernel
theorem dX11_ahead_164 : decode cX11_ahead 164 = .ok (.iload_n 3, 1) := by decide +kernel
theorem dX11_ahead_165 : decode cX11_ahead 165 = .ok (.iaload, 1) := by decide +kernel
theorem dX11_ahead_166 : decode cX11_ahead 166 = .ok (.ireturn, 1) := by decide +kernel
theorem dX11_ahead_167 : decode cX11_ahead 167 = .ok (.aload_n 0, 1) := by decide +kernel
theorem dX11_ahead_168 : decode cX11_ahead 168 = .ok (.getfield 40, 3) := by decide +kernel
theorem dX11_ahead_171 : decode cX11_ahead 171 = .ok (.invokevirtual 246, 3) := by decide +kernel
theorem dX11_ahead_174 : decode cX11_ahead 174 = .ok (.ireturn, 1) := by decide +kernel
theorem dX11_when_0 : decode cX11_when 0 = .ok (.aload_n 0, 1) := by decide +kernel
theorem dX11_when_1 : decode cX11_when 1 = .ok (.iload_n 1, 1) := by decide +kernel
theorem dX11_when_2 : decode cX11_when 2 = .ok (.invokevirtual 136, 3) := by decide +kernel
theorem dX11_when_5 : decode cX11_when 5 = .ok (.ifCond .eq 12, 3) := by decide +kernel
theorem dX11_when_8 : decode cX11_when 8 = .ok (.aload_n 0, 1) := by decide +kernel
theorem dX11_when_9 : decode cX11_when 9 = .ok (.iload_n 2, 1) := by decide +kernel
theorem dX11_when_10 : decode cX11_when 10 = .ok (.iload_n 3, 1) := by decide +kernel
theorem dX11_when_11 : decode cX11_when 11 = .ok (.invokevirtual 185, 3) := by decide +kernel
theorem dX11_when_14 : decode cX11_when 14 = .ok (.ifCond .ne 5, 3) := by decide +kernel
theorem dX11_when_17 : decode cX11_when 17 = .ok (.iconst (-1), 1) := by decide +kernel
theorem dX11_when_18 : decode cX11_when 18 = .ok (.ireturn, 1) := by decide +kernel
theorem dX11_when_19 : decode cX11_when 19 = .ok (.aload_n 0, 1) := by decide +kernel
theorem dX11_when_20 : decode cX11_when 20 = .ok (.getfield 40, 3) := by decide +kernel
theorem dX11_when_23 : decode cX11_when 23 = .ok (.aload_n 0, 1) := by decide +kernel
theorem dX11_when_24 : decode cX11_when 24 = .ok (.getfield 36, 3) := by decide +kernel
theorem dX11_when_27 : decode cX11_when 27 = .ok (.invokevirtual 236, 3) := by decide +kernel
theorem dX11_when_30 : decode cX11_when 30 = .ok (.aload_n 0, 1) := by decide +kernel
theorem dX11_when_31 : decode cX11_when 31 = .ok (.getfield 40, 3) := by decide +kernel
theorem dX11_when_34 : decode cX11_when 34 = .ok (.iconst 1, 1) := by decide +kernel
theorem dX11_when_35 : decode cX11_when 35 = .ok (.putfield 240, 3) := by decide +kernel
theorem dX11_when_38 : decode cX11_when 38 = .ok (.iconst 0, 1) := by decide +kernel
theorem dX11_when_39 : decode cX11_when 39 = .ok (.istore 4, 2) := by decide +kernel
theorem dX11_when_41 : decode cX11_when 41 = .ok (.iload 4, 2) := by decide +kernel
theorem dX11_when_43 : decode cX11_when 43 = .ok (.sipush 199, 3) := by decide +kernel
theorem dX11_when_46 : decode cX11_when 46 = .ok (.if_icmp .gt 38, 3) := by decide +kernel
theorem dX11_when_49 : decode cX11_when 49 = .ok (.aload_n 0, 1) := by decide +kernel
theorem dX11_when_50 : decode cX11_when 50 = .ok (.getfield 40, 3) := by decide +kernel
theorem dX11_when_53 : decode cX11_when 53 = .ok (.iload_n 1, 1) := by decide +kernel
theorem dX11_when_54 : decode cX11_when 54 = .ok (.iload_n 2, 1) := by decide +kernel
theorem dX11_when_55 : decode cX11_when 55 = .ok (.iload_n 3, 1) := by decide +kernel
theorem dX11_when_56 : decode cX11_when 56 = .ok (.invokevirtual 250, 3) := by decide +kernel
theorem dX11_when_59 : decode cX11_when 59 = .ok (.ifCond .eq 6, 3) := by decide +kernel
theorem dX11_when_62 : decode cX11_when 62 = .ok (.iload 4, 2) := by decide +kernel
theorem dX11_when_64 : decode cX11_when 64 = .ok (.ireturn, 1) := by decide +kernel
theorem dX11_when_65 : decode cX11_when 65 = .ok (.aload_n 0, 1) := by decide +kernel
theorem dX11_when_66 : decode cX11_when 66 = .ok (.getfield 49, 3) := by decide +kernel
theorem dX11_when_69 : decode cX11_when 69 = .ok (.aload_n 0, 1) := by decide +kernel
theorem dX11_when_70 : decode cX11_when 70 = .ok (.getfield 40, 3) := by decide +kernel
theorem dX11_when_73 : decode cX11_when 73 = .ok (.iconst 1, 1) := by decide +kernel
theorem dX11_when_74 : decode cX11_when 74 = .ok (.iconst 0, 1) := by decide +kernel
theorem dX11_when_75 : decode cX11_when 75 = .ok (.invokevirtual 233, 3) := by decide +kernel
theorem dX11_when_78 : decode cX11_when 78 = .ok (.iinc 4 1, 3) := by decide +kernel
theorem dX11_when_81 : decode cX11_when 81 = .ok (.goto (-40), 3) := by decide +kernel
theorem dX11_when_84 : decode cX11_when 84 = .ok (.bipush (-2), 2) := by decide +kernel
theorem dX11_when_86 : decode cX11_when 86 = .ok (.ireturn, 1) := by decide +kernel
theorem dX11_laid_0 : decode cX11_laid 0 = .ok (.aload_n 0, 1) := by decide +kernel
theorem dX11_laid_1 : decode cX11_laid 1 = .ok (.iload_n 1, 1) := by decide +kernel
theorem dX11_laid_2 : decode cX11_laid 2 = .ok (.invokevirtual 136, 3) := by decide +kernel
theorem dX11_laid_5 : decode cX11_laid 5 = .ok (.ifCond .eq 12, 3) := by decide +kernel
theorem dX11_laid_8 : decode cX11_laid 8 = .ok (.iload_n 2, 1) := by decide +kernel
theorem dX11_laid_9 : decode cX11_laid 9 = .ok (.ifCond .lt 8, 3) := by decide +kernel
theorem dX11_laid_12 : decode cX11_laid 12 = .ok (.iload_n 2, 1) := by decide +kernel
theorem dX11_laid_13 : decode cX11_laid 13 = .ok (.iconst 4, 1) := by decide +kernel
theorem dX11_laid_14 : decode cX11_laid 14 = .ok (.if_icmp .le 5, 3) := by decide +kernel
theorem dX11_laid_17 : decode cX11_laid 17 = .ok (.iconst (-1), 1) := by decide +kernel
theorem dX11_laid_18 : decode cX11_laid 18 = .ok (.ireturn, 1) := by decide +kernel
theorem dX11_laid_19 : decode cX11_laid 19 = .ok (.aload_n 0, 1) := by decide +kernel
theorem dX11_laid_20 : decode cX11_laid 20 = .ok (.getfield 81, 3) := by decide +kernel
theorem dX11_laid_23 : decode cX11_laid 23 = .ok (.aload_n 0, 1) := by decide +kernel
theorem dX11_laid_24 : decode cX11_laid 24 = .ok (.getfield 36, 3) := by decide +kernel
theorem dX11_laid_27 : decode cX11_laid 27 = .ok (.iload_n 1, 1) := by decide +kernel
theorem dX11_laid_28 : decode cX11_laid 28 = .ok (.invokevirtual 254, 3) := by decide +kernel
theorem dX11_laid_31 : decode cX11_laid 31 = .ok (.iload_n 2, 1) := by decide +kernel
theorem dX11_laid_32 : decode cX11_laid 32 = .ok (.iconst 4, 1) := by decide +kernel
theorem dX11_laid_33 : decode cX11_laid 33 = .ok (.if_icmp .ne 13, 3) := by decide +kernel
theorem dX11_laid_36 : decode cX11_laid 36 = .ok (.aload_n 0, 1) := by decide +kernel
theorem dX11_laid_37 : decode cX11_laid 37 = .ok (.getfield 81, 3) := by decide +kernel
theorem dX11_laid_40 : decode cX11_laid 40 = .ok (.getfield 258, 3) := by decide +kernel
theorem dX11_laid_43 : decode cX11_laid 43 = .ok (.goto 12, 3) := by decide +kernel
theorem dX11_laid_46 : decode cX11_laid 46 = .ok (.aload_n 0, 1) := by decide +kernel
theorem dX11_laid_47 : decode cX11_laid 47 = .ok (.getfield 81, 3) := by decide +kernel
theorem dX11_laid_50 : decode cX11_laid 50 = .ok (.getfield 261, 3) := by decide +kernel
theorem dX11_laid_53 : decode cX11_laid 53 = .ok (.iload_n 2, 1) := by decide +kernel
theorem dX11_laid_54 : decode cX11_laid 54 = .ok (.iaload, 1) := by decide +kernel
theorem dX11_laid_55 : decode cX11_laid 55 = .ok (.ireturn, 1) := by decide +kernel
theorem dX11_cakeFor_0 : decode cX11_cakeFor 0 = .ok (.aload_n 0, 1) := by decide +kernel
theorem dX11_cakeFor_1 : decode cX11_cakeFor 1 = .ok (.iload_n 1, 1) := by decide +kernel
theorem dX11_cakeFor_2 : decode cX11_cakeFor 2 = .ok (.invokevirtual 136, 3) := by decide +kernel
theorem dX11_cakeFor_5 : decode cX11_cakeFor 5 = .ok (.ifCond .eq 29, 3) := by decide +kernel
theorem dX11_cakeFor_8 : decode cX11_cakeFor 8 = .ok (.aload_n 0, 1) := by decide +kernel
theorem dX11_cakeFor_9 : decode cX11_cakeFor 9 = .ok (.iload_n 2, 1) := by decide +kernel
theorem dX11_cakeFor_10 : decode cX11_cakeFor 10 = .ok (.invokevirtual 167, 3) := by decide +kernel
theorem dX11_cakeFor_13 : decode cX11_cakeFor 13 = .ok (.ifCond .eq 21, 3) := by decide +kernel
theorem dX11_cakeFor_16 : decode cX11_cakeFor 16 = .ok (.iload_n 3, 1) := by decide +kernel
theorem dX11_cakeFor_17 : decode cX11_cakeFor 17 = .ok (.invokestatic 179, 3) := by decide +kernel
theorem dX11_cakeFor_20 : decode cX11_cakeFor 20 = .ok (.ifCond .eq 14, 3) := by decide +kernel
theorem dX11_cakeFor_23 : decode cX11_cakeFor 23 = .ok (.aload_n 0, 1) := by decide +kernel
theorem dX11_cakeFor_24 : decode cX11_cakeFor 24 = .ok (.iload 4, 2) := by decide +kernel
theorem dX11_cakeFor_26 : decode cX11_cakeFor 26 = .ok (.iload 5, 2) := by decide +kernel
theorem dX11_cakeFor_28 : decode cX11_cakeFor 28 = .ok (.invokevirtual 185, 3) := by decide +kernel
theorem dX11_cakeFor_31 : decode cX11_cakeFor 31 = .ok (.ifCond .ne 5, 3) := by decide +kernel
theorem dX11_cakeFor_34 : decode cX11_cakeFor 34 = .ok (.iconst (-1), 1) := by decide +kernel
theorem dX11_cakeFor_35 : decode cX11_cakeFor 35 = .ok (.ireturn, 1) := by decide +kernel
theorem dX11_cakeFor_36 : decode cX11_cakeFor 36 = .ok (.iconst 4, 1) := by decide +kernel
theorem dX11_cakeFor_37 : decode cX11_cakeFor 37 = .ok (.iload_n 1, 1) := by decide +kernel
theorem dX11_cakeFor_38 : decode cX11_cakeFor 38 = .ok (.imul, 1) := by decide +kernel
theorem dX11_cakeFor_39 : decode cX11_cakeFor 39 = .ok (.iload_n 3, 1) := by decide +kernel
theorem dX11_cakeFor_40 : decode cX11_cakeFor 40 = .ok (.iadd, 1) := by decide +kernel
theorem dX11_cakeFor_41 : decode cX11_cakeFor 41 = .ok (.istore 6, 2) := by decide +kernel
theorem dX11_cakeFor_43 : decode cX11_cakeFor 43 = .ok (.aload_n 0, 1) := by decide +kernel
theorem dX11_cakeFor_44 : decode cX11_cakeFor 44 = .ok (.getfield 40, 3) := by decide +kernel
theorem dX11_cakeFor_47 : decode cX11_cakeFor 47 = .ok (.aload_n 0, 1) := by decide +kernel
theorem dX11_cakeFor_48 : decode cX11_cakeFor 48 = .ok (.getfield 36, 3) := by decide +kernel
theorem dX11_cakeFor_51 : decode cX11_cakeFor 51 = .ok (.invokevirtual 236, 3) := by decide +kernel
theorem dX11_cakeFor_54 : decode cX11_cakeFor 54 = .ok (.iconst 0, 1) := by decide +kernel
theorem dX11_cakeFor_55 : decode cX11_cakeFor 55 = .ok (.istore 7, 2) := by decide +kernel
theorem dX11_cakeFor_57 : decode cX11_cakeFor 57 = .ok (.iload 7, 2) := by decide +kernel
theorem dX11_cakeFor_59 : decode cX11_cakeFor 59 = .ok (.bipush 9, 2) := by decide +kernel
theorem dX11_cakeFor_61 : decode cX11_cakeFor 61 = .ok (.if_icmp .gt 53, 3) := by decide +kernel
theorem dX11_cakeFor_64 : decode cX11_cakeFor 64 = .ok (.aload_n 0, 1) := by decide +kernel
theorem dX11_cakeFor_65 : decode cX11_cakeFor 65 = .ok (.getfield 40, 3) := by decide +kernel
theorem dX11_cakeFor_68 : decode cX11_cakeFor 68 = .ok (.getfield 164, 3) := by decide +kernel
theorem dX11_cakeFor_71 : decode cX11_cakeFor 71 = .ok (.iload 6, 2) := by decide +kernel
theorem dX11_cakeFor_73 : decode cX11_cakeFor 73 = .ok (.aload_n 0, 1) := by decide +kernel
theorem dX11_cakeFor_74 : decode cX11_cakeFor 74 = .ok (.getfield 49, 3) := by decide +kernel
theorem dX11_cakeFor_77 : decode cX11_cakeFor 77 = .ok (.aload_n 0, 1) := by decide +kernel
theorem dX11_cakeFor_78 : decode cX11_cakeFor 78 = .ok (.getfield 36, 3) := by decide +kernel
theorem dX11_cakeFor_81 : decode cX11_cakeFor 81 = .ok (.iload_n 2, 1) := by decide +kernel
theorem dX11_cakeFor_82 : decode cX11_cakeFor 82 = .ok (.iload 6, 2) := by decide +kernel
theorem dX11_cakeFor_84 : decode cX11_cakeFor 84 = .ok (.iload 7, 2) := by decide +kernel
theorem dX11_cakeFor_86 : decode cX11_cakeFor 86 = .ok (.invokevirtual 264, 3) := by decide +kernel
theorem dX11_cakeFor_89 : decode cX11_cakeFor 89 = .ok (.iastore, 1) := by decide +kernel
theorem dX11_cakeFor_90 : decode cX11_cakeFor 90 = .ok (.aload_n 0, 1) := by decide +kernel
theorem dX11_cakeFor_91 : decode cX11_cakeFor 91 = .ok (.getfield 40, 3) := by decide +kernel
theorem dX11_cakeFor_94 : decode cX11_cakeFor 94 = .ok (.iload_n 1, 1) := by decide +kernel
theorem dX11_cakeFor_95 : decode cX11_cakeFor 95 = .ok (.iload 4, 2) := by decide +kernel
theorem dX11_cakeFor_97 : decode cX11_cakeFor 97 = .ok (.iload 5, 2) := by decide +kernel
theorem dX11_cakeFor_99 : decode cX11_cakeFor 99 = .ok (.invokevirtual 250, 3) := by decide +kernel
theorem dX11_cakeFor_102 : decode cX11_cakeFor 102 = .ok (.ifCond .eq 6, 3) := by decide +kernel
theorem dX11_cakeFor_105 : decode cX11_cakeFor 105 = .ok (.iload 7, 2) := by decide +kernel
theorem dX11_cakeFor_107 : decode cX11_cakeFor 107 = .ok (.ireturn, 1) := by decide +kernel
theorem dX11_cakeFor_108 : decode cX11_cakeFor 108 = .ok (.iinc 7 1, 3) := by decide +kernel
theorem dX11_cakeFor_111 : decode cX11_cakeFor 111 = .ok (.goto (-54), 3) := by decide +kernel
theorem dX11_cakeFor_114 : decode cX11_cakeFor 114 = .ok (.bipush (-2), 2) := by decide +kernel
theorem dX11_cakeFor_116 : decode cX11_cakeFor 116 = .ok (.ireturn, 1) := by decide +kernel
theorem dX11_cut_0 : decode cX11_cut 0 = .ok (.aload_n 0, 1) := by decide +kernel
theorem dX11_cut_1 : decode cX11_cut 1 = .ok (.iload_n 1, 1) := by decide +kernel
theorem dX11_cut_2 : decode cX11_cut 2 = .ok (.iload_n 2, 1) := by decide +kernel
theorem dX11_cut_3 : decode cX11_cut 3 = .ok (.invokevirtual 193, 3) := by decide +kernel
theorem dX11_cut_6 : decode cX11_cut 6 = .ok (.ifCond .eq 12, 3) := by decide +kernel
theorem dX11_cut_9 : decode cX11_cut 9 = .ok (.iload_n 3, 1) := by decide +kernel
theorem dX11_cut_10 : decode cX11_cut 10 = .ok (.ifCond .lt 8, 3) := by decide +kernel
theorem dX11_cut_13 : decode cX11_cut 13 = .ok (.iload_n 3, 1) := by decide +kernel
theorem dX11_cut_14 : decode cX11_cut 14 = .ok (.iconst 2, 1) := by decide +kernel
theorem dX11_cut_15 : decode cX11_cut 15 = .ok (.if_icmp .le 5, 3) := by decide +kernel
theorem dX11_cut_18 : decode cX11_cut 18 = .ok (.iconst (-1), 1) := by decide +kernel
theorem dX11_cut_19 : decode cX11_cut 19 = .ok (.ireturn, 1) := by decide +kernel
theorem dX11_cut_20 : decode cX11_cut 20 = .ok (.aload_n 0, 1) := by decide +kernel
theorem dX11_cut_21 : decode cX11_cut 21 = .ok (.getfield 36, 3) := by decide +kernel
theorem dX11_cut_24 : decode cX11_cut 24 = .ok (.iload_n 1, 1) := by decide +kernel
theorem dX11_cut_25 : decode cX11_cut 25 = .ok (.iload_n 2, 1) := by decide +kernel
theorem dX11_cut_26 : decode cX11_cut 26 = .ok (.invokevirtual 196, 3) := by decide +kernel
theorem dX11_cut_29 : decode cX11_cut 29 = .ok (.iconst 2, 1) := by decide +kernel
theorem dX11_cut_30 : decode cX11_cut 30 = .ok (.if_icmp .ge 6, 3) := by decide +kernel
theorem dX11_cut_33 : decode cX11_cut 33 = .ok (.bipush (-2), 2) := by decide +kernel
theorem dX11_cut_35 : decode cX11_cut 35 = .ok (.ireturn, 1) := by decide +kernel
theorem dX11_cut_36 : decode cX11_cut 36 = .ok (.aload_n 0, 1) := by decide +kernel
theorem dX11_cut_37 : decode cX11_cut 37 = .ok (.getfield 36, 3) := by decide +kernel
theorem dX11_cut_40 : decode cX11_cut 40 = .ok (.iload_n 1, 1) := by decide +kernel
theorem dX11_cut_41 : decode cX11_cut 41 = .ok (.iload_n 2, 1) := by decide +kernel
theorem dX11_cut_42 : decode cX11_cut 42 = .ok (.invokevirtual 268, 3) := by decide +kernel
theorem dX11_cut_45 : decode cX11_cut 45 = .ok (.istore 4, 2) := by decide +kernel
theorem dX11_cut_47 : decode cX11_cut 47 = .ok (.aload_n 0, 1) := by decide +kernel
theorem dX11_cut_48 : decode cX11_cut 48 = .ok (.getfield 36, 3) := by decide +kernel
theorem dX11_cut_51 : decode cX11_cut 51 = .ok (.iload_n 1, 1) := by decide +kernel
theorem dX11_cut_52 : decode cX11_cut 52 = .ok (.iload_n 2, 1) := by decide +kernel
theorem dX11_cut_53 : decode cX11_cut 53 = .ok (.invokevirtual 271, 3) := by decide +kernel
theorem dX11_cut_56 : decode cX11_cut 56 = .ok (.istore 5, 2) := by decide +kernel
theorem dX11_cut_58 : decode cX11_cut 58 = .ok (.iload 4, 2) := by decide +kernel
theorem dX11_cut_60 : decode cX11_cut 60 = .ok (.iconst 2, 1) := by decide +kernel
theorem dX11_cut_61 : decode cX11_cut 61 = .ok (.if_icmp .ge 9, 3) := by decide +kernel
theorem dX11_cut_64 : decode cX11_cut 64 = .ok (.ldc_w 276, 3) := by decide +kernel
theorem dX11_cut_67 : decode cX11_cut 67 = .ok (.goto 10, 3) := by decide +kernel
theorem dX11_cut_70 : decode cX11_cut 70 = .ok (.iload 4, 2) := by decide +kernel
theorem dX11_cut_72 : decode cX11_cut 72 = .ok (.iconst 2, 1) := by decide +kernel
theorem dX11_cut_73 : decode cX11_cut 73 = .ok (.irem, 1) := by decide +kernel
theorem dX11_cut_74 : decode cX11_cut 74 = .ok (.iload 5, 2) := by decide +kernel
theorem dX11_cut_76 : decode cX11_cut 76 = .ok (.imul, 1) := by decide +kernel
theorem dX11_cut_77 : decode cX11_cut 77 = .ok (.istore 6, 2) := by decide +kernel
theorem dX11_cut_79 : decode cX11_cut 79 = .ok (.iload 5, 2) := by decide +kernel
theorem dX11_cut_81 : decode cX11_cut 81 = .ok (.iconst 2, 1) := by decide +kernel
theorem dX11_cut_82 : decode cX11_cut 82 = .ok (.if_icmp .ge 9, 3) := by decide +kernel
theorem dX11_cut_85 : decode cX11_cut 85 = .ok (.ldc_w 276, 3) := by decide +kernel
theorem dX11_cut_88 : decode cX11_cut 88 = .ok (.goto 10, 3) := by decide +kernel
theorem dX11_cut_91 : decode cX11_cut 91 = .ok (.iload 5, 2) := by decide +kernel
theorem dX11_cut_93 : decode cX11_cut 93 = .ok (.iconst 2, 1) := by decide +kernel
theorem dX11_cut_94 : decode cX11_cut 94 = .ok (.irem, 1) := by decide +kernel
theorem dX11_cut_95 : decode cX11_cut 95 = .ok (.iload 4, 2) := by decide +kernel
theorem dX11_cut_97 : decode cX11_cut 97 = .ok (.imul, 1) := by decide +kernel
theorem dX11_cut_98 : decode cX11_cut 98 = .ok (.istore 7, 2) := by decide +kernel
theorem dX11_cut_100 : decode cX11_cut 100 = .ok (.iload 6, 2) := by decide +kernel
theorem dX11_cut_102 : decode cX11_cut 102 = .ok (.iload 7, 2) := by decide +kernel
theorem dX11_cut_104 : decode cX11_cut 104 = .ok (.if_icmp .gt 7, 3) := by decide +kernel
theorem dX11_cut_107 : decode cX11_cut 107 = .ok (.iconst 1, 1) := by decide +kernel
theorem dX11_cut_108 : decode cX11_cut 108 = .ok (.goto 4, 3) := by decide +kernel
theorem dX11_cut_111 : decode cX11_cut 111 = .ok (.iconst 0, 1) := by decide +kernel
theorem dX11_cut_112 : decode cX11_cut 112 = .ok (.istore 8, 2) := by decide +kernel
theorem dX11_cut_114 : decode cX11_cut 114 = .ok (.iload_n 3, 1) := by decide +kernel
theorem dX11_cut_115 : decode cX11_cut 115 = .ok (.lookupswitch 51 #[(0, 25), (1, 36)], 25) := by decide +kernel
theorem dX11_cut_140 : decode cX11_cut 140 = .ok (.iload 8, 2) := by decide +kernel
theorem dX11_cut_142 : decode cX11_cut 142 = .ok (.ifCond .eq 7, 3) := by decide +kernel
theorem dX11_cut_145 : decode cX11_cut 145 = .ok (.iconst 0, 1) := by decide +kernel
theorem dX11_cut_146 : decode cX11_cut 146 = .ok (.goto 4, 3) := by decide +kernel
theorem dX11_cut_149 : decode cX11_cut 149 = .ok (.iconst 1, 1) := by decide +kernel
theorem dX11_cut_150 : decode cX11_cut 150 = .ok (.ireturn, 1) := by decide +kernel
theorem dX11_cut_151 : decode cX11_cut 151 = .ok (.iload 8, 2) := by decide +kernel
theorem dX11_cut_153 : decode cX11_cut 153 = .ok (.ifCond .eq 8, 3) := by decide +kernel
theorem dX11_cut_156 : decode cX11_cut 156 = .ok (.iload 4, 2) := by decide +kernel
theorem dX11_cut_158 : decode cX11_cut 158 = .ok (.goto 5, 3) := by decide +kernel
theorem dX11_cut_161 : decode cX11_cut 161 = .ok (.iload 5, 2) := by decide +kernel
theorem dX11_cut_163 : decode cX11_cut 163 = .ok (.iconst 2, 1) := by decide +kernel
theorem dX11_cut_164 : decode cX11_cut 164 = .ok (.idiv, 1) := by decide +kernel
theorem dX11_cut_165 : decode cX11_cut 165 = .ok (.ireturn, 1) := by decide +kernel
theorem dX11_cut_166 : decode cX11_cut 166 = .ok (.iload 8, 2) := by decide +kernel
theorem dX11_cut_168 : decode cX11_cut 168 = .ok (.ifCond .eq 8, 3) := by decide +kernel
theorem dX11_cut_171 : decode cX11_cut 171 = .ok (.iload 6, 2) := by decide +kernel
theorem dX11_cut_173 : decode cX11_cut 173 = .ok (.goto 5, 3) := by decide +kernel
theorem dX11_cut_176 : decode cX11_cut 176 = .ok (.iload 7, 2) := by decide +kernel
theorem dX11_cut_178 : decode cX11_cut 178 = .ok (.ireturn, 1) := by decide +kernel
theorem dX11_realms_0 : decode cX11_realms 0 = .ok (.aload_n 0, 1) := by decide +kernel
theorem dX11_realms_1 : decode cX11_realms 1 = .ok (.getfield 36, 3) := by decide +kernel
theorem dX11_realms_4 : decode cX11_realms 4 = .ok (.invokevirtual 277, 3) := by decide +kernel
theorem dX11_realms_7 : decode cX11_realms 7 = .ok (.ireturn, 1) := by decide +kernel
theorem dX11_colours_0 : decode cX11_colours 0 = .ok (.aload_n 0, 1) := by decide +kernel
theorem dX11_colours_1 : decode cX11_colours 1 = .ok (.getfield 36, 3) := by decide +kernel
theorem dX11_colours_4 : decode cX11_colours 4 = .ok (.invokevirtual 280, 3) := by decide +kernel
theorem dX11_colours_7 : decode cX11_colours 7 = .ok (.ireturn, 1) := by decide +kernel
theorem dX11_rests_0 : decode cX11_rests 0 = .ok (.aload_n 0, 1) := by decide +kernel
theorem dX11_rests_1 : decode cX11_rests 1 = .ok (.iload_n 1, 1) := by decide +kernel
theorem dX11_rests_2 : decode cX11_rests 2 = .ok (.iload_n 2, 1) := by decide +kernel
theorem dX11_rests_3 : decode cX11_rests 3 = .ok (.invokevirtual 193, 3) := by decide +kernel
theorem dX11_rests_6 : decode cX11_rests 6 = .ok (.ifCond .eq 15, 3) := by decide +kernel
theorem dX11_rests_9 : decode cX11_rests 9 = .ok (.aload_n 0, 1) := by decide +kernel
theorem dX11_rests_10 : decode cX11_rests 10 = .ok (.iload_n 1, 1) := by decide +kernel
theorem dX11_rests_11 : decode cX11_rests 11 = .ok (.iload_n 2, 1) := by decide +kernel
theorem dX11_rests_12 : decode cX11_rests 12 = .ok (.invokevirtual 283, 3) := by decide +kernel
theorem dX11_rests_15 : decode cX11_rests 15 = .ok (.invokestatic 286, 3) := by decide +kernel
theorem dX11_rests_18 : decode cX11_rests 18 = .ok (.goto 4, 3) := by decide +kernel
theorem dX11_rests_21 : decode cX11_rests 21 = .ok (.iconst (-1), 1) := by decide +kernel
theorem dX11_rests_22 : decode cX11_rests 22 = .ok (.ireturn, 1) := by decide +kernel
theorem dX11_rest_0 : decode cX11_rest 0 = .ok (.aload_n 0, 1) := by decide +kernel
theorem dX11_rest_1 : decode cX11_rest 1 = .ok (.iload_n 1, 1) := by decide +kernel
theorem dX11_rest_2 : decode cX11_rest 2 = .ok (.iload_n 2, 1) := by decide +kernel
theorem dX11_rest_3 : decode cX11_rest 3 = .ok (.invokevirtual 193, 3) := by decide +kernel
theorem dX11_rest_6 : decode cX11_rest 6 = .ok (.ifCond .eq 7, 3) := by decide +kernel
theorem dX11_rest_9 : decode cX11_rest 9 = .ok (.iload_n 3, 1) := by decide +kernel
theorem dX11_rest_10 : decode cX11_rest 10 = .ok (.ifCond .ge 5, 3) := by decide +kernel
theorem dX11_rest_13 : decode cX11_rest 13 = .ok (.iconst (-1), 1) := by decide +kernel
theorem dX11_rest_14 : decode cX11_rest 14 = .ok (.ireturn, 1) := by decide +kernel
theorem dX11_rest_15 : decode cX11_rest 15 = .ok (.aload_n 0, 1) := by decide +kernel
theorem dX11_rest_16 : decode cX11_rest 16 = .ok (.iload_n 1, 1) := by decide +kernel
theorem dX11_rest_17 : decode cX11_rest 17 = .ok (.iload_n 2, 1) := by decide +kernel
theorem dX11_rest_18 : decode cX11_rest 18 = .ok (.invokevirtual 283, 3) := by decide +kernel
theorem dX11_rest_21 : decode cX11_rest 21 = .ok (.istore 4, 2) := by decide +kernel
theorem dX11_rest_23 : decode cX11_rest 23 = .ok (.iload_n 3, 1) := by decide +kernel
theorem dX11_rest_24 : decode cX11_rest 24 = .ok (.istore 5, 2) := by decide +kernel
theorem dX11_rest_26 : decode cX11_rest 26 = .ok (.iconst 0, 1) := by decide +kernel
theorem dX11_rest_27 : decode cX11_rest 27 = .ok (.istore 6, 2) := by decide +kernel
theorem dX11_rest_29 : decode cX11_rest 29 = .ok (.iload 6, 2) := by decide +kernel
theorem dX11_rest_31 : decode cX11_rest 31 = .ok (.iconst 4, 1) := by decide +kernel
theorem dX11_rest_32 : decode cX11_rest 32 = .ok (.if_icmp .ge 40, 3) := by decide +kernel
theorem dX11_rest_35 : decode cX11_rest 35 = .ok (.iload 4, 2) := by decide +kernel
theorem dX11_rest_37 : decode cX11_rest 37 = .ok (.iload 6, 2) := by decide +kernel
theorem dX11_rest_39 : decode cX11_rest 39 = .ok (.ishr, 1) := by decide +kernel
theorem dX11_rest_40 : decode cX11_rest 40 = .ok (.iconst 1, 1) := by decide +kernel
theorem dX11_rest_41 : decode cX11_rest 41 = .ok (.iand, 1) := by decide +kernel
theorem dX11_rest_42 : decode cX11_rest 42 = .ok (.ifCond .eq 24, 3) := by decide +kernel
theorem dX11_rest_45 : decode cX11_rest 45 = .ok (.iload 5, 2) := by decide +kernel
theorem dX11_rest_47 : decode cX11_rest 47 = .ok (.ifCond .ne 16, 3) := by decide +kernel
theorem dX11_rest_50 : decode cX11_rest 50 = .ok (.bipush 10, 2) := by decide +kernel
theorem dX11_rest_52 : decode cX11_rest 52 = .ok (.iload 6, 2) := by decide +kernel
theorem dX11_rest_54 : decode cX11_rest 54 = .ok (.iconst 2, 1) := by decide +kernel
theorem dX11_rest_55 : decode cX11_rest 55 = .ok (.idiv, 1) := by decide +kernel
theorem dX11_rest_56 : decode cX11_rest 56 = .ok (.imul, 1) := by decide +kernel
theorem dX11_rest_57 : decode cX11_rest 57 = .ok (.iload 6, 2) := by decide +kernel
theorem dX11_rest_59 : decode cX11_rest 59 = .ok (.iconst 2, 1) := by decide +kernel
theorem dX11_rest_60 : decode cX11_rest 60 = .ok (.irem, 1) := by decide +kernel
theorem dX11_rest_61 : decode cX11_rest 61 = .ok (.iadd, 1) := by decide +kernel
theorem dX11_rest_62 : decode cX11_rest 62 = .ok (.ireturn, 1) := by decide +kernel
theorem dX11_rest_63 : decode cX11_rest 63 = .ok (.iinc 5 (-1), 3) := by decide +kernel
theorem dX11_rest_66 : decode cX11_rest 66 = .ok (.iinc 6 1, 3) := by decide +kernel
theorem dX11_rest_69 : decode cX11_rest 69 = .ok (.goto (-40), 3) := by decide +kernel
theorem dX11_rest_72 : decode cX11_rest 72 = .ok (.bipush (-2), 2) := by decide +kernel
theorem dX11_rest_74 : decode cX11_rest 74 = .ok (.ireturn, 1) := by decide +kernel
theorem dX11_restBits_0 : decode cX11_restBits 0 = .ok (.iconst 0, 1) := by decide +kernel
theorem dX11_restBits_1 : decode cX11_restBits 1 = .ok (.istore_n 3, 1) := by decide +kernel
theorem dX11_restBits_2 : decode cX11_restBits 2 = .ok (.iconst 0, 1) := by decide +kernel
theorem dX11_restBits_3 : decode cX11_restBits 3 = .ok (.istore 4, 2) := by decide +kernel
theorem dX11_restBits_5 : decode cX11_restBits 5 = .ok (.iload 4, 2) := by decide +kernel
theorem dX11_restBits_7 : decode cX11_restBits 7 = .ok (.iconst 4, 1) := by decide +kernel
theorem dX11_restBits_8 : decode cX11_restBits 8 = .ok (.if_icmp .ge 33, 3) := by decide +kernel
theorem dX11_restBits_11 : decode cX11_restBits 11 = .ok (.aload_n 0, 1) := by decide +kernel
theorem dX11_restBits_12 : decode cX11_restBits 12 = .ok (.iload_n 1, 1) := by decide +kernel
theorem dX11_restBits_13 : decode cX11_restBits 13 = .ok (.iload_n 2, 1) := by decide +kernel
theorem dX11_restBits_14 : decode cX11_restBits 14 = .ok (.iload 4, 2) := by decide +kernel
theorem dX11_restBits_16 : decode cX11_restBits 16 = .ok (.iconst 2, 1) := by decide +kernel
theorem dX11_restBits_17 : decode cX11_restBits 17 = .ok (.idiv, 1) := by decide +kernel
theorem dX11_restBits_18 : decode cX11_restBits 18 = .ok (.iload 4, 2) := by decide +kernel
theorem dX11_restBits_20 : decode cX11_restBits 20 = .ok (.iconst 2, 1) := by decide +kernel
theorem dX11_restBits_21 : decode cX11_restBits 21 = .ok (.irem, 1) := by decide +kernel
theorem dX11_restBits_22 : decode cX11_restBits 22 = .ok (.invokevirtual 289, 3) := by decide +kernel
theorem dX11_restBits_25 : decode cX11_restBits 25 = .ok (.ifCond .eq 10, 3) := by decide +kernel
theorem dX11_restBits_28 : decode cX11_restBits 28 = .ok (.iload_n 3, 1) := by decide +kernel
theorem dX11_restBits_29 : decode cX11_restBits 29 = .ok (.iconst 1, 1) := by decide +kernel
theorem dX11_restBits_30 : decode cX11_restBits 30 = .ok (.iload 4, 2) := by decide +kernel
theorem dX11_restBits_32 : decode cX11_restBits 32 = .ok (.ishl, 1) := by decide +kernel
theorem dX11_restBits_33 : decode cX11_restBits 33 = .ok (.ior, 1) := by decide +kernel
theorem dX11_restBits_34 : decode cX11_restBits 34 = .ok (.istore_n 3, 1) := by decide +kernel
theorem dX11_restBits_35 : decode cX11_restBits 35 = .ok (.iinc 4 1, 3) := by decide +kernel
theorem dX11_restBits_38 : decode cX11_restBits 38 = .ok (.goto (-33), 3) := by decide +kernel
theorem dX11_restBits_41 : decode cX11_restBits 41 = .ok (.iload_n 3, 1) := by decide +kernel
theorem dX11_restBits_42 : decode cX11_restBits 42 = .ok (.ireturn, 1) := by decide +kernel
theorem dX11_isRest_0 : decode cX11_isRest 0 = .ok (.aload_n 0, 1) := by decide +kernel
theorem dX11_isRest_1 : decode cX11_isRest 1 = .ok (.getfield 36, 3) := by decide +kernel
theorem dX11_isRest_4 : decode cX11_isRest 4 = .ok (.iload_n 1, 1) := by decide +kernel
theorem dX11_isRest_5 : decode cX11_isRest 5 = .ok (.iload_n 2, 1) := by decide +kernel
theorem dX11_isRest_6 : decode cX11_isRest 6 = .ok (.invokevirtual 196, 3) := by decide +kernel
theorem dX11_isRest_9 : decode cX11_isRest 9 = .ok (.istore 5, 2) := by decide +kernel
theorem dX11_isRest_11 : decode cX11_isRest 11 = .ok (.aload_n 0, 1) := by decide +kernel
theorem dX11_isRest_12 : decode cX11_isRest 12 = .ok (.getfield 36, 3) := by decide +kernel
theorem dX11_isRest_15 : decode cX11_isRest 15 = .ok (.iload_n 1, 1) := by decide +kernel
theorem dX11_isRest_16 : decode cX11_isRest 16 = .ok (.invokevirtual 158, 3) := by decide +kernel
theorem dX11_isRest_19 : decode cX11_isRest 19 = .ok (.istore 6, 2) := by decide +kernel
theorem dX11_isRest_21 : decode cX11_isRest 21 = .ok (.aload_n 0, 1) := by decide +kernel
theorem dX11_isRest_22 : decode cX11_isRest 22 = .ok (.getfield 36, 3) := by decide +kernel
theorem dX11_isRest_25 : decode cX11_isRest 25 = .ok (.iload_n 2, 1) := by decide +kernel
theorem dX11_isRest_26 : decode cX11_isRest 26 = .ok (.invokevirtual 158, 3) := by decide +kernel
theorem dX11_isRest_29 : decode cX11_isRest 29 = .ok (.istore 7, 2) := by decide +kernel
theorem dX11_isRest_31 : decode cX11_isRest 31 = .ok (.iload 5, 2) := by decide +kernel
theorem dX11_isRest_33 : decode cX11_isRest 33 = .ok (.iload 6, 2) := by decide +kernel
theorem dX11_isRest_35 : decode cX11_isRest 35 = .ok (.iload_n 3, 1) := by decide +kernel
theorem dX11_isRest_36 : decode cX11_isRest 36 = .ok (.iload 4, 2) := by decide +kernel
theorem dX11_isRest_38 : decode cX11_isRest 38 = .ok (.invokestatic 293, 3) := by decide +kernel
theorem dX11_isRest_41 : decode cX11_isRest 41 = .ok (.iload 5, 2) := by decide +kernel
theorem dX11_isRest_43 : decode cX11_isRest 43 = .ok (.iload 6, 2) := by decide +kernel
theorem dX11_isRest_45 : decode cX11_isRest 45 = .ok (.iconst 1, 1) := by decide +kernel
theorem dX11_isRest_46 : decode cX11_isRest 46 = .ok (.iload_n 3, 1) := by decide +kernel
theorem dX11_isRest_47 : decode cX11_isRest 47 = .ok (.isub, 1) := by decide +kernel
theorem dX11_isRest_48 : decode cX11_isRest 48 = .ok (.iload 4, 2) := by decide +kernel
theorem dX11_isRest_50 : decode cX11_isRest 50 = .ok (.invokestatic 293, 3) := by decide +kernel
theorem dX11_isRest_53 : decode cX11_isRest 53 = .ok (.if_icmp .lt 32, 3) := by decide +kernel
theorem dX11_isRest_56 : decode cX11_isRest 56 = .ok (.iload 5, 2) := by decide +kernel
theorem dX11_isRest_58 : decode cX11_isRest 58 = .ok (.iload 7, 2) := by decide +kernel
theorem dX11_isRest_60 : decode cX11_isRest 60 = .ok (.iload 4, 2) := by decide +kernel
theorem dX11_isRest_62 : decode cX11_isRest 62 = .ok (.iload_n 3, 1) := by decide +kernel
theorem dX11_isRest_63 : decode cX11_isRest 63 = .ok (.invokestatic 293, 3) := by decide +kernel
theorem dX11_isRest_66 : decode cX11_isRest 66 = .ok (.iload 5, 2) := by decide +kernel
theorem dX11_isRest_68 : decode cX11_isRest 68 = .ok (.iload 7, 2) := by decide +kernel
theorem dX11_isRest_70 : decode cX11_isRest 70 = .ok (.iconst 1, 1) := by decide +kernel
theorem dX11_isRest_71 : decode cX11_isRest 71 = .ok (.iload 4, 2) := by decide +kernel
theorem dX11_isRest_73 : decode cX11_isRest 73 = .ok (.isub, 1) := by decide +kernel
theorem dX11_isRest_74 : decode cX11_isRest 74 = .ok (.iload_n 3, 1) := by decide +kernel
theorem dX11_isRest_75 : decode cX11_isRest 75 = .ok (.invokestatic 293, 3) := by decide +kernel
theorem dX11_isRest_78 : decode cX11_isRest 78 = .ok (.if_icmp .lt 7, 3) := by decide +kernel
theorem dX11_isRest_81 : decode cX11_isRest 81 = .ok (.iconst 1, 1) := by decide +kernel
theorem dX11_isRest_82 : decode cX11_isRest 82 = .ok (.goto 4, 3) := by decide +kernel
theorem dX11_isRest_85 : decode cX11_isRest 85 = .ok (.iconst 0, 1) := by decide +kernel
theorem dX11_isRest_86 : decode cX11_isRest 86 = .ok (.ireturn, 1) := by decide +kernel
theorem dX11_sung_0 : decode cX11_sung 0 = .ok (.iload_n 2, 1) := by decide +kernel
theorem dX11_sung_1 : decode cX11_sung 1 = .ok (.ifCond .ne 14, 3) := by decide +kernel
theorem dX11_sung_4 : decode cX11_sung 4 = .ok (.iload_n 3, 1) := by decide +kernel
theorem dX11_sung_5 : decode cX11_sung 5 = .ok (.ifCond .ne 8, 3) := by decide +kernel
theorem dX11_sung_8 : decode cX11_sung 8 = .ok (.iload_n 0, 1) := by decide +kernel
theorem dX11_sung_9 : decode cX11_sung 9 = .ok (.ineg, 1) := by decide +kernel
theorem dX11_sung_10 : decode cX11_sung 10 = .ok (.goto 4, 3) := by decide +kernel
theorem dX11_sung_13 : decode cX11_sung 13 = .ok (.iload_n 0, 1) := by decide +kernel
theorem dX11_sung_14 : decode cX11_sung 14 = .ok (.ireturn, 1) := by decide +kernel
theorem dX11_sung_15 : decode cX11_sung 15 = .ok (.iload_n 3, 1) := by decide +kernel
theorem dX11_sung_16 : decode cX11_sung 16 = .ok (.ifCond .ne 11, 3) := by decide +kernel
theorem dX11_sung_19 : decode cX11_sung 19 = .ok (.iload_n 1, 1) := by decide +kernel
theorem dX11_sung_20 : decode cX11_sung 20 = .ok (.bipush 10, 2) := by decide +kernel
theorem dX11_sung_22 : decode cX11_sung 22 = .ok (.idiv, 1) := by decide +kernel
theorem dX11_sung_23 : decode cX11_sung 23 = .ok (.ineg, 1) := by decide +kernel
theorem dX11_sung_24 : decode cX11_sung 24 = .ok (.goto 6, 3) := by decide +kernel
theorem dX11_sung_27 : decode cX11_sung 27 = .ok (.iload_n 0, 1) := by decide +kernel
theorem dX11_sung_28 : decode cX11_sung 28 = .ok (.iconst 2, 1) := by decide +kernel
theorem dX11_sung_29 : decode cX11_sung 29 = .ok (.idiv, 1) := by decide +kernel
theorem dX11_sung_30 : decode cX11_sung 30 = .ok (.ireturn, 1) := by decide +kernel
theorem dX11_dry_0 : decode cX11_dry 0 = .ok (.iload_n 1, 1) := by decide +kernel
theorem dX11_dry_1 : decode cX11_dry 1 = .ok (.ifCond .lt 18, 3) := by decide +kernel
theorem dX11_dry_4 : decode cX11_dry 4 = .ok (.iload_n 1, 1) := by decide +kernel
theorem dX11_dry_5 : decode cX11_dry 5 = .ok (.bipush 6, 2) := by decide +kernel
theorem dX11_dry_7 : decode cX11_dry 7 = .ok (.if_icmp .gt 12, 3) := by decide +kernel
theorem dX11_dry_10 : decode cX11_dry 10 = .ok (.iload_n 2, 1) := by decide +kernel
theorem dX11_dry_11 : decode cX11_dry 11 = .ok (.ifCond .lt 8, 3) := by decide +kernel
theorem dX11_dry_14 : decode cX11_dry 14 = .ok (.iload_n 2, 1) := by decide +kernel
theorem dX11_dry_15 : decode cX11_dry 15 = .ok (.iconst 1, 1) := by decide +kernel
theorem dX11_dry_16 : decode cX11_dry 16 = .ok (.if_icmp .le 7, 3) := by decide +kernel
theorem dX11_dry_19 : decode cX11_dry 19 = .ok (.ldc2_w 297, 3) := by decide +kernel
theorem dX11_dry_22 : decode cX11_dry 22 = .ok (.lreturn, 1) := by decide +kernel
theorem dX11_dry_23 : decode cX11_dry 23 = .ok (.iload_n 2, 1) := by decide +kernel
theorem dX11_dry_24 : decode cX11_dry 24 = .ok (.ifCond .ne 16, 3) := by decide +kernel
theorem dX11_dry_27 : decode cX11_dry 27 = .ok (.bipush 100, 2) := by decide +kernel
theorem dX11_dry_29 : decode cX11_dry 29 = .ok (.aload_n 0, 1) := by decide +kernel
theorem dX11_dry_30 : decode cX11_dry 30 = .ok (.getfield 18, 3) := by decide +kernel
theorem dX11_dry_33 : decode cX11_dry 33 = .ok (.getfield 299, 3) := by decide +kernel
theorem dX11_dry_36 : decode cX11_dry 36 = .ok (.isub, 1) := by decide +kernel
theorem dX11_dry_37 : decode cX11_dry 37 = .ok (.goto 5, 3) := by decide +kernel
theorem dX11_dry_40 : decode cX11_dry 40 = .ok (.bipush 100, 2) := by decide +kernel
theorem dX11_dry_42 : decode cX11_dry 42 = .ok (.bipush 100, 2) := by decide +kernel
theorem dX11_dry_44 : decode cX11_dry 44 = .ok (.aload_n 0, 1) := by decide +kernel
theorem dX11_dry_45 : decode cX11_dry 45 = .ok (.getfield 18, 3) := by decide +kernel
theorem dX11_dry_48 : decode cX11_dry 48 = .ok (.getfield 299, 3) := by decide +kernel
theorem dX11_dry_51 : decode cX11_dry 51 = .ok (.isub, 1) := by decide +kernel
theorem dX11_dry_52 : decode cX11_dry 52 = .ok (.invokestatic 302, 3) := by decide +kernel
theorem dX11_dry_55 : decode cX11_dry 55 = .ok (.idiv, 1) := by decide +kernel
theorem dX11_dry_56 : decode cX11_dry 56 = .ok (.istore_n 3, 1) := by decide +kernel
theorem dX11_dry_57 : decode cX11_dry 57 = .ok (.lconst 1, 1) := by decide +kernel
theorem dX11_dry_58 : decode cX11_dry 58 = .ok (.lstore 4, 2) := by decide +kernel
theorem dX11_dry_60 : decode cX11_dry 60 = .ok (.iconst 0, 1) := by decide +kernel
theorem dX11_dry_61 : decode cX11_dry 61 = .ok (.istore 6, 2) := by decide +kernel
theorem dX11_dry_63 : decode cX11_dry 63 = .ok (.iload 6, 2) := by decide +kernel
theorem dX11_dry_65 : decode cX11_dry 65 = .ok (.iload_n 1, 1) := by decide +kernel
theorem dX11_dry_66 : decode cX11_dry 66 = .ok (.if_icmp .ge 16, 3) := by decide +kernel
theorem dX11_dry_69 : decode cX11_dry 69 = .ok (.lload 4, 2) := by decide +kernel
theorem dX11_dry_71 : decode cX11_dry 71 = .ok (.iload_n 3, 1) := by decide +kernel
theorem dX11_dry_72 : decode cX11_dry 72 = .ok (.i2l, 1) := by decide +kernel
theorem dX11_dry_73 : decode cX11_dry 73 = .ok (.lmul, 1) := by decide +kernel
theorem dX11_dry_74 : decode cX11_dry 74 = .ok (.lstore 4, 2) := by decide +kernel
theorem dX11_dry_76 : decode cX11_dry 76 = .ok (.iinc 6 1, 3) := by decide +kernel
theorem dX11_dry_79 : decode cX11_dry 79 = .ok (.goto (-16), 3) := by decide +kernel
theorem dX11_dry_82 : decode cX11_dry 82 = .ok (.lload 4, 2) := by decide +kernel
theorem dX11_dry_84 : decode cX11_dry 84 = .ok (.lreturn, 1) := by decide +kernel
theorem dX11_commonWithHundred_0 : decode cX11_commonWithHundred 0 = .ok (.bipush 100, 2) := by decide +kernel
theorem dX11_commonWithHundred_2 : decode cX11_commonWithHundred 2 = .ok (.istore_n 1, 1) := by decide +kernel
theorem dX11_commonWithHundred_3 : decode cX11_commonWithHundred 3 = .ok (.iload_n 1, 1) := by decide +kernel
theorem dX11_commonWithHundred_4 : decode cX11_commonWithHundred 4 = .ok (.iconst 1, 1) := by decide +kernel
theorem dX11_commonWithHundred_5 : decode cX11_commonWithHundred 5 = .ok (.if_icmp .le 24, 3) := by decide +kernel
theorem dX11_commonWithHundred_8 : decode cX11_commonWithHundred 8 = .ok (.iload_n 0, 1) := by decide +kernel
theorem dX11_commonWithHundred_9 : decode cX11_commonWithHundred 9 = .ok (.iload_n 1, 1) := by decide +kernel
theorem dX11_commonWithHundred_10 : decode cX11_commonWithHundred 10 = .ok (.irem, 1) := by decide +kernel
theorem dX11_commonWithHundred_11 : decode cX11_commonWithHundred 11 = .ok (.ifCond .ne 12, 3) := by decide +kernel
theorem dX11_commonWithHundred_14 : decode cX11_commonWithHundred 14 = .ok (.bipush 100, 2) := by decide +kernel
theorem dX11_commonWithHundred_16 : decode cX11_commonWithHundred 16 = .ok (.iload_n 1, 1) := by decide +kernel
theorem dX11_commonWithHundred_17 : decode cX11_commonWithHundred 17 = .ok (.irem, 1) := by decide +kernel
theorem dX11_commonWithHundred_18 : decode cX11_commonWithHundred 18 = .ok (.ifCond .ne 5, 3) := by decide +kernel
theorem dX11_commonWithHundred_21 : decode cX11_commonWithHundred 21 = .ok (.iload_n 1, 1) := by decide +kernel
theorem dX11_commonWithHundred_22 : decode cX11_commonWithHundred 22 = .ok (.ireturn, 1) := by decide +kernel
theorem dX11_commonWithHundred_23 : decode cX11_commonWithHundred 23 = .ok (.iinc 1 (-1), 3) := by decide +kernel
theorem dX11_commonWithHundred_26 : decode cX11_commonWithHundred 26 = .ok (.goto (-23), 3) := by decide +kernel
theorem dX11_commonWithHundred_29 : decode cX11_commonWithHundred 29 = .ok (.iconst 1, 1) := by decide +kernel
theorem dX11_commonWithHundred_30 : decode cX11_commonWithHundred 30 = .ok (.ireturn, 1) := by decide +kernel
theorem dX11_see_0 : decode cX11_see 0 = .ok (.iload_n 1, 1) := by decide +kernel
theorem dX11_see_1 : decode cX11_see 1 = .ok (.iconst 1, 1) := by decide +kernel
theorem dX11_see_2 : decode cX11_see 2 = .ok (.if_icmp .lt 27, 3) := by decide +kernel
theorem dX11_see_5 : decode cX11_see 5 = .ok (.iload_n 1, 1) := by decide +kernel
theorem dX11_see_6 : decode cX11_see 6 = .ok (.bipush 60, 2) := by decide +kernel
theorem dX11_see_8 : decode cX11_see 8 = .ok (.if_icmp .gt 21, 3) := by decide +kernel
theorem dX11_see_11 : decode cX11_see 11 = .ok (.aload_n 0, 1) := by decide +kernel
theorem dX11_see_12 : decode cX11_see 12 = .ok (.iload_n 2, 1) := by decide +kernel
theorem dX11_see_13 : decode cX11_see 13 = .ok (.invokevirtual 136, 3) := by decide +kernel
theorem dX11_see_16 : decode cX11_see 16 = .ok (.ifCond .eq 13, 3) := by decide +kernel
theorem dX11_see_19 : decode cX11_see 19 = .ok (.aload_n 0, 1) := by decide +kernel
theorem dX11_see_20 : decode cX11_see 20 = .ok (.iload_n 3, 1) := by decide +kernel
theorem dX11_see_21 : decode cX11_see 21 = .ok (.iload 4, 2) := by decide +kernel
theorem dX11_see_23 : decode cX11_see 23 = .ok (.invokevirtual 185, 3) := by decide +kernel
theorem dX11_see_26 : decode cX11_see 26 = .ok (.ifCond .ne 5, 3) := by decide +kernel
theorem dX11_see_29 : decode cX11_see 29 = .ok (.iconst (-1), 1) := by decide +kernel
theorem dX11_see_30 : decode cX11_see 30 = .ok (.ireturn, 1) := by decide +kernel
theorem dX11_see_31 : decode cX11_see 31 = .ok (.aload_n 0, 1) := by decide +kernel
theorem dX11_see_32 : decode cX11_see 32 = .ok (.getfield 63, 3) := by decide +kernel
theorem dX11_see_35 : decode cX11_see 35 = .ok (.iload_n 1, 1) := by decide +kernel
theorem dX11_see_36 : decode cX11_see 36 = .ok (.iload_n 2, 1) := by decide +kernel
theorem dX11_see_37 : decode cX11_see 37 = .ok (.iload_n 3, 1) := by decide +kernel
theorem dX11_see_38 : decode cX11_see 38 = .ok (.iload 4, 2) := by decide +kernel
theorem dX11_see_40 : decode cX11_see 40 = .ok (.iload 5, 2) := by decide +kernel
theorem dX11_see_42 : decode cX11_see 42 = .ok (.invokevirtual 305, 3) := by decide +kernel
theorem dX11_see_45 : decode cX11_see 45 = .ok (.ireturn, 1) := by decide +kernel
theorem dX11_strike_0 : decode cX11_strike 0 = .ok (.aload_n 0, 1) := by decide +kernel
theorem dX11_strike_1 : decode cX11_strike 1 = .ok (.getfield 63, 3) := by decide +kernel
theorem dX11_strike_4 : decode cX11_strike 4 = .ok (.iload_n 1, 1) := by decide +kernel
theorem dX11_strike_5 : decode cX11_strike 5 = .ok (.invokevirtual 309, 3) := by decide +kernel
theorem dX11_strike_8 : decode cX11_strike 8 = .ok (.ireturn, 1) := by decide +kernel
theorem dX11_known_0 : decode cX11_known 0 = .ok (.aload_n 0, 1) := by decide +kernel
theorem dX11_known_1 : decode cX11_known 1 = .ok (.getfield 63, 3) := by decide +kernel
theorem dX11_known_4 : decode cX11_known 4 = .ok (.iload_n 1, 1) := by decide +kernel
theorem dX11_known_5 : decode cX11_known 5 = .ok (.invokevirtual 312, 3) := by decide +kernel
theorem dX11_known_8 : decode cX11_known 8 = .ok (.ireturn, 1) := by decide +kernel
theorem dX11_legsOf_0 : decode cX11_legsOf 0 = .ok (.aload_n 0, 1) := by decide +kernel
theorem dX11_legsOf_1 : decode cX11_legsOf 1 = .ok (.iload_n 1, 1) := by decide +kernel
theorem dX11_legsOf_2 : decode cX11_legsOf 2 = .ok (.invokevirtual 167, 3) := by decide +kernel
theorem dX11_legsOf_5 : decode cX11_legsOf 5 = .ok (.ifCond .eq 14, 3) := by decide +kernel
theorem dX11_legsOf_8 : decode cX11_legsOf 8 = .ok (.aload_n 0, 1) := by decide +kernel
theorem dX11_legsOf_9 : decode cX11_legsOf 9 = .ok (.getfield 72, 3) := by decide +kernel
theorem dX11_legsOf_12 : decode cX11_legsOf 12 = .ok (.iload_n 1, 1) := by decide +kernel
theorem dX11_legsOf_13 : decode cX11_legsOf 13 = .ok (.invokevirtual 315, 3) := by decide +kernel
theorem dX11_legsOf_16 : decode cX11_legsOf 16 = .ok (.goto 4, 3) := by decide +kernel
theorem dX11_legsOf_19 : decode cX11_legsOf 19 = .ok (.iconst (-1), 1) := by decide +kernel
theorem dX11_legsOf_20 : decode cX11_legsOf 20 = .ok (.ireturn, 1) := by decide +kernel
theorem dX11_ask_0 : decode cX11_ask 0 = .ok (.aload_n 0, 1) := by decide +kernel
theorem dX11_ask_1 : decode cX11_ask 1 = .ok (.iload_n 1, 1) := by decide +kernel
theorem dX11_ask_2 : decode cX11_ask 2 = .ok (.invokevirtual 167, 3) := by decide +kernel
theorem dX11_ask_5 : decode cX11_ask 5 = .ok (.ifCond .eq 20, 3) := by decide +kernel
theorem dX11_ask_8 : decode cX11_ask 8 = .ok (.aload_n 0, 1) := by decide +kernel
theorem dX11_ask_9 : decode cX11_ask 9 = .ok (.iload_n 2, 1) := by decide +kernel
theorem dX11_ask_10 : decode cX11_ask 10 = .ok (.invokevirtual 136, 3) := by decide +kernel
theorem dX11_ask_13 : decode cX11_ask 13 = .ok (.ifCond .eq 12, 3) := by decide +kernel
theorem dX11_ask_16 : decode cX11_ask 16 = .ok (.iload_n 3, 1) := by decide +kernel
theorem dX11_ask_17 : decode cX11_ask 17 = .ok (.ifCond .lt 8, 3) := by decide +kernel
theorem dX11_ask_20 : decode cX11_ask 20 = .ok (.iload_n 3, 1) := by decide +kernel
theorem dX11_ask_21 : decode cX11_ask 21 = .ok (.iconst 1, 1) := by decide +kernel
theorem dX11_ask_22 : decode cX11_ask 22 = .ok (.if_icmp .le 5, 3) := by decide +kernel
theorem dX11_ask_25 : decode cX11_ask 25 = .ok (.iconst (-1), 1) := by decide +kernel
theorem dX11_ask_26 : decode cX11_ask 26 = .ok (.ireturn, 1) := by decide +kernel
theorem dX11_ask_27 : decode cX11_ask 27 = .ok (.aload_n 0, 1) := by decide +kernel
theorem dX11_ask_28 : decode cX11_ask 28 = .ok (.getfield 72, 3) := by decide +kernel
theorem dX11_ask_31 : decode cX11_ask 31 = .ok (.iload_n 1, 1) := by decide +kernel
theorem dX11_ask_32 : decode cX11_ask 32 = .ok (.iload_n 2, 1) := by decide +kernel
theorem dX11_ask_33 : decode cX11_ask 33 = .ok (.aload_n 0, 1) := by decide +kernel
theorem dX11_ask_34 : decode cX11_ask 34 = .ok (.getfield 72, 3) := by decide +kernel
theorem dX11_ask_37 : decode cX11_ask 37 = .ok (.iload_n 1, 1) := by decide +kernel
theorem dX11_ask_38 : decode cX11_ask 38 = .ok (.invokevirtual 315, 3) := by decide +kernel
theorem dX11_ask_41 : decode cX11_ask 41 = .ok (.invokevirtual 318, 3) := by decide +kernel
theorem dX11_ask_44 : decode cX11_ask 44 = .ok (.iload_n 3, 1) := by decide +kernel
theorem dX11_ask_45 : decode cX11_ask 45 = .ok (.ifCond .ne 13, 3) := by decide +kernel
theorem dX11_ask_48 : decode cX11_ask 48 = .ok (.aload_n 0, 1) := by decide +kernel
theorem dX11_ask_49 : decode cX11_ask 49 = .ok (.getfield 72, 3) := by decide +kernel
theorem dX11_ask_52 : decode cX11_ask 52 = .ok (.getfield 322, 3) := by decide +kernel
theorem dX11_ask_55 : decode cX11_ask 55 = .ok (.goto 10, 3) := by decide +kernel
theorem dX11_ask_58 : decode cX11_ask 58 = .ok (.aload_n 0, 1) := by decide +kernel
theorem dX11_ask_59 : decode cX11_ask 59 = .ok (.getfield 72, 3) := by decide +kernel
theorem dX11_ask_62 : decode cX11_ask 62 = .ok (.getfield 325, 3) := by decide +kernel
theorem dX11_ask_65 : decode cX11_ask 65 = .ok (.ireturn, 1) := by decide +kernel
theorem dX11_chance_0 : decode cX11_chance 0 = .ok (.iload_n 1, 1) := by decide +kernel
theorem dX11_chance_1 : decode cX11_chance 1 = .ok (.ifCond .lt 35, 3) := by decide +kernel
theorem dX11_chance_4 : decode cX11_chance 4 = .ok (.iload_n 2, 1) := by decide +kernel
theorem dX11_chance_5 : decode cX11_chance 5 = .ok (.iconst 1, 1) := by decide +kernel
theorem dX11_chance_6 : decode cX11_chance 6 = .ok (.if_icmp .lt 30, 3) := by decide +kernel
theorem dX11_chance_9 : decode cX11_chance 9 = .ok (.iload_n 2, 1) := by decide +kernel
theorem dX11_chance_10 : decode cX11_chance 10 = .ok (.bipush 99, 2) := by decide +kernel
theorem dX11_chance_12 : decode cX11_chance 12 = .ok (.if_icmp .gt 24, 3) := by decide +kernel
theorem dX11_chance_15 : decode cX11_chance 15 = .ok (.aload_n 0, 1) := by decide +kernel
theorem dX11_chance_16 : decode cX11_chance 16 = .ok (.iload_n 3, 1) := by decide +kernel
theorem dX11_chance_17 : decode cX11_chance 17 = .ok (.invokevirtual 136, 3) := by decide +kernel
theorem dX11_chance_20 : decode cX11_chance 20 = .ok (.ifCond .eq 16, 3) := by decide +kernel
theorem dX11_chance_23 : decode cX11_chance 23 = .ok (.iload 4, 2) := by decide +kernel
theorem dX11_chance_25 : decode cX11_chance 25 = .ok (.ifCond .lt 11, 3) := by decide +kernel
theorem dX11_chance_28 : decode cX11_chance 28 = .ok (.iload 4, 2) := by decide +kernel
theorem dX11_chance_30 : decode cX11_chance 30 = .ok (.sipush 9999, 3) := by decide +kernel
theorem dX11_chance_33 : decode cX11_chance 33 = .ok (.if_icmp .le 5, 3) := by decide +kernel
theorem dX11_chance_36 : decode cX11_chance 36 = .ok (.iconst (-1), 1) := by decide +kernel
theorem dX11_chance_37 : decode cX11_chance 37 = .ok (.ireturn, 1) := by decide +kernel
theorem dX11_chance_38 : decode cX11_chance 38 = .ok (.iconst 0, 1) := by decide +kernel
theorem dX11_chance_39 : decode cX11_chance 39 = .ok (.istore 5, 2) := by decide +kernel
theorem dX11_chance_41 : decode cX11_chance 41 = .ok (.iload_n 1, 1) := by decide +kernel
theorem dX11_chance_42 : decode cX11_chance 42 = .ok (.i2l, 1) := by decide +kernel
theorem dX11_chance_43 : decode cX11_chance 43 = .ok (.lstore 6, 2) := by decide +kernel
theorem dX11_chance_45 : decode cX11_chance 45 = .ok (.iconst 0, 1) := by decide +kernel
theorem dX11_chance_46 : decode cX11_chance 46 = .ok (.istore 8, 2) := by decide +kernel
theorem dX11_chance_48 : decode cX11_chance 48 = .ok (.iload 8, 2) := by decide +kernel
theorem dX11_chance_50 : decode cX11_chance 50 = .ok (.bipush 10, 2) := by decide +kernel
theorem dX11_chance_52 : decode cX11_chance 52 = .ok (.if_icmp .ge 75, 3) := by decide +kernel
theorem dX11_chance_55 : decode cX11_chance 55 = .ok (.aload_n 0, 1) := by decide +kernel
theorem dX11_chance_56 : decode cX11_chance 56 = .ok (.getfield 40, 3) := by decide +kernel
theorem dX11_chance_59 : decode cX11_chance 59 = .ok (.aload_n 0, 1) := by decide +kernel
theorem dX11_chance_60 : decode cX11_chance 60 = .ok (.getfield 36, 3) := by decide +kernel
theorem dX11_chance_63 : decode cX11_chance 63 = .ok (.invokevirtual 236, 3) := by decide +kernel
theorem dX11_chance_66 : decode cX11_chance 66 = .ok (.aload_n 0, 1) := by decide +kernel
theorem dX11_chance_67 : decode cX11_chance 67 = .ok (.getfield 40, 3) := by decide +kernel
theorem dX11_chance_70 : decode cX11_chance 70 = .ok (.iconst 1, 1) := by decide +kernel
theorem dX11_chance_71 : decode cX11_chance 71 = .ok (.putfield 240, 3) := by decide +kernel
theorem dX11_chance_74 : decode cX11_chance 74 = .ok (.aload_n 0, 1) := by decide +kernel
theorem dX11_chance_75 : decode cX11_chance 75 = .ok (.getfield 40, 3) := by decide +kernel
theorem dX11_chance_78 : decode cX11_chance 78 = .ok (.lload 6, 2) := by decide +kernel
theorem dX11_chance_80 : decode cX11_chance 80 = .ok (.putfield 328, 3) := by decide +kernel
theorem dX11_chance_83 : decode cX11_chance 83 = .ok (.aload_n 0, 1) := by decide +kernel
theorem dX11_chance_84 : decode cX11_chance 84 = .ok (.getfield 49, 3) := by decide +kernel
theorem dX11_chance_87 : decode cX11_chance 87 = .ok (.aload_n 0, 1) := by decide +kernel
theorem dX11_chance_88 : decode cX11_chance 88 = .ok (.getfield 40, 3) := by decide +kernel
theorem dX11_chance_91 : decode cX11_chance 91 = .ok (.iload_n 2, 1) := by decide +kernel
theorem dX11_chance_92 : decode cX11_chance 92 = .ok (.iconst 1, 1) := by decide +kernel
theorem dX11_chance_93 : decode cX11_chance 93 = .ok (.invokevirtual 233, 3) := by decide +kernel
theorem dX11_chance_96 : decode cX11_chance 96 = .ok (.aload_n 0, 1) := by decide +kernel
theorem dX11_chance_97 : decode cX11_chance 97 = .ok (.getfield 40, 3) := by decide +kernel
theorem dX11_chance_100 : decode cX11_chance 100 = .ok (.getfield 328, 3) := by decide +kernel
theorem dX11_chance_103 : decode cX11_chance 103 = .ok (.lstore 6, 2) := by decide +kernel
theorem dX11_chance_105 : decode cX11_chance 105 = .ok (.aload_n 0, 1) := by decide +kernel
theorem dX11_chance_106 : decode cX11_chance 106 = .ok (.getfield 40, 3) := by decide +kernel
theorem dX11_chance_109 : decode cX11_chance 109 = .ok (.iload_n 3, 1) := by decide +kernel
theorem dX11_chance_110 : decode cX11_chance 110 = .ok (.invokevirtual 158, 3) := by decide +kernel
theorem dX11_chance_113 : decode cX11_chance 113 = .ok (.iload 4, 2) := by decide +kernel
theorem dX11_chance_115 : decode cX11_chance 115 = .ok (.if_icmp .lt 6, 3) := by decide +kernel
theorem dX11_chance_118 : decode cX11_chance 118 = .ok (.iinc 5 1, 3) := by decide +kernel
theorem dX11_chance_121 : decode cX11_chance 121 = .ok (.iinc 8 1, 3) := by decide +kernel
theorem dX11_chance_124 : decode cX11_chance 124 = .ok (.goto (-76), 3) := by decide +kernel
theorem dX11_chance_127 : decode cX11_chance 127 = .ok (.iload 5, 2) := by decide +kernel
theorem dX11_chance_129 : decode cX11_chance 129 = .ok (.ireturn, 1) := by decide +kernel
theorem dX11_tried_0 : decode cX11_tried 0 = .ok (.iload_n 1, 1) := by decide +kernel
theorem dX11_tried_1 : decode cX11_tried 1 = .ok (.ifCond .lt 39, 3) := by decide +kernel
theorem dX11_tried_4 : decode cX11_tried 4 = .ok (.iload_n 1, 1) := by decide +kernel
theorem dX11_tried_5 : decode cX11_tried 5 = .ok (.iconst 4, 1) := by decide +kernel
theorem dX11_tried_6 : decode cX11_tried 6 = .ok (.if_icmp .gt 34, 3) := by decide +kernel
theorem dX11_tried_9 : decode cX11_tried 9 = .ok (.iload_n 3, 1) := by decide +kernel
theorem dX11_tried_10 : decode cX11_tried 10 = .ok (.ifCond .lt 30, 3) := by decide +kernel
theorem dX11_tried_13 : decode cX11_tried 13 = .ok (.iload_n 3, 1) := by decide +kernel
theorem dX11_tried_14 : decode cX11_tried 14 = .ok (.sipush 200, 3) := by decide +kernel
theorem dX11_tried_17 : decode cX11_tried 17 = .ok (.if_icmp .gt 23, 3) := by decide +kernel
theorem dX11_tried_20 : decode cX11_tried 20 = .ok (.iload_n 1, 1) := by decide +kernel
theorem dX11_tried_21 : decode cX11_tried 21 = .ok (.iconst 2, 1) := by decide +kernel
theorem dX11_tried_22 : decode cX11_tried 22 = .ok (.if_icmp .ne 14, 3) := by decide +kernel
theorem dX11_tried_25 : decode cX11_tried 25 = .ok (.aload_n 0, 1) := by decide +kernel
theorem dX11_tried_26 : decode cX11_tried 26 = .ok (.iload_n 2, 1) := by decide +kernel
theorem dX11_tried_27 : decode cX11_tried 27 = .ok (.invokevirtual 167, 3) := by decide +kernel
theorem dX11_tried_30 : decode cX11_tried 30 = .ok (.ifCond .ne 12, 3) := by decide +kernel
theorem dX11_tried_33 : decode cX11_tried 33 = .ok (.goto 7, 3) := by decide +kernel
theorem dX11_tried_36 : decode cX11_tried 36 = .ok (.iload_n 2, 1) := by decide +kernel
theorem dX11_tried_37 : decode cX11_tried 37 = .ok (.ifCond .eq 5, 3) := by decide +kernel
theorem dX11_tried_40 : decode cX11_tried 40 = .ok (.iconst (-1), 1) := by decide +kernel
theorem dX11_tried_41 : decode cX11_tried 41 = .ok (.ireturn, 1) := by decide +kernel
theorem dX11_tried_42 : decode cX11_tried 42 = .ok (.aload_n 0, 1) := by decide +kernel
theorem dX11_tried_43 : decode cX11_tried 43 = .ok (.getfield 40, 3) := by decide +kernel
theorem dX11_tried_46 : decode cX11_tried 46 = .ok (.aload_n 0, 1) := by decide +kernel
theorem dX11_tried_47 : decode cX11_tried 47 = .ok (.getfield 36, 3) := by decide +kernel
theorem dX11_tried_50 : decode cX11_tried 50 = .ok (.invokevirtual 236, 3) := by decide +kernel
theorem dX11_tried_53 : decode cX11_tried 53 = .ok (.aload_n 0, 1) := by decide +kernel
theorem dX11_tried_54 : decode cX11_tried 54 = .ok (.getfield 40, 3) := by decide +kernel
theorem dX11_tried_57 : decode cX11_tried 57 = .ok (.iconst 1, 1) := by decide +kernel
theorem dX11_tried_58 : decode cX11_tried 58 = .ok (.putfield 240, 3) := by decide +kernel
theorem dX11_tried_61 : decode cX11_tried 61 = .ok (.iload_n 1, 1) := by decide +kernel
theorem dX11_tried_62 : decode cX11_tried 62 = .ok (.iconst 2, 1) := by decide +kernel
theorem dX11_tried_63 : decode cX11_tried 63 = .ok (.if_icmp .ne 14, 3) := by decide +kernel
theorem dX11_tried_66 : decode cX11_tried 66 = .ok (.aload_n 0, 1) := by decide +kernel
theorem dX11_tried_67 : decode cX11_tried 67 = .ok (.getfield 40, 3) := by decide +kernel
theorem dX11_tried_70 : decode cX11_tried 70 = .ok (.iload_n 2, 1) := by decide +kernel
theorem dX11_tried_71 : decode cX11_tried 71 = .ok (.putfield 332, 3) := by decide +kernel
theorem dX11_tried_74 : decode cX11_tried 74 = .ok (.goto 46, 3) := by decide +kernel
theorem dX11_tried_77 : decode cX11_tried 77 = .ok (.iload_n 1, 1) := by decide +kernel
theorem dX11_tried_78 : decode cX11_tried 78 = .ok (.iconst 3, 1) := by decide +kernel
theorem dX11_tried_79 : decode cX11_tried 79 = .ok (.if_icmp .ne 17, 3) := by decide +kernel
theorem dX11_tried_82 : decode cX11_tried 82 = .ok (.aload_n 0, 1) := by decide +kernel
theorem dX11_tried_83 : decode cX11_tried 83 = .ok (.getfield 40, 3) := by decide +kernel
theorem dX11_tried_86 : decode cX11_tried 86 = .ok (.getfield 182, 3) := by decide +kernel
theorem dX11_tried_89 : decode cX11_tried 89 = .ok (.iconst 0, 1) := by decide +kernel
theorem dX11_tried_90 : decode cX11_tried 90 = .ok (.invokestatic 335, 3) := by decide +kernel
theorem dX11_tried_93 : decode cX11_tried 93 = .ok (.goto 27, 3) := by decide +kernel
theorem dX11_tried_96 : decode cX11_tried 96 = .ok (.iload_n 1, 1) := by decide +kernel
theorem dX11_tried_97 : decode cX11_tried 97 = .ok (.iconst 4, 1) := by decide +kernel
theorem dX11_tried_98 : decode cX11_tried 98 = .ok (.if_icmp .ne 22, 3) := by decide +kernel
theorem dX11_tried_101 : decode cX11_tried 101 = .ok (.aload_n 0, 1) := by decide +kernel
theorem dX11_tried_102 : decode cX11_tried 102 = .ok (.getfield 40, 3) := by decide +kernel
theorem dX11_tried_105 : decode cX11_tried 105 = .ok (.iconst 1, 1) := by decide +kernel
theorem dX11_tried_106 : decode cX11_tried 106 = .ok (.putfield 341, 3) := by decide +kernel
theorem dX11_tried_109 : decode cX11_tried 109 = .ok (.aload_n 0, 1) := by decide +kernel
theorem dX11_tried_110 : decode cX11_tried 110 = .ok (.getfield 40, 3) := by decide +kernel
theorem dX11_tried_113 : decode cX11_tried 113 = .ok (.getfield 176, 3) := by decide +kernel
theorem dX11_tried_116 : decode cX11_tried 116 = .ok (.iconst 0, 1) := by decide +kernel
theorem dX11_tried_117 : decode cX11_tried 117 = .ok (.invokestatic 335, 3) := by decide +kernel
theorem dX11_tried_120 : decode cX11_tried 120 = .ok (.aload_n 0, 1) := by decide +kernel
theorem dX11_tried_121 : decode cX11_tried 121 = .ok (.getfield 49, 3) := by decide +kernel
theorem dX11_tried_124 : decode cX11_tried 124 = .ok (.aload_n 0, 1) := by decide +kernel
theorem dX11_tried_125 : decode cX11_tried 125 = .ok (.getfield 40, 3) := by decide +kernel
theorem dX11_tried_128 : decode cX11_tried 128 = .ok (.iload_n 3, 1) := by decide +kernel
theorem dX11_tried_129 : decode cX11_tried 129 = .ok (.iload_n 1, 1) := by decide +kernel
theorem dX11_tried_130 : decode cX11_tried 130 = .ok (.ifCond .ne 7, 3) := by decide +kernel
theorem dX11_tried_133 : decode cX11_tried 133 = .ok (.iconst 2, 1) := by decide +kernel
theorem dX11_tried_134 : decode cX11_tried 134 = .ok (.goto 13, 3) := by decide +kernel
theorem dX11_tried_137 : decode cX11_tried 137 = .ok (.iload_n 1, 1) := by decide +kernel
theorem dX11_tried_138 : decode cX11_tried 138 = .ok (.iconst 1, 1) := by decide +kernel
theorem dX11_tried_139 : decode cX11_tried 139 = .ok (.if_icmp .ne 7, 3) := by decide +kernel
theorem dX11_tried_142 : decode cX11_tried 142 = .ok (.iconst 3, 1) := by decide +kernel
theorem dX11_tried_143 : decode cX11_tried 143 = .ok (.goto 4, 3) := by decide +kernel
theorem dX11_tried_146 : decode cX11_tried 146 = .ok (.iconst 0, 1) := by decide +kernel
theorem dX11_tried_147 : decode cX11_tried 147 = .ok (.invokevirtual 233, 3) := by decide +kernel
theorem dX11_tried_150 : decode cX11_tried 150 = .ok (.aload_n 0, 1) := by decide +kernel
theorem dX11_tried_151 : decode cX11_tried 151 = .ok (.getfield 40, 3) := by decide +kernel
theorem dX11_tried_154 : decode cX11_tried 154 = .ok (.invokevirtual 344, 3) := by decide +kernel
theorem dX11_tried_157 : decode cX11_tried 157 = .ok (.ireturn, 1) := by decide +kernel
theorem dX11_undo_0 : decode cX11_undo 0 = .ok (.aload_n 0, 1) := by decide +kernel
theorem dX11_undo_1 : decode cX11_undo 1 = .ok (.getfield 56, 3) := by decide +kernel
theorem dX11_undo_4 : decode cX11_undo 4 = .ok (.aload_n 0, 1) := by decide +kernel
theorem dX11_undo_5 : decode cX11_undo 5 = .ok (.getfield 36, 3) := by decide +kernel
theorem dX11_undo_8 : decode cX11_undo 8 = .ok (.invokevirtual 347, 3) := by decide +kernel
theorem dX11_undo_11 : decode cX11_undo 11 = .ok (.ireturn, 1) := by decide +kernel
theorem dX11_keep_0 : decode cX11_keep 0 = .ok (.aload_n 0, 1) := by decide +kernel
theorem dX11_keep_1 : decode cX11_keep 1 = .ok (.getfield 43, 3) := by decide +kernel
theorem dX11_keep_4 : decode cX11_keep 4 = .ok (.aload_n 0, 1) := by decide +kernel
theorem dX11_keep_5 : decode cX11_keep 5 = .ok (.getfield 36, 3) := by decide +kernel
theorem dX11_keep_8 : decode cX11_keep 8 = .ok (.invokevirtual 236, 3) := by decide +kernel
theorem dX11_keep_11 : decode cX11_keep 11 = .ok (.aload_n 0, 1) := by decide +kernel
theorem dX11_keep_12 : decode cX11_keep 12 = .ok (.iconst 1, 1) := by decide +kernel
theorem dX11_keep_13 : decode cX11_keep 13 = .ok (.putfield 110, 3) := by decide +kernel
theorem dX11_keep_16 : decode cX11_keep 16 = .ok (.aload_n 0, 1) := by decide +kernel
theorem dX11_keep_17 : decode cX11_keep 17 = .ok (.getfield 36, 3) := by decide +kernel
theorem dX11_keep_20 : decode cX11_keep 20 = .ok (.getfield 230, 3) := by decide +kernel
theorem dX11_keep_23 : decode cX11_keep 23 = .ok (.ireturn, 1) := by decide +kernel
theorem dX11_back_0 : decode cX11_back 0 = .ok (.aload_n 0, 1) := by decide +kernel
theorem dX11_back_1 : decode cX11_back 1 = .ok (.getfield 110, 3) := by decide +kernel
theorem dX11_back_4 : decode cX11_back 4 = .ok (.ifCond .ne 5, 3) := by decide +kernel
theorem dX11_back_7 : decode cX11_back 7 = .ok (.iconst (-1), 1) := by decide +kernel
theorem dX11_back_8 : decode cX11_back 8 = .ok (.ireturn, 1) := by decide +kernel
theorem dX11_back_9 : decode cX11_back 9 = .ok (.aload_n 0, 1) := by decide +kernel
theorem dX11_back_10 : decode cX11_back 10 = .ok (.getfield 36, 3) := by decide +kernel
theorem dX11_back_13 : decode cX11_back 13 = .ok (.aload_n 0, 1) := by decide +kernel
theorem dX11_back_14 : decode cX11_back 14 = .ok (.getfield 43, 3) := by decide +kernel
theorem dX11_back_17 : decode cX11_back 17 = .ok (.invokevirtual 236, 3) := by decide +kernel
theorem dX11_back_20 : decode cX11_back 20 = .ok (.aload_n 0, 1) := by decide +kernel
theorem dX11_back_21 : decode cX11_back 21 = .ok (.getfield 56, 3) := by decide +kernel
theorem dX11_back_24 : decode cX11_back 24 = .ok (.invokevirtual 109, 3) := by decide +kernel
theorem dX11_back_27 : decode cX11_back 27 = .ok (.aload_n 0, 1) := by decide +kernel
theorem dX11_back_28 : decode cX11_back 28 = .ok (.getfield 36, 3) := by decide +kernel
theorem dX11_back_31 : decode cX11_back 31 = .ok (.getfield 230, 3) := by decide +kernel
theorem dX11_back_34 : decode cX11_back 34 = .ok (.ireturn, 1) := by decide +kernel
theorem dX11_count_0 : decode cX11_count 0 = .ok (.iload_n 1, 1) := by decide +kernel
theorem dX11_count_1 : decode cX11_count 1 = .ok (.tableswitch 174 0 12 #[67, 75, 83, 91, 99, 110, 118, 126, 134, 142, 150, 158, 166], 67) := by decide +kernel
theorem dX11_count_68 : decode cX11_count 68 = .ok (.aload_n 0, 1) := by decide +kernel
theorem dX11_count_69 : decode cX11_count 69 = .ok (.getfield 18, 3) := by decide +kernel
theorem dX11_count_72 : decode cX11_count 72 = .ok (.getfield 351, 3) := by decide +kernel
theorem dX11_count_75 : decode cX11_count 75 = .ok (.ireturn, 1) := by decide +kernel
theorem dX11_count_76 : decode cX11_count 76 = .ok (.aload_n 0, 1) := by decide +kernel
theorem dX11_count_77 : decode cX11_count 77 = .ok (.getfield 18, 3) := by decide +kernel
theorem dX11_count_80 : decode cX11_count 80 = .ok (.getfield 354, 3) := by decide +kernel
theorem dX11_count_83 : decode cX11_count 83 = .ok (.ireturn, 1) := by decide +kernel
theorem dX11_count_84 : decode cX11_count 84 = .ok (.aload_n 0, 1) := by decide +kernel
theorem dX11_count_85 : decode cX11_count 85 = .ok (.getfield 18, 3) := by decide +kernel
theorem dX11_count_88 : decode cX11_count 88 = .ok (.getfield 357, 3) := by decide +kernel
theorem dX11_count_91 : decode cX11_count 91 = .ok (.ireturn, 1) := by decide +kernel
theorem dX11_count_92 : decode cX11_count 92 = .ok (.aload_n 0, 1) := by decide +kernel
theorem dX11_count_93 : decode cX11_count 93 = .ok (.getfield 18, 3) := by decide +kernel
theorem dX11_count_96 : decode cX11_count 96 = .ok (.getfield 360, 3) := by decide +kernel
theorem dX11_count_99 : decode cX11_count 99 = .ok (.ireturn, 1) := by decide +kernel
theorem dX11_count_100 : decode cX11_count 100 = .ok (.aload_n 0, 1) := by decide +kernel
theorem dX11_count_101 : decode cX11_count 101 = .ok (.getfield 18, 3) := by decide +kernel
theorem dX11_count_104 : decode cX11_count 104 = .ok (.getfield 363, 3) := by decide +kernel
theorem dX11_count_107 : decode cX11_count 107 = .ok (.getfield 367, 3) := by decide +kernel
theorem dX11_count_110 : decode cX11_count 110 = .ok (.ireturn, 1) := by decide +kernel
theorem dX11_count_111 : decode cX11_count 111 = .ok (.aload_n 0, 1) := by decide +kernel
theorem dX11_count_112 : decode cX11_count 112 = .ok (.getfield 36, 3) := by decide +kernel
theorem dX11_count_115 : decode cX11_count 115 = .ok (.getfield 230, 3) := by decide +kernel
theorem dX11_count_118 : decode cX11_count 118 = .ok (.ireturn, 1) := by decide +kernel
theorem dX11_count_119 : decode cX11_count 119 = .ok (.aload_n 0, 1) := by decide +kernel
theorem dX11_count_120 : decode cX11_count 120 = .ok (.getfield 36, 3) := by decide +kernel
theorem dX11_count_123 : decode cX11_count 123 = .ok (.getfield 243, 3) := by decide +kernel
theorem dX11_count_126 : decode cX11_count 126 = .ok (.ireturn, 1) := by decide +kernel
theorem dX11_count_127 : decode cX11_count 127 = .ok (.aload_n 0, 1) := by decide +kernel
theorem dX11_count_128 : decode cX11_count 128 = .ok (.getfield 36, 3) := by decide +kernel
theorem dX11_count_131 : decode cX11_count 131 = .ok (.invokevirtual 344, 3) := by decide +kernel
theorem dX11_count_134 : decode cX11_count 134 = .ok (.ireturn, 1) := by decide +kernel
theorem dX11_count_135 : decode cX11_count 135 = .ok (.aload_n 0, 1) := by decide +kernel
theorem dX11_count_136 : decode cX11_count 136 = .ok (.getfield 36, 3) := by decide +kernel
theorem dX11_count_139 : decode cX11_count 139 = .ok (.invokevirtual 246, 3) := by decide +kernel
theorem dX11_count_142 : decode cX11_count 142 = .ok (.ireturn, 1) := by decide +kernel
theorem dX11_count_143 : decode cX11_count 143 = .ok (.aload_n 0, 1) := by decide +kernel
theorem dX11_count_144 : decode cX11_count 144 = .ok (.getfield 36, 3) := by decide +kernel
theorem dX11_count_147 : decode cX11_count 147 = .ok (.invokevirtual 372, 3) := by decide +kernel
theorem dX11_count_150 : decode cX11_count 150 = .ok (.ireturn, 1) := by decide +kernel
theorem dX11_count_151 : decode cX11_count 151 = .ok (.aload_n 0, 1) := by decide +kernel
theorem dX11_count_152 : decode cX11_count 152 = .ok (.getfield 63, 3) := by decide +kernel
theorem dX11_count_155 : decode cX11_count 155 = .ok (.getfield 375, 3) := by decide +kernel
theorem dX11_count_158 : decode cX11_count 158 = .ok (.ireturn, 1) := by decide +kernel
theorem dX11_count_159 : decode cX11_count 159 = .ok (.aload_n 0, 1) := by decide +kernel
theorem dX11_count_160 : decode cX11_count 160 = .ok (.getfield 63, 3) := by decide +kernel
theorem dX11_count_163 : decode cX11_count 163 = .ok (.invokevirtual 378, 3) := by decide +kernel
theorem dX11_count_166 : decode cX11_count 166 = .ok (.ireturn, 1) := by decide +kernel
theorem dX11_count_167 : decode cX11_count 167 = .ok (.aload_n 0, 1) := by decide +kernel
theorem dX11_count_168 : decode cX11_count 168 = .ok (.getfield 56, 3) := by decide +kernel
theorem dX11_count_171 : decode cX11_count 171 = .ok (.getfield 381, 3) := by decide +kernel
theorem dX11_count_174 : decode cX11_count 174 = .ok (.ireturn, 1) := by decide +kernel
theorem dX11_count_175 : decode cX11_count 175 = .ok (.iconst (-1), 1) := by decide +kernel
theorem dX11_count_176 : decode cX11_count 176 = .ok (.ireturn, 1) := by decide +kernel
theorem dX11_isParish_0 : decode cX11_isParish 0 = .ok (.iload_n 1, 1) := by decide +kernel
theorem dX11_isParish_1 : decode cX11_isParish 1 = .ok (.ifCond .lt 18, 3) := by decide +kernel
theorem dX11_isParish_4 : decode cX11_isParish 4 = .ok (.iload_n 1, 1) := by decide +kernel
theorem dX11_isParish_5 : decode cX11_isParish 5 = .ok (.aload_n 0, 1) := by decide +kernel
theorem dX11_isParish_6 : decode cX11_isParish 6 = .ok (.getfield 18, 3) := by decide +kernel
theorem dX11_isParish_9 : decode cX11_isParish 9 = .ok (.getfield 351, 3) := by decide +kernel
theorem dX11_isParish_12 : decode cX11_isParish 12 = .ok (.if_icmp .ge 7, 3) := by decide +kernel
theorem dX11_isParish_15 : decode cX11_isParish 15 = .ok (.iconst 1, 1) := by decide +kernel
theorem dX11_isParish_16 : decode cX11_isParish 16 = .ok (.goto 4, 3) := by decide +kernel
theorem dX11_isParish_19 : decode cX11_isParish 19 = .ok (.iconst 0, 1) := by decide +kernel
theorem dX11_isParish_20 : decode cX11_isParish 20 = .ok (.ireturn, 1) := by decide +kernel
theorem dX11_isPair_0 : decode cX11_isPair 0 = .ok (.aload_n 0, 1) := by decide +kernel
theorem dX11_isPair_1 : decode cX11_isPair 1 = .ok (.iload_n 1, 1) := by decide +kernel
theorem dX11_isPair_2 : decode cX11_isPair 2 = .ok (.invokevirtual 136, 3) := by decide +kernel
theorem dX11_isPair_5 : decode cX11_isPair 5 = .ok (.ifCond .eq 20, 3) := by decide +kernel
theorem dX11_isPair_8 : decode cX11_isPair 8 = .ok (.aload_n 0, 1) := by decide +kernel
theorem dX11_isPair_9 : decode cX11_isPair 9 = .ok (.iload_n 2, 1) := by decide +kernel
theorem dX11_isPair_10 : decode cX11_isPair 10 = .ok (.invokevirtual 136, 3) := by decide +kernel
theorem dX11_isPair_13 : decode cX11_isPair 13 = .ok (.ifCond .eq 12, 3) := by decide +kernel
theorem dX11_isPair_16 : decode cX11_isPair 16 = .ok (.iload_n 1, 1) := by decide +kernel
theorem dX11_isPair_17 : decode cX11_isPair 17 = .ok (.iload_n 2, 1) := by decide +kernel
theorem dX11_isPair_18 : decode cX11_isPair 18 = .ok (.if_icmp .eq 7, 3) := by decide +kernel
theorem dX11_isPair_21 : decode cX11_isPair 21 = .ok (.iconst 1, 1) := by decide +kernel
theorem dX11_isPair_22 : decode cX11_isPair 22 = .ok (.goto 4, 3) := by decide +kernel
theorem dX11_isPair_25 : decode cX11_isPair 25 = .ok (.iconst 0, 1) := by decide +kernel
theorem dX11_isPair_26 : decode cX11_isPair 26 = .ok (.ireturn, 1) := by decide +kernel
theorem dX11_isChild_0 : decode cX11_isChild 0 = .ok (.iload_n 1, 1) := by decide +kernel
theorem dX11_isChild_1 : decode cX11_isChild 1 = .ok (.ifCond .lt 18, 3) := by decide +kernel
theorem dX11_isChild_4 : decode cX11_isChild 4 = .ok (.iload_n 1, 1) := by decide +kernel
theorem dX11_isChild_5 : decode cX11_isChild 5 = .ok (.aload_n 0, 1) := by decide +kernel
theorem dX11_isChild_6 : decode cX11_isChild 6 = .ok (.getfield 18, 3) := by decide +kernel
theorem dX11_isChild_9 : decode cX11_isChild 9 = .ok (.getfield 354, 3) := by decide +kernel
theorem dX11_isChild_12 : decode cX11_isChild 12 = .ok (.if_icmp .ge 7, 3) := by decide +kernel
theorem dX11_isChild_15 : decode cX11_isChild 15 = .ok (.iconst 1, 1) := by decide +kernel
theorem dX11_isChild_16 : decode cX11_isChild 16 = .ok (.goto 4, 3) := by decide +kernel
theorem dX11_isChild_19 : decode cX11_isChild 19 = .ok (.iconst 0, 1) := by decide +kernel
theorem dX11_isChild_20 : decode cX11_isChild 20 = .ok (.ireturn, 1) := by decide +kernel
theorem dX11_isWay_0 : decode cX11_isWay 0 = .ok (.iload_n 0, 1) := by decide +kernel
theorem dX11_isWay_1 : decode cX11_isWay 1 = .ok (.ifCond .lt 12, 3) := by decide +kernel
theorem dX11_isWay_4 : decode cX11_isWay 4 = .ok (.iload_n 0, 1) := by decide +kernel
theorem dX11_isWay_5 : decode cX11_isWay 5 = .ok (.iconst 4, 1) := by decide +kernel
theorem dX11_isWay_6 : decode cX11_isWay 6 = .ok (.if_icmp .ge 7, 3) := by decide +kernel
theorem dX11_isWay_9 : decode cX11_isWay 9 = .ok (.iconst 1, 1) := by decide +kernel
theorem dX11_isWay_10 : decode cX11_isWay 10 = .ok (.goto 4, 3) := by decide +kernel
theorem dX11_isWay_13 : decode cX11_isWay 13 = .ok (.iconst 0, 1) := by decide +kernel
theorem dX11_isWay_14 : decode cX11_isWay 14 = .ok (.ireturn, 1) := by decide +kernel
theorem dX11_isCell_0 : decode cX11_isCell 0 = .ok (.iload_n 1, 1) := by decide +kernel
theorem dX11_isCell_1 : decode cX11_isCell 1 = .ok (.ifCond .lt 33, 3) := by decide +kernel
theorem dX11_isCell_4 : decode cX11_isCell 4 = .ok (.iload_n 1, 1) := by decide +kernel
theorem dX11_isCell_5 : decode cX11_isCell 5 = .ok (.aload_n 0, 1) := by decide +kernel
theorem dX11_isCell_6 : decode cX11_isCell 6 = .ok (.getfield 18, 3) := by decide +kernel
theorem dX11_isCell_9 : decode cX11_isCell 9 = .ok (.getfield 360, 3) := by decide +kernel
theorem dX11_isCell_12 : decode cX11_isCell 12 = .ok (.if_icmp .ge 22, 3) := by decide +kernel
theorem dX11_isCell_15 : decode cX11_isCell 15 = .ok (.iload_n 2, 1) := by decide +kernel
theorem dX11_isCell_16 : decode cX11_isCell 16 = .ok (.ifCond .lt 18, 3) := by decide +kernel
theorem dX11_isCell_19 : decode cX11_isCell 19 = .ok (.iload_n 2, 1) := by decide +kernel
theorem dX11_isCell_20 : decode cX11_isCell 20 = .ok (.aload_n 0, 1) := by decide +kernel
theorem dX11_isCell_21 : decode cX11_isCell 21 = .ok (.getfield 18, 3) := by decide +kernel
theorem dX11_isCell_24 : decode cX11_isCell 24 = .ok (.getfield 360, 3) := by decide +kernel
theorem dX11_isCell_27 : decode cX11_isCell 27 = .ok (.if_icmp .ge 7, 3) := by decide +kernel
theorem dX11_isCell_30 : decode cX11_isCell 30 = .ok (.iconst 1, 1) := by decide +kernel
theorem dX11_isCell_31 : decode cX11_isCell 31 = .ok (.goto 4, 3) := by decide +kernel
theorem dX11_isCell_34 : decode cX11_isCell 34 = .ok (.iconst 0, 1) := by decide +kernel
theorem dX11_isCell_35 : decode cX11_isCell 35 = .ok (.ireturn, 1) := by decide +kernel
theorem dJ6_bitCount_0f7a4_0 : decode cJ6_bitCount_0f7a4 0 = .ok (.iload_n 0, 1) := by decide +kernel
theorem dJ6_bitCount_0f7a4_1 : decode cJ6_bitCount_0f7a4 1 = .ok (.iload_n 0, 1) := by decide +kernel
theorem dJ6_bitCount_0f7a4_2 : decode cJ6_bitCount_0f7a4 2 = .ok (.iconst 1, 1) := by decide +kernel
theorem dJ6_bitCount_0f7a4_3 : decode cJ6_bitCount_0f7a4 3 = .ok (.iushr, 1) := by decide +kernel
theorem dJ6_bitCount_0f7a4_4 : decode cJ6_bitCount_0f7a4 4 = .ok (.ldc_w 265, 3) := by decide +kernel
theorem dJ6_bitCount_0f7a4_7 : decode cJ6_bitCount_0f7a4 7 = .ok (.iand, 1) := by decide +kernel
theorem dJ6_bitCount_0f7a4_8 : decode cJ6_bitCount_0f7a4 8 = .ok (.isub, 1) := by decide +kernel
theorem dJ6_bitCount_0f7a4_9 : decode cJ6_bitCount_0f7a4 9 = .ok (.istore_n 0, 1) := by decide +kernel
theorem dJ6_bitCount_0f7a4_10 : decode cJ6_bitCount_0f7a4 10 = .ok (.iload_n 0, 1) := by decide +kernel
theorem dJ6_bitCount_0f7a4_11 : decode cJ6_bitCount_0f7a4 11 = .ok (.ldc_w 266, 3) := by decide +kernel
theorem dJ6_bitCount_0f7a4_14 : decode cJ6_bitCount_0f7a4 14 = .ok (.iand, 1) := by decide +kernel
theorem dJ6_bitCount_0f7a4_15 : decode cJ6_bitCount_0f7a4 15 = .ok (.iload_n 0, 1) := by decide +kernel
theorem dJ6_bitCount_0f7a4_16 : decode cJ6_bitCount_0f7a4 16 = .ok (.iconst 2, 1) := by decide +kernel
theorem dJ6_bitCount_0f7a4_17 : decode cJ6_bitCount_0f7a4 17 = .ok (.iushr, 1) := by decide +kernel
theorem dJ6_bitCount_0f7a4_18 : decode cJ6_bitCount_0f7a4 18 = .ok (.ldc_w 266, 3) := by decide +kernel
theorem dJ6_bitCount_0f7a4_21 : decode cJ6_bitCount_0f7a4 21 = .ok (.iand, 1) := by decide +kernel
theorem dJ6_bitCount_0f7a4_22 : decode cJ6_bitCount_0f7a4 22 = .ok (.iadd, 1) := by decide +kernel
theorem dJ6_bitCount_0f7a4_23 : decode cJ6_bitCount_0f7a4 23 = .ok (.istore_n 0, 1) := by decide +kernel
theorem dJ6_bitCount_0f7a4_24 : decode cJ6_bitCount_0f7a4 24 = .ok (.iload_n 0, 1) := by decide +kernel
theorem dJ6_bitCount_0f7a4_25 : decode cJ6_bitCount_0f7a4 25 = .ok (.iload_n 0, 1) := by decide +kernel
theorem dJ6_bitCount_0f7a4_26 : decode cJ6_bitCount_0f7a4 26 = .ok (.iconst 4, 1) := by decide +kernel
theorem dJ6_bitCount_0f7a4_27 : decode cJ6_bitCount_0f7a4 27 = .ok (.iushr, 1) := by decide +kernel
theorem dJ6_bitCount_0f7a4_28 : decode cJ6_bitCount_0f7a4 28 = .ok (.iadd, 1) := by decide +kernel
theorem dJ6_bitCount_0f7a4_29 : decode cJ6_bitCount_0f7a4 29 = .ok (.ldc_w 267, 3) := by decide +kernel
theorem dJ6_bitCount_0f7a4_32 : decode cJ6_bitCount_0f7a4 32 = .ok (.iand, 1) := by decide +kernel
theorem dJ6_bitCount_0f7a4_33 : decode cJ6_bitCount_0f7a4 33 = .ok (.istore_n 0, 1) := by decide +kernel
theorem dJ6_bitCount_0f7a4_34 : decode cJ6_bitCount_0f7a4 34 = .ok (.iload_n 0, 1) := by decide +kernel
theorem dJ6_bitCount_0f7a4_35 : decode cJ6_bitCount_0f7a4 35 = .ok (.iload_n 0, 1) := by decide +kernel
theorem dJ6_bitCount_0f7a4_36 : decode cJ6_bitCount_0f7a4 36 = .ok (.bipush 8, 2) := by decide +kernel
theorem dJ6_bitCount_0f7a4_38 : decode cJ6_bitCount_0f7a4 38 = .ok (.iushr, 1) := by decide +kernel
theorem dJ6_bitCount_0f7a4_39 : decode cJ6_bitCount_0f7a4 39 = .ok (.iadd, 1) := by decide +kernel
theorem dJ6_bitCount_0f7a4_40 : decode cJ6_bitCount_0f7a4 40 = .ok (.istore_n 0, 1) := by decide +kernel
theorem dJ6_bitCount_0f7a4_41 : decode cJ6_bitCount_0f7a4 41 = .ok (.iload_n 0, 1) := by decide +kernel
theorem dJ6_bitCount_0f7a4_42 : decode cJ6_bitCount_0f7a4 42 = .ok (.iload_n 0, 1) := by decide +kernel
theorem dJ6_bitCount_0f7a4_43 : decode cJ6_bitCount_0f7a4 43 = .ok (.bipush 16, 2) := by decide +kernel
theorem dJ6_bitCount_0f7a4_45 : decode cJ6_bitCount_0f7a4 45 = .ok (.iushr, 1) := by decide +kernel
theorem dJ6_bitCount_0f7a4_46 : decode cJ6_bitCount_0f7a4 46 = .ok (.iadd, 1) := by decide +kernel
theorem dJ6_bitCount_0f7a4_47 : decode cJ6_bitCount_0f7a4 47 = .ok (.istore_n 0, 1) := by decide +kernel
theorem dJ6_bitCount_0f7a4_48 : decode cJ6_bitCount_0f7a4 48 = .ok (.iload_n 0, 1) := by decide +kernel
theorem dJ6_bitCount_0f7a4_49 : decode cJ6_bitCount_0f7a4 49 = .ok (.bipush 63, 2) := by decide +kernel
theorem dJ6_bitCount_0f7a4_51 : decode cJ6_bitCount_0f7a4 51 = .ok (.iand, 1) := by decide +kernel
theorem dJ6_bitCount_0f7a4_52 : decode cJ6_bitCount_0f7a4 52 = .ok (.ireturn, 1) := by decide +kernel
theorem dJ7_fill_53178_0 : decode cJ7_fill_53178 0 = .ok (.iconst 0, 1) := by decide +kernel
theorem dJ7_fill_53178_1 : decode cJ7_fill_53178 1 = .ok (.istore_n 2, 1) := by decide +kernel
theorem dJ7_fill_53178_2 : decode cJ7_fill_53178 2 = .ok (.aload_n 0, 1) := by decide +kernel
theorem dJ7_fill_53178_3 : decode cJ7_fill_53178 3 = .ok (.arraylength, 1) := by decide +kernel
theorem dJ7_fill_53178_4 : decode cJ7_fill_53178 4 = .ok (.istore_n 3, 1) := by decide +kernel
theorem dJ7_fill_53178_5 : decode cJ7_fill_53178 5 = .ok (.iload_n 2, 1) := by decide +kernel
theorem dJ7_fill_53178_6 : decode cJ7_fill_53178 6 = .ok (.iload_n 3, 1) := by decide +kernel
theorem dJ7_fill_53178_7 : decode cJ7_fill_53178 7 = .ok (.if_icmp .ge 13, 3) := by decide +kernel
theorem dJ7_fill_53178_10 : decode cJ7_fill_53178 10 = .ok (.aload_n 0, 1) := by decide +kernel
theorem dJ7_fill_53178_11 : decode cJ7_fill_53178 11 = .ok (.iload_n 2, 1) := by decide +kernel
theorem dJ7_fill_53178_12 : decode cJ7_fill_53178 12 = .ok (.iload_n 1, 1) := by decide +kernel
theorem dJ7_fill_53178_13 : decode cJ7_fill_53178 13 = .ok (.iastore, 1) := by decide +kernel
theorem dJ7_fill_53178_14 : decode cJ7_fill_53178 14 = .ok (.iinc 2 1, 3) := by decide +kernel
theorem dJ7_fill_53178_17 : decode cJ7_fill_53178 17 = .ok (.goto (-12), 3) := by decide +kernel
theorem dJ7_fill_53178_20 : decode cJ7_fill_53178 20 = .ok (.return_, 1) := by decide +kernel
