theorem dX5_init_0 : decode cX5_init 0 = .ok (.aload_n 0, 1) := by decide +kernel
theorem dX5_init_1 : decode cX5_init 1 = .ok (.invokespecial 3, 3) := by decide +kernel
theorem dX5_init_4 : decode cX5_init 4 = .ok (.aload_n 0, 1) := by decide +kernel
theorem dX5_init_5 : decode cX5_init 5 = .ok (.new 9, 3) := by decide +kernel
theorem dX5_init_8 : decode cX5_init 8 = .ok (.dup, 1) := by decide +kernel
theorem dX5_init_9 : decode cX5_init 9 = .ok (.aload_n 1, 1) := by decide +kernel
theorem dX5_init_10 : decode cX5_init 10 = .ok (.invokespecial 11, 3) := by decide +kernel
theorem dX5_init_13 : decode cX5_init 13 = .ok (.putfield 14, 3) := by decide +kernel
theorem dX5_init_16 : decode cX5_init 16 = .ok (.aload_n 0, 1) := by decide +kernel
theorem dX5_init_17 : decode cX5_init 17 = .ok (.new 20, 3) := by decide +kernel
theorem dX5_init_20 : decode cX5_init 20 = .ok (.dup, 1) := by decide +kernel
theorem dX5_init_21 : decode cX5_init 21 = .ok (.aload_n 0, 1) := by decide +kernel
theorem dX5_init_22 : decode cX5_init 22 = .ok (.getfield 14, 3) := by decide +kernel
theorem dX5_init_25 : decode cX5_init 25 = .ok (.invokespecial 22, 3) := by decide +kernel
theorem dX5_init_28 : decode cX5_init 28 = .ok (.putfield 25, 3) := by decide +kernel
theorem dX5_init_31 : decode cX5_init 31 = .ok (.aload_n 0, 1) := by decide +kernel
theorem dX5_init_32 : decode cX5_init 32 = .ok (.new 29, 3) := by decide +kernel
theorem dX5_init_35 : decode cX5_init 35 = .ok (.dup, 1) := by decide +kernel
theorem dX5_init_36 : decode cX5_init 36 = .ok (.invokespecial 31, 3) := by decide +kernel
theorem dX5_init_39 : decode cX5_init 39 = .ok (.putfield 32, 3) := by decide +kernel
theorem dX5_init_42 : decode cX5_init 42 = .ok (.return_, 1) := by decide +kernel
theorem dX5_reads_0 : decode cX5_reads 0 = .ok (.aload_n 0, 1) := by decide +kernel
theorem dX5_reads_1 : decode cX5_reads 1 = .ok (.getfield 32, 3) := by decide +kernel
theorem dX5_reads_4 : decode cX5_reads 4 = .ok (.invokevirtual 36, 3) := by decide +kernel
theorem dX5_reads_7 : decode cX5_reads 7 = .ok (.aload_n 0, 1) := by decide +kernel
theorem dX5_reads_8 : decode cX5_reads 8 = .ok (.iconst 0, 1) := by decide +kernel
theorem dX5_reads_9 : decode cX5_reads 9 = .ok (.putfield 39, 3) := by decide +kernel
theorem dX5_reads_12 : decode cX5_reads 12 = .ok (.aload_n 0, 1) := by decide +kernel
theorem dX5_reads_13 : decode cX5_reads 13 = .ok (.iconst 0, 1) := by decide +kernel
theorem dX5_reads_14 : decode cX5_reads 14 = .ok (.putfield 43, 3) := by decide +kernel
theorem dX5_reads_17 : decode cX5_reads 17 = .ok (.aload_n 0, 1) := by decide +kernel
theorem dX5_reads_18 : decode cX5_reads 18 = .ok (.getfield 14, 3) := by decide +kernel
theorem dX5_reads_21 : decode cX5_reads 21 = .ok (.iload_n 1, 1) := by decide +kernel
theorem dX5_reads_22 : decode cX5_reads 22 = .ok (.invokevirtual 46, 3) := by decide +kernel
theorem dX5_reads_25 : decode cX5_reads 25 = .ok (.iconst 0, 1) := by decide +kernel
theorem dX5_reads_26 : decode cX5_reads 26 = .ok (.istore_n 2, 1) := by decide +kernel
theorem dX5_reads_27 : decode cX5_reads 27 = .ok (.iload_n 2, 1) := by decide +kernel
theorem dX5_reads_28 : decode cX5_reads 28 = .ok (.sipush 700, 3) := by decide +kernel
theorem dX5_reads_31 : decode cX5_reads 31 = .ok (.if_icmp .gt 50, 3) := by decide +kernel
theorem dX5_reads_34 : decode cX5_reads 34 = .ok (.aload_n 0, 1) := by decide +kernel
theorem dX5_reads_35 : decode cX5_reads 35 = .ok (.getfield 14, 3) := by decide +kernel
theorem dX5_reads_38 : decode cX5_reads 38 = .ok (.getfield 50, 3) := by decide +kernel
theorem dX5_reads_41 : decode cX5_reads 41 = .ok (.bipush 37, 2) := by decide +kernel
theorem dX5_reads_43 : decode cX5_reads 43 = .ok (.if_icmp .eq 38, 3) := by decide +kernel
theorem dX5_reads_46 : decode cX5_reads 46 = .ok (.aload_n 0, 1) := by decide +kernel
theorem dX5_reads_47 : decode cX5_reads 47 = .ok (.invokevirtual 54, 3) := by decide +kernel
theorem dX5_reads_50 : decode cX5_reads 50 = .ok (.ifCond .eq 10, 3) := by decide +kernel
theorem dX5_reads_53 : decode cX5_reads 53 = .ok (.aload_n 0, 1) := by decide +kernel
theorem dX5_reads_54 : decode cX5_reads 54 = .ok (.invokevirtual 58, 3) := by decide +kernel
theorem dX5_reads_57 : decode cX5_reads 57 = .ok (.ifCond .ne 5, 3) := by decide +kernel
theorem dX5_reads_60 : decode cX5_reads 60 = .ok (.iconst 0, 1) := by decide +kernel
theorem dX5_reads_61 : decode cX5_reads 61 = .ok (.ireturn, 1) := by decide +kernel
theorem dX5_reads_62 : decode cX5_reads 62 = .ok (.aload_n 0, 1) := by decide +kernel
theorem dX5_reads_63 : decode cX5_reads 63 = .ok (.getfield 32, 3) := by decide +kernel
theorem dX5_reads_66 : decode cX5_reads 66 = .ok (.dup, 1) := by decide +kernel
theorem dX5_reads_67 : decode cX5_reads 67 = .ok (.getfield 61, 3) := by decide +kernel
theorem dX5_reads_70 : decode cX5_reads 70 = .ok (.iconst 1, 1) := by decide +kernel
theorem dX5_reads_71 : decode cX5_reads 71 = .ok (.iadd, 1) := by decide +kernel
theorem dX5_reads_72 : decode cX5_reads 72 = .ok (.putfield 61, 3) := by decide +kernel
theorem dX5_reads_75 : decode cX5_reads 75 = .ok (.iinc 2 1, 3) := by decide +kernel
theorem dX5_reads_78 : decode cX5_reads 78 = .ok (.goto (-51), 3) := by decide +kernel
theorem dX5_reads_81 : decode cX5_reads 81 = .ok (.iconst 1, 1) := by decide +kernel
theorem dX5_reads_82 : decode cX5_reads 82 = .ok (.ireturn, 1) := by decide +kernel
theorem dX5_line_0 : decode cX5_line 0 = .ok (.aload_n 0, 1) := by decide +kernel
theorem dX5_line_1 : decode cX5_line 1 = .ok (.getfield 14, 3) := by decide +kernel
theorem dX5_line_4 : decode cX5_line 4 = .ok (.getfield 50, 3) := by decide +kernel
theorem dX5_line_7 : decode cX5_line 7 = .ok (.tableswitch 85 0 7 #[45, 50, 55, 60, 65, 70, 75, 80], 45) := by decide +kernel
theorem dX5_line_52 : decode cX5_line 52 = .ok (.aload_n 0, 1) := by decide +kernel
theorem dX5_line_53 : decode cX5_line 53 = .ok (.invokevirtual 64, 3) := by decide +kernel
theorem dX5_line_56 : decode cX5_line 56 = .ok (.ireturn, 1) := by decide +kernel
theorem dX5_line_57 : decode cX5_line 57 = .ok (.aload_n 0, 1) := by decide +kernel
theorem dX5_line_58 : decode cX5_line 58 = .ok (.invokevirtual 67, 3) := by decide +kernel
theorem dX5_line_61 : decode cX5_line 61 = .ok (.ireturn, 1) := by decide +kernel
theorem dX5_line_62 : decode cX5_line 62 = .ok (.aload_n 0, 1) := by decide +kernel
theorem dX5_line_63 : decode cX5_line 63 = .ok (.invokevirtual 70, 3) := by decide +kernel
theorem dX5_line_66 : decode cX5_line 66 = .ok (.ireturn, 1) := by decide +kernel
theorem dX5_line_67 : decode cX5_line 67 = .ok (.aload_n 0, 1) := by decide +kernel
theorem dX5_line_68 : decode cX5_line 68 = .ok (.invokevirtual 73, 3) := by decide +kernel
theorem dX5_line_71 : decode cX5_line 71 = .ok (.ireturn, 1) := by decide +kernel
theorem dX5_line_72 : decode cX5_line 72 = .ok (.aload_n 0, 1) := by decide +kernel
theorem dX5_line_73 : decode cX5_line 73 = .ok (.invokevirtual 76, 3) := by decide +kernel
theorem dX5_line_76 : decode cX5_line 76 = .ok (.ireturn, 1) := by decide +kernel
theorem dX5_line_77 : decode cX5_line 77 = .ok (.aload_n 0, 1) := by decide +kernel
theorem dX5_line_78 : decode cX5_line 78 = .ok (.invokevirtual 79, 3) := by decide +kernel
theorem dX5_line_81 : decode cX5_line 81 = .ok (.ireturn, 1) := by decide +kernel
theorem dX5_line_82 : decode cX5_line 82 = .ok (.aload_n 0, 1) := by decide +kernel
theorem dX5_line_83 : decode cX5_line 83 = .ok (.invokevirtual 82, 3) := by decide +kernel
theorem dX5_line_86 : decode cX5_line 86 = .ok (.ireturn, 1) := by decide +kernel
theorem dX5_line_87 : decode cX5_line 87 = .ok (.aload_n 0, 1) := by decide +kernel
theorem dX5_line_88 : decode cX5_line 88 = .ok (.invokevirtual 85, 3) := by decide +kernel
theorem dX5_line_91 : decode cX5_line 91 = .ok (.ireturn, 1) := by decide +kernel
theorem dX5_line_92 : decode cX5_line 92 = .ok (.aload_n 0, 1) := by decide +kernel
theorem dX5_line_93 : decode cX5_line 93 = .ok (.getfield 14, 3) := by decide +kernel
theorem dX5_line_96 : decode cX5_line 96 = .ok (.iconst 1, 1) := by decide +kernel
theorem dX5_line_97 : decode cX5_line 97 = .ok (.invokevirtual 88, 3) := by decide +kernel
theorem dX5_line_100 : decode cX5_line 100 = .ok (.ireturn, 1) := by decide +kernel
theorem dX5_ends_0 : decode cX5_ends 0 = .ok (.aload_n 0, 1) := by decide +kernel
theorem dX5_ends_1 : decode cX5_ends 1 = .ok (.getfield 14, 3) := by decide +kernel
theorem dX5_ends_4 : decode cX5_ends 4 = .ok (.getfield 50, 3) := by decide +kernel
theorem dX5_ends_7 : decode cX5_ends 7 = .ok (.bipush 23, 2) := by decide +kernel
theorem dX5_ends_9 : decode cX5_ends 9 = .ok (.if_icmp .eq 12, 3) := by decide +kernel
theorem dX5_ends_12 : decode cX5_ends 12 = .ok (.aload_n 0, 1) := by decide +kernel
theorem dX5_ends_13 : decode cX5_ends 13 = .ok (.getfield 14, 3) := by decide +kernel
theorem dX5_ends_16 : decode cX5_ends 16 = .ok (.iconst 1, 1) := by decide +kernel
theorem dX5_ends_17 : decode cX5_ends 17 = .ok (.invokevirtual 88, 3) := by decide +kernel
theorem dX5_ends_20 : decode cX5_ends 20 = .ok (.ireturn, 1) := by decide +kernel
theorem dX5_ends_21 : decode cX5_ends 21 = .ok (.aload_n 0, 1) := by decide +kernel
theorem dX5_ends_22 : decode cX5_ends 22 = .ok (.getfield 14, 3) := by decide +kernel
theorem dX5_ends_25 : decode cX5_ends 25 = .ok (.invokevirtual 92, 3) := by decide +kernel
theorem dX5_ends_28 : decode cX5_ends 28 = .ok (.iconst 1, 1) := by decide +kernel
theorem dX5_ends_29 : decode cX5_ends 29 = .ok (.ireturn, 1) := by decide +kernel
theorem dX5_number_0 : decode cX5_number 0 = .ok (.aload_n 0, 1) := by decide +kernel
theorem dX5_number_1 : decode cX5_number 1 = .ok (.getfield 14, 3) := by decide +kernel
theorem dX5_number_4 : decode cX5_number 4 = .ok (.getfield 50, 3) := by decide +kernel
theorem dX5_number_7 : decode cX5_number 7 = .ok (.bipush 22, 2) := by decide +kernel
theorem dX5_number_9 : decode cX5_number 9 = .ok (.if_icmp .eq 14, 3) := by decide +kernel
theorem dX5_number_12 : decode cX5_number 12 = .ok (.aload_n 0, 1) := by decide +kernel
theorem dX5_number_13 : decode cX5_number 13 = .ok (.getfield 14, 3) := by decide +kernel
theorem dX5_number_16 : decode cX5_number 16 = .ok (.iconst 1, 1) := by decide +kernel
theorem dX5_number_17 : decode cX5_number 17 = .ok (.invokevirtual 88, 3) := by decide +kernel
theorem dX5_number_20 : decode cX5_number 20 = .ok (.pop, 1) := by decide +kernel
theorem dX5_number_21 : decode cX5_number 21 = .ok (.iconst (-1), 1) := by decide +kernel
theorem dX5_number_22 : decode cX5_number 22 = .ok (.ireturn, 1) := by decide +kernel
theorem dX5_number_23 : decode cX5_number 23 = .ok (.aload_n 0, 1) := by decide +kernel
theorem dX5_number_24 : decode cX5_number 24 = .ok (.getfield 14, 3) := by decide +kernel
theorem dX5_number_27 : decode cX5_number 27 = .ok (.getfield 95, 3) := by decide +kernel
theorem dX5_number_30 : decode cX5_number 30 = .ok (.istore_n 3, 1) := by decide +kernel
theorem dX5_number_31 : decode cX5_number 31 = .ok (.iload_n 3, 1) := by decide +kernel
theorem dX5_number_32 : decode cX5_number 32 = .ok (.iload_n 1, 1) := by decide +kernel
theorem dX5_number_33 : decode cX5_number 33 = .ok (.if_icmp .lt 8, 3) := by decide +kernel
theorem dX5_number_36 : decode cX5_number 36 = .ok (.iload_n 3, 1) := by decide +kernel
theorem dX5_number_37 : decode cX5_number 37 = .ok (.iload_n 2, 1) := by decide +kernel
theorem dX5_number_38 : decode cX5_number 38 = .ok (.if_icmp .le 14, 3) := by decide +kernel
theorem dX5_number_41 : decode cX5_number 41 = .ok (.aload_n 0, 1) := by decide +kernel
theorem dX5_number_42 : decode cX5_number 42 = .ok (.getfield 14, 3) := by decide +kernel
theorem dX5_number_45 : decode cX5_number 45 = .ok (.iconst 2, 1) := by decide +kernel
theorem dX5_number_46 : decode cX5_number 46 = .ok (.invokevirtual 88, 3) := by decide +kernel
theorem dX5_number_49 : decode cX5_number 49 = .ok (.pop, 1) := by decide +kernel
theorem dX5_number_50 : decode cX5_number 50 = .ok (.iconst (-1), 1) := by decide +kernel
theorem dX5_number_51 : decode cX5_number 51 = .ok (.ireturn, 1) := by decide +kernel
theorem dX5_number_52 : decode cX5_number 52 = .ok (.aload_n 0, 1) := by decide +kernel
theorem dX5_number_53 : decode cX5_number 53 = .ok (.getfield 14, 3) := by decide +kernel
theorem dX5_number_56 : decode cX5_number 56 = .ok (.invokevirtual 92, 3) := by decide +kernel
theorem dX5_number_59 : decode cX5_number 59 = .ok (.iload_n 3, 1) := by decide +kernel
theorem dX5_number_60 : decode cX5_number 60 = .ok (.ireturn, 1) := by decide +kernel
theorem dX5_newName_0 : decode cX5_newName 0 = .ok (.aload_n 0, 1) := by decide +kernel
theorem dX5_newName_1 : decode cX5_newName 1 = .ok (.getfield 14, 3) := by decide +kernel
theorem dX5_newName_4 : decode cX5_newName 4 = .ok (.getfield 50, 3) := by decide +kernel
theorem dX5_newName_7 : decode cX5_newName 7 = .ok (.bipush 21, 2) := by decide +kernel
theorem dX5_newName_9 : decode cX5_newName 9 = .ok (.if_icmp .eq 14, 3) := by decide +kernel
theorem dX5_newName_12 : decode cX5_newName 12 = .ok (.aload_n 0, 1) := by decide +kernel
theorem dX5_newName_13 : decode cX5_newName 13 = .ok (.getfield 14, 3) := by decide +kernel
theorem dX5_newName_16 : decode cX5_newName 16 = .ok (.iconst 1, 1) := by decide +kernel
theorem dX5_newName_17 : decode cX5_newName 17 = .ok (.invokevirtual 88, 3) := by decide +kernel
theorem dX5_newName_20 : decode cX5_newName 20 = .ok (.pop, 1) := by decide +kernel
theorem dX5_newName_21 : decode cX5_newName 21 = .ok (.iconst 0, 1) := by decide +kernel
theorem dX5_newName_22 : decode cX5_newName 22 = .ok (.ireturn, 1) := by decide +kernel
theorem dX5_newName_23 : decode cX5_newName 23 = .ok (.aload_n 0, 1) := by decide +kernel
theorem dX5_newName_24 : decode cX5_newName 24 = .ok (.getfield 14, 3) := by decide +kernel
theorem dX5_newName_27 : decode cX5_newName 27 = .ok (.getfield 95, 3) := by decide +kernel
theorem dX5_newName_30 : decode cX5_newName 30 = .ok (.istore_n 2, 1) := by decide +kernel
theorem dX5_newName_31 : decode cX5_newName 31 = .ok (.iload_n 1, 1) := by decide +kernel
theorem dX5_newName_32 : decode cX5_newName 32 = .ok (.ifCond .eq 14, 3) := by decide +kernel
theorem dX5_newName_35 : decode cX5_newName 35 = .ok (.aload_n 0, 1) := by decide +kernel
theorem dX5_newName_36 : decode cX5_newName 36 = .ok (.getfield 32, 3) := by decide +kernel
theorem dX5_newName_39 : decode cX5_newName 39 = .ok (.iload_n 2, 1) := by decide +kernel
theorem dX5_newName_40 : decode cX5_newName 40 = .ok (.invokevirtual 98, 3) := by decide +kernel
theorem dX5_newName_43 : decode cX5_newName 43 = .ok (.goto 11, 3) := by decide +kernel
theorem dX5_newName_46 : decode cX5_newName 46 = .ok (.aload_n 0, 1) := by decide +kernel
theorem dX5_newName_47 : decode cX5_newName 47 = .ok (.getfield 32, 3) := by decide +kernel
theorem dX5_newName_50 : decode cX5_newName 50 = .ok (.iload_n 2, 1) := by decide +kernel
theorem dX5_newName_51 : decode cX5_newName 51 = .ok (.invokevirtual 102, 3) := by decide +kernel
theorem dX5_newName_54 : decode cX5_newName 54 = .ok (.iconst (-1), 1) := by decide +kernel
theorem dX5_newName_55 : decode cX5_newName 55 = .ok (.if_icmp .eq 14, 3) := by decide +kernel
theorem dX5_newName_58 : decode cX5_newName 58 = .ok (.aload_n 0, 1) := by decide +kernel
theorem dX5_newName_59 : decode cX5_newName 59 = .ok (.getfield 14, 3) := by decide +kernel
theorem dX5_newName_62 : decode cX5_newName 62 = .ok (.iconst 3, 1) := by decide +kernel
theorem dX5_newName_63 : decode cX5_newName 63 = .ok (.invokevirtual 88, 3) := by decide +kernel
theorem dX5_newName_66 : decode cX5_newName 66 = .ok (.pop, 1) := by decide +kernel
theorem dX5_newName_67 : decode cX5_newName 67 = .ok (.iconst 0, 1) := by decide +kernel
theorem dX5_newName_68 : decode cX5_newName 68 = .ok (.ireturn, 1) := by decide +kernel
theorem dX5_newName_69 : decode cX5_newName 69 = .ok (.aload_n 0, 1) := by decide +kernel
theorem dX5_newName_70 : decode cX5_newName 70 = .ok (.getfield 14, 3) := by decide +kernel
theorem dX5_newName_73 : decode cX5_newName 73 = .ok (.invokevirtual 92, 3) := by decide +kernel
theorem dX5_newName_76 : decode cX5_newName 76 = .ok (.iload_n 2, 1) := by decide +kernel
theorem dX5_newName_77 : decode cX5_newName 77 = .ok (.ireturn, 1) := by decide +kernel
theorem dX5_toldName_0 : decode cX5_toldName 0 = .ok (.aload_n 0, 1) := by decide +kernel
theorem dX5_toldName_1 : decode cX5_toldName 1 = .ok (.getfield 14, 3) := by decide +kernel
theorem dX5_toldName_4 : decode cX5_toldName 4 = .ok (.getfield 50, 3) := by decide +kernel
theorem dX5_toldName_7 : decode cX5_toldName 7 = .ok (.bipush 21, 2) := by decide +kernel
theorem dX5_toldName_9 : decode cX5_toldName 9 = .ok (.if_icmp .eq 14, 3) := by decide +kernel
theorem dX5_toldName_12 : decode cX5_toldName 12 = .ok (.aload_n 0, 1) := by decide +kernel
theorem dX5_toldName_13 : decode cX5_toldName 13 = .ok (.getfield 14, 3) := by decide +kernel
theorem dX5_toldName_16 : decode cX5_toldName 16 = .ok (.iconst 1, 1) := by decide +kernel
theorem dX5_toldName_17 : decode cX5_toldName 17 = .ok (.invokevirtual 88, 3) := by decide +kernel
theorem dX5_toldName_20 : decode cX5_toldName 20 = .ok (.pop, 1) := by decide +kernel
theorem dX5_toldName_21 : decode cX5_toldName 21 = .ok (.iconst (-1), 1) := by decide +kernel
theorem dX5_toldName_22 : decode cX5_toldName 22 = .ok (.ireturn, 1) := by decide +kernel
theorem dX5_toldName_23 : decode cX5_toldName 23 = .ok (.iload_n 1, 1) := by decide +kernel
theorem dX5_toldName_24 : decode cX5_toldName 24 = .ok (.ifCond .eq 20, 3) := by decide +kernel
theorem dX5_toldName_27 : decode cX5_toldName 27 = .ok (.aload_n 0, 1) := by decide +kernel
theorem dX5_toldName_28 : decode cX5_toldName 28 = .ok (.getfield 32, 3) := by decide +kernel
theorem dX5_toldName_31 : decode cX5_toldName 31 = .ok (.aload_n 0, 1) := by decide +kernel
theorem dX5_toldName_32 : decode cX5_toldName 32 = .ok (.getfield 14, 3) := by decide +kernel
theorem dX5_toldName_35 : decode cX5_toldName 35 = .ok (.getfield 95, 3) := by decide +kernel
theorem dX5_toldName_38 : decode cX5_toldName 38 = .ok (.invokevirtual 98, 3) := by decide +kernel
theorem dX5_toldName_41 : decode cX5_toldName 41 = .ok (.goto 17, 3) := by decide +kernel
theorem dX5_toldName_44 : decode cX5_toldName 44 = .ok (.aload_n 0, 1) := by decide +kernel
theorem dX5_toldName_45 : decode cX5_toldName 45 = .ok (.getfield 32, 3) := by decide +kernel
theorem dX5_toldName_48 : decode cX5_toldName 48 = .ok (.aload_n 0, 1) := by decide +kernel
theorem dX5_toldName_49 : decode cX5_toldName 49 = .ok (.getfield 14, 3) := by decide +kernel
theorem dX5_toldName_52 : decode cX5_toldName 52 = .ok (.getfield 95, 3) := by decide +kernel
theorem dX5_toldName_55 : decode cX5_toldName 55 = .ok (.invokevirtual 102, 3) := by decide +kernel
theorem dX5_toldName_58 : decode cX5_toldName 58 = .ok (.istore_n 2, 1) := by decide +kernel
theorem dX5_toldName_59 : decode cX5_toldName 59 = .ok (.iload_n 2, 1) := by decide +kernel
theorem dX5_toldName_60 : decode cX5_toldName 60 = .ok (.iconst (-1), 1) := by decide +kernel
theorem dX5_toldName_61 : decode cX5_toldName 61 = .ok (.if_icmp .ne 14, 3) := by decide +kernel
theorem dX5_toldName_64 : decode cX5_toldName 64 = .ok (.aload_n 0, 1) := by decide +kernel
theorem dX5_toldName_65 : decode cX5_toldName 65 = .ok (.getfield 14, 3) := by decide +kernel
theorem dX5_toldName_68 : decode cX5_toldName 68 = .ok (.iconst 4, 1) := by decide +kernel
theorem dX5_toldName_69 : decode cX5_toldName 69 = .ok (.invokevirtual 88, 3) := by decide +kernel
theorem dX5_toldName_72 : decode cX5_toldName 72 = .ok (.pop, 1) := by decide +kernel
theorem dX5_toldName_73 : decode cX5_toldName 73 = .ok (.iconst (-1), 1) := by decide +kernel
theorem dX5_toldName_74 : decode cX5_toldName 74 = .ok (.ireturn, 1) := by decide +kernel
theorem dX5_toldName_75 : decode cX5_toldName 75 = .ok (.aload_n 0, 1) := by decide +kernel
theorem dX5_toldName_76 : decode cX5_toldName 76 = .ok (.getfield 14, 3) := by decide +kernel
theorem dX5_toldName_79 : decode cX5_toldName 79 = .ok (.invokevirtual 92, 3) := by decide +kernel
theorem dX5_toldName_82 : decode cX5_toldName 82 = .ok (.iload_n 2, 1) := by decide +kernel
theorem dX5_toldName_83 : decode cX5_toldName 83 = .ok (.ireturn, 1) := by decide +kernel
theorem dX5_landLine_0 : decode cX5_landLine 0 = .ok (.aload_n 0, 1) := by decide +kernel
theorem dX5_landLine_1 : decode cX5_landLine 1 = .ok (.getfield 32, 3) := by decide +kernel
theorem dX5_landLine_4 : decode cX5_landLine 4 = .ok (.getfield 61, 3) := by decide +kernel
theorem dX5_landLine_7 : decode cX5_landLine 7 = .ok (.ifCond .le 12, 3) := by decide +kernel
theorem dX5_landLine_10 : decode cX5_landLine 10 = .ok (.aload_n 0, 1) := by decide +kernel
theorem dX5_landLine_11 : decode cX5_landLine 11 = .ok (.getfield 14, 3) := by decide +kernel
theorem dX5_landLine_14 : decode cX5_landLine 14 = .ok (.iconst 1, 1) := by decide +kernel
theorem dX5_landLine_15 : decode cX5_landLine 15 = .ok (.invokevirtual 88, 3) := by decide +kernel
theorem dX5_landLine_18 : decode cX5_landLine 18 = .ok (.ireturn, 1) := by decide +kernel
theorem dX5_landLine_19 : decode cX5_landLine 19 = .ok (.aload_n 0, 1) := by decide +kernel
theorem dX5_landLine_20 : decode cX5_landLine 20 = .ok (.getfield 14, 3) := by decide +kernel
theorem dX5_landLine_23 : decode cX5_landLine 23 = .ok (.invokevirtual 92, 3) := by decide +kernel
theorem dX5_landLine_26 : decode cX5_landLine 26 = .ok (.aload_n 0, 1) := by decide +kernel
theorem dX5_landLine_27 : decode cX5_landLine 27 = .ok (.iconst 5, 1) := by decide +kernel
theorem dX5_landLine_28 : decode cX5_landLine 28 = .ok (.bipush 40, 2) := by decide +kernel
theorem dX5_landLine_30 : decode cX5_landLine 30 = .ok (.invokevirtual 105, 3) := by decide +kernel
theorem dX5_landLine_33 : decode cX5_landLine 33 = .ok (.istore_n 1, 1) := by decide +kernel
theorem dX5_landLine_34 : decode cX5_landLine 34 = .ok (.iload_n 1, 1) := by decide +kernel
theorem dX5_landLine_35 : decode cX5_landLine 35 = .ok (.iconst (-1), 1) := by decide +kernel
theorem dX5_landLine_36 : decode cX5_landLine 36 = .ok (.if_icmp .ne 5, 3) := by decide +kernel
theorem dX5_landLine_39 : decode cX5_landLine 39 = .ok (.iconst 0, 1) := by decide +kernel
theorem dX5_landLine_40 : decode cX5_landLine 40 = .ok (.ireturn, 1) := by decide +kernel
theorem dX5_landLine_41 : decode cX5_landLine 41 = .ok (.aload_n 0, 1) := by decide +kernel
theorem dX5_landLine_42 : decode cX5_landLine 42 = .ok (.getfield 32, 3) := by decide +kernel
theorem dX5_landLine_45 : decode cX5_landLine 45 = .ok (.iload_n 1, 1) := by decide +kernel
theorem dX5_landLine_46 : decode cX5_landLine 46 = .ok (.putfield 109, 3) := by decide +kernel
theorem dX5_landLine_49 : decode cX5_landLine 49 = .ok (.iconst 1, 1) := by decide +kernel
theorem dX5_landLine_50 : decode cX5_landLine 50 = .ok (.ireturn, 1) := by decide +kernel
theorem dX5_parishLine_0 : decode cX5_parishLine 0 = .ok (.aload_n 0, 1) := by decide +kernel
theorem dX5_parishLine_1 : decode cX5_parishLine 1 = .ok (.getfield 32, 3) := by decide +kernel
theorem dX5_parishLine_4 : decode cX5_parishLine 4 = .ok (.getfield 112, 3) := by decide +kernel
theorem dX5_parishLine_7 : decode cX5_parishLine 7 = .ok (.istore_n 1, 1) := by decide +kernel
theorem dX5_parishLine_8 : decode cX5_parishLine 8 = .ok (.iload_n 1, 1) := by decide +kernel
theorem dX5_parishLine_9 : decode cX5_parishLine 9 = .ok (.iconst 4, 1) := by decide +kernel
theorem dX5_parishLine_10 : decode cX5_parishLine 10 = .ok (.if_icmp .lt 12, 3) := by decide +kernel
theorem dX5_parishLine_13 : decode cX5_parishLine 13 = .ok (.aload_n 0, 1) := by decide +kernel
theorem dX5_parishLine_14 : decode cX5_parishLine 14 = .ok (.getfield 14, 3) := by decide +kernel
theorem dX5_parishLine_17 : decode cX5_parishLine 17 = .ok (.iconst 2, 1) := by decide +kernel
theorem dX5_parishLine_18 : decode cX5_parishLine 18 = .ok (.invokevirtual 88, 3) := by decide +kernel
theorem dX5_parishLine_21 : decode cX5_parishLine 21 = .ok (.ireturn, 1) := by decide +kernel
theorem dX5_parishLine_22 : decode cX5_parishLine 22 = .ok (.aload_n 0, 1) := by decide +kernel
theorem dX5_parishLine_23 : decode cX5_parishLine 23 = .ok (.getfield 14, 3) := by decide +kernel
theorem dX5_parishLine_26 : decode cX5_parishLine 26 = .ok (.invokevirtual 92, 3) := by decide +kernel
theorem dX5_parishLine_29 : decode cX5_parishLine 29 = .ok (.aload_n 0, 1) := by decide +kernel
theorem dX5_parishLine_30 : decode cX5_parishLine 30 = .ok (.iconst 1, 1) := by decide +kernel
theorem dX5_parishLine_31 : decode cX5_parishLine 31 = .ok (.invokevirtual 115, 3) := by decide +kernel
theorem dX5_parishLine_34 : decode cX5_parishLine 34 = .ok (.istore_n 2, 1) := by decide +kernel
theorem dX5_parishLine_35 : decode cX5_parishLine 35 = .ok (.iload_n 2, 1) := by decide +kernel
theorem dX5_parishLine_36 : decode cX5_parishLine 36 = .ok (.ifCond .ne 7, 3) := by decide +kernel
theorem dX5_parishLine_39 : decode cX5_parishLine 39 = .ok (.iconst (-1), 1) := by decide +kernel
theorem dX5_parishLine_40 : decode cX5_parishLine 40 = .ok (.goto 17, 3) := by decide +kernel
theorem dX5_parishLine_43 : decode cX5_parishLine 43 = .ok (.aload_n 0, 1) := by decide +kernel
theorem dX5_parishLine_44 : decode cX5_parishLine 44 = .ok (.iconst 0, 1) := by decide +kernel
theorem dX5_parishLine_45 : decode cX5_parishLine 45 = .ok (.aload_n 0, 1) := by decide +kernel
theorem dX5_parishLine_46 : decode cX5_parishLine 46 = .ok (.getfield 32, 3) := by decide +kernel
theorem dX5_parishLine_49 : decode cX5_parishLine 49 = .ok (.getfield 109, 3) := by decide +kernel
theorem dX5_parishLine_52 : decode cX5_parishLine 52 = .ok (.iconst 1, 1) := by decide +kernel
theorem dX5_parishLine_53 : decode cX5_parishLine 53 = .ok (.isub, 1) := by decide +kernel
theorem dX5_parishLine_54 : decode cX5_parishLine 54 = .ok (.invokevirtual 105, 3) := by decide +kernel
theorem dX5_parishLine_57 : decode cX5_parishLine 57 = .ok (.istore_n 3, 1) := by decide +kernel
theorem dX5_parishLine_58 : decode cX5_parishLine 58 = .ok (.aload_n 0, 1) := by decide +kernel
theorem dX5_parishLine_59 : decode cX5_parishLine 59 = .ok (.getfield 14, 3) := by decide +kernel
theorem dX5_parishLine_62 : decode cX5_parishLine 62 = .ok (.getfield 119, 3) := by decide +kernel
theorem dX5_parishLine_65 : decode cX5_parishLine 65 = .ok (.istore 4, 2) := by decide +kernel
theorem dX5_parishLine_67 : decode cX5_parishLine 67 = .ok (.iload_n 3, 1) := by decide +kernel
theorem dX5_parishLine_68 : decode cX5_parishLine 68 = .ok (.iconst (-1), 1) := by decide +kernel
theorem dX5_parishLine_69 : decode cX5_parishLine 69 = .ok (.if_icmp .ne 7, 3) := by decide +kernel
theorem dX5_parishLine_72 : decode cX5_parishLine 72 = .ok (.iconst (-1), 1) := by decide +kernel
theorem dX5_parishLine_73 : decode cX5_parishLine 73 = .ok (.goto 17, 3) := by decide +kernel
theorem dX5_parishLine_76 : decode cX5_parishLine 76 = .ok (.aload_n 0, 1) := by decide +kernel
theorem dX5_parishLine_77 : decode cX5_parishLine 77 = .ok (.iconst 0, 1) := by decide +kernel
theorem dX5_parishLine_78 : decode cX5_parishLine 78 = .ok (.aload_n 0, 1) := by decide +kernel
theorem dX5_parishLine_79 : decode cX5_parishLine 79 = .ok (.getfield 32, 3) := by decide +kernel
theorem dX5_parishLine_82 : decode cX5_parishLine 82 = .ok (.getfield 109, 3) := by decide +kernel
theorem dX5_parishLine_85 : decode cX5_parishLine 85 = .ok (.iconst 1, 1) := by decide +kernel
theorem dX5_parishLine_86 : decode cX5_parishLine 86 = .ok (.isub, 1) := by decide +kernel
theorem dX5_parishLine_87 : decode cX5_parishLine 87 = .ok (.invokevirtual 105, 3) := by decide +kernel
theorem dX5_parishLine_90 : decode cX5_parishLine 90 = .ok (.istore 5, 2) := by decide +kernel
theorem dX5_parishLine_92 : decode cX5_parishLine 92 = .ok (.iload 5, 2) := by decide +kernel
theorem dX5_parishLine_94 : decode cX5_parishLine 94 = .ok (.iconst (-1), 1) := by decide +kernel
theorem dX5_parishLine_95 : decode cX5_parishLine 95 = .ok (.if_icmp .ne 5, 3) := by decide +kernel
theorem dX5_parishLine_98 : decode cX5_parishLine 98 = .ok (.iconst 0, 1) := by decide +kernel
theorem dX5_parishLine_99 : decode cX5_parishLine 99 = .ok (.ireturn, 1) := by decide +kernel
theorem dX5_parishLine_100 : decode cX5_parishLine 100 = .ok (.aload_n 0, 1) := by decide +kernel
theorem dX5_parishLine_101 : decode cX5_parishLine 101 = .ok (.getfield 32, 3) := by decide +kernel
theorem dX5_parishLine_104 : decode cX5_parishLine 104 = .ok (.iload_n 3, 1) := by decide +kernel
theorem dX5_parishLine_105 : decode cX5_parishLine 105 = .ok (.iload 5, 2) := by decide +kernel
theorem dX5_parishLine_107 : decode cX5_parishLine 107 = .ok (.invokevirtual 122, 3) := by decide +kernel
theorem dX5_parishLine_110 : decode cX5_parishLine 110 = .ok (.ifCond .eq 14, 3) := by decide +kernel
theorem dX5_parishLine_113 : decode cX5_parishLine 113 = .ok (.aload_n 0, 1) := by decide +kernel
theorem dX5_parishLine_114 : decode cX5_parishLine 114 = .ok (.getfield 14, 3) := by decide +kernel
theorem dX5_parishLine_117 : decode cX5_parishLine 117 = .ok (.iconst 3, 1) := by decide +kernel
theorem dX5_parishLine_118 : decode cX5_parishLine 118 = .ok (.iload 4, 2) := by decide +kernel
theorem dX5_parishLine_120 : decode cX5_parishLine 120 = .ok (.invokevirtual 126, 3) := by decide +kernel
theorem dX5_parishLine_123 : decode cX5_parishLine 123 = .ok (.ireturn, 1) := by decide +kernel
theorem dX5_parishLine_124 : decode cX5_parishLine 124 = .ok (.aload_n 0, 1) := by decide +kernel
theorem dX5_parishLine_125 : decode cX5_parishLine 125 = .ok (.getfield 32, 3) := by decide +kernel
theorem dX5_parishLine_128 : decode cX5_parishLine 128 = .ok (.getfield 129, 3) := by decide +kernel
theorem dX5_parishLine_131 : decode cX5_parishLine 131 = .ok (.iload_n 1, 1) := by decide +kernel
theorem dX5_parishLine_132 : decode cX5_parishLine 132 = .ok (.iload_n 2, 1) := by decide +kernel
theorem dX5_parishLine_133 : decode cX5_parishLine 133 = .ok (.iastore, 1) := by decide +kernel
theorem dX5_parishLine_134 : decode cX5_parishLine 134 = .ok (.aload_n 0, 1) := by decide +kernel
theorem dX5_parishLine_135 : decode cX5_parishLine 135 = .ok (.getfield 32, 3) := by decide +kernel
theorem dX5_parishLine_138 : decode cX5_parishLine 138 = .ok (.getfield 133, 3) := by decide +kernel
theorem dX5_parishLine_141 : decode cX5_parishLine 141 = .ok (.iload_n 1, 1) := by decide +kernel
theorem dX5_parishLine_142 : decode cX5_parishLine 142 = .ok (.iload_n 3, 1) := by decide +kernel
theorem dX5_parishLine_143 : decode cX5_parishLine 143 = .ok (.iastore, 1) := by decide +kernel
theorem dX5_parishLine_144 : decode cX5_parishLine 144 = .ok (.aload_n 0, 1) := by decide +kernel
theorem dX5_parishLine_145 : decode cX5_parishLine 145 = .ok (.getfield 32, 3) := by decide +kernel
theorem dX5_parishLine_148 : decode cX5_parishLine 148 = .ok (.getfield 136, 3) := by decide +kernel
theorem dX5_parishLine_151 : decode cX5_parishLine 151 = .ok (.iload_n 1, 1) := by decide +kernel
theorem dX5_parishLine_152 : decode cX5_parishLine 152 = .ok (.iload 5, 2) := by decide +kernel
theorem dX5_parishLine_154 : decode cX5_parishLine 154 = .ok (.iastore, 1) := by decide +kernel
theorem dX5_parishLine_155 : decode cX5_parishLine 155 = .ok (.aload_n 0, 1) := by decide +kernel
theorem dX5_parishLine_156 : decode cX5_parishLine 156 = .ok (.getfield 32, 3) := by decide +kernel
theorem dX5_parishLine_159 : decode cX5_parishLine 159 = .ok (.dup, 1) := by decide +kernel
theorem dX5_parishLine_160 : decode cX5_parishLine 160 = .ok (.getfield 112, 3) := by decide +kernel
theorem dX5_parishLine_163 : decode cX5_parishLine 163 = .ok (.iconst 1, 1) := by decide +kernel
theorem dX5_parishLine_164 : decode cX5_parishLine 164 = .ok (.iadd, 1) := by decide +kernel
theorem dX5_parishLine_165 : decode cX5_parishLine 165 = .ok (.putfield 112, 3) := by decide +kernel
theorem dX5_parishLine_168 : decode cX5_parishLine 168 = .ok (.iconst 1, 1) := by decide +kernel
theorem dX5_parishLine_169 : decode cX5_parishLine 169 = .ok (.ireturn, 1) := by decide +kernel
theorem dX5_childLine_0 : decode cX5_childLine 0 = .ok (.aload_n 0, 1) := by decide +kernel
theorem dX5_childLine_1 : decode cX5_childLine 1 = .ok (.getfield 32, 3) := by decide +kernel
theorem dX5_childLine_4 : decode cX5_childLine 4 = .ok (.getfield 139, 3) := by decide +kernel
theorem dX5_childLine_7 : decode cX5_childLine 7 = .ok (.istore_n 1, 1) := by decide +kernel
theorem dX5_childLine_8 : decode cX5_childLine 8 = .ok (.iload_n 1, 1) := by decide +kernel
theorem dX5_childLine_9 : decode cX5_childLine 9 = .ok (.bipush 6, 2) := by decide +kernel
theorem dX5_childLine_11 : decode cX5_childLine 11 = .ok (.if_icmp .lt 12, 3) := by decide +kernel
theorem dX5_childLine_14 : decode cX5_childLine 14 = .ok (.aload_n 0, 1) := by decide +kernel
theorem dX5_childLine_15 : decode cX5_childLine 15 = .ok (.getfield 14, 3) := by decide +kernel
theorem dX5_childLine_18 : decode cX5_childLine 18 = .ok (.iconst 2, 1) := by decide +kernel
theorem dX5_childLine_19 : decode cX5_childLine 19 = .ok (.invokevirtual 88, 3) := by decide +kernel
theorem dX5_childLine_22 : decode cX5_childLine 22 = .ok (.ireturn, 1) := by decide +kernel
theorem dX5_childLine_23 : decode cX5_childLine 23 = .ok (.aload_n 0, 1) := by decide +kernel
theorem dX5_childLine_24 : decode cX5_childLine 24 = .ok (.getfield 14, 3) := by decide +kernel
theorem dX5_childLine_27 : decode cX5_childLine 27 = .ok (.invokevirtual 92, 3) := by decide +kernel
theorem dX5_childLine_30 : decode cX5_childLine 30 = .ok (.aload_n 0, 1) := by decide +kernel
theorem dX5_childLine_31 : decode cX5_childLine 31 = .ok (.iconst 0, 1) := by decide +kernel
theorem dX5_childLine_32 : decode cX5_childLine 32 = .ok (.invokevirtual 115, 3) := by decide +kernel
theorem dX5_childLine_35 : decode cX5_childLine 35 = .ok (.istore_n 2, 1) := by decide +kernel
theorem dX5_childLine_36 : decode cX5_childLine 36 = .ok (.iload_n 2, 1) := by decide +kernel
theorem dX5_childLine_37 : decode cX5_childLine 37 = .ok (.ifCond .ne 7, 3) := by decide +kernel
theorem dX5_childLine_40 : decode cX5_childLine 40 = .ok (.iconst (-1), 1) := by decide +kernel
theorem dX5_childLine_41 : decode cX5_childLine 41 = .ok (.goto 10, 3) := by decide +kernel
theorem dX5_childLine_44 : decode cX5_childLine 44 = .ok (.aload_n 0, 1) := by decide +kernel
theorem dX5_childLine_45 : decode cX5_childLine 45 = .ok (.iconst 1, 1) := by decide +kernel
theorem dX5_childLine_46 : decode cX5_childLine 46 = .ok (.bipush 30, 2) := by decide +kernel
theorem dX5_childLine_48 : decode cX5_childLine 48 = .ok (.invokevirtual 105, 3) := by decide +kernel
theorem dX5_childLine_51 : decode cX5_childLine 51 = .ok (.istore_n 3, 1) := by decide +kernel
theorem dX5_childLine_52 : decode cX5_childLine 52 = .ok (.iload_n 3, 1) := by decide +kernel
theorem dX5_childLine_53 : decode cX5_childLine 53 = .ok (.iconst (-1), 1) := by decide +kernel
theorem dX5_childLine_54 : decode cX5_childLine 54 = .ok (.if_icmp .ne 7, 3) := by decide +kernel
theorem dX5_childLine_57 : decode cX5_childLine 57 = .ok (.iconst (-1), 1) := by decide +kernel
theorem dX5_childLine_58 : decode cX5_childLine 58 = .ok (.goto 10, 3) := by decide +kernel
theorem dX5_childLine_61 : decode cX5_childLine 61 = .ok (.aload_n 0, 1) := by decide +kernel
theorem dX5_childLine_62 : decode cX5_childLine 62 = .ok (.iconst 0, 1) := by decide +kernel
theorem dX5_childLine_63 : decode cX5_childLine 63 = .ok (.bipush 9, 2) := by decide +kernel
theorem dX5_childLine_65 : decode cX5_childLine 65 = .ok (.invokevirtual 105, 3) := by decide +kernel
theorem dX5_childLine_68 : decode cX5_childLine 68 = .ok (.istore 4, 2) := by decide +kernel
theorem dX5_childLine_70 : decode cX5_childLine 70 = .ok (.iload 4, 2) := by decide +kernel
theorem dX5_childLine_72 : decode cX5_childLine 72 = .ok (.iconst (-1), 1) := by decide +kernel
theorem dX5_childLine_73 : decode cX5_childLine 73 = .ok (.if_icmp .ne 5, 3) := by decide +kernel
theorem dX5_childLine_76 : decode cX5_childLine 76 = .ok (.iconst 0, 1) := by decide +kernel
theorem dX5_childLine_77 : decode cX5_childLine 77 = .ok (.ireturn, 1) := by decide +kernel
theorem dX5_childLine_78 : decode cX5_childLine 78 = .ok (.aload_n 0, 1) := by decide +kernel
theorem dX5_childLine_79 : decode cX5_childLine 79 = .ok (.getfield 32, 3) := by decide +kernel
theorem dX5_childLine_82 : decode cX5_childLine 82 = .ok (.getfield 142, 3) := by decide +kernel
theorem dX5_childLine_85 : decode cX5_childLine 85 = .ok (.iload_n 1, 1) := by decide +kernel
theorem dX5_childLine_86 : decode cX5_childLine 86 = .ok (.iload_n 2, 1) := by decide +kernel
theorem dX5_childLine_87 : decode cX5_childLine 87 = .ok (.iastore, 1) := by decide +kernel
theorem dX5_childLine_88 : decode cX5_childLine 88 = .ok (.aload_n 0, 1) := by decide +kernel
theorem dX5_childLine_89 : decode cX5_childLine 89 = .ok (.getfield 32, 3) := by decide +kernel
theorem dX5_childLine_92 : decode cX5_childLine 92 = .ok (.getfield 145, 3) := by decide +kernel
theorem dX5_childLine_95 : decode cX5_childLine 95 = .ok (.iload_n 1, 1) := by decide +kernel
theorem dX5_childLine_96 : decode cX5_childLine 96 = .ok (.iload_n 3, 1) := by decide +kernel
theorem dX5_childLine_97 : decode cX5_childLine 97 = .ok (.iastore, 1) := by decide +kernel
theorem dX5_childLine_98 : decode cX5_childLine 98 = .ok (.aload_n 0, 1) := by decide +kernel
theorem dX5_childLine_99 : decode cX5_childLine 99 = .ok (.getfield 32, 3) := by decide +kernel
theorem dX5_childLine_102 : decode cX5_childLine 102 = .ok (.getfield 148, 3) := by decide +kernel
theorem dX5_childLine_105 : decode cX5_childLine 105 = .ok (.iload_n 1, 1) := by decide +kernel
theorem dX5_childLine_106 : decode cX5_childLine 106 = .ok (.iload 4, 2) := by decide +kernel
theorem dX5_childLine_108 : decode cX5_childLine 108 = .ok (.iastore, 1) := by decide +kernel
theorem dX5_childLine_109 : decode cX5_childLine 109 = .ok (.aload_n 0, 1) := by decide +kernel
theorem dX5_childLine_110 : decode cX5_childLine 110 = .ok (.getfield 32, 3) := by decide +kernel
theorem dX5_childLine_113 : decode cX5_childLine 113 = .ok (.dup, 1) := by decide +kernel
theorem dX5_childLine_114 : decode cX5_childLine 114 = .ok (.getfield 139, 3) := by decide +kernel
theorem dX5_childLine_117 : decode cX5_childLine 117 = .ok (.iconst 1, 1) := by decide +kernel
theorem dX5_childLine_118 : decode cX5_childLine 118 = .ok (.iadd, 1) := by decide +kernel
theorem dX5_childLine_119 : decode cX5_childLine 119 = .ok (.putfield 139, 3) := by decide +kernel
theorem dX5_childLine_122 : decode cX5_childLine 122 = .ok (.iconst 1, 1) := by decide +kernel
theorem dX5_childLine_123 : decode cX5_childLine 123 = .ok (.ireturn, 1) := by decide +kernel
theorem dX5_beatLine_0 : decode cX5_beatLine 0 = .ok (.aload_n 0, 1) := by decide +kernel
theorem dX5_beatLine_1 : decode cX5_beatLine 1 = .ok (.getfield 32, 3) := by decide +kernel
theorem dX5_beatLine_4 : decode cX5_beatLine 4 = .ok (.getfield 151, 3) := by decide +kernel
theorem dX5_beatLine_7 : decode cX5_beatLine 7 = .ok (.istore_n 1, 1) := by decide +kernel
theorem dX5_beatLine_8 : decode cX5_beatLine 8 = .ok (.iload_n 1, 1) := by decide +kernel
theorem dX5_beatLine_9 : decode cX5_beatLine 9 = .ok (.bipush 12, 2) := by decide +kernel
theorem dX5_beatLine_11 : decode cX5_beatLine 11 = .ok (.if_icmp .lt 12, 3) := by decide +kernel
theorem dX5_beatLine_14 : decode cX5_beatLine 14 = .ok (.aload_n 0, 1) := by decide +kernel
theorem dX5_beatLine_15 : decode cX5_beatLine 15 = .ok (.getfield 14, 3) := by decide +kernel
theorem dX5_beatLine_18 : decode cX5_beatLine 18 = .ok (.iconst 2, 1) := by decide +kernel
theorem dX5_beatLine_19 : decode cX5_beatLine 19 = .ok (.invokevirtual 88, 3) := by decide +kernel
theorem dX5_beatLine_22 : decode cX5_beatLine 22 = .ok (.ireturn, 1) := by decide +kernel
theorem dX5_beatLine_23 : decode cX5_beatLine 23 = .ok (.aload_n 0, 1) := by decide +kernel
theorem dX5_beatLine_24 : decode cX5_beatLine 24 = .ok (.getfield 14, 3) := by decide +kernel
theorem dX5_beatLine_27 : decode cX5_beatLine 27 = .ok (.invokevirtual 92, 3) := by decide +kernel
theorem dX5_beatLine_30 : decode cX5_beatLine 30 = .ok (.aload_n 0, 1) := by decide +kernel
theorem dX5_beatLine_31 : decode cX5_beatLine 31 = .ok (.iconst 1, 1) := by decide +kernel
theorem dX5_beatLine_32 : decode cX5_beatLine 32 = .ok (.invokevirtual 154, 3) := by decide +kernel
theorem dX5_beatLine_35 : decode cX5_beatLine 35 = .ok (.istore_n 2, 1) := by decide +kernel
theorem dX5_beatLine_36 : decode cX5_beatLine 36 = .ok (.iload_n 2, 1) := by decide +kernel
theorem dX5_beatLine_37 : decode cX5_beatLine 37 = .ok (.iconst (-1), 1) := by decide +kernel
theorem dX5_beatLine_38 : decode cX5_beatLine 38 = .ok (.if_icmp .ne 7, 3) := by decide +kernel
theorem dX5_beatLine_41 : decode cX5_beatLine 41 = .ok (.iconst (-1), 1) := by decide +kernel
theorem dX5_beatLine_42 : decode cX5_beatLine 42 = .ok (.goto 8, 3) := by decide +kernel
theorem dX5_beatLine_45 : decode cX5_beatLine 45 = .ok (.aload_n 0, 1) := by decide +kernel
theorem dX5_beatLine_46 : decode cX5_beatLine 46 = .ok (.iconst 0, 1) := by decide +kernel
theorem dX5_beatLine_47 : decode cX5_beatLine 47 = .ok (.invokevirtual 154, 3) := by decide +kernel
theorem dX5_beatLine_50 : decode cX5_beatLine 50 = .ok (.istore_n 3, 1) := by decide +kernel
theorem dX5_beatLine_51 : decode cX5_beatLine 51 = .ok (.iload_n 3, 1) := by decide +kernel
theorem dX5_beatLine_52 : decode cX5_beatLine 52 = .ok (.iconst (-1), 1) := by decide +kernel
theorem dX5_beatLine_53 : decode cX5_beatLine 53 = .ok (.if_icmp .ne 7, 3) := by decide +kernel
theorem dX5_beatLine_56 : decode cX5_beatLine 56 = .ok (.iconst (-1), 1) := by decide +kernel
theorem dX5_beatLine_57 : decode cX5_beatLine 57 = .ok (.goto 9, 3) := by decide +kernel
theorem dX5_beatLine_60 : decode cX5_beatLine 60 = .ok (.aload_n 0, 1) := by decide +kernel
theorem dX5_beatLine_61 : decode cX5_beatLine 61 = .ok (.iconst 0, 1) := by decide +kernel
theorem dX5_beatLine_62 : decode cX5_beatLine 62 = .ok (.iconst 3, 1) := by decide +kernel
theorem dX5_beatLine_63 : decode cX5_beatLine 63 = .ok (.invokevirtual 105, 3) := by decide +kernel
theorem dX5_beatLine_66 : decode cX5_beatLine 66 = .ok (.istore 4, 2) := by decide +kernel
theorem dX5_beatLine_68 : decode cX5_beatLine 68 = .ok (.iload 4, 2) := by decide +kernel
theorem dX5_beatLine_70 : decode cX5_beatLine 70 = .ok (.iconst (-1), 1) := by decide +kernel
theorem dX5_beatLine_71 : decode cX5_beatLine 71 = .ok (.if_icmp .ne 7, 3) := by decide +kernel
theorem dX5_beatLine_74 : decode cX5_beatLine 74 = .ok (.iconst (-1), 1) := by decide +kernel
theorem dX5_beatLine_75 : decode cX5_beatLine 75 = .ok (.goto 10, 3) := by decide +kernel
theorem dX5_beatLine_78 : decode cX5_beatLine 78 = .ok (.aload_n 0, 1) := by decide +kernel
theorem dX5_beatLine_79 : decode cX5_beatLine 79 = .ok (.iconst 0, 1) := by decide +kernel
theorem dX5_beatLine_80 : decode cX5_beatLine 80 = .ok (.bipush 99, 2) := by decide +kernel
theorem dX5_beatLine_82 : decode cX5_beatLine 82 = .ok (.invokevirtual 105, 3) := by decide +kernel
theorem dX5_beatLine_85 : decode cX5_beatLine 85 = .ok (.istore 5, 2) := by decide +kernel
theorem dX5_beatLine_87 : decode cX5_beatLine 87 = .ok (.iload 5, 2) := by decide +kernel
theorem dX5_beatLine_89 : decode cX5_beatLine 89 = .ok (.iconst (-1), 1) := by decide +kernel
theorem dX5_beatLine_90 : decode cX5_beatLine 90 = .ok (.if_icmp .ne 5, 3) := by decide +kernel
theorem dX5_beatLine_93 : decode cX5_beatLine 93 = .ok (.iconst 0, 1) := by decide +kernel
theorem dX5_beatLine_94 : decode cX5_beatLine 94 = .ok (.ireturn, 1) := by decide +kernel
theorem dX5_beatLine_95 : decode cX5_beatLine 95 = .ok (.aload_n 0, 1) := by decide +kernel
theorem dX5_beatLine_96 : decode cX5_beatLine 96 = .ok (.getfield 32, 3) := by decide +kernel
theorem dX5_beatLine_99 : decode cX5_beatLine 99 = .ok (.getfield 157, 3) := by decide +kernel
theorem dX5_beatLine_102 : decode cX5_beatLine 102 = .ok (.iload_n 1, 1) := by decide +kernel
theorem dX5_beatLine_103 : decode cX5_beatLine 103 = .ok (.iconst 4, 1) := by decide +kernel
theorem dX5_beatLine_104 : decode cX5_beatLine 104 = .ok (.iload_n 2, 1) := by decide +kernel
theorem dX5_beatLine_105 : decode cX5_beatLine 105 = .ok (.imul, 1) := by decide +kernel
theorem dX5_beatLine_106 : decode cX5_beatLine 106 = .ok (.iload 4, 2) := by decide +kernel
theorem dX5_beatLine_108 : decode cX5_beatLine 108 = .ok (.iadd, 1) := by decide +kernel
theorem dX5_beatLine_109 : decode cX5_beatLine 109 = .ok (.iastore, 1) := by decide +kernel
theorem dX5_beatLine_110 : decode cX5_beatLine 110 = .ok (.aload_n 0, 1) := by decide +kernel
theorem dX5_beatLine_111 : decode cX5_beatLine 111 = .ok (.getfield 32, 3) := by decide +kernel
theorem dX5_beatLine_114 : decode cX5_beatLine 114 = .ok (.getfield 160, 3) := by decide +kernel
theorem dX5_beatLine_117 : decode cX5_beatLine 117 = .ok (.iload_n 1, 1) := by decide +kernel
theorem dX5_beatLine_118 : decode cX5_beatLine 118 = .ok (.iload_n 3, 1) := by decide +kernel
theorem dX5_beatLine_119 : decode cX5_beatLine 119 = .ok (.iastore, 1) := by decide +kernel
theorem dX5_beatLine_120 : decode cX5_beatLine 120 = .ok (.aload_n 0, 1) := by decide +kernel
theorem dX5_beatLine_121 : decode cX5_beatLine 121 = .ok (.getfield 32, 3) := by decide +kernel
theorem dX5_beatLine_124 : decode cX5_beatLine 124 = .ok (.getfield 163, 3) := by decide +kernel
theorem dX5_beatLine_127 : decode cX5_beatLine 127 = .ok (.iload_n 1, 1) := by decide +kernel
theorem dX5_beatLine_128 : decode cX5_beatLine 128 = .ok (.iload 5, 2) := by decide +kernel
theorem dX5_beatLine_130 : decode cX5_beatLine 130 = .ok (.iastore, 1) := by decide +kernel
theorem dX5_beatLine_131 : decode cX5_beatLine 131 = .ok (.aload_n 0, 1) := by decide +kernel
theorem dX5_beatLine_132 : decode cX5_beatLine 132 = .ok (.getfield 32, 3) := by decide +kernel
theorem dX5_beatLine_135 : decode cX5_beatLine 135 = .ok (.aload_n 0, 1) := by decide +kernel
theorem dX5_beatLine_136 : decode cX5_beatLine 136 = .ok (.getfield 32, 3) := by decide +kernel
theorem dX5_beatLine_139 : decode cX5_beatLine 139 = .ok (.getfield 166, 3) := by decide +kernel
theorem dX5_beatLine_142 : decode cX5_beatLine 142 = .ok (.iload 5, 2) := by decide +kernel
theorem dX5_beatLine_144 : decode cX5_beatLine 144 = .ok (.invokestatic 169, 3) := by decide +kernel
theorem dX5_beatLine_147 : decode cX5_beatLine 147 = .ok (.putfield 166, 3) := by decide +kernel
theorem dX5_beatLine_150 : decode cX5_beatLine 150 = .ok (.aload_n 0, 1) := by decide +kernel
theorem dX5_beatLine_151 : decode cX5_beatLine 151 = .ok (.getfield 32, 3) := by decide +kernel
theorem dX5_beatLine_154 : decode cX5_beatLine 154 = .ok (.dup, 1) := by decide +kernel
theorem dX5_beatLine_155 : decode cX5_beatLine 155 = .ok (.getfield 151, 3) := by decide +kernel
theorem dX5_beatLine_158 : decode cX5_beatLine 158 = .ok (.iconst 1, 1) := by decide +kernel
theorem dX5_beatLine_159 : decode cX5_beatLine 159 = .ok (.iadd, 1) := by decide +kernel
theorem dX5_beatLine_160 : decode cX5_beatLine 160 = .ok (.putfield 151, 3) := by decide +kernel
theorem dX5_beatLine_163 : decode cX5_beatLine 163 = .ok (.iconst 1, 1) := by decide +kernel
theorem dX5_beatLine_164 : decode cX5_beatLine 164 = .ok (.ireturn, 1) := by decide +kernel
theorem dX5_cakeLine_0 : decode cX5_cakeLine 0 = .ok (.aload_n 0, 1) := by decide +kernel
theorem dX5_cakeLine_1 : decode cX5_cakeLine 1 = .ok (.getfield 14, 3) := by decide +kernel
theorem dX5_cakeLine_4 : decode cX5_cakeLine 4 = .ok (.invokevirtual 92, 3) := by decide +kernel
theorem dX5_cakeLine_7 : decode cX5_cakeLine 7 = .ok (.aload_n 0, 1) := by decide +kernel
theorem dX5_cakeLine_8 : decode cX5_cakeLine 8 = .ok (.iconst 1, 1) := by decide +kernel
theorem dX5_cakeLine_9 : decode cX5_cakeLine 9 = .ok (.invokevirtual 154, 3) := by decide +kernel
theorem dX5_cakeLine_12 : decode cX5_cakeLine 12 = .ok (.istore_n 1, 1) := by decide +kernel
theorem dX5_cakeLine_13 : decode cX5_cakeLine 13 = .ok (.aload_n 0, 1) := by decide +kernel
theorem dX5_cakeLine_14 : decode cX5_cakeLine 14 = .ok (.getfield 14, 3) := by decide +kernel
theorem dX5_cakeLine_17 : decode cX5_cakeLine 17 = .ok (.getfield 119, 3) := by decide +kernel
theorem dX5_cakeLine_20 : decode cX5_cakeLine 20 = .ok (.istore_n 2, 1) := by decide +kernel
theorem dX5_cakeLine_21 : decode cX5_cakeLine 21 = .ok (.iload_n 1, 1) := by decide +kernel
theorem dX5_cakeLine_22 : decode cX5_cakeLine 22 = .ok (.iconst (-1), 1) := by decide +kernel
theorem dX5_cakeLine_23 : decode cX5_cakeLine 23 = .ok (.if_icmp .ne 7, 3) := by decide +kernel
theorem dX5_cakeLine_26 : decode cX5_cakeLine 26 = .ok (.iconst (-1), 1) := by decide +kernel
theorem dX5_cakeLine_27 : decode cX5_cakeLine 27 = .ok (.goto 9, 3) := by decide +kernel
theorem dX5_cakeLine_30 : decode cX5_cakeLine 30 = .ok (.aload_n 0, 1) := by decide +kernel
theorem dX5_cakeLine_31 : decode cX5_cakeLine 31 = .ok (.iconst 0, 1) := by decide +kernel
theorem dX5_cakeLine_32 : decode cX5_cakeLine 32 = .ok (.iconst 3, 1) := by decide +kernel
theorem dX5_cakeLine_33 : decode cX5_cakeLine 33 = .ok (.invokevirtual 105, 3) := by decide +kernel
theorem dX5_cakeLine_36 : decode cX5_cakeLine 36 = .ok (.istore_n 3, 1) := by decide +kernel
theorem dX5_cakeLine_37 : decode cX5_cakeLine 37 = .ok (.iload_n 3, 1) := by decide +kernel
theorem dX5_cakeLine_38 : decode cX5_cakeLine 38 = .ok (.iconst (-1), 1) := by decide +kernel
theorem dX5_cakeLine_39 : decode cX5_cakeLine 39 = .ok (.if_icmp .ne 5, 3) := by decide +kernel
theorem dX5_cakeLine_42 : decode cX5_cakeLine 42 = .ok (.iconst 0, 1) := by decide +kernel
theorem dX5_cakeLine_43 : decode cX5_cakeLine 43 = .ok (.ireturn, 1) := by decide +kernel
theorem dX5_cakeLine_44 : decode cX5_cakeLine 44 = .ok (.iconst 4, 1) := by decide +kernel
theorem dX5_cakeLine_45 : decode cX5_cakeLine 45 = .ok (.iload_n 1, 1) := by decide +kernel
theorem dX5_cakeLine_46 : decode cX5_cakeLine 46 = .ok (.imul, 1) := by decide +kernel
theorem dX5_cakeLine_47 : decode cX5_cakeLine 47 = .ok (.iload_n 3, 1) := by decide +kernel
theorem dX5_cakeLine_48 : decode cX5_cakeLine 48 = .ok (.iadd, 1) := by decide +kernel
theorem dX5_cakeLine_49 : decode cX5_cakeLine 49 = .ok (.istore 4, 2) := by decide +kernel
theorem dX5_cakeLine_51 : decode cX5_cakeLine 51 = .ok (.aload_n 0, 1) := by decide +kernel
theorem dX5_cakeLine_52 : decode cX5_cakeLine 52 = .ok (.getfield 32, 3) := by decide +kernel
theorem dX5_cakeLine_55 : decode cX5_cakeLine 55 = .ok (.getfield 174, 3) := by decide +kernel
theorem dX5_cakeLine_58 : decode cX5_cakeLine 58 = .ok (.iload 4, 2) := by decide +kernel
theorem dX5_cakeLine_60 : decode cX5_cakeLine 60 = .ok (.iaload, 1) := by decide +kernel
theorem dX5_cakeLine_61 : decode cX5_cakeLine 61 = .ok (.ifCond .eq 13, 3) := by decide +kernel
theorem dX5_cakeLine_64 : decode cX5_cakeLine 64 = .ok (.aload_n 0, 1) := by decide +kernel
theorem dX5_cakeLine_65 : decode cX5_cakeLine 65 = .ok (.getfield 14, 3) := by decide +kernel
theorem dX5_cakeLine_68 : decode cX5_cakeLine 68 = .ok (.iconst 3, 1) := by decide +kernel
theorem dX5_cakeLine_69 : decode cX5_cakeLine 69 = .ok (.iload_n 2, 1) := by decide +kernel
theorem dX5_cakeLine_70 : decode cX5_cakeLine 70 = .ok (.invokevirtual 126, 3) := by decide +kernel
theorem dX5_cakeLine_73 : decode cX5_cakeLine 73 = .ok (.ireturn, 1) := by decide +kernel
theorem dX5_cakeLine_74 : decode cX5_cakeLine 74 = .ok (.aload_n 0, 1) := by decide +kernel
theorem dX5_cakeLine_75 : decode cX5_cakeLine 75 = .ok (.iconst 1, 1) := by decide +kernel
theorem dX5_cakeLine_76 : decode cX5_cakeLine 76 = .ok (.bipush 9, 2) := by decide +kernel
theorem dX5_cakeLine_78 : decode cX5_cakeLine 78 = .ok (.invokevirtual 105, 3) := by decide +kernel
theorem dX5_cakeLine_81 : decode cX5_cakeLine 81 = .ok (.istore 5, 2) := by decide +kernel
theorem dX5_cakeLine_83 : decode cX5_cakeLine 83 = .ok (.iload 5, 2) := by decide +kernel
theorem dX5_cakeLine_85 : decode cX5_cakeLine 85 = .ok (.iconst (-1), 1) := by decide +kernel
theorem dX5_cakeLine_86 : decode cX5_cakeLine 86 = .ok (.if_icmp .ne 5, 3) := by decide +kernel
theorem dX5_cakeLine_89 : decode cX5_cakeLine 89 = .ok (.iconst 0, 1) := by decide +kernel
theorem dX5_cakeLine_90 : decode cX5_cakeLine 90 = .ok (.ireturn, 1) := by decide +kernel
theorem dX5_cakeLine_91 : decode cX5_cakeLine 91 = .ok (.aload_n 0, 1) := by decide +kernel
theorem dX5_cakeLine_92 : decode cX5_cakeLine 92 = .ok (.getfield 32, 3) := by decide +kernel
theorem dX5_cakeLine_95 : decode cX5_cakeLine 95 = .ok (.getfield 174, 3) := by decide +kernel
theorem dX5_cakeLine_98 : decode cX5_cakeLine 98 = .ok (.iload 4, 2) := by decide +kernel
theorem dX5_cakeLine_100 : decode cX5_cakeLine 100 = .ok (.iload 5, 2) := by decide +kernel
theorem dX5_cakeLine_102 : decode cX5_cakeLine 102 = .ok (.iastore, 1) := by decide +kernel
theorem dX5_cakeLine_103 : decode cX5_cakeLine 103 = .ok (.iconst 1, 1) := by decide +kernel
theorem dX5_cakeLine_104 : decode cX5_cakeLine 104 = .ok (.ireturn, 1) := by decide +kernel
theorem dX5_rainLine_0 : decode cX5_rainLine 0 = .ok (.aload_n 0, 1) := by decide +kernel
theorem dX5_rainLine_1 : decode cX5_rainLine 1 = .ok (.getfield 39, 3) := by decide +kernel
theorem dX5_rainLine_4 : decode cX5_rainLine 4 = .ok (.ifCond .eq 12, 3) := by decide +kernel
theorem dX5_rainLine_7 : decode cX5_rainLine 7 = .ok (.aload_n 0, 1) := by decide +kernel
theorem dX5_rainLine_8 : decode cX5_rainLine 8 = .ok (.getfield 14, 3) := by decide +kernel
theorem dX5_rainLine_11 : decode cX5_rainLine 11 = .ok (.iconst 3, 1) := by decide +kernel
theorem dX5_rainLine_12 : decode cX5_rainLine 12 = .ok (.invokevirtual 88, 3) := by decide +kernel
theorem dX5_rainLine_15 : decode cX5_rainLine 15 = .ok (.ireturn, 1) := by decide +kernel
theorem dX5_rainLine_16 : decode cX5_rainLine 16 = .ok (.aload_n 0, 1) := by decide +kernel
theorem dX5_rainLine_17 : decode cX5_rainLine 17 = .ok (.getfield 14, 3) := by decide +kernel
theorem dX5_rainLine_20 : decode cX5_rainLine 20 = .ok (.invokevirtual 92, 3) := by decide +kernel
theorem dX5_rainLine_23 : decode cX5_rainLine 23 = .ok (.aload_n 0, 1) := by decide +kernel
theorem dX5_rainLine_24 : decode cX5_rainLine 24 = .ok (.iconst 0, 1) := by decide +kernel
theorem dX5_rainLine_25 : decode cX5_rainLine 25 = .ok (.bipush 100, 2) := by decide +kernel
theorem dX5_rainLine_27 : decode cX5_rainLine 27 = .ok (.invokevirtual 105, 3) := by decide +kernel
theorem dX5_rainLine_30 : decode cX5_rainLine 30 = .ok (.istore_n 1, 1) := by decide +kernel
theorem dX5_rainLine_31 : decode cX5_rainLine 31 = .ok (.iload_n 1, 1) := by decide +kernel
theorem dX5_rainLine_32 : decode cX5_rainLine 32 = .ok (.iconst (-1), 1) := by decide +kernel
theorem dX5_rainLine_33 : decode cX5_rainLine 33 = .ok (.if_icmp .ne 5, 3) := by decide +kernel
theorem dX5_rainLine_36 : decode cX5_rainLine 36 = .ok (.iconst 0, 1) := by decide +kernel
theorem dX5_rainLine_37 : decode cX5_rainLine 37 = .ok (.ireturn, 1) := by decide +kernel
theorem dX5_rainLine_38 : decode cX5_rainLine 38 = .ok (.aload_n 0, 1) := by decide +kernel
theorem dX5_rainLine_39 : decode cX5_rainLine 39 = .ok (.getfield 32, 3) := by decide +kernel
theorem dX5_rainLine_42 : decode cX5_rainLine 42 = .ok (.iload_n 1, 1) := by decide +kernel
theorem dX5_rainLine_43 : decode cX5_rainLine 43 = .ok (.putfield 177, 3) := by decide +kernel
theorem dX5_rainLine_46 : decode cX5_rainLine 46 = .ok (.aload_n 0, 1) := by decide +kernel
theorem dX5_rainLine_47 : decode cX5_rainLine 47 = .ok (.iconst 1, 1) := by decide +kernel
theorem dX5_rainLine_48 : decode cX5_rainLine 48 = .ok (.putfield 39, 3) := by decide +kernel
theorem dX5_rainLine_51 : decode cX5_rainLine 51 = .ok (.iconst 1, 1) := by decide +kernel
theorem dX5_rainLine_52 : decode cX5_rainLine 52 = .ok (.ireturn, 1) := by decide +kernel
theorem dX5_seedLine_0 : decode cX5_seedLine 0 = .ok (.aload_n 0, 1) := by decide +kernel
theorem dX5_seedLine_1 : decode cX5_seedLine 1 = .ok (.getfield 43, 3) := by decide +kernel
theorem dX5_seedLine_4 : decode cX5_seedLine 4 = .ok (.ifCond .eq 12, 3) := by decide +kernel
theorem dX5_seedLine_7 : decode cX5_seedLine 7 = .ok (.aload_n 0, 1) := by decide +kernel
theorem dX5_seedLine_8 : decode cX5_seedLine 8 = .ok (.getfield 14, 3) := by decide +kernel
theorem dX5_seedLine_11 : decode cX5_seedLine 11 = .ok (.iconst 3, 1) := by decide +kernel
theorem dX5_seedLine_12 : decode cX5_seedLine 12 = .ok (.invokevirtual 88, 3) := by decide +kernel
theorem dX5_seedLine_15 : decode cX5_seedLine 15 = .ok (.ireturn, 1) := by decide +kernel
theorem dX5_seedLine_16 : decode cX5_seedLine 16 = .ok (.aload_n 0, 1) := by decide +kernel
theorem dX5_seedLine_17 : decode cX5_seedLine 17 = .ok (.getfield 14, 3) := by decide +kernel
theorem dX5_seedLine_20 : decode cX5_seedLine 20 = .ok (.invokevirtual 92, 3) := by decide +kernel
theorem dX5_seedLine_23 : decode cX5_seedLine 23 = .ok (.aload_n 0, 1) := by decide +kernel
theorem dX5_seedLine_24 : decode cX5_seedLine 24 = .ok (.iconst 0, 1) := by decide +kernel
theorem dX5_seedLine_25 : decode cX5_seedLine 25 = .ok (.ldc 180, 2) := by decide +kernel
theorem dX5_seedLine_27 : decode cX5_seedLine 27 = .ok (.invokevirtual 105, 3) := by decide +kernel
theorem dX5_seedLine_30 : decode cX5_seedLine 30 = .ok (.istore_n 1, 1) := by decide +kernel
theorem dX5_seedLine_31 : decode cX5_seedLine 31 = .ok (.iload_n 1, 1) := by decide +kernel
theorem dX5_seedLine_32 : decode cX5_seedLine 32 = .ok (.iconst (-1), 1) := by decide +kernel
theorem dX5_seedLine_33 : decode cX5_seedLine 33 = .ok (.if_icmp .ne 5, 3) := by decide +kernel
theorem dX5_seedLine_36 : decode cX5_seedLine 36 = .ok (.iconst 0, 1) := by decide +kernel
theorem dX5_seedLine_37 : decode cX5_seedLine 37 = .ok (.ireturn, 1) := by decide +kernel
theorem dX5_seedLine_38 : decode cX5_seedLine 38 = .ok (.aload_n 0, 1) := by decide +kernel
theorem dX5_seedLine_39 : decode cX5_seedLine 39 = .ok (.getfield 32, 3) := by decide +kernel
theorem dX5_seedLine_42 : decode cX5_seedLine 42 = .ok (.iload_n 1, 1) := by decide +kernel
theorem dX5_seedLine_43 : decode cX5_seedLine 43 = .ok (.putfield 181, 3) := by decide +kernel
theorem dX5_seedLine_46 : decode cX5_seedLine 46 = .ok (.aload_n 0, 1) := by decide +kernel
theorem dX5_seedLine_47 : decode cX5_seedLine 47 = .ok (.iconst 1, 1) := by decide +kernel
theorem dX5_seedLine_48 : decode cX5_seedLine 48 = .ok (.putfield 43, 3) := by decide +kernel
theorem dX5_seedLine_51 : decode cX5_seedLine 51 = .ok (.iconst 1, 1) := by decide +kernel
theorem dX5_seedLine_52 : decode cX5_seedLine 52 = .ok (.ireturn, 1) := by decide +kernel
theorem dX5_lawLine_0 : decode cX5_lawLine 0 = .ok (.aload_n 0, 1) := by decide +kernel
theorem dX5_lawLine_1 : decode cX5_lawLine 1 = .ok (.getfield 14, 3) := by decide +kernel
theorem dX5_lawLine_4 : decode cX5_lawLine 4 = .ok (.invokevirtual 92, 3) := by decide +kernel
theorem dX5_lawLine_7 : decode cX5_lawLine 7 = .ok (.aload_n 0, 1) := by decide +kernel
theorem dX5_lawLine_8 : decode cX5_lawLine 8 = .ok (.getfield 14, 3) := by decide +kernel
theorem dX5_lawLine_11 : decode cX5_lawLine 11 = .ok (.getfield 50, 3) := by decide +kernel
theorem dX5_lawLine_14 : decode cX5_lawLine 14 = .ok (.bipush 8, 2) := by decide +kernel
theorem dX5_lawLine_16 : decode cX5_lawLine 16 = .ok (.if_icmp .lt 15, 3) := by decide +kernel
theorem dX5_lawLine_19 : decode cX5_lawLine 19 = .ok (.aload_n 0, 1) := by decide +kernel
theorem dX5_lawLine_20 : decode cX5_lawLine 20 = .ok (.getfield 14, 3) := by decide +kernel
theorem dX5_lawLine_23 : decode cX5_lawLine 23 = .ok (.getfield 50, 3) := by decide +kernel
theorem dX5_lawLine_26 : decode cX5_lawLine 26 = .ok (.bipush 10, 2) := by decide +kernel
theorem dX5_lawLine_28 : decode cX5_lawLine 28 = .ok (.if_icmp .le 12, 3) := by decide +kernel
theorem dX5_lawLine_31 : decode cX5_lawLine 31 = .ok (.aload_n 0, 1) := by decide +kernel
theorem dX5_lawLine_32 : decode cX5_lawLine 32 = .ok (.getfield 14, 3) := by decide +kernel
theorem dX5_lawLine_35 : decode cX5_lawLine 35 = .ok (.iconst 1, 1) := by decide +kernel
theorem dX5_lawLine_36 : decode cX5_lawLine 36 = .ok (.invokevirtual 88, 3) := by decide +kernel
theorem dX5_lawLine_39 : decode cX5_lawLine 39 = .ok (.ireturn, 1) := by decide +kernel
theorem dX5_lawLine_40 : decode cX5_lawLine 40 = .ok (.aload_n 0, 1) := by decide +kernel
theorem dX5_lawLine_41 : decode cX5_lawLine 41 = .ok (.getfield 14, 3) := by decide +kernel
theorem dX5_lawLine_44 : decode cX5_lawLine 44 = .ok (.getfield 50, 3) := by decide +kernel
theorem dX5_lawLine_47 : decode cX5_lawLine 47 = .ok (.bipush 8, 2) := by decide +kernel
theorem dX5_lawLine_49 : decode cX5_lawLine 49 = .ok (.isub, 1) := by decide +kernel
theorem dX5_lawLine_50 : decode cX5_lawLine 50 = .ok (.istore_n 1, 1) := by decide +kernel
theorem dX5_lawLine_51 : decode cX5_lawLine 51 = .ok (.aload_n 0, 1) := by decide +kernel
theorem dX5_lawLine_52 : decode cX5_lawLine 52 = .ok (.getfield 32, 3) := by decide +kernel
theorem dX5_lawLine_55 : decode cX5_lawLine 55 = .ok (.getfield 184, 3) := by decide +kernel
theorem dX5_lawLine_58 : decode cX5_lawLine 58 = .ok (.iload_n 1, 1) := by decide +kernel
theorem dX5_lawLine_59 : decode cX5_lawLine 59 = .ok (.invokevirtual 188, 3) := by decide +kernel
theorem dX5_lawLine_62 : decode cX5_lawLine 62 = .ok (.ifCond .eq 12, 3) := by decide +kernel
theorem dX5_lawLine_65 : decode cX5_lawLine 65 = .ok (.aload_n 0, 1) := by decide +kernel
theorem dX5_lawLine_66 : decode cX5_lawLine 66 = .ok (.getfield 14, 3) := by decide +kernel
theorem dX5_lawLine_69 : decode cX5_lawLine 69 = .ok (.iconst 3, 1) := by decide +kernel
theorem dX5_lawLine_70 : decode cX5_lawLine 70 = .ok (.invokevirtual 88, 3) := by decide +kernel
theorem dX5_lawLine_73 : decode cX5_lawLine 73 = .ok (.ireturn, 1) := by decide +kernel
theorem dX5_lawLine_74 : decode cX5_lawLine 74 = .ok (.aload_n 0, 1) := by decide +kernel
theorem dX5_lawLine_75 : decode cX5_lawLine 75 = .ok (.getfield 14, 3) := by decide +kernel
theorem dX5_lawLine_78 : decode cX5_lawLine 78 = .ok (.invokevirtual 92, 3) := by decide +kernel
theorem dX5_lawLine_81 : decode cX5_lawLine 81 = .ok (.aload_n 0, 1) := by decide +kernel
theorem dX5_lawLine_82 : decode cX5_lawLine 82 = .ok (.getfield 25, 3) := by decide +kernel
theorem dX5_lawLine_85 : decode cX5_lawLine 85 = .ok (.aload_n 0, 1) := by decide +kernel
theorem dX5_lawLine_86 : decode cX5_lawLine 86 = .ok (.getfield 32, 3) := by decide +kernel
theorem dX5_lawLine_89 : decode cX5_lawLine 89 = .ok (.getfield 184, 3) := by decide +kernel
theorem dX5_lawLine_92 : decode cX5_lawLine 92 = .ok (.iload_n 1, 1) := by decide +kernel
theorem dX5_lawLine_93 : decode cX5_lawLine 93 = .ok (.invokevirtual 193, 3) := by decide +kernel
theorem dX5_lawLine_96 : decode cX5_lawLine 96 = .ok (.ireturn, 1) := by decide +kernel
theorem dX6_init_0 : decode cX6_init 0 = .ok (.aload_n 0, 1) := by decide +kernel
theorem dX6_init_1 : decode cX6_init 1 = .ok (.invokespecial 3, 3) := by decide +kernel
theorem dX6_init_4 : decode cX6_init 4 = .ok (.aload_n 0, 1) := by decide +kernel
theorem dX6_init_5 : decode cX6_init 5 = .ok (.bipush 24, 2) := by decide +kernel
theorem dX6_init_7 : decode cX6_init 7 = .ok (.newarray .int, 2) := by decide +kernel
theorem dX6_init_9 : decode cX6_init 9 = .ok (.putfield 11, 3) := by decide +kernel
theorem dX6_init_12 : decode cX6_init 12 = .ok (.aload_n 0, 1) := by decide +kernel
theorem dX6_init_13 : decode cX6_init 13 = .ok (.bipush 24, 2) := by decide +kernel
theorem dX6_init_15 : decode cX6_init 15 = .ok (.newarray .int, 2) := by decide +kernel
theorem dX6_init_17 : decode cX6_init 17 = .ok (.putfield 15, 3) := by decide +kernel
theorem dX6_init_20 : decode cX6_init 20 = .ok (.aload_n 0, 1) := by decide +kernel
theorem dX6_init_21 : decode cX6_init 21 = .ok (.bipush 24, 2) := by decide +kernel
theorem dX6_init_23 : decode cX6_init 23 = .ok (.newarray .int, 2) := by decide +kernel
theorem dX6_init_25 : decode cX6_init 25 = .ok (.putfield 18, 3) := by decide +kernel
theorem dX6_init_28 : decode cX6_init 28 = .ok (.aload_n 0, 1) := by decide +kernel
theorem dX6_init_29 : decode cX6_init 29 = .ok (.bipush 24, 2) := by decide +kernel
theorem dX6_init_31 : decode cX6_init 31 = .ok (.newarray .int, 2) := by decide +kernel
theorem dX6_init_33 : decode cX6_init 33 = .ok (.putfield 21, 3) := by decide +kernel
theorem dX6_init_36 : decode cX6_init 36 = .ok (.aload_n 0, 1) := by decide +kernel
theorem dX6_init_37 : decode cX6_init 37 = .ok (.bipush 24, 2) := by decide +kernel
theorem dX6_init_39 : decode cX6_init 39 = .ok (.newarray .int, 2) := by decide +kernel
theorem dX6_init_41 : decode cX6_init 41 = .ok (.putfield 24, 3) := by decide +kernel
theorem dX6_init_44 : decode cX6_init 44 = .ok (.aload_n 0, 1) := by decide +kernel
theorem dX6_init_45 : decode cX6_init 45 = .ok (.bipush 24, 2) := by decide +kernel
theorem dX6_init_47 : decode cX6_init 47 = .ok (.newarray .boolean, 2) := by decide +kernel
theorem dX6_init_49 : decode cX6_init 49 = .ok (.putfield 27, 3) := by decide +kernel
theorem dX6_init_52 : decode cX6_init 52 = .ok (.aload_n 0, 1) := by decide +kernel
theorem dX6_init_53 : decode cX6_init 53 = .ok (.bipush 24, 2) := by decide +kernel
theorem dX6_init_55 : decode cX6_init 55 = .ok (.newarray .boolean, 2) := by decide +kernel
theorem dX6_init_57 : decode cX6_init 57 = .ok (.putfield 31, 3) := by decide +kernel
theorem dX6_init_60 : decode cX6_init 60 = .ok (.aload_n 0, 1) := by decide +kernel
theorem dX6_init_61 : decode cX6_init 61 = .ok (.iconst (-1), 1) := by decide +kernel
theorem dX6_init_62 : decode cX6_init 62 = .ok (.putfield 34, 3) := by decide +kernel
theorem dX6_init_65 : decode cX6_init 65 = .ok (.return_, 1) := by decide +kernel
theorem dX6_forget_0 : decode cX6_forget 0 = .ok (.aload_n 0, 1) := by decide +kernel
theorem dX6_forget_1 : decode cX6_forget 1 = .ok (.iconst 0, 1) := by decide +kernel
theorem dX6_forget_2 : decode cX6_forget 2 = .ok (.putfield 38, 3) := by decide +kernel
theorem dX6_forget_5 : decode cX6_forget 5 = .ok (.aload_n 0, 1) := by decide +kernel
theorem dX6_forget_6 : decode cX6_forget 6 = .ok (.iconst (-1), 1) := by decide +kernel
theorem dX6_forget_7 : decode cX6_forget 7 = .ok (.putfield 34, 3) := by decide +kernel
theorem dX6_forget_10 : decode cX6_forget 10 = .ok (.return_, 1) := by decide +kernel
theorem dX6_addSight_0 : decode cX6_addSight 0 = .ok (.aload_n 0, 1) := by decide +kernel
theorem dX6_addSight_1 : decode cX6_addSight 1 = .ok (.getfield 38, 3) := by decide +kernel
theorem dX6_addSight_4 : decode cX6_addSight 4 = .ok (.bipush 24, 2) := by decide +kernel
theorem dX6_addSight_6 : decode cX6_addSight 6 = .ok (.if_icmp .lt 5, 3) := by decide +kernel
theorem dX6_addSight_9 : decode cX6_addSight 9 = .ok (.iconst (-1), 1) := by decide +kernel
theorem dX6_addSight_10 : decode cX6_addSight 10 = .ok (.ireturn, 1) := by decide +kernel
theorem dX6_addSight_11 : decode cX6_addSight 11 = .ok (.aload_n 0, 1) := by decide +kernel
theorem dX6_addSight_12 : decode cX6_addSight 12 = .ok (.getfield 11, 3) := by decide +kernel
theorem dX6_addSight_15 : decode cX6_addSight 15 = .ok (.aload_n 0, 1) := by decide +kernel
theorem dX6_addSight_16 : decode cX6_addSight 16 = .ok (.getfield 38, 3) := by decide +kernel
theorem dX6_addSight_19 : decode cX6_addSight 19 = .ok (.iconst (-1), 1) := by decide +kernel
theorem dX6_addSight_20 : decode cX6_addSight 20 = .ok (.iastore, 1) := by decide +kernel
theorem dX6_addSight_21 : decode cX6_addSight 21 = .ok (.aload_n 0, 1) := by decide +kernel
theorem dX6_addSight_22 : decode cX6_addSight 22 = .ok (.getfield 15, 3) := by decide +kernel
theorem dX6_addSight_25 : decode cX6_addSight 25 = .ok (.aload_n 0, 1) := by decide +kernel
theorem dX6_addSight_26 : decode cX6_addSight 26 = .ok (.getfield 38, 3) := by decide +kernel
theorem dX6_addSight_29 : decode cX6_addSight 29 = .ok (.iload_n 1, 1) := by decide +kernel
theorem dX6_addSight_30 : decode cX6_addSight 30 = .ok (.iastore, 1) := by decide +kernel
theorem dX6_addSight_31 : decode cX6_addSight 31 = .ok (.aload_n 0, 1) := by decide +kernel
theorem dX6_addSight_32 : decode cX6_addSight 32 = .ok (.getfield 18, 3) := by decide +kernel
theorem dX6_addSight_35 : decode cX6_addSight 35 = .ok (.aload_n 0, 1) := by decide +kernel
theorem dX6_addSight_36 : decode cX6_addSight 36 = .ok (.getfield 38, 3) := by decide +kernel
theorem dX6_addSight_39 : decode cX6_addSight 39 = .ok (.iload_n 2, 1) := by decide +kernel
theorem dX6_addSight_40 : decode cX6_addSight 40 = .ok (.iastore, 1) := by decide +kernel
theorem dX6_addSight_41 : decode cX6_addSight 41 = .ok (.aload_n 0, 1) := by decide +kernel
theorem dX6_addSight_42 : decode cX6_addSight 42 = .ok (.getfield 21, 3) := by decide +kernel
theorem dX6_addSight_45 : decode cX6_addSight 45 = .ok (.aload_n 0, 1) := by decide +kernel
theorem dX6_addSight_46 : decode cX6_addSight 46 = .ok (.getfield 38, 3) := by decide +kernel
theorem dX6_addSight_49 : decode cX6_addSight 49 = .ok (.iload_n 3, 1) := by decide +kernel
theorem dX6_addSight_50 : decode cX6_addSight 50 = .ok (.iastore, 1) := by decide +kernel
theorem dX6_addSight_51 : decode cX6_addSight 51 = .ok (.aload_n 0, 1) := by decide +kernel
theorem dX6_addSight_52 : decode cX6_addSight 52 = .ok (.getfield 24, 3) := by decide +kernel
theorem dX6_addSight_55 : decode cX6_addSight 55 = .ok (.aload_n 0, 1) := by decide +kernel
theorem dX6_addSight_56 : decode cX6_addSight 56 = .ok (.getfield 38, 3) := by decide +kernel
theorem dX6_addSight_59 : decode cX6_addSight 59 = .ok (.iload 4, 2) := by decide +kernel
theorem dX6_addSight_61 : decode cX6_addSight 61 = .ok (.iastore, 1) := by decide +kernel
theorem dX6_addSight_62 : decode cX6_addSight 62 = .ok (.aload_n 0, 1) := by decide +kernel
theorem dX6_addSight_63 : decode cX6_addSight 63 = .ok (.getfield 27, 3) := by decide +kernel
theorem dX6_addSight_66 : decode cX6_addSight 66 = .ok (.aload_n 0, 1) := by decide +kernel
theorem dX6_addSight_67 : decode cX6_addSight 67 = .ok (.getfield 38, 3) := by decide +kernel
theorem dX6_addSight_70 : decode cX6_addSight 70 = .ok (.iload 5, 2) := by decide +kernel
theorem dX6_addSight_72 : decode cX6_addSight 72 = .ok (.bastore, 1) := by decide +kernel
theorem dX6_addSight_73 : decode cX6_addSight 73 = .ok (.aload_n 0, 1) := by decide +kernel
theorem dX6_addSight_74 : decode cX6_addSight 74 = .ok (.dup, 1) := by decide +kernel
theorem dX6_addSight_75 : decode cX6_addSight 75 = .ok (.getfield 38, 3) := by decide +kernel
theorem dX6_addSight_78 : decode cX6_addSight 78 = .ok (.iconst 1, 1) := by decide +kernel
theorem dX6_addSight_79 : decode cX6_addSight 79 = .ok (.iadd, 1) := by decide +kernel
theorem dX6_addSight_80 : decode cX6_addSight 80 = .ok (.putfield 38, 3) := by decide +kernel
theorem dX6_addSight_83 : decode cX6_addSight 83 = .ok (.aload_n 0, 1) := by decide +kernel
theorem dX6_addSight_84 : decode cX6_addSight 84 = .ok (.getfield 38, 3) := by decide +kernel
theorem dX6_addSight_87 : decode cX6_addSight 87 = .ok (.iconst 1, 1) := by decide +kernel
theorem dX6_addSight_88 : decode cX6_addSight 88 = .ok (.isub, 1) := by decide +kernel
theorem dX6_addSight_89 : decode cX6_addSight 89 = .ok (.ireturn, 1) := by decide +kernel
theorem dX6_addStrike_0 : decode cX6_addStrike 0 = .ok (.iload_n 1, 1) := by decide +kernel
theorem dX6_addStrike_1 : decode cX6_addStrike 1 = .ok (.ifCond .lt 20, 3) := by decide +kernel
theorem dX6_addStrike_4 : decode cX6_addStrike 4 = .ok (.iload_n 1, 1) := by decide +kernel
theorem dX6_addStrike_5 : decode cX6_addStrike 5 = .ok (.aload_n 0, 1) := by decide +kernel
theorem dX6_addStrike_6 : decode cX6_addStrike 6 = .ok (.getfield 38, 3) := by decide +kernel
theorem dX6_addStrike_9 : decode cX6_addStrike 9 = .ok (.if_icmp .ge 12, 3) := by decide +kernel
theorem dX6_addStrike_12 : decode cX6_addStrike 12 = .ok (.aload_n 0, 1) := by decide +kernel
theorem dX6_addStrike_13 : decode cX6_addStrike 13 = .ok (.getfield 38, 3) := by decide +kernel
theorem dX6_addStrike_16 : decode cX6_addStrike 16 = .ok (.bipush 24, 2) := by decide +kernel
theorem dX6_addStrike_18 : decode cX6_addStrike 18 = .ok (.if_icmp .lt 5, 3) := by decide +kernel
theorem dX6_addStrike_21 : decode cX6_addStrike 21 = .ok (.iconst (-1), 1) := by decide +kernel
theorem dX6_addStrike_22 : decode cX6_addStrike 22 = .ok (.ireturn, 1) := by decide +kernel
theorem dX6_addStrike_23 : decode cX6_addStrike 23 = .ok (.aload_n 0, 1) := by decide +kernel
theorem dX6_addStrike_24 : decode cX6_addStrike 24 = .ok (.getfield 11, 3) := by decide +kernel
theorem dX6_addStrike_27 : decode cX6_addStrike 27 = .ok (.aload_n 0, 1) := by decide +kernel
theorem dX6_addStrike_28 : decode cX6_addStrike 28 = .ok (.getfield 38, 3) := by decide +kernel
theorem dX6_addStrike_31 : decode cX6_addStrike 31 = .ok (.iload_n 1, 1) := by decide +kernel
theorem dX6_addStrike_32 : decode cX6_addStrike 32 = .ok (.iastore, 1) := by decide +kernel
theorem dX6_addStrike_33 : decode cX6_addStrike 33 = .ok (.aload_n 0, 1) := by decide +kernel
theorem dX6_addStrike_34 : decode cX6_addStrike 34 = .ok (.dup, 1) := by decide +kernel
theorem dX6_addStrike_35 : decode cX6_addStrike 35 = .ok (.getfield 38, 3) := by decide +kernel
theorem dX6_addStrike_38 : decode cX6_addStrike 38 = .ok (.iconst 1, 1) := by decide +kernel
theorem dX6_addStrike_39 : decode cX6_addStrike 39 = .ok (.iadd, 1) := by decide +kernel
theorem dX6_addStrike_40 : decode cX6_addStrike 40 = .ok (.putfield 38, 3) := by decide +kernel
theorem dX6_addStrike_43 : decode cX6_addStrike 43 = .ok (.aload_n 0, 1) := by decide +kernel
theorem dX6_addStrike_44 : decode cX6_addStrike 44 = .ok (.getfield 38, 3) := by decide +kernel
theorem dX6_addStrike_47 : decode cX6_addStrike 47 = .ok (.iconst 1, 1) := by decide +kernel
theorem dX6_addStrike_48 : decode cX6_addStrike 48 = .ok (.isub, 1) := by decide +kernel
theorem dX6_addStrike_49 : decode cX6_addStrike 49 = .ok (.ireturn, 1) := by decide +kernel
theorem dX6_limit_0 : decode cX6_limit 0 = .ok (.iload_n 1, 1) := by decide +kernel
theorem dX6_limit_1 : decode cX6_limit 1 = .ok (.iconst (-1), 1) := by decide +kernel
theorem dX6_limit_2 : decode cX6_limit 2 = .ok (.if_icmp .lt 11, 3) := by decide +kernel
theorem dX6_limit_5 : decode cX6_limit 5 = .ok (.iload_n 1, 1) := by decide +kernel
theorem dX6_limit_6 : decode cX6_limit 6 = .ok (.aload_n 0, 1) := by decide +kernel
theorem dX6_limit_7 : decode cX6_limit 7 = .ok (.getfield 38, 3) := by decide +kernel
theorem dX6_limit_10 : decode cX6_limit 10 = .ok (.if_icmp .le 5, 3) := by decide +kernel
theorem dX6_limit_13 : decode cX6_limit 13 = .ok (.iconst 0, 1) := by decide +kernel
theorem dX6_limit_14 : decode cX6_limit 14 = .ok (.ireturn, 1) := by decide +kernel
theorem dX6_limit_15 : decode cX6_limit 15 = .ok (.aload_n 0, 1) := by decide +kernel
theorem dX6_limit_16 : decode cX6_limit 16 = .ok (.iload_n 1, 1) := by decide +kernel
theorem dX6_limit_17 : decode cX6_limit 17 = .ok (.putfield 34, 3) := by decide +kernel
theorem dX6_limit_20 : decode cX6_limit 20 = .ok (.iconst 1, 1) := by decide +kernel
theorem dX6_limit_21 : decode cX6_limit 21 = .ok (.ireturn, 1) := by decide +kernel
theorem dX6_knownEntries_0 : decode cX6_knownEntries 0 = .ok (.aload_n 0, 1) := by decide +kernel
theorem dX6_knownEntries_1 : decode cX6_knownEntries 1 = .ok (.getfield 34, 3) := by decide +kernel
theorem dX6_knownEntries_4 : decode cX6_knownEntries 4 = .ok (.iconst (-1), 1) := by decide +kernel
theorem dX6_knownEntries_5 : decode cX6_knownEntries 5 = .ok (.if_icmp .ne 10, 3) := by decide +kernel
theorem dX6_knownEntries_8 : decode cX6_knownEntries 8 = .ok (.aload_n 0, 1) := by decide +kernel
theorem dX6_knownEntries_9 : decode cX6_knownEntries 9 = .ok (.getfield 38, 3) := by decide +kernel
theorem dX6_knownEntries_12 : decode cX6_knownEntries 12 = .ok (.goto 7, 3) := by decide +kernel
theorem dX6_knownEntries_15 : decode cX6_knownEntries 15 = .ok (.aload_n 0, 1) := by decide +kernel
theorem dX6_knownEntries_16 : decode cX6_knownEntries 16 = .ok (.getfield 34, 3) := by decide +kernel
theorem dX6_knownEntries_19 : decode cX6_knownEntries 19 = .ok (.ireturn, 1) := by decide +kernel
theorem dX6_settle_0 : decode cX6_settle 0 = .ok (.aload_n 0, 1) := by decide +kernel
theorem dX6_settle_1 : decode cX6_settle 1 = .ok (.invokevirtual 41, 3) := by decide +kernel
theorem dX6_settle_4 : decode cX6_settle 4 = .ok (.istore_n 1, 1) := by decide +kernel
theorem dX6_settle_5 : decode cX6_settle 5 = .ok (.iconst 0, 1) := by decide +kernel
theorem dX6_settle_6 : decode cX6_settle 6 = .ok (.istore_n 2, 1) := by decide +kernel
theorem dX6_settle_7 : decode cX6_settle 7 = .ok (.iload_n 2, 1) := by decide +kernel
theorem dX6_settle_8 : decode cX6_settle 8 = .ok (.bipush 24, 2) := by decide +kernel
theorem dX6_settle_10 : decode cX6_settle 10 = .ok (.if_icmp .ge 25, 3) := by decide +kernel
theorem dX6_settle_13 : decode cX6_settle 13 = .ok (.aload_n 0, 1) := by decide +kernel
theorem dX6_settle_14 : decode cX6_settle 14 = .ok (.getfield 31, 3) := by decide +kernel
theorem dX6_settle_17 : decode cX6_settle 17 = .ok (.iload_n 2, 1) := by decide +kernel
theorem dX6_settle_18 : decode cX6_settle 18 = .ok (.iload_n 2, 1) := by decide +kernel
theorem dX6_settle_19 : decode cX6_settle 19 = .ok (.iload_n 1, 1) := by decide +kernel
theorem dX6_settle_20 : decode cX6_settle 20 = .ok (.if_icmp .ge 7, 3) := by decide +kernel
theorem dX6_settle_23 : decode cX6_settle 23 = .ok (.iconst 1, 1) := by decide +kernel
theorem dX6_settle_24 : decode cX6_settle 24 = .ok (.goto 4, 3) := by decide +kernel
theorem dX6_settle_27 : decode cX6_settle 27 = .ok (.iconst 0, 1) := by decide +kernel
theorem dX6_settle_28 : decode cX6_settle 28 = .ok (.bastore, 1) := by decide +kernel
theorem dX6_settle_29 : decode cX6_settle 29 = .ok (.iinc 2 1, 3) := by decide +kernel
theorem dX6_settle_32 : decode cX6_settle 32 = .ok (.goto (-25), 3) := by decide +kernel
theorem dX6_settle_35 : decode cX6_settle 35 = .ok (.iload_n 1, 1) := by decide +kernel
theorem dX6_settle_36 : decode cX6_settle 36 = .ok (.iconst 1, 1) := by decide +kernel
theorem dX6_settle_37 : decode cX6_settle 37 = .ok (.isub, 1) := by decide +kernel
theorem dX6_settle_38 : decode cX6_settle 38 = .ok (.istore_n 2, 1) := by decide +kernel
theorem dX6_settle_39 : decode cX6_settle 39 = .ok (.iload_n 2, 1) := by decide +kernel
theorem dX6_settle_40 : decode cX6_settle 40 = .ok (.ifCond .lt 40, 3) := by decide +kernel
theorem dX6_settle_43 : decode cX6_settle 43 = .ok (.aload_n 0, 1) := by decide +kernel
theorem dX6_settle_44 : decode cX6_settle 44 = .ok (.getfield 31, 3) := by decide +kernel
theorem dX6_settle_47 : decode cX6_settle 47 = .ok (.iload_n 2, 1) := by decide +kernel
theorem dX6_settle_48 : decode cX6_settle 48 = .ok (.baload, 1) := by decide +kernel
theorem dX6_settle_49 : decode cX6_settle 49 = .ok (.ifCond .eq 25, 3) := by decide +kernel
theorem dX6_settle_52 : decode cX6_settle 52 = .ok (.aload_n 0, 1) := by decide +kernel
theorem dX6_settle_53 : decode cX6_settle 53 = .ok (.getfield 11, 3) := by decide +kernel
theorem dX6_settle_56 : decode cX6_settle 56 = .ok (.iload_n 2, 1) := by decide +kernel
theorem dX6_settle_57 : decode cX6_settle 57 = .ok (.iaload, 1) := by decide +kernel
theorem dX6_settle_58 : decode cX6_settle 58 = .ok (.iconst (-1), 1) := by decide +kernel
theorem dX6_settle_59 : decode cX6_settle 59 = .ok (.if_icmp .eq 15, 3) := by decide +kernel
theorem dX6_settle_62 : decode cX6_settle 62 = .ok (.aload_n 0, 1) := by decide +kernel
theorem dX6_settle_63 : decode cX6_settle 63 = .ok (.getfield 31, 3) := by decide +kernel
theorem dX6_settle_66 : decode cX6_settle 66 = .ok (.aload_n 0, 1) := by decide +kernel
theorem dX6_settle_67 : decode cX6_settle 67 = .ok (.getfield 11, 3) := by decide +kernel
theorem dX6_settle_70 : decode cX6_settle 70 = .ok (.iload_n 2, 1) := by decide +kernel
theorem dX6_settle_71 : decode cX6_settle 71 = .ok (.iaload, 1) := by decide +kernel
theorem dX6_settle_72 : decode cX6_settle 72 = .ok (.iconst 0, 1) := by decide +kernel
theorem dX6_settle_73 : decode cX6_settle 73 = .ok (.bastore, 1) := by decide +kernel
theorem dX6_settle_74 : decode cX6_settle 74 = .ok (.iinc 2 (-1), 3) := by decide +kernel
theorem dX6_settle_77 : decode cX6_settle 77 = .ok (.goto (-38), 3) := by decide +kernel
theorem dX6_settle_80 : decode cX6_settle 80 = .ok (.return_, 1) := by decide +kernel
theorem dX6_nextYear_0 : decode cX6_nextYear 0 = .ok (.iconst (-1), 1) := by decide +kernel
theorem dX6_nextYear_1 : decode cX6_nextYear 1 = .ok (.istore_n 2, 1) := by decide +kernel
theorem dX6_nextYear_2 : decode cX6_nextYear 2 = .ok (.iconst 0, 1) := by decide +kernel
theorem dX6_nextYear_3 : decode cX6_nextYear 3 = .ok (.istore_n 3, 1) := by decide +kernel
theorem dX6_nextYear_4 : decode cX6_nextYear 4 = .ok (.iload_n 3, 1) := by decide +kernel
theorem dX6_nextYear_5 : decode cX6_nextYear 5 = .ok (.aload_n 0, 1) := by decide +kernel
theorem dX6_nextYear_6 : decode cX6_nextYear 6 = .ok (.getfield 38, 3) := by decide +kernel
theorem dX6_nextYear_9 : decode cX6_nextYear 9 = .ok (.if_icmp .ge 72, 3) := by decide +kernel
theorem dX6_nextYear_12 : decode cX6_nextYear 12 = .ok (.aload_n 0, 1) := by decide +kernel
theorem dX6_nextYear_13 : decode cX6_nextYear 13 = .ok (.getfield 31, 3) := by decide +kernel
theorem dX6_nextYear_16 : decode cX6_nextYear 16 = .ok (.iload_n 3, 1) := by decide +kernel
theorem dX6_nextYear_17 : decode cX6_nextYear 17 = .ok (.baload, 1) := by decide +kernel
theorem dX6_nextYear_18 : decode cX6_nextYear 18 = .ok (.ifCond .eq 27, 3) := by decide +kernel
theorem dX6_nextYear_21 : decode cX6_nextYear 21 = .ok (.aload_n 0, 1) := by decide +kernel
theorem dX6_nextYear_22 : decode cX6_nextYear 22 = .ok (.getfield 11, 3) := by decide +kernel
theorem dX6_nextYear_25 : decode cX6_nextYear 25 = .ok (.iload_n 3, 1) := by decide +kernel
theorem dX6_nextYear_26 : decode cX6_nextYear 26 = .ok (.iaload, 1) := by decide +kernel
theorem dX6_nextYear_27 : decode cX6_nextYear 27 = .ok (.iconst (-1), 1) := by decide +kernel
theorem dX6_nextYear_28 : decode cX6_nextYear 28 = .ok (.if_icmp .ne 17, 3) := by decide +kernel
theorem dX6_nextYear_31 : decode cX6_nextYear 31 = .ok (.aload_n 0, 1) := by decide +kernel
theorem dX6_nextYear_32 : decode cX6_nextYear 32 = .ok (.getfield 15, 3) := by decide +kernel
theorem dX6_nextYear_35 : decode cX6_nextYear 35 = .ok (.iload_n 3, 1) := by decide +kernel
theorem dX6_nextYear_36 : decode cX6_nextYear 36 = .ok (.iaload, 1) := by decide +kernel
theorem dX6_nextYear_37 : decode cX6_nextYear 37 = .ok (.iload_n 1, 1) := by decide +kernel
theorem dX6_nextYear_38 : decode cX6_nextYear 38 = .ok (.if_icmp .le 7, 3) := by decide +kernel
theorem dX6_nextYear_41 : decode cX6_nextYear 41 = .ok (.iconst 1, 1) := by decide +kernel
theorem dX6_nextYear_42 : decode cX6_nextYear 42 = .ok (.goto 4, 3) := by decide +kernel
theorem dX6_nextYear_45 : decode cX6_nextYear 45 = .ok (.iconst 0, 1) := by decide +kernel
theorem dX6_nextYear_46 : decode cX6_nextYear 46 = .ok (.istore 4, 2) := by decide +kernel
theorem dX6_nextYear_48 : decode cX6_nextYear 48 = .ok (.iload 4, 2) := by decide +kernel
theorem dX6_nextYear_50 : decode cX6_nextYear 50 = .ok (.ifCond .eq 25, 3) := by decide +kernel
theorem dX6_nextYear_53 : decode cX6_nextYear 53 = .ok (.iload_n 2, 1) := by decide +kernel
theorem dX6_nextYear_54 : decode cX6_nextYear 54 = .ok (.iconst (-1), 1) := by decide +kernel
theorem dX6_nextYear_55 : decode cX6_nextYear 55 = .ok (.if_icmp .eq 13, 3) := by decide +kernel
theorem dX6_nextYear_58 : decode cX6_nextYear 58 = .ok (.aload_n 0, 1) := by decide +kernel
theorem dX6_nextYear_59 : decode cX6_nextYear 59 = .ok (.getfield 15, 3) := by decide +kernel
theorem dX6_nextYear_62 : decode cX6_nextYear 62 = .ok (.iload_n 3, 1) := by decide +kernel
theorem dX6_nextYear_63 : decode cX6_nextYear 63 = .ok (.iaload, 1) := by decide +kernel
theorem dX6_nextYear_64 : decode cX6_nextYear 64 = .ok (.iload_n 2, 1) := by decide +kernel
theorem dX6_nextYear_65 : decode cX6_nextYear 65 = .ok (.if_icmp .ge 10, 3) := by decide +kernel
theorem dX6_nextYear_68 : decode cX6_nextYear 68 = .ok (.aload_n 0, 1) := by decide +kernel
theorem dX6_nextYear_69 : decode cX6_nextYear 69 = .ok (.getfield 15, 3) := by decide +kernel
theorem dX6_nextYear_72 : decode cX6_nextYear 72 = .ok (.iload_n 3, 1) := by decide +kernel
theorem dX6_nextYear_73 : decode cX6_nextYear 73 = .ok (.iaload, 1) := by decide +kernel
theorem dX6_nextYear_74 : decode cX6_nextYear 74 = .ok (.istore_n 2, 1) := by decide +kernel
theorem dX6_nextYear_75 : decode cX6_nextYear 75 = .ok (.iinc 3 1, 3) := by decide +kernel
theorem dX6_nextYear_78 : decode cX6_nextYear 78 = .ok (.goto (-74), 3) := by decide +kernel
theorem dX6_nextYear_81 : decode cX6_nextYear 81 = .ok (.iload_n 2, 1) := by decide +kernel
theorem dX6_nextYear_82 : decode cX6_nextYear 82 = .ok (.ireturn, 1) := by decide +kernel
theorem dX6_agrees_0 : decode cX6_agrees 0 = .ok (.iconst 0, 1) := by decide +kernel
theorem dX6_agrees_1 : decode cX6_agrees 1 = .ok (.istore_n 2, 1) := by decide +kernel
theorem dX6_agrees_2 : decode cX6_agrees 2 = .ok (.iload_n 2, 1) := by decide +kernel
theorem dX6_agrees_3 : decode cX6_agrees 3 = .ok (.aload_n 0, 1) := by decide +kernel
theorem dX6_agrees_4 : decode cX6_agrees 4 = .ok (.getfield 38, 3) := by decide +kernel
theorem dX6_agrees_7 : decode cX6_agrees 7 = .ok (.if_icmp .ge 84, 3) := by decide +kernel
theorem dX6_agrees_10 : decode cX6_agrees 10 = .ok (.aload_n 0, 1) := by decide +kernel
theorem dX6_agrees_11 : decode cX6_agrees 11 = .ok (.getfield 31, 3) := by decide +kernel
theorem dX6_agrees_14 : decode cX6_agrees 14 = .ok (.iload_n 2, 1) := by decide +kernel
theorem dX6_agrees_15 : decode cX6_agrees 15 = .ok (.baload, 1) := by decide +kernel
theorem dX6_agrees_16 : decode cX6_agrees 16 = .ok (.ifCond .eq 30, 3) := by decide +kernel
theorem dX6_agrees_19 : decode cX6_agrees 19 = .ok (.aload_n 0, 1) := by decide +kernel
theorem dX6_agrees_20 : decode cX6_agrees 20 = .ok (.getfield 11, 3) := by decide +kernel
theorem dX6_agrees_23 : decode cX6_agrees 23 = .ok (.iload_n 2, 1) := by decide +kernel
theorem dX6_agrees_24 : decode cX6_agrees 24 = .ok (.iaload, 1) := by decide +kernel
theorem dX6_agrees_25 : decode cX6_agrees 25 = .ok (.iconst (-1), 1) := by decide +kernel
theorem dX6_agrees_26 : decode cX6_agrees 26 = .ok (.if_icmp .ne 20, 3) := by decide +kernel
theorem dX6_agrees_29 : decode cX6_agrees 29 = .ok (.aload_n 0, 1) := by decide +kernel
theorem dX6_agrees_30 : decode cX6_agrees 30 = .ok (.getfield 15, 3) := by decide +kernel
theorem dX6_agrees_33 : decode cX6_agrees 33 = .ok (.iload_n 2, 1) := by decide +kernel
theorem dX6_agrees_34 : decode cX6_agrees 34 = .ok (.iaload, 1) := by decide +kernel
theorem dX6_agrees_35 : decode cX6_agrees 35 = .ok (.aload_n 1, 1) := by decide +kernel
theorem dX6_agrees_36 : decode cX6_agrees 36 = .ok (.getfield 45, 3) := by decide +kernel
theorem dX6_agrees_39 : decode cX6_agrees 39 = .ok (.if_icmp .ne 7, 3) := by decide +kernel
theorem dX6_agrees_42 : decode cX6_agrees 42 = .ok (.iconst 1, 1) := by decide +kernel
theorem dX6_agrees_43 : decode cX6_agrees 43 = .ok (.goto 4, 3) := by decide +kernel
theorem dX6_agrees_46 : decode cX6_agrees 46 = .ok (.iconst 0, 1) := by decide +kernel
theorem dX6_agrees_47 : decode cX6_agrees 47 = .ok (.istore_n 3, 1) := by decide +kernel
theorem dX6_agrees_48 : decode cX6_agrees 48 = .ok (.iload_n 3, 1) := by decide +kernel
theorem dX6_agrees_49 : decode cX6_agrees 49 = .ok (.ifCond .eq 36, 3) := by decide +kernel
theorem dX6_agrees_52 : decode cX6_agrees 52 = .ok (.aload_n 1, 1) := by decide +kernel
theorem dX6_agrees_53 : decode cX6_agrees 53 = .ok (.aload_n 0, 1) := by decide +kernel
theorem dX6_agrees_54 : decode cX6_agrees 54 = .ok (.getfield 18, 3) := by decide +kernel
theorem dX6_agrees_57 : decode cX6_agrees 57 = .ok (.iload_n 2, 1) := by decide +kernel
theorem dX6_agrees_58 : decode cX6_agrees 58 = .ok (.iaload, 1) := by decide +kernel
theorem dX6_agrees_59 : decode cX6_agrees 59 = .ok (.aload_n 0, 1) := by decide +kernel
theorem dX6_agrees_60 : decode cX6_agrees 60 = .ok (.getfield 21, 3) := by decide +kernel
theorem dX6_agrees_63 : decode cX6_agrees 63 = .ok (.iload_n 2, 1) := by decide +kernel
theorem dX6_agrees_64 : decode cX6_agrees 64 = .ok (.iaload, 1) := by decide +kernel
theorem dX6_agrees_65 : decode cX6_agrees 65 = .ok (.aload_n 0, 1) := by decide +kernel
theorem dX6_agrees_66 : decode cX6_agrees 66 = .ok (.getfield 24, 3) := by decide +kernel
theorem dX6_agrees_69 : decode cX6_agrees 69 = .ok (.iload_n 2, 1) := by decide +kernel
theorem dX6_agrees_70 : decode cX6_agrees 70 = .ok (.iaload, 1) := by decide +kernel
theorem dX6_agrees_71 : decode cX6_agrees 71 = .ok (.invokevirtual 49, 3) := by decide +kernel
theorem dX6_agrees_74 : decode cX6_agrees 74 = .ok (.aload_n 0, 1) := by decide +kernel
theorem dX6_agrees_75 : decode cX6_agrees 75 = .ok (.getfield 27, 3) := by decide +kernel
theorem dX6_agrees_78 : decode cX6_agrees 78 = .ok (.iload_n 2, 1) := by decide +kernel
theorem dX6_agrees_79 : decode cX6_agrees 79 = .ok (.baload, 1) := by decide +kernel
theorem dX6_agrees_80 : decode cX6_agrees 80 = .ok (.if_icmp .eq 5, 3) := by decide +kernel
theorem dX6_agrees_83 : decode cX6_agrees 83 = .ok (.iconst 0, 1) := by decide +kernel
theorem dX6_agrees_84 : decode cX6_agrees 84 = .ok (.ireturn, 1) := by decide +kernel
theorem dX6_agrees_85 : decode cX6_agrees 85 = .ok (.iinc 2 1, 3) := by decide +kernel
theorem dX6_agrees_88 : decode cX6_agrees 88 = .ok (.goto (-86), 3) := by decide +kernel
theorem dX6_agrees_91 : decode cX6_agrees 91 = .ok (.iconst 1, 1) := by decide +kernel
theorem dX6_agrees_92 : decode cX6_agrees 92 = .ok (.ireturn, 1) := by decide +kernel
theorem dX7_init_0 : decode cX7_init 0 = .ok (.aload_n 0, 1) := by decide +kernel
theorem dX7_init_1 : decode cX7_init 1 = .ok (.invokespecial 3, 3) := by decide +kernel
theorem dX7_init_4 : decode cX7_init 4 = .ok (.aload_n 0, 1) := by decide +kernel
theorem dX7_init_5 : decode cX7_init 5 = .ok (.aload_n 1, 1) := by decide +kernel
theorem dX7_init_6 : decode cX7_init 6 = .ok (.putfield 9, 3) := by decide +kernel
theorem dX7_init_9 : decode cX7_init 9 = .ok (.aload_n 0, 1) := by decide +kernel
theorem dX7_init_10 : decode cX7_init 10 = .ok (.bipush 72, 2) := by decide +kernel
theorem dX7_init_12 : decode cX7_init 12 = .ok (.newarray .int, 2) := by decide +kernel
theorem dX7_init_14 : decode cX7_init 14 = .ok (.putfield 17, 3) := by decide +kernel
theorem dX7_init_17 : decode cX7_init 17 = .ok (.return_, 1) := by decide +kernel
theorem dX7_reads_0 : decode cX7_reads 0 = .ok (.aload_n 1, 1) := by decide +kernel
theorem dX7_reads_1 : decode cX7_reads 1 = .ok (.getfield 21, 3) := by decide +kernel
theorem dX7_reads_4 : decode cX7_reads 4 = .ok (.iload_n 2, 1) := by decide +kernel
theorem dX7_reads_5 : decode cX7_reads 5 = .ok (.aload_n 1, 1) := by decide +kernel
theorem dX7_reads_6 : decode cX7_reads 6 = .ok (.getfield 24, 3) := by decide +kernel
theorem dX7_reads_9 : decode cX7_reads 9 = .ok (.iastore, 1) := by decide +kernel
theorem dX7_reads_10 : decode cX7_reads 10 = .ok (.aload_n 0, 1) := by decide +kernel
theorem dX7_reads_11 : decode cX7_reads 11 = .ok (.aload_n 1, 1) := by decide +kernel
theorem dX7_reads_12 : decode cX7_reads 12 = .ok (.getfield 24, 3) := by decide +kernel
theorem dX7_reads_15 : decode cX7_reads 15 = .ok (.putfield 28, 3) := by decide +kernel
theorem dX7_reads_18 : decode cX7_reads 18 = .ok (.aload_n 0, 1) := by decide +kernel
theorem dX7_reads_19 : decode cX7_reads 19 = .ok (.iconst 0, 1) := by decide +kernel
theorem dX7_reads_20 : decode cX7_reads 20 = .ok (.putfield 31, 3) := by decide +kernel
theorem dX7_reads_23 : decode cX7_reads 23 = .ok (.aload_n 0, 1) := by decide +kernel
theorem dX7_reads_24 : decode cX7_reads 24 = .ok (.iconst 0, 1) := by decide +kernel
theorem dX7_reads_25 : decode cX7_reads 25 = .ok (.putfield 34, 3) := by decide +kernel
theorem dX7_reads_28 : decode cX7_reads 28 = .ok (.iconst 1, 1) := by decide +kernel
theorem dX7_reads_29 : decode cX7_reads 29 = .ok (.istore_n 3, 1) := by decide +kernel
theorem dX7_reads_30 : decode cX7_reads 30 = .ok (.iconst 0, 1) := by decide +kernel
theorem dX7_reads_31 : decode cX7_reads 31 = .ok (.istore 4, 2) := by decide +kernel
theorem dX7_reads_33 : decode cX7_reads 33 = .ok (.iload 4, 2) := by decide +kernel
theorem dX7_reads_35 : decode cX7_reads 35 = .ok (.sipush 700, 3) := by decide +kernel
theorem dX7_reads_38 : decode cX7_reads 38 = .ok (.if_icmp .gt 126, 3) := by decide +kernel
theorem dX7_reads_41 : decode cX7_reads 41 = .ok (.aload_n 0, 1) := by decide +kernel
theorem dX7_reads_42 : decode cX7_reads 42 = .ok (.getfield 9, 3) := by decide +kernel
theorem dX7_reads_45 : decode cX7_reads 45 = .ok (.getfield 37, 3) := by decide +kernel
theorem dX7_reads_48 : decode cX7_reads 48 = .ok (.istore 5, 2) := by decide +kernel
theorem dX7_reads_50 : decode cX7_reads 50 = .ok (.iload_n 3, 1) := by decide +kernel
theorem dX7_reads_51 : decode cX7_reads 51 = .ok (.ifCond .ne 35, 3) := by decide +kernel
theorem dX7_reads_54 : decode cX7_reads 54 = .ok (.iload 5, 2) := by decide +kernel
theorem dX7_reads_56 : decode cX7_reads 56 = .ok (.bipush 23, 2) := by decide +kernel
theorem dX7_reads_58 : decode cX7_reads 58 = .ok (.if_icmp .ne 28, 3) := by decide +kernel
theorem dX7_reads_61 : decode cX7_reads 61 = .ok (.aload_n 0, 1) := by decide +kernel
theorem dX7_reads_62 : decode cX7_reads 62 = .ok (.getfield 34, 3) := by decide +kernel
theorem dX7_reads_65 : decode cX7_reads 65 = .ok (.ifCond .ne 21, 3) := by decide +kernel
theorem dX7_reads_68 : decode cX7_reads 68 = .ok (.aload_n 0, 1) := by decide +kernel
theorem dX7_reads_69 : decode cX7_reads 69 = .ok (.aload_n 1, 1) := by decide +kernel
theorem dX7_reads_70 : decode cX7_reads 70 = .ok (.iconst 0, 1) := by decide +kernel
theorem dX7_reads_71 : decode cX7_reads 71 = .ok (.invokevirtual 42, 3) := by decide +kernel
theorem dX7_reads_74 : decode cX7_reads 74 = .ok (.aload_n 1, 1) := by decide +kernel
theorem dX7_reads_75 : decode cX7_reads 75 = .ok (.getfield 46, 3) := by decide +kernel
theorem dX7_reads_78 : decode cX7_reads 78 = .ok (.iload_n 2, 1) := by decide +kernel
theorem dX7_reads_79 : decode cX7_reads 79 = .ok (.aload_n 1, 1) := by decide +kernel
theorem dX7_reads_80 : decode cX7_reads 80 = .ok (.getfield 24, 3) := by decide +kernel
theorem dX7_reads_83 : decode cX7_reads 83 = .ok (.iastore, 1) := by decide +kernel
theorem dX7_reads_84 : decode cX7_reads 84 = .ok (.iconst 1, 1) := by decide +kernel
theorem dX7_reads_85 : decode cX7_reads 85 = .ok (.ireturn, 1) := by decide +kernel
theorem dX7_reads_86 : decode cX7_reads 86 = .ok (.iload_n 3, 1) := by decide +kernel
theorem dX7_reads_87 : decode cX7_reads 87 = .ok (.ifCond .eq 14, 3) := by decide +kernel
theorem dX7_reads_90 : decode cX7_reads 90 = .ok (.aload_n 0, 1) := by decide +kernel
theorem dX7_reads_91 : decode cX7_reads 91 = .ok (.aload_n 1, 1) := by decide +kernel
theorem dX7_reads_92 : decode cX7_reads 92 = .ok (.invokevirtual 49, 3) := by decide +kernel
theorem dX7_reads_95 : decode cX7_reads 95 = .ok (.ifCond .eq 14, 3) := by decide +kernel
theorem dX7_reads_98 : decode cX7_reads 98 = .ok (.goto 13, 3) := by decide +kernel
theorem dX7_reads_101 : decode cX7_reads 101 = .ok (.aload_n 0, 1) := by decide +kernel
theorem dX7_reads_102 : decode cX7_reads 102 = .ok (.aload_n 1, 1) := by decide +kernel
theorem dX7_reads_103 : decode cX7_reads 103 = .ok (.invokevirtual 53, 3) := by decide +kernel
theorem dX7_reads_106 : decode cX7_reads 106 = .ok (.ifCond .ne 5, 3) := by decide +kernel
theorem dX7_reads_109 : decode cX7_reads 109 = .ok (.iconst 0, 1) := by decide +kernel
theorem dX7_reads_110 : decode cX7_reads 110 = .ok (.ireturn, 1) := by decide +kernel
theorem dX7_reads_111 : decode cX7_reads 111 = .ok (.iload 5, 2) := by decide +kernel
theorem dX7_reads_113 : decode cX7_reads 113 = .ok (.bipush 22, 2) := by decide +kernel
theorem dX7_reads_115 : decode cX7_reads 115 = .ok (.if_icmp .eq 18, 3) := by decide +kernel
theorem dX7_reads_118 : decode cX7_reads 118 = .ok (.iload 5, 2) := by decide +kernel
theorem dX7_reads_120 : decode cX7_reads 120 = .ok (.invokestatic 56, 3) := by decide +kernel
theorem dX7_reads_123 : decode cX7_reads 123 = .ok (.ifCond .ne 10, 3) := by decide +kernel
theorem dX7_reads_126 : decode cX7_reads 126 = .ok (.iload 5, 2) := by decide +kernel
theorem dX7_reads_128 : decode cX7_reads 128 = .ok (.bipush 25, 2) := by decide +kernel
theorem dX7_reads_130 : decode cX7_reads 130 = .ok (.if_icmp .ne 7, 3) := by decide +kernel
theorem dX7_reads_133 : decode cX7_reads 133 = .ok (.iconst 1, 1) := by decide +kernel
theorem dX7_reads_134 : decode cX7_reads 134 = .ok (.goto 4, 3) := by decide +kernel
theorem dX7_reads_137 : decode cX7_reads 137 = .ok (.iconst 0, 1) := by decide +kernel
theorem dX7_reads_138 : decode cX7_reads 138 = .ok (.istore 6, 2) := by decide +kernel
theorem dX7_reads_140 : decode cX7_reads 140 = .ok (.iload 6, 2) := by decide +kernel
theorem dX7_reads_142 : decode cX7_reads 142 = .ok (.ifCond .ne 7, 3) := by decide +kernel
theorem dX7_reads_145 : decode cX7_reads 145 = .ok (.iconst 1, 1) := by decide +kernel
theorem dX7_reads_146 : decode cX7_reads 146 = .ok (.goto 4, 3) := by decide +kernel
theorem dX7_reads_149 : decode cX7_reads 149 = .ok (.iconst 0, 1) := by decide +kernel
theorem dX7_reads_150 : decode cX7_reads 150 = .ok (.istore_n 3, 1) := by decide +kernel
theorem dX7_reads_151 : decode cX7_reads 151 = .ok (.aload_n 0, 1) := by decide +kernel
theorem dX7_reads_152 : decode cX7_reads 152 = .ok (.getfield 9, 3) := by decide +kernel
theorem dX7_reads_155 : decode cX7_reads 155 = .ok (.invokevirtual 60, 3) := by decide +kernel
theorem dX7_reads_158 : decode cX7_reads 158 = .ok (.iinc 4 1, 3) := by decide +kernel
theorem dX7_reads_161 : decode cX7_reads 161 = .ok (.goto (-128), 3) := by decide +kernel
theorem dX7_reads_164 : decode cX7_reads 164 = .ok (.aload_n 0, 1) := by decide +kernel
theorem dX7_reads_165 : decode cX7_reads 165 = .ok (.getfield 9, 3) := by decide +kernel
theorem dX7_reads_168 : decode cX7_reads 168 = .ok (.iconst 1, 1) := by decide +kernel
theorem dX7_reads_169 : decode cX7_reads 169 = .ok (.invokevirtual 63, 3) := by decide +kernel
theorem dX7_reads_172 : decode cX7_reads 172 = .ok (.ireturn, 1) := by decide +kernel
theorem dX7_startsPart_0 : decode cX7_startsPart 0 = .ok (.aload_n 0, 1) := by decide +kernel
theorem dX7_startsPart_1 : decode cX7_startsPart 1 = .ok (.getfield 9, 3) := by decide +kernel
theorem dX7_startsPart_4 : decode cX7_startsPart 4 = .ok (.getfield 37, 3) := by decide +kernel
theorem dX7_startsPart_7 : decode cX7_startsPart 7 = .ok (.istore_n 2, 1) := by decide +kernel
theorem dX7_startsPart_8 : decode cX7_startsPart 8 = .ok (.iload_n 2, 1) := by decide +kernel
theorem dX7_startsPart_9 : decode cX7_startsPart 9 = .ok (.bipush 22, 2) := by decide +kernel
theorem dX7_startsPart_11 : decode cX7_startsPart 11 = .ok (.if_icmp .ne 55, 3) := by decide +kernel
theorem dX7_startsPart_14 : decode cX7_startsPart 14 = .ok (.aload_n 0, 1) := by decide +kernel
theorem dX7_startsPart_15 : decode cX7_startsPart 15 = .ok (.getfield 9, 3) := by decide +kernel
theorem dX7_startsPart_18 : decode cX7_startsPart 18 = .ok (.getfield 66, 3) := by decide +kernel
theorem dX7_startsPart_21 : decode cX7_startsPart 21 = .ok (.sipush 9999, 3) := by decide +kernel
theorem dX7_startsPart_24 : decode cX7_startsPart 24 = .ok (.if_icmp .le 14, 3) := by decide +kernel
theorem dX7_startsPart_27 : decode cX7_startsPart 27 = .ok (.aload_n 0, 1) := by decide +kernel
theorem dX7_startsPart_28 : decode cX7_startsPart 28 = .ok (.getfield 9, 3) := by decide +kernel
theorem dX7_startsPart_31 : decode cX7_startsPart 31 = .ok (.iconst 2, 1) := by decide +kernel
theorem dX7_startsPart_32 : decode cX7_startsPart 32 = .ok (.invokevirtual 63, 3) := by decide +kernel
theorem dX7_startsPart_35 : decode cX7_startsPart 35 = .ok (.goto 30, 3) := by decide +kernel
theorem dX7_startsPart_38 : decode cX7_startsPart 38 = .ok (.aload_n 0, 1) := by decide +kernel
theorem dX7_startsPart_39 : decode cX7_startsPart 39 = .ok (.invokevirtual 69, 3) := by decide +kernel
theorem dX7_startsPart_42 : decode cX7_startsPart 42 = .ok (.ifCond .eq 22, 3) := by decide +kernel
theorem dX7_startsPart_45 : decode cX7_startsPart 45 = .ok (.aload_n 0, 1) := by decide +kernel
theorem dX7_startsPart_46 : decode cX7_startsPart 46 = .ok (.aload_n 1, 1) := by decide +kernel
theorem dX7_startsPart_47 : decode cX7_startsPart 47 = .ok (.aload_n 0, 1) := by decide +kernel
theorem dX7_startsPart_48 : decode cX7_startsPart 48 = .ok (.getfield 9, 3) := by decide +kernel
theorem dX7_startsPart_51 : decode cX7_startsPart 51 = .ok (.getfield 66, 3) := by decide +kernel
theorem dX7_startsPart_54 : decode cX7_startsPart 54 = .ok (.invokevirtual 73, 3) := by decide +kernel
theorem dX7_startsPart_57 : decode cX7_startsPart 57 = .ok (.ifCond .eq 7, 3) := by decide +kernel
theorem dX7_startsPart_60 : decode cX7_startsPart 60 = .ok (.iconst 1, 1) := by decide +kernel
theorem dX7_startsPart_61 : decode cX7_startsPart 61 = .ok (.goto 4, 3) := by decide +kernel
theorem dX7_startsPart_64 : decode cX7_startsPart 64 = .ok (.iconst 0, 1) := by decide +kernel
theorem dX7_startsPart_65 : decode cX7_startsPart 65 = .ok (.ireturn, 1) := by decide +kernel
theorem dX7_startsPart_66 : decode cX7_startsPart 66 = .ok (.iload_n 2, 1) := by decide +kernel
theorem dX7_startsPart_67 : decode cX7_startsPart 67 = .ok (.invokestatic 56, 3) := by decide +kernel
theorem dX7_startsPart_70 : decode cX7_startsPart 70 = .ok (.ifCond .eq 26, 3) := by decide +kernel
theorem dX7_startsPart_73 : decode cX7_startsPart 73 = .ok (.aload_n 0, 1) := by decide +kernel
theorem dX7_startsPart_74 : decode cX7_startsPart 74 = .ok (.invokevirtual 69, 3) := by decide +kernel
theorem dX7_startsPart_77 : decode cX7_startsPart 77 = .ok (.ifCond .eq 17, 3) := by decide +kernel
theorem dX7_startsPart_80 : decode cX7_startsPart 80 = .ok (.aload_n 0, 1) := by decide +kernel
theorem dX7_startsPart_81 : decode cX7_startsPart 81 = .ok (.aload_n 1, 1) := by decide +kernel
theorem dX7_startsPart_82 : decode cX7_startsPart 82 = .ok (.iload_n 2, 1) := by decide +kernel
theorem dX7_startsPart_83 : decode cX7_startsPart 83 = .ok (.ineg, 1) := by decide +kernel
theorem dX7_startsPart_84 : decode cX7_startsPart 84 = .ok (.invokevirtual 73, 3) := by decide +kernel
theorem dX7_startsPart_87 : decode cX7_startsPart 87 = .ok (.ifCond .eq 7, 3) := by decide +kernel
theorem dX7_startsPart_90 : decode cX7_startsPart 90 = .ok (.iconst 1, 1) := by decide +kernel
theorem dX7_startsPart_91 : decode cX7_startsPart 91 = .ok (.goto 4, 3) := by decide +kernel
theorem dX7_startsPart_94 : decode cX7_startsPart 94 = .ok (.iconst 0, 1) := by decide +kernel
theorem dX7_startsPart_95 : decode cX7_startsPart 95 = .ok (.ireturn, 1) := by decide +kernel
theorem dX7_startsPart_96 : decode cX7_startsPart 96 = .ok (.iload_n 2, 1) := by decide +kernel
theorem dX7_startsPart_97 : decode cX7_startsPart 97 = .ok (.bipush 13, 2) := by decide +kernel
theorem dX7_startsPart_99 : decode cX7_startsPart 99 = .ok (.if_icmp .ne 43, 3) := by decide +kernel
theorem dX7_startsPart_102 : decode cX7_startsPart 102 = .ok (.aload_n 0, 1) := by decide +kernel
theorem dX7_startsPart_103 : decode cX7_startsPart 103 = .ok (.invokevirtual 77, 3) := by decide +kernel
theorem dX7_startsPart_106 : decode cX7_startsPart 106 = .ok (.iconst 3, 1) := by decide +kernel
theorem dX7_startsPart_107 : decode cX7_startsPart 107 = .ok (.if_icmp .le 14, 3) := by decide +kernel
theorem dX7_startsPart_110 : decode cX7_startsPart 110 = .ok (.aload_n 0, 1) := by decide +kernel
theorem dX7_startsPart_111 : decode cX7_startsPart 111 = .ok (.getfield 9, 3) := by decide +kernel
theorem dX7_startsPart_114 : decode cX7_startsPart 114 = .ok (.iconst 1, 1) := by decide +kernel
theorem dX7_startsPart_115 : decode cX7_startsPart 115 = .ok (.invokevirtual 63, 3) := by decide +kernel
theorem dX7_startsPart_118 : decode cX7_startsPart 118 = .ok (.goto 23, 3) := by decide +kernel
theorem dX7_startsPart_121 : decode cX7_startsPart 121 = .ok (.aload_n 0, 1) := by decide +kernel
theorem dX7_startsPart_122 : decode cX7_startsPart 122 = .ok (.invokevirtual 69, 3) := by decide +kernel
theorem dX7_startsPart_125 : decode cX7_startsPart 125 = .ok (.ifCond .eq 15, 3) := by decide +kernel
theorem dX7_startsPart_128 : decode cX7_startsPart 128 = .ok (.aload_n 0, 1) := by decide +kernel
theorem dX7_startsPart_129 : decode cX7_startsPart 129 = .ok (.iload_n 2, 1) := by decide +kernel
theorem dX7_startsPart_130 : decode cX7_startsPart 130 = .ok (.invokevirtual 81, 3) := by decide +kernel
theorem dX7_startsPart_133 : decode cX7_startsPart 133 = .ok (.ifCond .eq 7, 3) := by decide +kernel
theorem dX7_startsPart_136 : decode cX7_startsPart 136 = .ok (.iconst 1, 1) := by decide +kernel
theorem dX7_startsPart_137 : decode cX7_startsPart 137 = .ok (.goto 4, 3) := by decide +kernel
theorem dX7_startsPart_140 : decode cX7_startsPart 140 = .ok (.iconst 0, 1) := by decide +kernel
theorem dX7_startsPart_141 : decode cX7_startsPart 141 = .ok (.ireturn, 1) := by decide +kernel
theorem dX7_startsPart_142 : decode cX7_startsPart 142 = .ok (.iload_n 2, 1) := by decide +kernel
theorem dX7_startsPart_143 : decode cX7_startsPart 143 = .ok (.bipush 24, 2) := by decide +kernel
theorem dX7_startsPart_145 : decode cX7_startsPart 145 = .ok (.if_icmp .eq 12, 3) := by decide +kernel
theorem dX7_startsPart_148 : decode cX7_startsPart 148 = .ok (.aload_n 0, 1) := by decide +kernel
theorem dX7_startsPart_149 : decode cX7_startsPart 149 = .ok (.getfield 9, 3) := by decide +kernel
theorem dX7_startsPart_152 : decode cX7_startsPart 152 = .ok (.iconst 1, 1) := by decide +kernel
theorem dX7_startsPart_153 : decode cX7_startsPart 153 = .ok (.invokevirtual 63, 3) := by decide +kernel
theorem dX7_startsPart_156 : decode cX7_startsPart 156 = .ok (.ireturn, 1) := by decide +kernel
theorem dX7_startsPart_157 : decode cX7_startsPart 157 = .ok (.aload_n 0, 1) := by decide +kernel
theorem dX7_startsPart_158 : decode cX7_startsPart 158 = .ok (.getfield 34, 3) := by decide +kernel
theorem dX7_startsPart_161 : decode cX7_startsPart 161 = .ok (.bipush 8, 2) := by decide +kernel
theorem dX7_startsPart_163 : decode cX7_startsPart 163 = .ok (.if_icmp .lt 12, 3) := by decide +kernel
theorem dX7_startsPart_166 : decode cX7_startsPart 166 = .ok (.aload_n 0, 1) := by decide +kernel
theorem dX7_startsPart_167 : decode cX7_startsPart 167 = .ok (.getfield 9, 3) := by decide +kernel
theorem dX7_startsPart_170 : decode cX7_startsPart 170 = .ok (.iconst 2, 1) := by decide +kernel
theorem dX7_startsPart_171 : decode cX7_startsPart 171 = .ok (.invokevirtual 63, 3) := by decide +kernel
theorem dX7_startsPart_174 : decode cX7_startsPart 174 = .ok (.ireturn, 1) := by decide +kernel
theorem dX7_startsPart_175 : decode cX7_startsPart 175 = .ok (.aload_n 0, 1) := by decide +kernel
theorem dX7_startsPart_176 : decode cX7_startsPart 176 = .ok (.dup, 1) := by decide +kernel
theorem dX7_startsPart_177 : decode cX7_startsPart 177 = .ok (.getfield 34, 3) := by decide +kernel
theorem dX7_startsPart_180 : decode cX7_startsPart 180 = .ok (.iconst 1, 1) := by decide +kernel
theorem dX7_startsPart_181 : decode cX7_startsPart 181 = .ok (.iadd, 1) := by decide +kernel
theorem dX7_startsPart_182 : decode cX7_startsPart 182 = .ok (.putfield 34, 3) := by decide +kernel
theorem dX7_startsPart_185 : decode cX7_startsPart 185 = .ok (.aload_n 0, 1) := by decide +kernel
theorem dX7_startsPart_186 : decode cX7_startsPart 186 = .ok (.iload_n 2, 1) := by decide +kernel
theorem dX7_startsPart_187 : decode cX7_startsPart 187 = .ok (.invokevirtual 81, 3) := by decide +kernel
theorem dX7_startsPart_190 : decode cX7_startsPart 190 = .ok (.ireturn, 1) := by decide +kernel
theorem dX7_followsPart_0 : decode cX7_followsPart 0 = .ok (.aload_n 0, 1) := by decide +kernel
theorem dX7_followsPart_1 : decode cX7_followsPart 1 = .ok (.getfield 9, 3) := by decide +kernel
theorem dX7_followsPart_4 : decode cX7_followsPart 4 = .ok (.getfield 37, 3) := by decide +kernel
theorem dX7_followsPart_7 : decode cX7_followsPart 7 = .ok (.istore_n 2, 1) := by decide +kernel
theorem dX7_followsPart_8 : decode cX7_followsPart 8 = .ok (.iload_n 2, 1) := by decide +kernel
theorem dX7_followsPart_9 : decode cX7_followsPart 9 = .ok (.bipush 25, 2) := by decide +kernel
theorem dX7_followsPart_11 : decode cX7_followsPart 11 = .ok (.if_icmp .ne 38, 3) := by decide +kernel
theorem dX7_followsPart_14 : decode cX7_followsPart 14 = .ok (.aload_n 0, 1) := by decide +kernel
theorem dX7_followsPart_15 : decode cX7_followsPart 15 = .ok (.getfield 34, 3) := by decide +kernel
theorem dX7_followsPart_18 : decode cX7_followsPart 18 = .ok (.ifCond .le 31, 3) := by decide +kernel
theorem dX7_followsPart_21 : decode cX7_followsPart 21 = .ok (.aload_n 0, 1) := by decide +kernel
theorem dX7_followsPart_22 : decode cX7_followsPart 22 = .ok (.aload_n 1, 1) := by decide +kernel
theorem dX7_followsPart_23 : decode cX7_followsPart 23 = .ok (.iconst 1, 1) := by decide +kernel
theorem dX7_followsPart_24 : decode cX7_followsPart 24 = .ok (.invokevirtual 42, 3) := by decide +kernel
theorem dX7_followsPart_27 : decode cX7_followsPart 27 = .ok (.aload_n 0, 1) := by decide +kernel
theorem dX7_followsPart_28 : decode cX7_followsPart 28 = .ok (.dup, 1) := by decide +kernel
theorem dX7_followsPart_29 : decode cX7_followsPart 29 = .ok (.getfield 31, 3) := by decide +kernel
theorem dX7_followsPart_32 : decode cX7_followsPart 32 = .ok (.iconst 1, 1) := by decide +kernel
theorem dX7_followsPart_33 : decode cX7_followsPart 33 = .ok (.isub, 1) := by decide +kernel
theorem dX7_followsPart_34 : decode cX7_followsPart 34 = .ok (.putfield 31, 3) := by decide +kernel
theorem dX7_followsPart_37 : decode cX7_followsPart 37 = .ok (.aload_n 0, 1) := by decide +kernel
theorem dX7_followsPart_38 : decode cX7_followsPart 38 = .ok (.dup, 1) := by decide +kernel
theorem dX7_followsPart_39 : decode cX7_followsPart 39 = .ok (.getfield 34, 3) := by decide +kernel
theorem dX7_followsPart_42 : decode cX7_followsPart 42 = .ok (.iconst 1, 1) := by decide +kernel
theorem dX7_followsPart_43 : decode cX7_followsPart 43 = .ok (.isub, 1) := by decide +kernel
theorem dX7_followsPart_44 : decode cX7_followsPart 44 = .ok (.putfield 34, 3) := by decide +kernel
theorem dX7_followsPart_47 : decode cX7_followsPart 47 = .ok (.iconst 1, 1) := by decide +kernel
theorem dX7_followsPart_48 : decode cX7_followsPart 48 = .ok (.ireturn, 1) := by decide +kernel
theorem dX7_followsPart_49 : decode cX7_followsPart 49 = .ok (.iload_n 2, 1) := by decide +kernel
theorem dX7_followsPart_50 : decode cX7_followsPart 50 = .ok (.invokestatic 84, 3) := by decide +kernel
theorem dX7_followsPart_53 : decode cX7_followsPart 53 = .ok (.istore_n 3, 1) := by decide +kernel
theorem dX7_followsPart_54 : decode cX7_followsPart 54 = .ok (.iload_n 3, 1) := by decide +kernel
theorem dX7_followsPart_55 : decode cX7_followsPart 55 = .ok (.ifCond .eq 9, 3) := by decide +kernel
theorem dX7_followsPart_58 : decode cX7_followsPart 58 = .ok (.iload_n 2, 1) := by decide +kernel
theorem dX7_followsPart_59 : decode cX7_followsPart 59 = .ok (.bipush 13, 2) := by decide +kernel
theorem dX7_followsPart_61 : decode cX7_followsPart 61 = .ok (.if_icmp .ne 12, 3) := by decide +kernel
theorem dX7_followsPart_64 : decode cX7_followsPart 64 = .ok (.aload_n 0, 1) := by decide +kernel
theorem dX7_followsPart_65 : decode cX7_followsPart 65 = .ok (.getfield 9, 3) := by decide +kernel
theorem dX7_followsPart_68 : decode cX7_followsPart 68 = .ok (.iconst 1, 1) := by decide +kernel
theorem dX7_followsPart_69 : decode cX7_followsPart 69 = .ok (.invokevirtual 63, 3) := by decide +kernel
theorem dX7_followsPart_72 : decode cX7_followsPart 72 = .ok (.ireturn, 1) := by decide +kernel
theorem dX7_followsPart_73 : decode cX7_followsPart 73 = .ok (.aload_n 0, 1) := by decide +kernel
theorem dX7_followsPart_74 : decode cX7_followsPart 74 = .ok (.aload_n 1, 1) := by decide +kernel
theorem dX7_followsPart_75 : decode cX7_followsPart 75 = .ok (.iload_n 3, 1) := by decide +kernel
theorem dX7_followsPart_76 : decode cX7_followsPart 76 = .ok (.iconst 4, 1) := by decide +kernel
theorem dX7_followsPart_77 : decode cX7_followsPart 77 = .ok (.if_icmp .ne 9, 3) := by decide +kernel
theorem dX7_followsPart_80 : decode cX7_followsPart 80 = .ok (.iload_n 3, 1) := by decide +kernel
theorem dX7_followsPart_81 : decode cX7_followsPart 81 = .ok (.iconst 1, 1) := by decide +kernel
theorem dX7_followsPart_82 : decode cX7_followsPart 82 = .ok (.iadd, 1) := by decide +kernel
theorem dX7_followsPart_83 : decode cX7_followsPart 83 = .ok (.goto 4, 3) := by decide +kernel
theorem dX7_followsPart_86 : decode cX7_followsPart 86 = .ok (.iload_n 3, 1) := by decide +kernel
theorem dX7_followsPart_87 : decode cX7_followsPart 87 = .ok (.invokevirtual 42, 3) := by decide +kernel
theorem dX7_followsPart_90 : decode cX7_followsPart 90 = .ok (.iload_n 3, 1) := by decide +kernel
theorem dX7_followsPart_91 : decode cX7_followsPart 91 = .ok (.iconst 4, 1) := by decide +kernel
theorem dX7_followsPart_92 : decode cX7_followsPart 92 = .ok (.if_icmp .ne 20, 3) := by decide +kernel
theorem dX7_followsPart_95 : decode cX7_followsPart 95 = .ok (.aload_n 0, 1) := by decide +kernel
theorem dX7_followsPart_96 : decode cX7_followsPart 96 = .ok (.invokevirtual 77, 3) := by decide +kernel
theorem dX7_followsPart_99 : decode cX7_followsPart 99 = .ok (.iconst 4, 1) := by decide +kernel
theorem dX7_followsPart_100 : decode cX7_followsPart 100 = .ok (.if_icmp .ne 12, 3) := by decide +kernel
theorem dX7_followsPart_103 : decode cX7_followsPart 103 = .ok (.aload_n 0, 1) := by decide +kernel
theorem dX7_followsPart_104 : decode cX7_followsPart 104 = .ok (.getfield 9, 3) := by decide +kernel
theorem dX7_followsPart_107 : decode cX7_followsPart 107 = .ok (.iconst 1, 1) := by decide +kernel
theorem dX7_followsPart_108 : decode cX7_followsPart 108 = .ok (.invokevirtual 63, 3) := by decide +kernel
theorem dX7_followsPart_111 : decode cX7_followsPart 111 = .ok (.ireturn, 1) := by decide +kernel
theorem dX7_followsPart_112 : decode cX7_followsPart 112 = .ok (.aload_n 0, 1) := by decide +kernel
theorem dX7_followsPart_113 : decode cX7_followsPart 113 = .ok (.invokevirtual 69, 3) := by decide +kernel
theorem dX7_followsPart_116 : decode cX7_followsPart 116 = .ok (.ifCond .eq 15, 3) := by decide +kernel
theorem dX7_followsPart_119 : decode cX7_followsPart 119 = .ok (.aload_n 0, 1) := by decide +kernel
theorem dX7_followsPart_120 : decode cX7_followsPart 120 = .ok (.iload_n 2, 1) := by decide +kernel
theorem dX7_followsPart_121 : decode cX7_followsPart 121 = .ok (.invokevirtual 81, 3) := by decide +kernel
theorem dX7_followsPart_124 : decode cX7_followsPart 124 = .ok (.ifCond .eq 7, 3) := by decide +kernel
theorem dX7_followsPart_127 : decode cX7_followsPart 127 = .ok (.iconst 1, 1) := by decide +kernel
theorem dX7_followsPart_128 : decode cX7_followsPart 128 = .ok (.goto 4, 3) := by decide +kernel
theorem dX7_followsPart_131 : decode cX7_followsPart 131 = .ok (.iconst 0, 1) := by decide +kernel
theorem dX7_followsPart_132 : decode cX7_followsPart 132 = .ok (.ireturn, 1) := by decide +kernel
theorem dX7_counts_0 : decode cX7_counts 0 = .ok (.aload_n 0, 1) := by decide +kernel
theorem dX7_counts_1 : decode cX7_counts 1 = .ok (.getfield 28, 3) := by decide +kernel
theorem dX7_counts_4 : decode cX7_counts 4 = .ok (.bipush 64, 2) := by decide +kernel
theorem dX7_counts_6 : decode cX7_counts 6 = .ok (.if_icmp .lt 12, 3) := by decide +kernel
theorem dX7_counts_9 : decode cX7_counts 9 = .ok (.aload_n 0, 1) := by decide +kernel
theorem dX7_counts_10 : decode cX7_counts 10 = .ok (.getfield 9, 3) := by decide +kernel
theorem dX7_counts_13 : decode cX7_counts 13 = .ok (.iconst 2, 1) := by decide +kernel
theorem dX7_counts_14 : decode cX7_counts 14 = .ok (.invokevirtual 63, 3) := by decide +kernel
theorem dX7_counts_17 : decode cX7_counts 17 = .ok (.ireturn, 1) := by decide +kernel
theorem dX7_counts_18 : decode cX7_counts 18 = .ok (.aload_n 0, 1) := by decide +kernel
theorem dX7_counts_19 : decode cX7_counts 19 = .ok (.dup, 1) := by decide +kernel
theorem dX7_counts_20 : decode cX7_counts 20 = .ok (.getfield 28, 3) := by decide +kernel
theorem dX7_counts_23 : decode cX7_counts 23 = .ok (.iconst 1, 1) := by decide +kernel
theorem dX7_counts_24 : decode cX7_counts 24 = .ok (.iadd, 1) := by decide +kernel
theorem dX7_counts_25 : decode cX7_counts 25 = .ok (.putfield 28, 3) := by decide +kernel
theorem dX7_counts_28 : decode cX7_counts 28 = .ok (.iconst 1, 1) := by decide +kernel
theorem dX7_counts_29 : decode cX7_counts 29 = .ok (.ireturn, 1) := by decide +kernel
theorem dX7_puts_0 : decode cX7_puts 0 = .ok (.aload_n 1, 1) := by decide +kernel
theorem dX7_puts_1 : decode cX7_puts 1 = .ok (.iload_n 2, 1) := by decide +kernel
theorem dX7_puts_2 : decode cX7_puts 2 = .ok (.invokevirtual 88, 3) := by decide +kernel
theorem dX7_puts_5 : decode cX7_puts 5 = .ok (.iconst 1, 1) := by decide +kernel
theorem dX7_puts_6 : decode cX7_puts 6 = .ok (.ireturn, 1) := by decide +kernel
theorem dX7_pushes_0 : decode cX7_pushes 0 = .ok (.aload_n 0, 1) := by decide +kernel
theorem dX7_pushes_1 : decode cX7_pushes 1 = .ok (.getfield 31, 3) := by decide +kernel
theorem dX7_pushes_4 : decode cX7_pushes 4 = .ok (.aload_n 0, 1) := by decide +kernel
theorem dX7_pushes_5 : decode cX7_pushes 5 = .ok (.getfield 17, 3) := by decide +kernel
theorem dX7_pushes_8 : decode cX7_pushes 8 = .ok (.arraylength, 1) := by decide +kernel
theorem dX7_pushes_9 : decode cX7_pushes 9 = .ok (.if_icmp .lt 12, 3) := by decide +kernel
theorem dX7_pushes_12 : decode cX7_pushes 12 = .ok (.aload_n 0, 1) := by decide +kernel
theorem dX7_pushes_13 : decode cX7_pushes 13 = .ok (.getfield 9, 3) := by decide +kernel
theorem dX7_pushes_16 : decode cX7_pushes 16 = .ok (.iconst 2, 1) := by decide +kernel
theorem dX7_pushes_17 : decode cX7_pushes 17 = .ok (.invokevirtual 63, 3) := by decide +kernel
theorem dX7_pushes_20 : decode cX7_pushes 20 = .ok (.ireturn, 1) := by decide +kernel
theorem dX7_pushes_21 : decode cX7_pushes 21 = .ok (.aload_n 0, 1) := by decide +kernel
theorem dX7_pushes_22 : decode cX7_pushes 22 = .ok (.getfield 17, 3) := by decide +kernel
theorem dX7_pushes_25 : decode cX7_pushes 25 = .ok (.aload_n 0, 1) := by decide +kernel
theorem dX7_pushes_26 : decode cX7_pushes 26 = .ok (.getfield 31, 3) := by decide +kernel
theorem dX7_pushes_29 : decode cX7_pushes 29 = .ok (.iload_n 1, 1) := by decide +kernel
theorem dX7_pushes_30 : decode cX7_pushes 30 = .ok (.iastore, 1) := by decide +kernel
theorem dX7_pushes_31 : decode cX7_pushes 31 = .ok (.aload_n 0, 1) := by decide +kernel
theorem dX7_pushes_32 : decode cX7_pushes 32 = .ok (.dup, 1) := by decide +kernel
theorem dX7_pushes_33 : decode cX7_pushes 33 = .ok (.getfield 31, 3) := by decide +kernel
theorem dX7_pushes_36 : decode cX7_pushes 36 = .ok (.iconst 1, 1) := by decide +kernel
theorem dX7_pushes_37 : decode cX7_pushes 37 = .ok (.iadd, 1) := by decide +kernel
theorem dX7_pushes_38 : decode cX7_pushes 38 = .ok (.putfield 31, 3) := by decide +kernel
theorem dX7_pushes_41 : decode cX7_pushes 41 = .ok (.iconst 1, 1) := by decide +kernel
theorem dX7_pushes_42 : decode cX7_pushes 42 = .ok (.ireturn, 1) := by decide +kernel
theorem dX7_settle_0 : decode cX7_settle 0 = .ok (.iload_n 2, 1) := by decide +kernel
theorem dX7_settle_1 : decode cX7_settle 1 = .ok (.iconst 1, 1) := by decide +kernel
theorem dX7_settle_2 : decode cX7_settle 2 = .ok (.invokestatic 92, 3) := by decide +kernel
theorem dX7_settle_5 : decode cX7_settle 5 = .ok (.istore_n 3, 1) := by decide +kernel
theorem dX7_settle_6 : decode cX7_settle 6 = .ok (.aload_n 0, 1) := by decide +kernel
theorem dX7_settle_7 : decode cX7_settle 7 = .ok (.getfield 31, 3) := by decide +kernel
theorem dX7_settle_10 : decode cX7_settle 10 = .ok (.ifCond .le 60, 3) := by decide +kernel
theorem dX7_settle_13 : decode cX7_settle 13 = .ok (.aload_n 0, 1) := by decide +kernel
theorem dX7_settle_14 : decode cX7_settle 14 = .ok (.getfield 31, 3) := by decide +kernel
theorem dX7_settle_17 : decode cX7_settle 17 = .ok (.aload_n 0, 1) := by decide +kernel
theorem dX7_settle_18 : decode cX7_settle 18 = .ok (.getfield 17, 3) := by decide +kernel
theorem dX7_settle_21 : decode cX7_settle 21 = .ok (.arraylength, 1) := by decide +kernel
theorem dX7_settle_22 : decode cX7_settle 22 = .ok (.if_icmp .gt 48, 3) := by decide +kernel
theorem dX7_settle_25 : decode cX7_settle 25 = .ok (.aload_n 0, 1) := by decide +kernel
theorem dX7_settle_26 : decode cX7_settle 26 = .ok (.getfield 17, 3) := by decide +kernel
theorem dX7_settle_29 : decode cX7_settle 29 = .ok (.aload_n 0, 1) := by decide +kernel
theorem dX7_settle_30 : decode cX7_settle 30 = .ok (.getfield 31, 3) := by decide +kernel
theorem dX7_settle_33 : decode cX7_settle 33 = .ok (.iconst 1, 1) := by decide +kernel
theorem dX7_settle_34 : decode cX7_settle 34 = .ok (.isub, 1) := by decide +kernel
theorem dX7_settle_35 : decode cX7_settle 35 = .ok (.iaload, 1) := by decide +kernel
theorem dX7_settle_36 : decode cX7_settle 36 = .ok (.invokestatic 84, 3) := by decide +kernel
theorem dX7_settle_39 : decode cX7_settle 39 = .ok (.iload_n 3, 1) := by decide +kernel
theorem dX7_settle_40 : decode cX7_settle 40 = .ok (.if_icmp .lt 30, 3) := by decide +kernel
theorem dX7_settle_43 : decode cX7_settle 43 = .ok (.aload_n 0, 1) := by decide +kernel
theorem dX7_settle_44 : decode cX7_settle 44 = .ok (.dup, 1) := by decide +kernel
theorem dX7_settle_45 : decode cX7_settle 45 = .ok (.getfield 31, 3) := by decide +kernel
theorem dX7_settle_48 : decode cX7_settle 48 = .ok (.iconst 1, 1) := by decide +kernel
theorem dX7_settle_49 : decode cX7_settle 49 = .ok (.isub, 1) := by decide +kernel
theorem dX7_settle_50 : decode cX7_settle 50 = .ok (.putfield 31, 3) := by decide +kernel
theorem dX7_settle_53 : decode cX7_settle 53 = .ok (.aload_n 1, 1) := by decide +kernel
theorem dX7_settle_54 : decode cX7_settle 54 = .ok (.aload_n 0, 1) := by decide +kernel
theorem dX7_settle_55 : decode cX7_settle 55 = .ok (.getfield 17, 3) := by decide +kernel
theorem dX7_settle_58 : decode cX7_settle 58 = .ok (.aload_n 0, 1) := by decide +kernel
theorem dX7_settle_59 : decode cX7_settle 59 = .ok (.getfield 31, 3) := by decide +kernel
theorem dX7_settle_62 : decode cX7_settle 62 = .ok (.iaload, 1) := by decide +kernel
theorem dX7_settle_63 : decode cX7_settle 63 = .ok (.ineg, 1) := by decide +kernel
theorem dX7_settle_64 : decode cX7_settle 64 = .ok (.invokevirtual 88, 3) := by decide +kernel
theorem dX7_settle_67 : decode cX7_settle 67 = .ok (.goto (-61), 3) := by decide +kernel
theorem dX7_settle_70 : decode cX7_settle 70 = .ok (.return_, 1) := by decide +kernel
theorem dX7_topRank_0 : decode cX7_topRank 0 = .ok (.aload_n 0, 1) := by decide +kernel
theorem dX7_topRank_1 : decode cX7_topRank 1 = .ok (.getfield 31, 3) := by decide +kernel
theorem dX7_topRank_4 : decode cX7_topRank 4 = .ok (.ifCond .le 32, 3) := by decide +kernel
theorem dX7_topRank_7 : decode cX7_topRank 7 = .ok (.aload_n 0, 1) := by decide +kernel
theorem dX7_topRank_8 : decode cX7_topRank 8 = .ok (.getfield 31, 3) := by decide +kernel
theorem dX7_topRank_11 : decode cX7_topRank 11 = .ok (.aload_n 0, 1) := by decide +kernel
theorem dX7_topRank_12 : decode cX7_topRank 12 = .ok (.getfield 17, 3) := by decide +kernel
theorem dX7_topRank_15 : decode cX7_topRank 15 = .ok (.arraylength, 1) := by decide +kernel
theorem dX7_topRank_16 : decode cX7_topRank 16 = .ok (.if_icmp .gt 20, 3) := by decide +kernel
theorem dX7_topRank_19 : decode cX7_topRank 19 = .ok (.aload_n 0, 1) := by decide +kernel
theorem dX7_topRank_20 : decode cX7_topRank 20 = .ok (.getfield 17, 3) := by decide +kernel
theorem dX7_topRank_23 : decode cX7_topRank 23 = .ok (.aload_n 0, 1) := by decide +kernel
theorem dX7_topRank_24 : decode cX7_topRank 24 = .ok (.getfield 31, 3) := by decide +kernel
theorem dX7_topRank_27 : decode cX7_topRank 27 = .ok (.iconst 1, 1) := by decide +kernel
theorem dX7_topRank_28 : decode cX7_topRank 28 = .ok (.isub, 1) := by decide +kernel
theorem dX7_topRank_29 : decode cX7_topRank 29 = .ok (.iaload, 1) := by decide +kernel
theorem dX7_topRank_30 : decode cX7_topRank 30 = .ok (.invokestatic 84, 3) := by decide +kernel
theorem dX7_topRank_33 : decode cX7_topRank 33 = .ok (.goto 4, 3) := by decide +kernel
theorem dX7_topRank_36 : decode cX7_topRank 36 = .ok (.iconst 0, 1) := by decide +kernel
theorem dX7_topRank_37 : decode cX7_topRank 37 = .ok (.ireturn, 1) := by decide +kernel
theorem dX7_rank_0 : decode cX7_rank 0 = .ok (.iload_n 0, 1) := by decide +kernel
theorem dX7_rank_1 : decode cX7_rank 1 = .ok (.tableswitch 102 11 29 #[91, 93, 95, 102, 102, 102, 102, 102, 102, 102, 102, 102, 102, 102, 102, 97, 97, 99, 99], 91) := by decide +kernel
theorem dX7_rank_92 : decode cX7_rank 92 = .ok (.iconst 1, 1) := by decide +kernel
theorem dX7_rank_93 : decode cX7_rank 93 = .ok (.ireturn, 1) := by decide +kernel
theorem dX7_rank_94 : decode cX7_rank 94 = .ok (.iconst 2, 1) := by decide +kernel
theorem dX7_rank_95 : decode cX7_rank 95 = .ok (.ireturn, 1) := by decide +kernel
theorem dX7_rank_96 : decode cX7_rank 96 = .ok (.iconst 3, 1) := by decide +kernel
theorem dX7_rank_97 : decode cX7_rank 97 = .ok (.ireturn, 1) := by decide +kernel
theorem dX7_rank_98 : decode cX7_rank 98 = .ok (.iconst 5, 1) := by decide +kernel
theorem dX7_rank_99 : decode cX7_rank 99 = .ok (.ireturn, 1) := by decide +kernel
theorem dX7_rank_100 : decode cX7_rank 100 = .ok (.bipush 6, 2) := by decide +kernel
theorem dX7_rank_102 : decode cX7_rank 102 = .ok (.ireturn, 1) := by decide +kernel
theorem dX7_rank_103 : decode cX7_rank 103 = .ok (.iload_n 0, 1) := by decide +kernel
theorem dX7_rank_104 : decode cX7_rank 104 = .ok (.bipush 30, 2) := by decide +kernel
theorem dX7_rank_106 : decode cX7_rank 106 = .ok (.if_icmp .lt 13, 3) := by decide +kernel
theorem dX7_rank_109 : decode cX7_rank 109 = .ok (.iload_n 0, 1) := by decide +kernel
theorem dX7_rank_110 : decode cX7_rank 110 = .ok (.bipush 35, 2) := by decide +kernel
theorem dX7_rank_112 : decode cX7_rank 112 = .ok (.if_icmp .gt 7, 3) := by decide +kernel
theorem dX7_rank_115 : decode cX7_rank 115 = .ok (.iconst 4, 1) := by decide +kernel
theorem dX7_rank_116 : decode cX7_rank 116 = .ok (.goto 4, 3) := by decide +kernel
theorem dX7_rank_119 : decode cX7_rank 119 = .ok (.iconst 0, 1) := by decide +kernel
theorem dX7_rank_120 : decode cX7_rank 120 = .ok (.ireturn, 1) := by decide +kernel
theorem dX8_init_0 : decode cX8_init 0 = .ok (.aload_n 0, 1) := by decide +kernel
theorem dX8_init_1 : decode cX8_init 1 = .ok (.invokespecial 5, 3) := by decide +kernel
theorem dX8_init_4 : decode cX8_init 4 = .ok (.aload_n 0, 1) := by decide +kernel
theorem dX8_init_5 : decode cX8_init 5 = .ok (.aload_n 1, 1) := by decide +kernel
theorem dX8_init_6 : decode cX8_init 6 = .ok (.putfield 11, 3) := by decide +kernel
theorem dX8_init_9 : decode cX8_init 9 = .ok (.aload_n 0, 1) := by decide +kernel
theorem dX8_init_10 : decode cX8_init 10 = .ok (.bipush 21, 2) := by decide +kernel
theorem dX8_init_12 : decode cX8_init 12 = .ok (.newarray .int, 2) := by decide +kernel
theorem dX8_init_14 : decode cX8_init 14 = .ok (.putfield 15, 3) := by decide +kernel
theorem dX8_init_17 : decode cX8_init 17 = .ok (.iconst 0, 1) := by decide +kernel
theorem dX8_init_18 : decode cX8_init 18 = .ok (.istore_n 2, 1) := by decide +kernel
theorem dX8_init_19 : decode cX8_init 19 = .ok (.iload_n 2, 1) := by decide +kernel
theorem dX8_init_20 : decode cX8_init 20 = .ok (.bipush 21, 2) := by decide +kernel
theorem dX8_init_22 : decode cX8_init 22 = .ok (.if_icmp .ge 53, 3) := by decide +kernel
theorem dX8_init_25 : decode cX8_init 25 = .ok (.iload_n 2, 1) := by decide +kernel
theorem dX8_init_26 : decode cX8_init 26 = .ok (.bipush 11, 2) := by decide +kernel
theorem dX8_init_28 : decode cX8_init 28 = .ok (.if_icmp .lt 7, 3) := by decide +kernel
theorem dX8_init_31 : decode cX8_init 31 = .ok (.iconst 1, 1) := by decide +kernel
theorem dX8_init_32 : decode cX8_init 32 = .ok (.goto 4, 3) := by decide +kernel
theorem dX8_init_35 : decode cX8_init 35 = .ok (.iconst 0, 1) := by decide +kernel
theorem dX8_init_36 : decode cX8_init 36 = .ok (.istore_n 3, 1) := by decide +kernel
theorem dX8_init_37 : decode cX8_init 37 = .ok (.aload_n 0, 1) := by decide +kernel
theorem dX8_init_38 : decode cX8_init 38 = .ok (.getfield 15, 3) := by decide +kernel
theorem dX8_init_41 : decode cX8_init 41 = .ok (.iload_n 2, 1) := by decide +kernel
theorem dX8_init_42 : decode cX8_init 42 = .ok (.iload_n 3, 1) := by decide +kernel
theorem dX8_init_43 : decode cX8_init 43 = .ok (.ifCond .eq 8, 3) := by decide +kernel
theorem dX8_init_46 : decode cX8_init 46 = .ok (.ldc 19, 2) := by decide +kernel
theorem dX8_init_48 : decode cX8_init 48 = .ok (.goto 5, 3) := by decide +kernel
theorem dX8_init_51 : decode cX8_init 51 = .ok (.ldc 21, 2) := by decide +kernel
theorem dX8_init_53 : decode cX8_init 53 = .ok (.iload_n 3, 1) := by decide +kernel
theorem dX8_init_54 : decode cX8_init 54 = .ok (.ifCond .eq 10, 3) := by decide +kernel
theorem dX8_init_57 : decode cX8_init 57 = .ok (.iload_n 2, 1) := by decide +kernel
theorem dX8_init_58 : decode cX8_init 58 = .ok (.bipush 11, 2) := by decide +kernel
theorem dX8_init_60 : decode cX8_init 60 = .ok (.isub, 1) := by decide +kernel
theorem dX8_init_61 : decode cX8_init 61 = .ok (.goto 4, 3) := by decide +kernel
theorem dX8_init_64 : decode cX8_init 64 = .ok (.iload_n 2, 1) := by decide +kernel
theorem dX8_init_65 : decode cX8_init 65 = .ok (.invokestatic 23, 3) := by decide +kernel
theorem dX8_init_68 : decode cX8_init 68 = .ok (.iastore, 1) := by decide +kernel
theorem dX8_init_69 : decode cX8_init 69 = .ok (.iinc 2 1, 3) := by decide +kernel
theorem dX8_init_72 : decode cX8_init 72 = .ok (.goto (-53), 3) := by decide +kernel
theorem dX8_init_75 : decode cX8_init 75 = .ok (.aload_n 0, 1) := by decide +kernel
theorem dX8_init_76 : decode cX8_init 76 = .ok (.iconst (-1), 1) := by decide +kernel
theorem dX8_init_77 : decode cX8_init 77 = .ok (.putfield 27, 3) := by decide +kernel
theorem dX8_init_80 : decode cX8_init 80 = .ok (.return_, 1) := by decide +kernel
theorem dX8_start_0 : decode cX8_start 0 = .ok (.aload_n 0, 1) := by decide +kernel
theorem dX8_start_1 : decode cX8_start 1 = .ok (.iload_n 1, 1) := by decide +kernel
theorem dX8_start_2 : decode cX8_start 2 = .ok (.aload_n 0, 1) := by decide +kernel
theorem dX8_start_3 : decode cX8_start 3 = .ok (.getfield 11, 3) := by decide +kernel
theorem dX8_start_6 : decode cX8_start 6 = .ok (.arraylength, 1) := by decide +kernel
theorem dX8_start_7 : decode cX8_start 7 = .ok (.invokestatic 31, 3) := by decide +kernel
theorem dX8_start_10 : decode cX8_start 10 = .ok (.putfield 37, 3) := by decide +kernel
theorem dX8_start_13 : decode cX8_start 13 = .ok (.aload_n 0, 1) := by decide +kernel
theorem dX8_start_14 : decode cX8_start 14 = .ok (.iconst 0, 1) := by decide +kernel
theorem dX8_start_15 : decode cX8_start 15 = .ok (.putfield 40, 3) := by decide +kernel
theorem dX8_start_18 : decode cX8_start 18 = .ok (.aload_n 0, 1) := by decide +kernel
theorem dX8_start_19 : decode cX8_start 19 = .ok (.iconst 0, 1) := by decide +kernel
theorem dX8_start_20 : decode cX8_start 20 = .ok (.putfield 43, 3) := by decide +kernel
theorem dX8_start_23 : decode cX8_start 23 = .ok (.aload_n 0, 1) := by decide +kernel
theorem dX8_start_24 : decode cX8_start 24 = .ok (.iconst (-1), 1) := by decide +kernel
theorem dX8_start_25 : decode cX8_start 25 = .ok (.putfield 27, 3) := by decide +kernel
theorem dX8_start_28 : decode cX8_start 28 = .ok (.aload_n 0, 1) := by decide +kernel
theorem dX8_start_29 : decode cX8_start 29 = .ok (.invokevirtual 46, 3) := by decide +kernel
theorem dX8_start_32 : decode cX8_start 32 = .ok (.return_, 1) := by decide +kernel
theorem dX8_fail_0 : decode cX8_fail 0 = .ok (.aload_n 0, 1) := by decide +kernel
theorem dX8_fail_1 : decode cX8_fail 1 = .ok (.iload_n 1, 1) := by decide +kernel
theorem dX8_fail_2 : decode cX8_fail 2 = .ok (.putfield 43, 3) := by decide +kernel
theorem dX8_fail_5 : decode cX8_fail 5 = .ok (.aload_n 0, 1) := by decide +kernel
theorem dX8_fail_6 : decode cX8_fail 6 = .ok (.aload_n 0, 1) := by decide +kernel
theorem dX8_fail_7 : decode cX8_fail 7 = .ok (.getfield 49, 3) := by decide +kernel
theorem dX8_fail_10 : decode cX8_fail 10 = .ok (.putfield 27, 3) := by decide +kernel
theorem dX8_fail_13 : decode cX8_fail 13 = .ok (.iconst 0, 1) := by decide +kernel
theorem dX8_fail_14 : decode cX8_fail 14 = .ok (.ireturn, 1) := by decide +kernel
theorem dX8_failAt_0 : decode cX8_failAt 0 = .ok (.aload_n 0, 1) := by decide +kernel
theorem dX8_failAt_1 : decode cX8_failAt 1 = .ok (.iload_n 1, 1) := by decide +kernel
theorem dX8_failAt_2 : decode cX8_failAt 2 = .ok (.putfield 43, 3) := by decide +kernel
theorem dX8_failAt_5 : decode cX8_failAt 5 = .ok (.aload_n 0, 1) := by decide +kernel
theorem dX8_failAt_6 : decode cX8_failAt 6 = .ok (.iload_n 2, 1) := by decide +kernel
theorem dX8_failAt_7 : decode cX8_failAt 7 = .ok (.putfield 27, 3) := by decide +kernel
theorem dX8_failAt_10 : decode cX8_failAt 10 = .ok (.iconst 0, 1) := by decide +kernel
theorem dX8_failAt_11 : decode cX8_failAt 11 = .ok (.ireturn, 1) := by decide +kernel
theorem dX8_step_0 : decode cX8_step 0 = .ok (.aload_n 0, 1) := by decide +kernel
theorem dX8_step_1 : decode cX8_step 1 = .ok (.getfield 40, 3) := by decide +kernel
theorem dX8_step_4 : decode cX8_step 4 = .ok (.aload_n 0, 1) := by decide +kernel
theorem dX8_step_5 : decode cX8_step 5 = .ok (.getfield 37, 3) := by decide +kernel
theorem dX8_step_8 : decode cX8_step 8 = .ok (.if_icmp .ge 42, 3) := by decide +kernel
theorem dX8_step_11 : decode cX8_step 11 = .ok (.aload_n 0, 1) := by decide +kernel
theorem dX8_step_12 : decode cX8_step 12 = .ok (.aload_n 0, 1) := by decide +kernel
theorem dX8_step_13 : decode cX8_step 13 = .ok (.getfield 40, 3) := by decide +kernel
theorem dX8_step_16 : decode cX8_step 16 = .ok (.invokevirtual 52, 3) := by decide +kernel
theorem dX8_step_19 : decode cX8_step 19 = .ok (.bipush 32, 2) := by decide +kernel
theorem dX8_step_21 : decode cX8_step 21 = .ok (.if_icmp .eq 16, 3) := by decide +kernel
theorem dX8_step_24 : decode cX8_step 24 = .ok (.aload_n 0, 1) := by decide +kernel
theorem dX8_step_25 : decode cX8_step 25 = .ok (.aload_n 0, 1) := by decide +kernel
theorem dX8_step_26 : decode cX8_step 26 = .ok (.getfield 40, 3) := by decide +kernel
theorem dX8_step_29 : decode cX8_step 29 = .ok (.invokevirtual 52, 3) := by decide +kernel
theorem dX8_step_32 : decode cX8_step 32 = .ok (.bipush 10, 2) := by decide +kernel
theorem dX8_step_34 : decode cX8_step 34 = .ok (.if_icmp .ne 16, 3) := by decide +kernel
theorem dX8_step_37 : decode cX8_step 37 = .ok (.aload_n 0, 1) := by decide +kernel
theorem dX8_step_38 : decode cX8_step 38 = .ok (.dup, 1) := by decide +kernel
theorem dX8_step_39 : decode cX8_step 39 = .ok (.getfield 40, 3) := by decide +kernel
theorem dX8_step_42 : decode cX8_step 42 = .ok (.iconst 1, 1) := by decide +kernel
theorem dX8_step_43 : decode cX8_step 43 = .ok (.iadd, 1) := by decide +kernel
theorem dX8_step_44 : decode cX8_step 44 = .ok (.putfield 40, 3) := by decide +kernel
theorem dX8_step_47 : decode cX8_step 47 = .ok (.goto (-47), 3) := by decide +kernel
theorem dX8_step_50 : decode cX8_step 50 = .ok (.aload_n 0, 1) := by decide +kernel
theorem dX8_step_51 : decode cX8_step 51 = .ok (.aload_n 0, 1) := by decide +kernel
theorem dX8_step_52 : decode cX8_step 52 = .ok (.getfield 40, 3) := by decide +kernel
theorem dX8_step_55 : decode cX8_step 55 = .ok (.putfield 49, 3) := by decide +kernel
theorem dX8_step_58 : decode cX8_step 58 = .ok (.aload_n 0, 1) := by decide +kernel
theorem dX8_step_59 : decode cX8_step 59 = .ok (.iconst 0, 1) := by decide +kernel
theorem dX8_step_60 : decode cX8_step 60 = .ok (.putfield 56, 3) := by decide +kernel
theorem dX8_step_63 : decode cX8_step 63 = .ok (.aload_n 0, 1) := by decide +kernel
theorem dX8_step_64 : decode cX8_step 64 = .ok (.aload_n 0, 1) := by decide +kernel
theorem dX8_step_65 : decode cX8_step 65 = .ok (.getfield 40, 3) := by decide +kernel
theorem dX8_step_68 : decode cX8_step 68 = .ok (.invokevirtual 52, 3) := by decide +kernel
theorem dX8_step_71 : decode cX8_step 71 = .ok (.istore_n 1, 1) := by decide +kernel
theorem dX8_step_72 : decode cX8_step 72 = .ok (.aload_n 0, 1) := by decide +kernel
theorem dX8_step_73 : decode cX8_step 73 = .ok (.getfield 40, 3) := by decide +kernel
theorem dX8_step_76 : decode cX8_step 76 = .ok (.aload_n 0, 1) := by decide +kernel
theorem dX8_step_77 : decode cX8_step 77 = .ok (.getfield 37, 3) := by decide +kernel
theorem dX8_step_80 : decode cX8_step 80 = .ok (.if_icmp .lt 12, 3) := by decide +kernel
theorem dX8_step_83 : decode cX8_step 83 = .ok (.aload_n 0, 1) := by decide +kernel
theorem dX8_step_84 : decode cX8_step 84 = .ok (.bipush 37, 2) := by decide +kernel
theorem dX8_step_86 : decode cX8_step 86 = .ok (.putfield 59, 3) := by decide +kernel
theorem dX8_step_89 : decode cX8_step 89 = .ok (.goto 58, 3) := by decide +kernel
theorem dX8_step_92 : decode cX8_step 92 = .ok (.iload_n 1, 1) := by decide +kernel
theorem dX8_step_93 : decode cX8_step 93 = .ok (.invokestatic 62, 3) := by decide +kernel
theorem dX8_step_96 : decode cX8_step 96 = .ok (.ifCond .eq 14, 3) := by decide +kernel
theorem dX8_step_99 : decode cX8_step 99 = .ok (.aload_n 0, 1) := by decide +kernel
theorem dX8_step_100 : decode cX8_step 100 = .ok (.aload_n 0, 1) := by decide +kernel
theorem dX8_step_101 : decode cX8_step 101 = .ok (.invokevirtual 66, 3) := by decide +kernel
theorem dX8_step_104 : decode cX8_step 104 = .ok (.putfield 59, 3) := by decide +kernel
theorem dX8_step_107 : decode cX8_step 107 = .ok (.goto 40, 3) := by decide +kernel
theorem dX8_step_110 : decode cX8_step 110 = .ok (.iload_n 1, 1) := by decide +kernel
theorem dX8_step_111 : decode cX8_step 111 = .ok (.invokestatic 70, 3) := by decide +kernel
theorem dX8_step_114 : decode cX8_step 114 = .ok (.ifCond .eq 14, 3) := by decide +kernel
theorem dX8_step_117 : decode cX8_step 117 = .ok (.aload_n 0, 1) := by decide +kernel
theorem dX8_step_118 : decode cX8_step 118 = .ok (.aload_n 0, 1) := by decide +kernel
theorem dX8_step_119 : decode cX8_step 119 = .ok (.invokevirtual 73, 3) := by decide +kernel
theorem dX8_step_122 : decode cX8_step 122 = .ok (.putfield 59, 3) := by decide +kernel
theorem dX8_step_125 : decode cX8_step 125 = .ok (.goto 22, 3) := by decide +kernel
theorem dX8_step_128 : decode cX8_step 128 = .ok (.aload_n 0, 1) := by decide +kernel
theorem dX8_step_129 : decode cX8_step 129 = .ok (.dup, 1) := by decide +kernel
theorem dX8_step_130 : decode cX8_step 130 = .ok (.getfield 40, 3) := by decide +kernel
theorem dX8_step_133 : decode cX8_step 133 = .ok (.iconst 1, 1) := by decide +kernel
theorem dX8_step_134 : decode cX8_step 134 = .ok (.iadd, 1) := by decide +kernel
theorem dX8_step_135 : decode cX8_step 135 = .ok (.putfield 40, 3) := by decide +kernel
theorem dX8_step_138 : decode cX8_step 138 = .ok (.aload_n 0, 1) := by decide +kernel
theorem dX8_step_139 : decode cX8_step 139 = .ok (.aload_n 0, 1) := by decide +kernel
theorem dX8_step_140 : decode cX8_step 140 = .ok (.iload_n 1, 1) := by decide +kernel
theorem dX8_step_141 : decode cX8_step 141 = .ok (.invokevirtual 76, 3) := by decide +kernel
theorem dX8_step_144 : decode cX8_step 144 = .ok (.putfield 59, 3) := by decide +kernel
theorem dX8_step_147 : decode cX8_step 147 = .ok (.return_, 1) := by decide +kernel
theorem dX8_byteAt_0 : decode cX8_byteAt 0 = .ok (.iload_n 1, 1) := by decide +kernel
theorem dX8_byteAt_1 : decode cX8_byteAt 1 = .ok (.ifCond .lt 33, 3) := by decide +kernel
theorem dX8_byteAt_4 : decode cX8_byteAt 4 = .ok (.iload_n 1, 1) := by decide +kernel
theorem dX8_byteAt_5 : decode cX8_byteAt 5 = .ok (.aload_n 0, 1) := by decide +kernel
theorem dX8_byteAt_6 : decode cX8_byteAt 6 = .ok (.getfield 37, 3) := by decide +kernel
theorem dX8_byteAt_9 : decode cX8_byteAt 9 = .ok (.if_icmp .ge 25, 3) := by decide +kernel
theorem dX8_byteAt_12 : decode cX8_byteAt 12 = .ok (.iload_n 1, 1) := by decide +kernel
theorem dX8_byteAt_13 : decode cX8_byteAt 13 = .ok (.aload_n 0, 1) := by decide +kernel
theorem dX8_byteAt_14 : decode cX8_byteAt 14 = .ok (.getfield 11, 3) := by decide +kernel
theorem dX8_byteAt_17 : decode cX8_byteAt 17 = .ok (.arraylength, 1) := by decide +kernel
theorem dX8_byteAt_18 : decode cX8_byteAt 18 = .ok (.if_icmp .ge 16, 3) := by decide +kernel
theorem dX8_byteAt_21 : decode cX8_byteAt 21 = .ok (.aload_n 0, 1) := by decide +kernel
theorem dX8_byteAt_22 : decode cX8_byteAt 22 = .ok (.getfield 11, 3) := by decide +kernel
theorem dX8_byteAt_25 : decode cX8_byteAt 25 = .ok (.iload_n 1, 1) := by decide +kernel
theorem dX8_byteAt_26 : decode cX8_byteAt 26 = .ok (.baload, 1) := by decide +kernel
theorem dX8_byteAt_27 : decode cX8_byteAt 27 = .ok (.sipush 255, 3) := by decide +kernel
theorem dX8_byteAt_30 : decode cX8_byteAt 30 = .ok (.iand, 1) := by decide +kernel
theorem dX8_byteAt_31 : decode cX8_byteAt 31 = .ok (.goto 4, 3) := by decide +kernel
theorem dX8_byteAt_34 : decode cX8_byteAt 34 = .ok (.iconst 0, 1) := by decide +kernel
theorem dX8_byteAt_35 : decode cX8_byteAt 35 = .ok (.ireturn, 1) := by decide +kernel
theorem dX8_isLetter_0 : decode cX8_isLetter 0 = .ok (.iload_n 0, 1) := by decide +kernel
theorem dX8_isLetter_1 : decode cX8_isLetter 1 = .ok (.bipush 97, 2) := by decide +kernel
theorem dX8_isLetter_3 : decode cX8_isLetter 3 = .ok (.if_icmp .lt 13, 3) := by decide +kernel
theorem dX8_isLetter_6 : decode cX8_isLetter 6 = .ok (.iload_n 0, 1) := by decide +kernel
theorem dX8_isLetter_7 : decode cX8_isLetter 7 = .ok (.bipush 122, 2) := by decide +kernel
theorem dX8_isLetter_9 : decode cX8_isLetter 9 = .ok (.if_icmp .gt 7, 3) := by decide +kernel
theorem dX8_isLetter_12 : decode cX8_isLetter 12 = .ok (.iconst 1, 1) := by decide +kernel
theorem dX8_isLetter_13 : decode cX8_isLetter 13 = .ok (.goto 4, 3) := by decide +kernel
theorem dX8_isLetter_16 : decode cX8_isLetter 16 = .ok (.iconst 0, 1) := by decide +kernel
theorem dX8_isLetter_17 : decode cX8_isLetter 17 = .ok (.ireturn, 1) := by decide +kernel
theorem dX8_isDigit_0 : decode cX8_isDigit 0 = .ok (.iload_n 0, 1) := by decide +kernel
theorem dX8_isDigit_1 : decode cX8_isDigit 1 = .ok (.bipush 48, 2) := by decide +kernel
theorem dX8_isDigit_3 : decode cX8_isDigit 3 = .ok (.if_icmp .lt 13, 3) := by decide +kernel
theorem dX8_isDigit_6 : decode cX8_isDigit 6 = .ok (.iload_n 0, 1) := by decide +kernel
theorem dX8_isDigit_7 : decode cX8_isDigit 7 = .ok (.bipush 57, 2) := by decide +kernel
theorem dX8_isDigit_9 : decode cX8_isDigit 9 = .ok (.if_icmp .gt 7, 3) := by decide +kernel
theorem dX8_isDigit_12 : decode cX8_isDigit 12 = .ok (.iconst 1, 1) := by decide +kernel
theorem dX8_isDigit_13 : decode cX8_isDigit 13 = .ok (.goto 4, 3) := by decide +kernel
theorem dX8_isDigit_16 : decode cX8_isDigit 16 = .ok (.iconst 0, 1) := by decide +kernel
theorem dX8_isDigit_17 : decode cX8_isDigit 17 = .ok (.ireturn, 1) := by decide +kernel
theorem dX8_wordKind_0 : decode cX8_wordKind 0 = .ok (.iconst 0, 1) := by decide +kernel
theorem dX8_wordKind_1 : decode cX8_wordKind 1 = .ok (.istore_n 1, 1) := by decide +kernel
theorem dX8_wordKind_2 : decode cX8_wordKind 2 = .ok (.aload_n 0, 1) := by decide +kernel
theorem dX8_wordKind_3 : decode cX8_wordKind 3 = .ok (.getfield 40, 3) := by decide +kernel
theorem dX8_wordKind_6 : decode cX8_wordKind 6 = .ok (.aload_n 0, 1) := by decide +kernel
theorem dX8_wordKind_7 : decode cX8_wordKind 7 = .ok (.getfield 37, 3) := by decide +kernel
theorem dX8_wordKind_10 : decode cX8_wordKind 10 = .ok (.if_icmp .ge 60, 3) := by decide +kernel
theorem dX8_wordKind_13 : decode cX8_wordKind 13 = .ok (.aload_n 0, 1) := by decide +kernel
theorem dX8_wordKind_14 : decode cX8_wordKind 14 = .ok (.aload_n 0, 1) := by decide +kernel
theorem dX8_wordKind_15 : decode cX8_wordKind 15 = .ok (.getfield 40, 3) := by decide +kernel
theorem dX8_wordKind_18 : decode cX8_wordKind 18 = .ok (.invokevirtual 52, 3) := by decide +kernel
theorem dX8_wordKind_21 : decode cX8_wordKind 21 = .ok (.invokestatic 62, 3) := by decide +kernel
theorem dX8_wordKind_24 : decode cX8_wordKind 24 = .ok (.ifCond .eq 46, 3) := by decide +kernel
theorem dX8_wordKind_27 : decode cX8_wordKind 27 = .ok (.iload_n 1, 1) := by decide +kernel
theorem dX8_wordKind_28 : decode cX8_wordKind 28 = .ok (.bipush 6, 2) := by decide +kernel
theorem dX8_wordKind_30 : decode cX8_wordKind 30 = .ok (.if_icmp .ge 24, 3) := by decide +kernel
theorem dX8_wordKind_33 : decode cX8_wordKind 33 = .ok (.aload_n 0, 1) := by decide +kernel
theorem dX8_wordKind_34 : decode cX8_wordKind 34 = .ok (.dup, 1) := by decide +kernel
theorem dX8_wordKind_35 : decode cX8_wordKind 35 = .ok (.getfield 56, 3) := by decide +kernel
theorem dX8_wordKind_38 : decode cX8_wordKind 38 = .ok (.aload_n 0, 1) := by decide +kernel
theorem dX8_wordKind_39 : decode cX8_wordKind 39 = .ok (.aload_n 0, 1) := by decide +kernel
theorem dX8_wordKind_40 : decode cX8_wordKind 40 = .ok (.getfield 40, 3) := by decide +kernel
theorem dX8_wordKind_43 : decode cX8_wordKind 43 = .ok (.invokevirtual 52, 3) := by decide +kernel
theorem dX8_wordKind_46 : decode cX8_wordKind 46 = .ok (.iload_n 1, 1) := by decide +kernel
theorem dX8_wordKind_47 : decode cX8_wordKind 47 = .ok (.invokestatic 79, 3) := by decide +kernel
theorem dX8_wordKind_50 : decode cX8_wordKind 50 = .ok (.ior, 1) := by decide +kernel
theorem dX8_wordKind_51 : decode cX8_wordKind 51 = .ok (.putfield 56, 3) := by decide +kernel
theorem dX8_wordKind_54 : decode cX8_wordKind 54 = .ok (.iinc 1 1, 3) := by decide +kernel
theorem dX8_wordKind_57 : decode cX8_wordKind 57 = .ok (.aload_n 0, 1) := by decide +kernel
theorem dX8_wordKind_58 : decode cX8_wordKind 58 = .ok (.dup, 1) := by decide +kernel
theorem dX8_wordKind_59 : decode cX8_wordKind 59 = .ok (.getfield 40, 3) := by decide +kernel
theorem dX8_wordKind_62 : decode cX8_wordKind 62 = .ok (.iconst 1, 1) := by decide +kernel
theorem dX8_wordKind_63 : decode cX8_wordKind 63 = .ok (.iadd, 1) := by decide +kernel
theorem dX8_wordKind_64 : decode cX8_wordKind 64 = .ok (.putfield 40, 3) := by decide +kernel
theorem dX8_wordKind_67 : decode cX8_wordKind 67 = .ok (.goto (-65), 3) := by decide +kernel
theorem dX8_wordKind_70 : decode cX8_wordKind 70 = .ok (.iload_n 1, 1) := by decide +kernel
theorem dX8_wordKind_71 : decode cX8_wordKind 71 = .ok (.bipush 6, 2) := by decide +kernel
theorem dX8_wordKind_73 : decode cX8_wordKind 73 = .ok (.if_icmp .le 6, 3) := by decide +kernel
theorem dX8_wordKind_76 : decode cX8_wordKind 76 = .ok (.bipush 36, 2) := by decide +kernel
theorem dX8_wordKind_78 : decode cX8_wordKind 78 = .ok (.ireturn, 1) := by decide +kernel
theorem dX8_wordKind_79 : decode cX8_wordKind 79 = .ok (.iconst 0, 1) := by decide +kernel
theorem dX8_wordKind_80 : decode cX8_wordKind 80 = .ok (.istore_n 2, 1) := by decide +kernel
theorem dX8_wordKind_81 : decode cX8_wordKind 81 = .ok (.iload_n 2, 1) := by decide +kernel
theorem dX8_wordKind_82 : decode cX8_wordKind 82 = .ok (.bipush 21, 2) := by decide +kernel
theorem dX8_wordKind_84 : decode cX8_wordKind 84 = .ok (.if_icmp .ge 24, 3) := by decide +kernel
theorem dX8_wordKind_87 : decode cX8_wordKind 87 = .ok (.aload_n 0, 1) := by decide +kernel
theorem dX8_wordKind_88 : decode cX8_wordKind 88 = .ok (.getfield 15, 3) := by decide +kernel
theorem dX8_wordKind_91 : decode cX8_wordKind 91 = .ok (.iload_n 2, 1) := by decide +kernel
theorem dX8_wordKind_92 : decode cX8_wordKind 92 = .ok (.iaload, 1) := by decide +kernel
theorem dX8_wordKind_93 : decode cX8_wordKind 93 = .ok (.aload_n 0, 1) := by decide +kernel
theorem dX8_wordKind_94 : decode cX8_wordKind 94 = .ok (.getfield 56, 3) := by decide +kernel
theorem dX8_wordKind_97 : decode cX8_wordKind 97 = .ok (.if_icmp .ne 5, 3) := by decide +kernel
theorem dX8_wordKind_100 : decode cX8_wordKind 100 = .ok (.iload_n 2, 1) := by decide +kernel
theorem dX8_wordKind_101 : decode cX8_wordKind 101 = .ok (.ireturn, 1) := by decide +kernel
theorem dX8_wordKind_102 : decode cX8_wordKind 102 = .ok (.iinc 2 1, 3) := by decide +kernel
theorem dX8_wordKind_105 : decode cX8_wordKind 105 = .ok (.goto (-24), 3) := by decide +kernel
theorem dX8_wordKind_108 : decode cX8_wordKind 108 = .ok (.bipush 21, 2) := by decide +kernel
theorem dX8_wordKind_110 : decode cX8_wordKind 110 = .ok (.ireturn, 1) := by decide +kernel
theorem dX8_packed_0 : decode cX8_packed 0 = .ok (.iload_n 0, 1) := by decide +kernel
theorem dX8_packed_1 : decode cX8_packed 1 = .ok (.bipush 97, 2) := by decide +kernel
theorem dX8_packed_3 : decode cX8_packed 3 = .ok (.isub, 1) := by decide +kernel
theorem dX8_packed_4 : decode cX8_packed 4 = .ok (.iconst 1, 1) := by decide +kernel
theorem dX8_packed_5 : decode cX8_packed 5 = .ok (.iadd, 1) := by decide +kernel
theorem dX8_packed_6 : decode cX8_packed 6 = .ok (.iconst 5, 1) := by decide +kernel
theorem dX8_packed_7 : decode cX8_packed 7 = .ok (.iconst 5, 1) := by decide +kernel
theorem dX8_packed_8 : decode cX8_packed 8 = .ok (.iload_n 1, 1) := by decide +kernel
theorem dX8_packed_9 : decode cX8_packed 9 = .ok (.isub, 1) := by decide +kernel
theorem dX8_packed_10 : decode cX8_packed 10 = .ok (.imul, 1) := by decide +kernel
theorem dX8_packed_11 : decode cX8_packed 11 = .ok (.ishl, 1) := by decide +kernel
theorem dX8_packed_12 : decode cX8_packed 12 = .ok (.ireturn, 1) := by decide +kernel
theorem dX8_packedWord_0 : decode cX8_packedWord 0 = .ok (.iconst 0, 1) := by decide +kernel
theorem dX8_packedWord_1 : decode cX8_packedWord 1 = .ok (.istore_n 2, 1) := by decide +kernel
theorem dX8_packedWord_2 : decode cX8_packedWord 2 = .ok (.iconst 0, 1) := by decide +kernel
theorem dX8_packedWord_3 : decode cX8_packedWord 3 = .ok (.istore_n 3, 1) := by decide +kernel
theorem dX8_packedWord_4 : decode cX8_packedWord 4 = .ok (.iload_n 3, 1) := by decide +kernel
theorem dX8_packedWord_5 : decode cX8_packedWord 5 = .ok (.bipush 6, 2) := by decide +kernel
theorem dX8_packedWord_7 : decode cX8_packedWord 7 = .ok (.if_icmp .ge 50, 3) := by decide +kernel
theorem dX8_packedWord_10 : decode cX8_packedWord 10 = .ok (.bipush 6, 2) := by decide +kernel
theorem dX8_packedWord_12 : decode cX8_packedWord 12 = .ok (.iload_n 1, 1) := by decide +kernel
theorem dX8_packedWord_13 : decode cX8_packedWord 13 = .ok (.imul, 1) := by decide +kernel
theorem dX8_packedWord_14 : decode cX8_packedWord 14 = .ok (.iload_n 3, 1) := by decide +kernel
theorem dX8_packedWord_15 : decode cX8_packedWord 15 = .ok (.iadd, 1) := by decide +kernel
theorem dX8_packedWord_16 : decode cX8_packedWord 16 = .ok (.aload_n 0, 1) := by decide +kernel
theorem dX8_packedWord_17 : decode cX8_packedWord 17 = .ok (.invokevirtual 82, 3) := by decide +kernel
theorem dX8_packedWord_20 : decode cX8_packedWord 20 = .ok (.if_icmp .ge 37, 3) := by decide +kernel
theorem dX8_packedWord_23 : decode cX8_packedWord 23 = .ok (.aload_n 0, 1) := by decide +kernel
theorem dX8_packedWord_24 : decode cX8_packedWord 24 = .ok (.bipush 6, 2) := by decide +kernel
theorem dX8_packedWord_26 : decode cX8_packedWord 26 = .ok (.iload_n 1, 1) := by decide +kernel
theorem dX8_packedWord_27 : decode cX8_packedWord 27 = .ok (.imul, 1) := by decide +kernel
theorem dX8_packedWord_28 : decode cX8_packedWord 28 = .ok (.iload_n 3, 1) := by decide +kernel
theorem dX8_packedWord_29 : decode cX8_packedWord 29 = .ok (.iadd, 1) := by decide +kernel
theorem dX8_packedWord_30 : decode cX8_packedWord 30 = .ok (.invokevirtual 86, 3) := by decide +kernel
theorem dX8_packedWord_33 : decode cX8_packedWord 33 = .ok (.istore 4, 2) := by decide +kernel
theorem dX8_packedWord_35 : decode cX8_packedWord 35 = .ok (.iload 4, 2) := by decide +kernel
theorem dX8_packedWord_37 : decode cX8_packedWord 37 = .ok (.bipush 32, 2) := by decide +kernel
theorem dX8_packedWord_39 : decode cX8_packedWord 39 = .ok (.if_icmp .eq 12, 3) := by decide +kernel
theorem dX8_packedWord_42 : decode cX8_packedWord 42 = .ok (.iload_n 2, 1) := by decide +kernel
theorem dX8_packedWord_43 : decode cX8_packedWord 43 = .ok (.iload 4, 2) := by decide +kernel
theorem dX8_packedWord_45 : decode cX8_packedWord 45 = .ok (.iload_n 3, 1) := by decide +kernel
theorem dX8_packedWord_46 : decode cX8_packedWord 46 = .ok (.invokestatic 79, 3) := by decide +kernel
theorem dX8_packedWord_49 : decode cX8_packedWord 49 = .ok (.ior, 1) := by decide +kernel
theorem dX8_packedWord_50 : decode cX8_packedWord 50 = .ok (.istore_n 2, 1) := by decide +kernel
theorem dX8_packedWord_51 : decode cX8_packedWord 51 = .ok (.iinc 3 1, 3) := by decide +kernel
theorem dX8_packedWord_54 : decode cX8_packedWord 54 = .ok (.goto (-50), 3) := by decide +kernel
theorem dX8_packedWord_57 : decode cX8_packedWord 57 = .ok (.iload_n 2, 1) := by decide +kernel
theorem dX8_packedWord_58 : decode cX8_packedWord 58 = .ok (.ireturn, 1) := by decide +kernel
theorem dX8_numberKind_0 : decode cX8_numberKind 0 = .ok (.aload_n 0, 1) := by decide +kernel
theorem dX8_numberKind_1 : decode cX8_numberKind 1 = .ok (.getfield 40, 3) := by decide +kernel
theorem dX8_numberKind_4 : decode cX8_numberKind 4 = .ok (.aload_n 0, 1) := by decide +kernel
theorem dX8_numberKind_5 : decode cX8_numberKind 5 = .ok (.getfield 37, 3) := by decide +kernel
theorem dX8_numberKind_8 : decode cX8_numberKind 8 = .ok (.if_icmp .ge 62, 3) := by decide +kernel
theorem dX8_numberKind_11 : decode cX8_numberKind 11 = .ok (.aload_n 0, 1) := by decide +kernel
theorem dX8_numberKind_12 : decode cX8_numberKind 12 = .ok (.aload_n 0, 1) := by decide +kernel
theorem dX8_numberKind_13 : decode cX8_numberKind 13 = .ok (.getfield 40, 3) := by decide +kernel
theorem dX8_numberKind_16 : decode cX8_numberKind 16 = .ok (.invokevirtual 52, 3) := by decide +kernel
theorem dX8_numberKind_19 : decode cX8_numberKind 19 = .ok (.invokestatic 70, 3) := by decide +kernel
theorem dX8_numberKind_22 : decode cX8_numberKind 22 = .ok (.ifCond .eq 48, 3) := by decide +kernel
theorem dX8_numberKind_25 : decode cX8_numberKind 25 = .ok (.aload_n 0, 1) := by decide +kernel
theorem dX8_numberKind_26 : decode cX8_numberKind 26 = .ok (.getfield 56, 3) := by decide +kernel
theorem dX8_numberKind_29 : decode cX8_numberKind 29 = .ok (.ldc 90, 2) := by decide +kernel
theorem dX8_numberKind_31 : decode cX8_numberKind 31 = .ok (.if_icmp .ge 26, 3) := by decide +kernel
theorem dX8_numberKind_34 : decode cX8_numberKind 34 = .ok (.aload_n 0, 1) := by decide +kernel
theorem dX8_numberKind_35 : decode cX8_numberKind 35 = .ok (.bipush 10, 2) := by decide +kernel
theorem dX8_numberKind_37 : decode cX8_numberKind 37 = .ok (.aload_n 0, 1) := by decide +kernel
theorem dX8_numberKind_38 : decode cX8_numberKind 38 = .ok (.getfield 56, 3) := by decide +kernel
theorem dX8_numberKind_41 : decode cX8_numberKind 41 = .ok (.imul, 1) := by decide +kernel
theorem dX8_numberKind_42 : decode cX8_numberKind 42 = .ok (.aload_n 0, 1) := by decide +kernel
theorem dX8_numberKind_43 : decode cX8_numberKind 43 = .ok (.aload_n 0, 1) := by decide +kernel
theorem dX8_numberKind_44 : decode cX8_numberKind 44 = .ok (.getfield 40, 3) := by decide +kernel
theorem dX8_numberKind_47 : decode cX8_numberKind 47 = .ok (.invokevirtual 52, 3) := by decide +kernel
theorem dX8_numberKind_50 : decode cX8_numberKind 50 = .ok (.iadd, 1) := by decide +kernel
theorem dX8_numberKind_51 : decode cX8_numberKind 51 = .ok (.bipush 48, 2) := by decide +kernel
theorem dX8_numberKind_53 : decode cX8_numberKind 53 = .ok (.isub, 1) := by decide +kernel
theorem dX8_numberKind_54 : decode cX8_numberKind 54 = .ok (.putfield 56, 3) := by decide +kernel
theorem dX8_numberKind_57 : decode cX8_numberKind 57 = .ok (.aload_n 0, 1) := by decide +kernel
theorem dX8_numberKind_58 : decode cX8_numberKind 58 = .ok (.dup, 1) := by decide +kernel
theorem dX8_numberKind_59 : decode cX8_numberKind 59 = .ok (.getfield 40, 3) := by decide +kernel
theorem dX8_numberKind_62 : decode cX8_numberKind 62 = .ok (.iconst 1, 1) := by decide +kernel
theorem dX8_numberKind_63 : decode cX8_numberKind 63 = .ok (.iadd, 1) := by decide +kernel
theorem dX8_numberKind_64 : decode cX8_numberKind 64 = .ok (.putfield 40, 3) := by decide +kernel
theorem dX8_numberKind_67 : decode cX8_numberKind 67 = .ok (.goto (-67), 3) := by decide +kernel
theorem dX8_numberKind_70 : decode cX8_numberKind 70 = .ok (.bipush 22, 2) := by decide +kernel
theorem dX8_numberKind_72 : decode cX8_numberKind 72 = .ok (.ireturn, 1) := by decide +kernel
theorem dX8_signKind_0 : decode cX8_signKind 0 = .ok (.aload_n 0, 1) := by decide +kernel
theorem dX8_signKind_1 : decode cX8_signKind 1 = .ok (.aload_n 0, 1) := by decide +kernel
theorem dX8_signKind_2 : decode cX8_signKind 2 = .ok (.getfield 40, 3) := by decide +kernel
theorem dX8_signKind_5 : decode cX8_signKind 5 = .ok (.invokevirtual 52, 3) := by decide +kernel
theorem dX8_signKind_8 : decode cX8_signKind 8 = .ok (.istore_n 2, 1) := by decide +kernel
theorem dX8_signKind_9 : decode cX8_signKind 9 = .ok (.iload_n 1, 1) := by decide +kernel
theorem dX8_signKind_10 : decode cX8_signKind 10 = .ok (.tableswitch 191 40 62 #[109, 112, 121, 115, 191, 118, 191, 124, 191, 191, 191, 191, 191, 191, 191, 191, 191, 191, 191, 106, 130, 127, 169], 106) := by decide +kernel
theorem dX8_signKind_116 : decode cX8_signKind 116 = .ok (.bipush 23, 2) := by decide +kernel
theorem dX8_signKind_118 : decode cX8_signKind 118 = .ok (.ireturn, 1) := by decide +kernel
theorem dX8_signKind_119 : decode cX8_signKind 119 = .ok (.bipush 24, 2) := by decide +kernel
theorem dX8_signKind_121 : decode cX8_signKind 121 = .ok (.ireturn, 1) := by decide +kernel
theorem dX8_signKind_122 : decode cX8_signKind 122 = .ok (.bipush 25, 2) := by decide +kernel
theorem dX8_signKind_124 : decode cX8_signKind 124 = .ok (.ireturn, 1) := by decide +kernel
theorem dX8_signKind_125 : decode cX8_signKind 125 = .ok (.bipush 26, 2) := by decide +kernel
theorem dX8_signKind_127 : decode cX8_signKind 127 = .ok (.ireturn, 1) := by decide +kernel
theorem dX8_signKind_128 : decode cX8_signKind 128 = .ok (.bipush 27, 2) := by decide +kernel
theorem dX8_signKind_130 : decode cX8_signKind 130 = .ok (.ireturn, 1) := by decide +kernel
theorem dX8_signKind_131 : decode cX8_signKind 131 = .ok (.bipush 28, 2) := by decide +kernel
theorem dX8_signKind_133 : decode cX8_signKind 133 = .ok (.ireturn, 1) := by decide +kernel
theorem dX8_signKind_134 : decode cX8_signKind 134 = .ok (.bipush 29, 2) := by decide +kernel
theorem dX8_signKind_136 : decode cX8_signKind 136 = .ok (.ireturn, 1) := by decide +kernel
theorem dX8_signKind_137 : decode cX8_signKind 137 = .ok (.bipush 32, 2) := by decide +kernel
theorem dX8_signKind_139 : decode cX8_signKind 139 = .ok (.ireturn, 1) := by decide +kernel
theorem dX8_signKind_140 : decode cX8_signKind 140 = .ok (.iload_n 2, 1) := by decide +kernel
theorem dX8_signKind_141 : decode cX8_signKind 141 = .ok (.bipush 61, 2) := by decide +kernel
theorem dX8_signKind_143 : decode cX8_signKind 143 = .ok (.if_icmp .eq 12, 3) := by decide +kernel
theorem dX8_signKind_146 : decode cX8_signKind 146 = .ok (.iload_n 2, 1) := by decide +kernel
theorem dX8_signKind_147 : decode cX8_signKind 147 = .ok (.bipush 62, 2) := by decide +kernel
theorem dX8_signKind_149 : decode cX8_signKind 149 = .ok (.if_icmp .eq 6, 3) := by decide +kernel
theorem dX8_signKind_152 : decode cX8_signKind 152 = .ok (.bipush 30, 2) := by decide +kernel
theorem dX8_signKind_154 : decode cX8_signKind 154 = .ok (.ireturn, 1) := by decide +kernel
theorem dX8_signKind_155 : decode cX8_signKind 155 = .ok (.aload_n 0, 1) := by decide +kernel
theorem dX8_signKind_156 : decode cX8_signKind 156 = .ok (.dup, 1) := by decide +kernel
theorem dX8_signKind_157 : decode cX8_signKind 157 = .ok (.getfield 40, 3) := by decide +kernel
theorem dX8_signKind_160 : decode cX8_signKind 160 = .ok (.iconst 1, 1) := by decide +kernel
theorem dX8_signKind_161 : decode cX8_signKind 161 = .ok (.iadd, 1) := by decide +kernel
theorem dX8_signKind_162 : decode cX8_signKind 162 = .ok (.putfield 40, 3) := by decide +kernel
theorem dX8_signKind_165 : decode cX8_signKind 165 = .ok (.iload_n 2, 1) := by decide +kernel
theorem dX8_signKind_166 : decode cX8_signKind 166 = .ok (.bipush 61, 2) := by decide +kernel
theorem dX8_signKind_168 : decode cX8_signKind 168 = .ok (.if_icmp .ne 8, 3) := by decide +kernel
theorem dX8_signKind_171 : decode cX8_signKind 171 = .ok (.bipush 31, 2) := by decide +kernel
theorem dX8_signKind_173 : decode cX8_signKind 173 = .ok (.goto 5, 3) := by decide +kernel
theorem dX8_signKind_176 : decode cX8_signKind 176 = .ok (.bipush 33, 2) := by decide +kernel
theorem dX8_signKind_178 : decode cX8_signKind 178 = .ok (.ireturn, 1) := by decide +kernel
theorem dX8_signKind_179 : decode cX8_signKind 179 = .ok (.iload_n 2, 1) := by decide +kernel
theorem dX8_signKind_180 : decode cX8_signKind 180 = .ok (.bipush 61, 2) := by decide +kernel
theorem dX8_signKind_182 : decode cX8_signKind 182 = .ok (.if_icmp .eq 6, 3) := by decide +kernel
theorem dX8_signKind_185 : decode cX8_signKind 185 = .ok (.bipush 35, 2) := by decide +kernel
theorem dX8_signKind_187 : decode cX8_signKind 187 = .ok (.ireturn, 1) := by decide +kernel
theorem dX8_signKind_188 : decode cX8_signKind 188 = .ok (.aload_n 0, 1) := by decide +kernel
theorem dX8_signKind_189 : decode cX8_signKind 189 = .ok (.dup, 1) := by decide +kernel
theorem dX8_signKind_190 : decode cX8_signKind 190 = .ok (.getfield 40, 3) := by decide +kernel
theorem dX8_signKind_193 : decode cX8_signKind 193 = .ok (.iconst 1, 1) := by decide +kernel
theorem dX8_signKind_194 : decode cX8_signKind 194 = .ok (.iadd, 1) := by decide +kernel
theorem dX8_signKind_195 : decode cX8_signKind 195 = .ok (.putfield 40, 3) := by decide +kernel
theorem dX8_signKind_198 : decode cX8_signKind 198 = .ok (.bipush 34, 2) := by decide +kernel
theorem dX8_signKind_200 : decode cX8_signKind 200 = .ok (.ireturn, 1) := by decide +kernel
theorem dX8_signKind_201 : decode cX8_signKind 201 = .ok (.bipush 36, 2) := by decide +kernel
theorem dX8_signKind_203 : decode cX8_signKind 203 = .ok (.ireturn, 1) := by decide +kernel
theorem dX9_init_0 : decode cX9_init 0 = .ok (.aload_n 0, 1) := by decide +kernel
theorem dX9_init_1 : decode cX9_init 1 = .ok (.invokespecial 3, 3) := by decide +kernel
theorem dX9_init_4 : decode cX9_init 4 = .ok (.aload_n 0, 1) := by decide +kernel
theorem dX9_init_5 : decode cX9_init 5 = .ok (.bipush 20, 2) := by decide +kernel
theorem dX9_init_7 : decode cX9_init 7 = .ok (.putfield 9, 3) := by decide +kernel
theorem dX9_init_10 : decode cX9_init 10 = .ok (.aload_n 0, 1) := by decide +kernel
theorem dX9_init_11 : decode cX9_init 11 = .ok (.iconst (-1), 1) := by decide +kernel
theorem dX9_init_12 : decode cX9_init 12 = .ok (.putfield 15, 3) := by decide +kernel
theorem dX9_init_15 : decode cX9_init 15 = .ok (.aload_n 0, 1) := by decide +kernel
theorem dX9_init_16 : decode cX9_init 16 = .ok (.iconst 4, 1) := by decide +kernel
theorem dX9_init_17 : decode cX9_init 17 = .ok (.newarray .int, 2) := by decide +kernel
theorem dX9_init_19 : decode cX9_init 19 = .ok (.putfield 18, 3) := by decide +kernel
theorem dX9_init_22 : decode cX9_init 22 = .ok (.aload_n 0, 1) := by decide +kernel
theorem dX9_init_23 : decode cX9_init 23 = .ok (.iconst 4, 1) := by decide +kernel
theorem dX9_init_24 : decode cX9_init 24 = .ok (.newarray .int, 2) := by decide +kernel
theorem dX9_init_26 : decode cX9_init 26 = .ok (.putfield 22, 3) := by decide +kernel
theorem dX9_init_29 : decode cX9_init 29 = .ok (.aload_n 0, 1) := by decide +kernel
theorem dX9_init_30 : decode cX9_init 30 = .ok (.iconst 4, 1) := by decide +kernel
theorem dX9_init_31 : decode cX9_init 31 = .ok (.newarray .int, 2) := by decide +kernel
theorem dX9_init_33 : decode cX9_init 33 = .ok (.putfield 25, 3) := by decide +kernel
theorem dX9_init_36 : decode cX9_init 36 = .ok (.aload_n 0, 1) := by decide +kernel
theorem dX9_init_37 : decode cX9_init 37 = .ok (.bipush 6, 2) := by decide +kernel
theorem dX9_init_39 : decode cX9_init 39 = .ok (.newarray .int, 2) := by decide +kernel
theorem dX9_init_41 : decode cX9_init 41 = .ok (.putfield 28, 3) := by decide +kernel
theorem dX9_init_44 : decode cX9_init 44 = .ok (.aload_n 0, 1) := by decide +kernel
theorem dX9_init_45 : decode cX9_init 45 = .ok (.bipush 6, 2) := by decide +kernel
theorem dX9_init_47 : decode cX9_init 47 = .ok (.newarray .int, 2) := by decide +kernel
theorem dX9_init_49 : decode cX9_init 49 = .ok (.putfield 31, 3) := by decide +kernel
theorem dX9_init_52 : decode cX9_init 52 = .ok (.aload_n 0, 1) := by decide +kernel
theorem dX9_init_53 : decode cX9_init 53 = .ok (.bipush 6, 2) := by decide +kernel
theorem dX9_init_55 : decode cX9_init 55 = .ok (.newarray .int, 2) := by decide +kernel
theorem dX9_init_57 : decode cX9_init 57 = .ok (.putfield 34, 3) := by decide +kernel
theorem dX9_init_60 : decode cX9_init 60 = .ok (.aload_n 0, 1) := by decide +kernel
theorem dX9_init_61 : decode cX9_init 61 = .ok (.bipush 12, 2) := by decide +kernel
theorem dX9_init_63 : decode cX9_init 63 = .ok (.newarray .int, 2) := by decide +kernel
theorem dX9_init_65 : decode cX9_init 65 = .ok (.putfield 37, 3) := by decide +kernel
theorem dX9_init_68 : decode cX9_init 68 = .ok (.aload_n 0, 1) := by decide +kernel
theorem dX9_init_69 : decode cX9_init 69 = .ok (.bipush 12, 2) := by decide +kernel
theorem dX9_init_71 : decode cX9_init 71 = .ok (.newarray .int, 2) := by decide +kernel
theorem dX9_init_73 : decode cX9_init 73 = .ok (.putfield 40, 3) := by decide +kernel
theorem dX9_init_76 : decode cX9_init 76 = .ok (.aload_n 0, 1) := by decide +kernel
theorem dX9_init_77 : decode cX9_init 77 = .ok (.bipush 12, 2) := by decide +kernel
theorem dX9_init_79 : decode cX9_init 79 = .ok (.newarray .int, 2) := by decide +kernel
theorem dX9_init_81 : decode cX9_init 81 = .ok (.putfield 43, 3) := by decide +kernel
theorem dX9_init_84 : decode cX9_init 84 = .ok (.aload_n 0, 1) := by decide +kernel
theorem dX9_init_85 : decode cX9_init 85 = .ok (.bipush 16, 2) := by decide +kernel
theorem dX9_init_87 : decode cX9_init 87 = .ok (.newarray .int, 2) := by decide +kernel
theorem dX9_init_89 : decode cX9_init 89 = .ok (.putfield 46, 3) := by decide +kernel
theorem dX9_init_92 : decode cX9_init 92 = .ok (.aload_n 0, 1) := by decide +kernel
theorem dX9_init_93 : decode cX9_init 93 = .ok (.new 49, 3) := by decide +kernel
theorem dX9_init_96 : decode cX9_init 96 = .ok (.dup, 1) := by decide +kernel
theorem dX9_init_97 : decode cX9_init 97 = .ok (.invokespecial 51, 3) := by decide +kernel
theorem dX9_init_100 : decode cX9_init 100 = .ok (.putfield 52, 3) := by decide +kernel
theorem dX9_init_103 : decode cX9_init 103 = .ok (.return_, 1) := by decide +kernel
theorem dX9_clear_0 : decode cX9_clear 0 = .ok (.aload_n 0, 1) := by decide +kernel
theorem dX9_clear_1 : decode cX9_clear 1 = .ok (.bipush 20, 2) := by decide +kernel
theorem dX9_clear_3 : decode cX9_clear 3 = .ok (.putfield 9, 3) := by decide +kernel
theorem dX9_clear_6 : decode cX9_clear 6 = .ok (.aload_n 0, 1) := by decide +kernel
theorem dX9_clear_7 : decode cX9_clear 7 = .ok (.iconst 0, 1) := by decide +kernel
theorem dX9_clear_8 : decode cX9_clear 8 = .ok (.putfield 56, 3) := by decide +kernel
theorem dX9_clear_11 : decode cX9_clear 11 = .ok (.aload_n 0, 1) := by decide +kernel
theorem dX9_clear_12 : decode cX9_clear 12 = .ok (.iconst 0, 1) := by decide +kernel
theorem dX9_clear_13 : decode cX9_clear 13 = .ok (.putfield 59, 3) := by decide +kernel
theorem dX9_clear_16 : decode cX9_clear 16 = .ok (.aload_n 0, 1) := by decide +kernel
theorem dX9_clear_17 : decode cX9_clear 17 = .ok (.iconst 0, 1) := by decide +kernel
theorem dX9_clear_18 : decode cX9_clear 18 = .ok (.putfield 62, 3) := by decide +kernel
theorem dX9_clear_21 : decode cX9_clear 21 = .ok (.aload_n 0, 1) := by decide +kernel
theorem dX9_clear_22 : decode cX9_clear 22 = .ok (.iconst 0, 1) := by decide +kernel
theorem dX9_clear_23 : decode cX9_clear 23 = .ok (.putfield 65, 3) := by decide +kernel
theorem dX9_clear_26 : decode cX9_clear 26 = .ok (.aload_n 0, 1) := by decide +kernel
theorem dX9_clear_27 : decode cX9_clear 27 = .ok (.iconst (-1), 1) := by decide +kernel
theorem dX9_clear_28 : decode cX9_clear 28 = .ok (.putfield 15, 3) := by decide +kernel
theorem dX9_clear_31 : decode cX9_clear 31 = .ok (.aload_n 0, 1) := by decide +kernel
theorem dX9_clear_32 : decode cX9_clear 32 = .ok (.iconst 0, 1) := by decide +kernel
theorem dX9_clear_33 : decode cX9_clear 33 = .ok (.putfield 68, 3) := by decide +kernel
theorem dX9_clear_36 : decode cX9_clear 36 = .ok (.aload_n 0, 1) := by decide +kernel
theorem dX9_clear_37 : decode cX9_clear 37 = .ok (.iconst 0, 1) := by decide +kernel
theorem dX9_clear_38 : decode cX9_clear 38 = .ok (.putfield 71, 3) := by decide +kernel
theorem dX9_clear_41 : decode cX9_clear 41 = .ok (.aload_n 0, 1) := by decide +kernel
theorem dX9_clear_42 : decode cX9_clear 42 = .ok (.getfield 46, 3) := by decide +kernel
theorem dX9_clear_45 : decode cX9_clear 45 = .ok (.iconst 0, 1) := by decide +kernel
theorem dX9_clear_46 : decode cX9_clear 46 = .ok (.invokestatic 74, 3) := by decide +kernel
theorem dX9_clear_49 : decode cX9_clear 49 = .ok (.aload_n 0, 1) := by decide +kernel
theorem dX9_clear_50 : decode cX9_clear 50 = .ok (.getfield 52, 3) := by decide +kernel
theorem dX9_clear_53 : decode cX9_clear 53 = .ok (.invokevirtual 80, 3) := by decide +kernel
theorem dX9_clear_56 : decode cX9_clear 56 = .ok (.return_, 1) := by decide +kernel
theorem dX9_take_0 : decode cX9_take 0 = .ok (.aload_n 0, 1) := by decide +kernel
theorem dX9_take_1 : decode cX9_take 1 = .ok (.aload_n 1, 1) := by decide +kernel
theorem dX9_take_2 : decode cX9_take 2 = .ok (.getfield 9, 3) := by decide +kernel
theorem dX9_take_5 : decode cX9_take 5 = .ok (.putfield 9, 3) := by decide +kernel
theorem dX9_take_8 : decode cX9_take 8 = .ok (.aload_n 0, 1) := by decide +kernel
theorem dX9_take_9 : decode cX9_take 9 = .ok (.aload_n 1, 1) := by decide +kernel
theorem dX9_take_10 : decode cX9_take 10 = .ok (.getfield 56, 3) := by decide +kernel
theorem dX9_take_13 : decode cX9_take 13 = .ok (.putfield 56, 3) := by decide +kernel
theorem dX9_take_16 : decode cX9_take 16 = .ok (.aload_n 0, 1) := by decide +kernel
theorem dX9_take_17 : decode cX9_take 17 = .ok (.aload_n 1, 1) := by decide +kernel
theorem dX9_take_18 : decode cX9_take 18 = .ok (.getfield 59, 3) := by decide +kernel
theorem dX9_take_21 : decode cX9_take 21 = .ok (.putfield 59, 3) := by decide +kernel
theorem dX9_take_24 : decode cX9_take 24 = .ok (.aload_n 0, 1) := by decide +kernel
theorem dX9_take_25 : decode cX9_take 25 = .ok (.aload_n 1, 1) := by decide +kernel
theorem dX9_take_26 : decode cX9_take 26 = .ok (.getfield 62, 3) := by decide +kernel
theorem dX9_take_29 : decode cX9_take 29 = .ok (.putfield 62, 3) := by decide +kernel
theorem dX9_take_32 : decode cX9_take 32 = .ok (.aload_n 0, 1) := by decide +kernel
theorem dX9_take_33 : decode cX9_take 33 = .ok (.aload_n 1, 1) := by decide +kernel
theorem dX9_take_34 : decode cX9_take 34 = .ok (.getfield 65, 3) := by decide +kernel
theorem dX9_take_37 : decode cX9_take 37 = .ok (.putfield 65, 3) := by decide +kernel
theorem dX9_take_40 : decode cX9_take 40 = .ok (.aload_n 0, 1) := by decide +kernel
theorem dX9_take_41 : decode cX9_take 41 = .ok (.aload_n 1, 1) := by decide +kernel
theorem dX9_take_42 : decode cX9_take 42 = .ok (.getfield 15, 3) := by decide +kernel
theorem dX9_take_45 : decode cX9_take 45 = .ok (.putfield 15, 3) := by decide +kernel
theorem dX9_take_48 : decode cX9_take 48 = .ok (.aload_n 0, 1) := by decide +kernel
theorem dX9_take_49 : decode cX9_take 49 = .ok (.aload_n 1, 1) := by decide +kernel
theorem dX9_take_50 : decode cX9_take 50 = .ok (.getfield 68, 3) := by decide +kernel
theorem dX9_take_53 : decode cX9_take 53 = .ok (.putfield 68, 3) := by decide +kernel
theorem dX9_take_56 : decode cX9_take 56 = .ok (.aload_n 0, 1) := by decide +kernel
theorem dX9_take_57 : decode cX9_take 57 = .ok (.aload_n 1, 1) := by decide +kernel
theorem dX9_take_58 : decode cX9_take 58 = .ok (.getfield 71, 3) := by decide +kernel
theorem dX9_take_61 : decode cX9_take 61 = .ok (.putfield 71, 3) := by decide +kernel
theorem dX9_take_64 : decode cX9_take 64 = .ok (.aload_n 1, 1) := by decide +kernel
theorem dX9_take_65 : decode cX9_take 65 = .ok (.getfield 18, 3) := by decide +kernel
theorem dX9_take_68 : decode cX9_take 68 = .ok (.iconst 0, 1) := by decide +kernel
theorem dX9_take_69 : decode cX9_take 69 = .ok (.aload_n 0, 1) := by decide +kernel
theorem dX9_take_70 : decode cX9_take 70 = .ok (.getfield 18, 3) := by decide +kernel
theorem dX9_take_73 : decode cX9_take 73 = .ok (.iconst 0, 1) := by decide +kernel
theorem dX9_take_74 : decode cX9_take 74 = .ok (.iconst 4, 1) := by decide +kernel
theorem dX9_take_75 : decode cX9_take 75 = .ok (.invokestatic 83, 3) := by decide +kernel
theorem dX9_take_78 : decode cX9_take 78 = .ok (.aload_n 1, 1) := by decide +kernel
theorem dX9_take_79 : decode cX9_take 79 = .ok (.getfield 22, 3) := by decide +kernel
theorem dX9_take_82 : decode cX9_take 82 = .ok (.iconst 0, 1) := by decide +kernel
theorem dX9_take_83 : decode cX9_take 83 = .ok (.aload_n 0, 1) := by decide +kernel
theorem dX9_take_84 : decode cX9_take 84 = .ok (.getfield 22, 3) := by decide +kernel
theorem dX9_take_87 : decode cX9_take 87 = .ok (.iconst 0, 1) := by decide +kernel
theorem dX9_take_88 : decode cX9_take 88 = .ok (.iconst 4, 1) := by decide +kernel
theorem dX9_take_89 : decode cX9_take 89 = .ok (.invokestatic 83, 3) := by decide +kernel
theorem dX9_take_92 : decode cX9_take 92 = .ok (.aload_n 1, 1) := by decide +kernel
theorem dX9_take_93 : decode cX9_take 93 = .ok (.getfield 25, 3) := by decide +kernel
theorem dX9_take_96 : decode cX9_take 96 = .ok (.iconst 0, 1) := by decide +kernel
theorem dX9_take_97 : decode cX9_take 97 = .ok (.aload_n 0, 1) := by decide +kernel
theorem dX9_take_98 : decode cX9_take 98 = .ok (.getfield 25, 3) := by decide +kernel
theorem dX9_take_101 : decode cX9_take 101 = .ok (.iconst 0, 1) := by decide +kernel
theorem dX9_take_102 : decode cX9_take 102 = .ok (.iconst 4, 1) := by decide +kernel
theorem dX9_take_103 : decode cX9_take 103 = .ok (.invokestatic 83, 3) := by decide +kernel
theorem dX9_take_106 : decode cX9_take 106 = .ok (.aload_n 1, 1) := by decide +kernel
theorem dX9_take_107 : decode cX9_take 107 = .ok (.getfield 28, 3) := by decide +kernel
theorem dX9_take_110 : decode cX9_take 110 = .ok (.iconst 0, 1) := by decide +kernel
theorem dX9_take_111 : decode cX9_take 111 = .ok (.aload_n 0, 1) := by decide +kernel
theorem dX9_take_112 : decode cX9_take 112 = .ok (.getfield 28, 3) := by decide +kernel
theorem dX9_take_115 : decode cX9_take 115 = .ok (.iconst 0, 1) := by decide +kernel
theorem dX9_take_116 : decode cX9_take 116 = .ok (.bipush 6, 2) := by decide +kernel
theorem dX9_take_118 : decode cX9_take 118 = .ok (.invokestatic 83, 3) := by decide +kernel
theorem dX9_take_121 : decode cX9_take 121 = .ok (.aload_n 1, 1) := by decide +kernel
theorem dX9_take_122 : decode cX9_take 122 = .ok (.getfield 31, 3) := by decide +kernel
theorem dX9_take_125 : decode cX9_take 125 = .ok (.iconst 0, 1) := by decide +kernel
theorem dX9_take_126 : decode cX9_take 126 = .ok (.aload_n 0, 1) := by decide +kernel
theorem dX9_take_127 : decode cX9_take 127 = .ok (.getfield 31, 3) := by decide +kernel
theorem dX9_take_130 : decode cX9_take 130 = .ok (.iconst 0, 1) := by decide +kernel
theorem dX9_take_131 : decode cX9_take 131 = .ok (.bipush 6, 2) := by decide +kernel
theorem dX9_take_133 : decode cX9_take 133 = .ok (.invokestatic 83, 3) := by decide +kernel
theorem dX9_take_136 : decode cX9_take 136 = .ok (.aload_n 1, 1) := by decide +kernel
theorem dX9_take_137 : decode cX9_take 137 = .ok (.getfield 34, 3) := by decide +kernel
theorem dX9_take_140 : decode cX9_take 140 = .ok (.iconst 0, 1) := by decide +kernel
theorem dX9_take_141 : decode cX9_take 141 = .ok (.aload_n 0, 1) := by decide +kernel
theorem dX9_take_142 : decode cX9_take 142 = .ok (.getfield 34, 3) := by decide +kernel
theorem dX9_take_145 : decode cX9_take 145 = .ok (.iconst 0, 1) := by decide +kernel
theorem dX9_take_146 : decode cX9_take 146 = .ok (.bipush 6, 2) := by decide +kernel
theorem dX9_take_148 : decode cX9_take 148 = .ok (.invokestatic 83, 3) := by decide +kernel
theorem dX9_take_151 : decode cX9_take 151 = .ok (.aload_n 1, 1) := by decide +kernel
theorem dX9_take_152 : decode cX9_take 152 = .ok (.getfield 37, 3) := by decide +kernel
theorem dX9_take_155 : decode cX9_take 155 = .ok (.iconst 0, 1) := by decide +kernel
theorem dX9_take_156 : decode cX9_take 156 = .ok (.aload_n 0, 1) := by decide +kernel
theorem dX9_take_157 : decode cX9_take 157 = .ok (.getfield 37, 3) := by decide +kernel
theorem dX9_take_160 : decode cX9_take 160 = .ok (.iconst 0, 1) := by decide +kernel
theorem dX9_take_161 : decode cX9_take 161 = .ok (.bipush 12, 2) := by decide +kernel
theorem dX9_take_163 : decode cX9_take 163 = .ok (.invokestatic 83, 3) := by decide +kernel
theorem dX9_take_166 : decode cX9_take 166 = .ok (.aload_n 1, 1) := by decide +kernel
theorem dX9_take_167 : decode cX9_take 167 = .ok (.getfield 40, 3) := by decide +kernel
theorem dX9_take_170 : decode cX9_take 170 = .ok (.iconst 0, 1) := by decide +kernel
theorem dX9_take_171 : decode cX9_take 171 = .ok (.aload_n 0, 1) := by decide +kernel
theorem dX9_take_172 : decode cX9_take 172 = .ok (.getfield 40, 3) := by decide +kernel
theorem dX9_take_175 : decode cX9_take 175 = .ok (.iconst 0, 1) := by decide +kernel
theorem dX9_take_176 : decode cX9_take 176 = .ok (.bipush 12, 2) := by decide +kernel
theorem dX9_take_178 : decode cX9_take 178 = .ok (.invokestatic 83, 3) := by decide +kernel
theorem dX9_take_181 : decode cX9_take 181 = .ok (.aload_n 1, 1) := by decide +kernel
theorem dX9_take_182 : decode cX9_take 182 = .ok (.getfield 43, 3) := by decide +kernel
theorem dX9_take_185 : decode cX9_take 185 = .ok (.iconst 0, 1) := by decide +kernel
theorem dX9_take_186 : decode cX9_take 186 = .ok (.aload_n 0, 1) := by decide +kernel
theorem dX9_take_187 : decode cX9_take 187 = .ok (.getfield 43, 3) := by decide +kernel
theorem dX9_take_190 : decode cX9_take 190 = .ok (.iconst 0, 1) := by decide +kernel
theorem dX9_take_191 : decode cX9_take 191 = .ok (.bipush 12, 2) := by decide +kernel
theorem dX9_take_193 : decode cX9_take 193 = .ok (.invokestatic 83, 3) := by decide +kernel
theorem dX9_take_196 : decode cX9_take 196 = .ok (.aload_n 1, 1) := by decide +kernel
theorem dX9_take_197 : decode cX9_take 197 = .ok (.getfield 46, 3) := by decide +kernel
theorem dX9_take_200 : decode cX9_take 200 = .ok (.iconst 0, 1) := by decide +kernel
theorem dX9_take_201 : decode cX9_take 201 = .ok (.aload_n 0, 1) := by decide +kernel
theorem dX9_take_202 : decode cX9_take 202 = .ok (.getfield 46, 3) := by decide +kernel
theorem dX9_take_205 : decode cX9_take 205 = .ok (.iconst 0, 1) := by decide +kernel
theorem dX9_take_206 : decode cX9_take 206 = .ok (.bipush 16, 2) := by decide +kernel
theorem dX9_take_208 : decode cX9_take 208 = .ok (.invokestatic 83, 3) := by decide +kernel
theorem dX9_take_211 : decode cX9_take 211 = .ok (.aload_n 0, 1) := by decide +kernel
theorem dX9_take_212 : decode cX9_take 212 = .ok (.getfield 52, 3) := by decide +kernel
theorem dX9_take_215 : decode cX9_take 215 = .ok (.aload_n 1, 1) := by decide +kernel
theorem dX9_take_216 : decode cX9_take 216 = .ok (.getfield 52, 3) := by decide +kernel
theorem dX9_take_219 : decode cX9_take 219 = .ok (.invokevirtual 89, 3) := by decide +kernel
theorem dX9_take_222 : decode cX9_take 222 = .ok (.return_, 1) := by decide +kernel
theorem dX9_parishNamed_0 : decode cX9_parishNamed 0 = .ok (.iload_n 1, 1) := by decide +kernel
theorem dX9_parishNamed_1 : decode cX9_parishNamed 1 = .ok (.aload_n 0, 1) := by decide +kernel
theorem dX9_parishNamed_2 : decode cX9_parishNamed 2 = .ok (.getfield 25, 3) := by decide +kernel
theorem dX9_parishNamed_5 : decode cX9_parishNamed 5 = .ok (.aload_n 0, 1) := by decide +kernel
theorem dX9_parishNamed_6 : decode cX9_parishNamed 6 = .ok (.getfield 59, 3) := by decide +kernel
theorem dX9_parishNamed_9 : decode cX9_parishNamed 9 = .ok (.invokestatic 93, 3) := by decide +kernel
theorem dX9_parishNamed_12 : decode cX9_parishNamed 12 = .ok (.ireturn, 1) := by decide +kernel
theorem dX9_childNamed_0 : decode cX9_childNamed 0 = .ok (.iload_n 1, 1) := by decide +kernel
theorem dX9_childNamed_1 : decode cX9_childNamed 1 = .ok (.aload_n 0, 1) := by decide +kernel
theorem dX9_childNamed_2 : decode cX9_childNamed 2 = .ok (.getfield 34, 3) := by decide +kernel
theorem dX9_childNamed_5 : decode cX9_childNamed 5 = .ok (.aload_n 0, 1) := by decide +kernel
theorem dX9_childNamed_6 : decode cX9_childNamed 6 = .ok (.getfield 62, 3) := by decide +kernel
theorem dX9_childNamed_9 : decode cX9_childNamed 9 = .ok (.invokestatic 93, 3) := by decide +kernel
theorem dX9_childNamed_12 : decode cX9_childNamed 12 = .ok (.ireturn, 1) := by decide +kernel
theorem dX9_placeOf_0 : decode cX9_placeOf 0 = .ok (.iconst 0, 1) := by decide +kernel
theorem dX9_placeOf_1 : decode cX9_placeOf 1 = .ok (.istore_n 3, 1) := by decide +kernel
theorem dX9_placeOf_2 : decode cX9_placeOf 2 = .ok (.iload_n 3, 1) := by decide +kernel
theorem dX9_placeOf_3 : decode cX9_placeOf 3 = .ok (.iload_n 2, 1) := by decide +kernel
theorem dX9_placeOf_4 : decode cX9_placeOf 4 = .ok (.if_icmp .ge 24, 3) := by decide +kernel
theorem dX9_placeOf_7 : decode cX9_placeOf 7 = .ok (.iload_n 3, 1) := by decide +kernel
theorem dX9_placeOf_8 : decode cX9_placeOf 8 = .ok (.aload_n 1, 1) := by decide +kernel
theorem dX9_placeOf_9 : decode cX9_placeOf 9 = .ok (.arraylength, 1) := by decide +kernel
theorem dX9_placeOf_10 : decode cX9_placeOf 10 = .ok (.if_icmp .ge 18, 3) := by decide +kernel
theorem dX9_placeOf_13 : decode cX9_placeOf 13 = .ok (.aload_n 1, 1) := by decide +kernel
theorem dX9_placeOf_14 : decode cX9_placeOf 14 = .ok (.iload_n 3, 1) := by decide +kernel
theorem dX9_placeOf_15 : decode cX9_placeOf 15 = .ok (.iaload, 1) := by decide +kernel
theorem dX9_placeOf_16 : decode cX9_placeOf 16 = .ok (.iload_n 0, 1) := by decide +kernel
theorem dX9_placeOf_17 : decode cX9_placeOf 17 = .ok (.if_icmp .ne 5, 3) := by decide +kernel
theorem dX9_placeOf_20 : decode cX9_placeOf 20 = .ok (.iload_n 3, 1) := by decide +kernel
theorem dX9_placeOf_21 : decode cX9_placeOf 21 = .ok (.ireturn, 1) := by decide +kernel
theorem dX9_placeOf_22 : decode cX9_placeOf 22 = .ok (.iinc 3 1, 3) := by decide +kernel
theorem dX9_placeOf_25 : decode cX9_placeOf 25 = .ok (.goto (-23), 3) := by decide +kernel
theorem dX9_placeOf_28 : decode cX9_placeOf 28 = .ok (.iconst (-1), 1) := by decide +kernel
theorem dX9_placeOf_29 : decode cX9_placeOf 29 = .ok (.ireturn, 1) := by decide +kernel
theorem dX9_hasChurch_0 : decode cX9_hasChurch 0 = .ok (.iconst 0, 1) := by decide +kernel
theorem dX9_hasChurch_1 : decode cX9_hasChurch 1 = .ok (.istore_n 3, 1) := by decide +kernel
theorem dX9_hasChurch_2 : decode cX9_hasChurch 2 = .ok (.iload_n 3, 1) := by decide +kernel
theorem dX9_hasChurch_3 : decode cX9_hasChurch 3 = .ok (.aload_n 0, 1) := by decide +kernel
theorem dX9_hasChurch_4 : decode cX9_hasChurch 4 = .ok (.getfield 59, 3) := by decide +kernel
theorem dX9_hasChurch_7 : decode cX9_hasChurch 7 = .ok (.if_icmp .ge 31, 3) := by decide +kernel
theorem dX9_hasChurch_10 : decode cX9_hasChurch 10 = .ok (.aload_n 0, 1) := by decide +kernel
theorem dX9_hasChurch_11 : decode cX9_hasChurch 11 = .ok (.getfield 18, 3) := by decide +kernel
theorem dX9_hasChurch_14 : decode cX9_hasChurch 14 = .ok (.iload_n 3, 1) := by decide +kernel
theorem dX9_hasChurch_15 : decode cX9_hasChurch 15 = .ok (.iaload, 1) := by decide +kernel
theorem dX9_hasChurch_16 : decode cX9_hasChurch 16 = .ok (.iload_n 1, 1) := by decide +kernel
theorem dX9_hasChurch_17 : decode cX9_hasChurch 17 = .ok (.if_icmp .ne 15, 3) := by decide +kernel
theorem dX9_hasChurch_20 : decode cX9_hasChurch 20 = .ok (.aload_n 0, 1) := by decide +kernel
theorem dX9_hasChurch_21 : decode cX9_hasChurch 21 = .ok (.getfield 22, 3) := by decide +kernel
theorem dX9_hasChurch_24 : decode cX9_hasChurch 24 = .ok (.iload_n 3, 1) := by decide +kernel
theorem dX9_hasChurch_25 : decode cX9_hasChurch 25 = .ok (.iaload, 1) := by decide +kernel
theorem dX9_hasChurch_26 : decode cX9_hasChurch 26 = .ok (.iload_n 2, 1) := by decide +kernel
theorem dX9_hasChurch_27 : decode cX9_hasChurch 27 = .ok (.if_icmp .ne 5, 3) := by decide +kernel
theorem dX9_hasChurch_30 : decode cX9_hasChurch 30 = .ok (.iconst 1, 1) := by decide +kernel
theorem dX9_hasChurch_31 : decode cX9_hasChurch 31 = .ok (.ireturn, 1) := by decide +kernel
theorem dX9_hasChurch_32 : decode cX9_hasChurch 32 = .ok (.iinc 3 1, 3) := by decide +kernel
theorem dX9_hasChurch_35 : decode cX9_hasChurch 35 = .ok (.goto (-33), 3) := by decide +kernel
theorem dX9_hasChurch_38 : decode cX9_hasChurch 38 = .ok (.iconst 0, 1) := by decide +kernel
theorem dX9_hasChurch_39 : decode cX9_hasChurch 39 = .ok (.ireturn, 1) := by decide +kernel
theorem dX9_edge_0 : decode cX9_edge 0 = .ok (.iload_n 2, 1) := by decide +kernel
theorem dX9_edge_1 : decode cX9_edge 1 = .ok (.tableswitch 62 0 2 #[27, 34, 48], 27) := by decide +kernel
theorem dX9_edge_28 : decode cX9_edge 28 = .ok (.aload_n 0, 1) := by decide +kernel
theorem dX9_edge_29 : decode cX9_edge 29 = .ok (.getfield 18, 3) := by decide +kernel
theorem dX9_edge_32 : decode cX9_edge 32 = .ok (.iload_n 1, 1) := by decide +kernel
theorem dX9_edge_33 : decode cX9_edge 33 = .ok (.iaload, 1) := by decide +kernel
theorem dX9_edge_34 : decode cX9_edge 34 = .ok (.ireturn, 1) := by decide +kernel
theorem dX9_edge_35 : decode cX9_edge 35 = .ok (.aload_n 0, 1) := by decide +kernel
theorem dX9_edge_36 : decode cX9_edge 36 = .ok (.getfield 9, 3) := by decide +kernel
theorem dX9_edge_39 : decode cX9_edge 39 = .ok (.iconst 1, 1) := by decide +kernel
theorem dX9_edge_40 : decode cX9_edge 40 = .ok (.isub, 1) := by decide +kernel
theorem dX9_edge_41 : decode cX9_edge 41 = .ok (.aload_n 0, 1) := by decide +kernel
theorem dX9_edge_42 : decode cX9_edge 42 = .ok (.getfield 22, 3) := by decide +kernel
theorem dX9_edge_45 : decode cX9_edge 45 = .ok (.iload_n 1, 1) := by decide +kernel
theorem dX9_edge_46 : decode cX9_edge 46 = .ok (.iaload, 1) := by decide +kernel
theorem dX9_edge_47 : decode cX9_edge 47 = .ok (.isub, 1) := by decide +kernel
theorem dX9_edge_48 : decode cX9_edge 48 = .ok (.ireturn, 1) := by decide +kernel
theorem dX9_edge_49 : decode cX9_edge 49 = .ok (.aload_n 0, 1) := by decide +kernel
theorem dX9_edge_50 : decode cX9_edge 50 = .ok (.getfield 9, 3) := by decide +kernel
theorem dX9_edge_53 : decode cX9_edge 53 = .ok (.iconst 1, 1) := by decide +kernel
theorem dX9_edge_54 : decode cX9_edge 54 = .ok (.isub, 1) := by decide +kernel
theorem dX9_edge_55 : decode cX9_edge 55 = .ok (.aload_n 0, 1) := by decide +kernel
theorem dX9_edge_56 : decode cX9_edge 56 = .ok (.getfield 18, 3) := by decide +kernel
theorem dX9_edge_59 : decode cX9_edge 59 = .ok (.iload_n 1, 1) := by decide +kernel
theorem dX9_edge_60 : decode cX9_edge 60 = .ok (.iaload, 1) := by decide +kernel
theorem dX9_edge_61 : decode cX9_edge 61 = .ok (.isub, 1) := by decide +kernel
theorem dX9_edge_62 : decode cX9_edge 62 = .ok (.ireturn, 1) := by decide +kernel
theorem dX9_edge_63 : decode cX9_edge 63 = .ok (.aload_n 0, 1) := by decide +kernel
theorem dX9_edge_64 : decode cX9_edge 64 = .ok (.getfield 22, 3) := by decide +kernel
theorem dX9_edge_67 : decode cX9_edge 67 = .ok (.iload_n 1, 1) := by decide +kernel
theorem dX9_edge_68 : decode cX9_edge 68 = .ok (.iaload, 1) := by decide +kernel
theorem dX9_edge_69 : decode cX9_edge 69 = .ok (.ireturn, 1) := by decide +kernel
theorem dX10_init_0 : decode cX10_init 0 = .ok (.aload_n 0, 1) := by decide +kernel
theorem dX10_init_1 : decode cX10_init 1 = .ok (.invokespecial 3, 3) := by decide +kernel
theorem dX10_init_4 : decode cX10_init 4 = .ok (.aload_n 0, 1) := by decide +kernel
theorem dX10_init_5 : decode cX10_init 5 = .ok (.aload_n 1, 1) := by decide +kernel
theorem dX10_init_6 : decode cX10_init 6 = .ok (.putfield 9, 3) := by decide +kernel
theorem dX10_init_9 : decode cX10_init 9 = .ok (.aload_n 0, 1) := by decide +kernel
theorem dX10_init_10 : decode cX10_init 10 = .ok (.bipush 7, 2) := by decide +kernel
theorem dX10_init_12 : decode cX10_init 12 = .ok (.newarray .long, 2) := by decide +kernel
theorem dX10_init_14 : decode cX10_init 14 = .ok (.putfield 17, 3) := by decide +kernel
theorem dX10_init_17 : decode cX10_init 17 = .ok (.return_, 1) := by decide +kernel
theorem dX10_pass_0 : decode cX10_pass 0 = .ok (.iconst 0, 1) := by decide +kernel
theorem dX10_pass_1 : decode cX10_pass 1 = .ok (.istore 4, 2) := by decide +kernel
theorem dX10_pass_3 : decode cX10_pass 3 = .ok (.iload 4, 2) := by decide +kernel
theorem dX10_pass_5 : decode cX10_pass 5 = .ok (.iload_n 2, 1) := by decide +kernel
theorem dX10_pass_6 : decode cX10_pass 6 = .ok (.if_icmp .ge 20, 3) := by decide +kernel
theorem dX10_pass_9 : decode cX10_pass 9 = .ok (.aload_n 0, 1) := by decide +kernel
theorem dX10_pass_10 : decode cX10_pass 10 = .ok (.aload_n 1, 1) := by decide +kernel
theorem dX10_pass_11 : decode cX10_pass 11 = .ok (.aload_n 0, 1) := by decide +kernel
theorem dX10_pass_12 : decode cX10_pass 12 = .ok (.aload_n 1, 1) := by decide +kernel
theorem dX10_pass_13 : decode cX10_pass 13 = .ok (.iload_n 3, 1) := by decide +kernel
theorem dX10_pass_14 : decode cX10_pass 14 = .ok (.invokevirtual 21, 3) := by decide +kernel
theorem dX10_pass_17 : decode cX10_pass 17 = .ok (.invokevirtual 25, 3) := by decide +kernel
theorem dX10_pass_20 : decode cX10_pass 20 = .ok (.iinc 4 1, 3) := by decide +kernel
theorem dX10_pass_23 : decode cX10_pass 23 = .ok (.goto (-20), 3) := by decide +kernel
theorem dX10_pass_26 : decode cX10_pass 26 = .ok (.return_, 1) := by decide +kernel
theorem dX10_wetAsItGoes_0 : decode cX10_wetAsItGoes 0 = .ok (.aload_n 0, 1) := by decide +kernel
theorem dX10_wetAsItGoes_1 : decode cX10_wetAsItGoes 1 = .ok (.getfield 9, 3) := by decide +kernel
theorem dX10_wetAsItGoes_4 : decode cX10_wetAsItGoes 4 = .ok (.getfield 29, 3) := by decide +kernel
theorem dX10_wetAsItGoes_7 : decode cX10_wetAsItGoes 7 = .ok (.bipush 50, 2) := by decide +kernel
theorem dX10_wetAsItGoes_9 : decode cX10_wetAsItGoes 9 = .ok (.if_icmp .lt 7, 3) := by decide +kernel
theorem dX10_wetAsItGoes_12 : decode cX10_wetAsItGoes 12 = .ok (.iconst 1, 1) := by decide +kernel
theorem dX10_wetAsItGoes_13 : decode cX10_wetAsItGoes 13 = .ok (.goto 4, 3) := by decide +kernel
theorem dX10_wetAsItGoes_16 : decode cX10_wetAsItGoes 16 = .ok (.iconst 0, 1) := by decide +kernel
theorem dX10_wetAsItGoes_17 : decode cX10_wetAsItGoes 17 = .ok (.ireturn, 1) := by decide +kernel
theorem dX10_isWet_0 : decode cX10_isWet 0 = .ok (.iload_n 2, 1) := by decide +kernel
theorem dX10_isWet_1 : decode cX10_isWet 1 = .ok (.tableswitch 79 1 3 #[27, 75, 77], 27) := by decide +kernel
theorem dX10_isWet_28 : decode cX10_isWet 28 = .ok (.aload_n 0, 1) := by decide +kernel
theorem dX10_isWet_29 : decode cX10_isWet 29 = .ok (.getfield 9, 3) := by decide +kernel
theorem dX10_isWet_32 : decode cX10_isWet 32 = .ok (.getfield 29, 3) := by decide +kernel
theorem dX10_isWet_35 : decode cX10_isWet 35 = .ok (.bipush 100, 2) := by decide +kernel
theorem dX10_isWet_37 : decode cX10_isWet 37 = .ok (.if_icmp .eq 33, 3) := by decide +kernel
theorem dX10_isWet_40 : decode cX10_isWet 40 = .ok (.aload_n 0, 1) := by decide +kernel
theorem dX10_isWet_41 : decode cX10_isWet 41 = .ok (.getfield 9, 3) := by decide +kernel
theorem dX10_isWet_44 : decode cX10_isWet 44 = .ok (.getfield 29, 3) := by decide +kernel
theorem dX10_isWet_47 : decode cX10_isWet 47 = .ok (.ifCond .le 27, 3) := by decide +kernel
theorem dX10_isWet_50 : decode cX10_isWet 50 = .ok (.aload_n 1, 1) := by decide +kernel
theorem dX10_isWet_51 : decode cX10_isWet 51 = .ok (.invokestatic 35, 3) := by decide +kernel
theorem dX10_isWet_54 : decode cX10_isWet 54 = .ok (.ldc2_w 39, 3) := by decide +kernel
theorem dX10_isWet_57 : decode cX10_isWet 57 = .ok (.lrem, 1) := by decide +kernel
theorem dX10_isWet_58 : decode cX10_isWet 58 = .ok (.aload_n 0, 1) := by decide +kernel
theorem dX10_isWet_59 : decode cX10_isWet 59 = .ok (.getfield 9, 3) := by decide +kernel
theorem dX10_isWet_62 : decode cX10_isWet 62 = .ok (.getfield 29, 3) := by decide +kernel
theorem dX10_isWet_65 : decode cX10_isWet 65 = .ok (.i2l, 1) := by decide +kernel
theorem dX10_isWet_66 : decode cX10_isWet 66 = .ok (.lcmp, 1) := by decide +kernel
theorem dX10_isWet_67 : decode cX10_isWet 67 = .ok (.ifCond .ge 7, 3) := by decide +kernel
theorem dX10_isWet_70 : decode cX10_isWet 70 = .ok (.iconst 1, 1) := by decide +kernel
theorem dX10_isWet_71 : decode cX10_isWet 71 = .ok (.goto 4, 3) := by decide +kernel
theorem dX10_isWet_74 : decode cX10_isWet 74 = .ok (.iconst 0, 1) := by decide +kernel
theorem dX10_isWet_75 : decode cX10_isWet 75 = .ok (.ireturn, 1) := by decide +kernel
theorem dX10_isWet_76 : decode cX10_isWet 76 = .ok (.iconst 0, 1) := by decide +kernel
theorem dX10_isWet_77 : decode cX10_isWet 77 = .ok (.ireturn, 1) := by decide +kernel
theorem dX10_isWet_78 : decode cX10_isWet 78 = .ok (.iconst 1, 1) := by decide +kernel
theorem dX10_isWet_79 : decode cX10_isWet 79 = .ok (.ireturn, 1) := by decide +kernel
theorem dX10_isWet_80 : decode cX10_isWet 80 = .ok (.aload_n 0, 1) := by decide +kernel
theorem dX10_isWet_81 : decode cX10_isWet 81 = .ok (.invokevirtual 41, 3) := by decide +kernel
theorem dX10_isWet_84 : decode cX10_isWet 84 = .ok (.ireturn, 1) := by decide +kernel
theorem dX10_drawn_0 : decode cX10_drawn 0 = .ok (.aload_n 0, 1) := by decide +kernel
theorem dX10_drawn_1 : decode cX10_drawn 1 = .ok (.aload_n 0, 1) := by decide +kernel
theorem dX10_drawn_2 : decode cX10_drawn 2 = .ok (.getfield 45, 3) := by decide +kernel
theorem dX10_drawn_5 : decode cX10_drawn 5 = .ok (.ldc2_w 51, 3) := by decide +kernel
theorem dX10_drawn_8 : decode cX10_drawn 8 = .ok (.lmul, 1) := by decide +kernel
theorem dX10_drawn_9 : decode cX10_drawn 9 = .ok (.ldc2_w 53, 3) := by decide +kernel
theorem dX10_drawn_12 : decode cX10_drawn 12 = .ok (.ladd, 1) := by decide +kernel
theorem dX10_drawn_13 : decode cX10_drawn 13 = .ok (.ldc2_w 55, 3) := by decide +kernel
theorem dX10_drawn_16 : decode cX10_drawn 16 = .ok (.land, 1) := by decide +kernel
theorem dX10_drawn_17 : decode cX10_drawn 17 = .ok (.putfield 45, 3) := by decide +kernel
theorem dX10_drawn_20 : decode cX10_drawn 20 = .ok (.aload_n 0, 1) := by decide +kernel
theorem dX10_drawn_21 : decode cX10_drawn 21 = .ok (.getfield 45, 3) := by decide +kernel
theorem dX10_drawn_24 : decode cX10_drawn 24 = .ok (.ldc2_w 57, 3) := by decide +kernel
theorem dX10_drawn_27 : decode cX10_drawn 27 = .ok (.ldiv, 1) := by decide +kernel
theorem dX10_drawn_28 : decode cX10_drawn 28 = .ok (.lreturn, 1) := by decide +kernel
theorem dX10_passOne_0 : decode cX10_passOne 0 = .ok (.aload_n 1, 1) := by decide +kernel
theorem dX10_passOne_1 : decode cX10_passOne 1 = .ok (.getfield 59, 3) := by decide +kernel
theorem dX10_passOne_4 : decode cX10_passOne 4 = .ok (.ifCond .eq 28, 3) := by decide +kernel
theorem dX10_passOne_7 : decode cX10_passOne 7 = .ok (.aload_n 1, 1) := by decide +kernel
theorem dX10_passOne_8 : decode cX10_passOne 8 = .ok (.getfield 63, 3) := by decide +kernel
theorem dX10_passOne_11 : decode cX10_passOne 11 = .ok (.aload_n 0, 1) := by decide +kernel
theorem dX10_passOne_12 : decode cX10_passOne 12 = .ok (.getfield 9, 3) := by decide +kernel
theorem dX10_passOne_15 : decode cX10_passOne 15 = .ok (.getfield 66, 3) := by decide +kernel
theorem dX10_passOne_18 : decode cX10_passOne 18 = .ok (.if_icmp .le 14, 3) := by decide +kernel
theorem dX10_passOne_21 : decode cX10_passOne 21 = .ok (.aload_n 1, 1) := by decide +kernel
theorem dX10_passOne_22 : decode cX10_passOne 22 = .ok (.dup, 1) := by decide +kernel
theorem dX10_passOne_23 : decode cX10_passOne 23 = .ok (.getfield 63, 3) := by decide +kernel
theorem dX10_passOne_26 : decode cX10_passOne 26 = .ok (.iconst 1, 1) := by decide +kernel
theorem dX10_passOne_27 : decode cX10_passOne 27 = .ok (.iadd, 1) := by decide +kernel
theorem dX10_passOne_28 : decode cX10_passOne 28 = .ok (.putfield 63, 3) := by decide +kernel
theorem dX10_passOne_31 : decode cX10_passOne 31 = .ok (.return_, 1) := by decide +kernel
theorem dX10_passOne_32 : decode cX10_passOne 32 = .ok (.iconst 0, 1) := by decide +kernel
theorem dX10_passOne_33 : decode cX10_passOne 33 = .ok (.istore_n 3, 1) := by decide +kernel
theorem dX10_passOne_34 : decode cX10_passOne 34 = .ok (.iload_n 3, 1) := by decide +kernel
theorem dX10_passOne_35 : decode cX10_passOne 35 = .ok (.aload_n 0, 1) := by decide +kernel
theorem dX10_passOne_36 : decode cX10_passOne 36 = .ok (.getfield 9, 3) := by decide +kernel
theorem dX10_passOne_39 : decode cX10_passOne 39 = .ok (.getfield 69, 3) := by decide +kernel
theorem dX10_passOne_42 : decode cX10_passOne 42 = .ok (.if_icmp .ge 62, 3) := by decide +kernel
theorem dX10_passOne_45 : decode cX10_passOne 45 = .ok (.aload_n 0, 1) := by decide +kernel
theorem dX10_passOne_46 : decode cX10_passOne 46 = .ok (.getfield 9, 3) := by decide +kernel
theorem dX10_passOne_49 : decode cX10_passOne 49 = .ok (.getfield 72, 3) := by decide +kernel
theorem dX10_passOne_52 : decode cX10_passOne 52 = .ok (.iload_n 3, 1) := by decide +kernel
theorem dX10_passOne_53 : decode cX10_passOne 53 = .ok (.iaload, 1) := by decide +kernel
theorem dX10_passOne_54 : decode cX10_passOne 54 = .ok (.istore 4, 2) := by decide +kernel
theorem dX10_passOne_56 : decode cX10_passOne 56 = .ok (.aload_n 0, 1) := by decide +kernel
theorem dX10_passOne_57 : decode cX10_passOne 57 = .ok (.getfield 9, 3) := by decide +kernel
theorem dX10_passOne_60 : decode cX10_passOne 60 = .ok (.getfield 76, 3) := by decide +kernel
theorem dX10_passOne_63 : decode cX10_passOne 63 = .ok (.iload_n 3, 1) := by decide +kernel
theorem dX10_passOne_64 : decode cX10_passOne 64 = .ok (.iaload, 1) := by decide +kernel
theorem dX10_passOne_65 : decode cX10_passOne 65 = .ok (.aload_n 1, 1) := by decide +kernel
theorem dX10_passOne_66 : decode cX10_passOne 66 = .ok (.getfield 63, 3) := by decide +kernel
theorem dX10_passOne_69 : decode cX10_passOne 69 = .ok (.if_icmp .ne 29, 3) := by decide +kernel
theorem dX10_passOne_72 : decode cX10_passOne 72 = .ok (.iload 4, 2) := by decide +kernel
theorem dX10_passOne_74 : decode cX10_passOne 74 = .ok (.aload_n 1, 1) := by decide +kernel
theorem dX10_passOne_75 : decode cX10_passOne 75 = .ok (.getfield 79, 3) := by decide +kernel
theorem dX10_passOne_78 : decode cX10_passOne 78 = .ok (.if_icmp .eq 20, 3) := by decide +kernel
theorem dX10_passOne_81 : decode cX10_passOne 81 = .ok (.aload_n 0, 1) := by decide +kernel
theorem dX10_passOne_82 : decode cX10_passOne 82 = .ok (.aload_n 1, 1) := by decide +kernel
theorem dX10_passOne_83 : decode cX10_passOne 83 = .ok (.iload 4, 2) := by decide +kernel
theorem dX10_passOne_85 : decode cX10_passOne 85 = .ok (.aload_n 0, 1) := by decide +kernel
theorem dX10_passOne_86 : decode cX10_passOne 86 = .ok (.getfield 9, 3) := by decide +kernel
theorem dX10_passOne_89 : decode cX10_passOne 89 = .ok (.getfield 82, 3) := by decide +kernel
theorem dX10_passOne_92 : decode cX10_passOne 92 = .ok (.iload_n 3, 1) := by decide +kernel
theorem dX10_passOne_93 : decode cX10_passOne 93 = .ok (.iaload, 1) := by decide +kernel
theorem dX10_passOne_94 : decode cX10_passOne 94 = .ok (.iload_n 2, 1) := by decide +kernel
theorem dX10_passOne_95 : decode cX10_passOne 95 = .ok (.invokevirtual 85, 3) := by decide +kernel
theorem dX10_passOne_98 : decode cX10_passOne 98 = .ok (.iinc 3 1, 3) := by decide +kernel
theorem dX10_passOne_101 : decode cX10_passOne 101 = .ok (.goto (-67), 3) := by decide +kernel
theorem dX10_passOne_104 : decode cX10_passOne 104 = .ok (.aload_n 1, 1) := by decide +kernel
theorem dX10_passOne_105 : decode cX10_passOne 105 = .ok (.getfield 59, 3) := by decide +kernel
theorem dX10_passOne_108 : decode cX10_passOne 108 = .ok (.ifCond .ne 9, 3) := by decide +kernel
theorem dX10_passOne_111 : decode cX10_passOne 111 = .ok (.aload_n 0, 1) := by decide +kernel
theorem dX10_passOne_112 : decode cX10_passOne 112 = .ok (.aload_n 1, 1) := by decide +kernel
theorem dX10_passOne_113 : decode cX10_passOne 113 = .ok (.iload_n 2, 1) := by decide +kernel
theorem dX10_passOne_114 : decode cX10_passOne 114 = .ok (.invokevirtual 89, 3) := by decide +kernel
theorem dX10_passOne_117 : decode cX10_passOne 117 = .ok (.iconst 0, 1) := by decide +kernel
theorem dX10_passOne_118 : decode cX10_passOne 118 = .ok (.istore_n 3, 1) := by decide +kernel
theorem dX10_passOne_119 : decode cX10_passOne 119 = .ok (.iload_n 3, 1) := by decide +kernel
theorem dX10_passOne_120 : decode cX10_passOne 120 = .ok (.aload_n 0, 1) := by decide +kernel
theorem dX10_passOne_121 : decode cX10_passOne 121 = .ok (.getfield 9, 3) := by decide +kernel
theorem dX10_passOne_124 : decode cX10_passOne 124 = .ok (.getfield 92, 3) := by decide +kernel
theorem dX10_passOne_127 : decode cX10_passOne 127 = .ok (.if_icmp .ge 74, 3) := by decide +kernel
theorem dX10_passOne_130 : decode cX10_passOne 130 = .ok (.aload_n 1, 1) := by decide +kernel
theorem dX10_passOne_131 : decode cX10_passOne 131 = .ok (.getfield 95, 3) := by decide +kernel
theorem dX10_passOne_134 : decode cX10_passOne 134 = .ok (.iload_n 3, 1) := by decide +kernel
theorem dX10_passOne_135 : decode cX10_passOne 135 = .ok (.aload_n 1, 1) := by decide +kernel
theorem dX10_passOne_136 : decode cX10_passOne 136 = .ok (.getfield 95, 3) := by decide +kernel
theorem dX10_passOne_139 : decode cX10_passOne 139 = .ok (.iload_n 3, 1) := by decide +kernel
theorem dX10_passOne_140 : decode cX10_passOne 140 = .ok (.iaload, 1) := by decide +kernel
theorem dX10_passOne_141 : decode cX10_passOne 141 = .ok (.iconst 1, 1) := by decide +kernel
theorem dX10_passOne_142 : decode cX10_passOne 142 = .ok (.isub, 1) := by decide +kernel
theorem dX10_passOne_143 : decode cX10_passOne 143 = .ok (.iconst 0, 1) := by decide +kernel
theorem dX10_passOne_144 : decode cX10_passOne 144 = .ok (.invokestatic 98, 3) := by decide +kernel
theorem dX10_passOne_147 : decode cX10_passOne 147 = .ok (.iastore, 1) := by decide +kernel
theorem dX10_passOne_148 : decode cX10_passOne 148 = .ok (.aload_n 0, 1) := by decide +kernel
theorem dX10_passOne_149 : decode cX10_passOne 149 = .ok (.aload_n 1, 1) := by decide +kernel
theorem dX10_passOne_150 : decode cX10_passOne 150 = .ok (.iload_n 3, 1) := by decide +kernel
theorem dX10_passOne_151 : decode cX10_passOne 151 = .ok (.iload_n 2, 1) := by decide +kernel
theorem dX10_passOne_152 : decode cX10_passOne 152 = .ok (.invokevirtual 104, 3) := by decide +kernel
theorem dX10_passOne_155 : decode cX10_passOne 155 = .ok (.lstore 4, 2) := by decide +kernel
theorem dX10_passOne_157 : decode cX10_passOne 157 = .ok (.lload 4, 2) := by decide +kernel
theorem dX10_passOne_159 : decode cX10_passOne 159 = .ok (.ldc2_w 108, 3) := by decide +kernel
theorem dX10_passOne_162 : decode cX10_passOne 162 = .ok (.lcmp, 1) := by decide +kernel
theorem dX10_passOne_163 : decode cX10_passOne 163 = .ok (.ifCond .eq 32, 3) := by decide +kernel
theorem dX10_passOne_166 : decode cX10_passOne 166 = .ok (.aload_n 1, 1) := by decide +kernel
theorem dX10_passOne_167 : decode cX10_passOne 167 = .ok (.getfield 110, 3) := by decide +kernel
theorem dX10_passOne_170 : decode cX10_passOne 170 = .ok (.iload_n 3, 1) := by decide +kernel
theorem dX10_passOne_171 : decode cX10_passOne 171 = .ok (.aload_n 1, 1) := by decide +kernel
theorem dX10_passOne_172 : decode cX10_passOne 172 = .ok (.getfield 110, 3) := by decide +kernel
theorem dX10_passOne_175 : decode cX10_passOne 175 = .ok (.iload_n 3, 1) := by decide +kernel
theorem dX10_passOne_176 : decode cX10_passOne 176 = .ok (.iaload, 1) := by decide +kernel
theorem dX10_passOne_177 : decode cX10_passOne 177 = .ok (.lload 4, 2) := by decide +kernel
theorem dX10_passOne_179 : decode cX10_passOne 179 = .ok (.bipush (-9), 2) := by decide +kernel
theorem dX10_passOne_181 : decode cX10_passOne 181 = .ok (.bipush 9, 2) := by decide +kernel
theorem dX10_passOne_183 : decode cX10_passOne 183 = .ok (.invokestatic 113, 3) := by decide +kernel
theorem dX10_passOne_186 : decode cX10_passOne 186 = .ok (.iadd, 1) := by decide +kernel
theorem dX10_passOne_187 : decode cX10_passOne 187 = .ok (.i2l, 1) := by decide +kernel
theorem dX10_passOne_188 : decode cX10_passOne 188 = .ok (.iconst 0, 1) := by decide +kernel
theorem dX10_passOne_189 : decode cX10_passOne 189 = .ok (.bipush 30, 2) := by decide +kernel
theorem dX10_passOne_191 : decode cX10_passOne 191 = .ok (.invokestatic 113, 3) := by decide +kernel
theorem dX10_passOne_194 : decode cX10_passOne 194 = .ok (.iastore, 1) := by decide +kernel
theorem dX10_passOne_195 : decode cX10_passOne 195 = .ok (.iinc 3 1, 3) := by decide +kernel
theorem dX10_passOne_198 : decode cX10_passOne 198 = .ok (.goto (-79), 3) := by decide +kernel
theorem dX10_passOne_201 : decode cX10_passOne 201 = .ok (.aload_n 1, 1) := by decide +kernel
theorem dX10_passOne_202 : decode cX10_passOne 202 = .ok (.dup, 1) := by decide +kernel
theorem dX10_passOne_203 : decode cX10_passOne 203 = .ok (.getfield 63, 3) := by decide +kernel
theorem dX10_passOne_206 : decode cX10_passOne 206 = .ok (.iconst 1, 1) := by decide +kernel
theorem dX10_passOne_207 : decode cX10_passOne 207 = .ok (.iadd, 1) := by decide +kernel
theorem dX10_passOne_208 : decode cX10_passOne 208 = .ok (.putfield 63, 3) := by decide +kernel
theorem dX10_passOne_211 : decode cX10_passOne 211 = .ok (.return_, 1) := by decide +kernel
theorem dX10_within_0 : decode cX10_within 0 = .ok (.iload_n 2, 1) := by decide +kernel
theorem dX10_within_1 : decode cX10_within 1 = .ok (.i2l, 1) := by decide +kernel
theorem dX10_within_2 : decode cX10_within 2 = .ok (.iload_n 3, 1) := by decide +kernel
theorem dX10_within_3 : decode cX10_within 3 = .ok (.i2l, 1) := by decide +kernel
theorem dX10_within_4 : decode cX10_within 4 = .ok (.lload_n 0, 1) := by decide +kernel
theorem dX10_within_5 : decode cX10_within 5 = .ok (.invokestatic 117, 3) := by decide +kernel
theorem dX10_within_8 : decode cX10_within 8 = .ok (.invokestatic 121, 3) := by decide +kernel
theorem dX10_within_11 : decode cX10_within 11 = .ok (.l2i, 1) := by decide +kernel
theorem dX10_within_12 : decode cX10_within 12 = .ok (.ireturn, 1) := by decide +kernel
theorem dX10_lead_0 : decode cX10_lead 0 = .ok (.aload_n 1, 1) := by decide +kernel
theorem dX10_lead_1 : decode cX10_lead 1 = .ok (.getfield 123, 3) := by decide +kernel
theorem dX10_lead_4 : decode cX10_lead 4 = .ok (.iload_n 3, 1) := by decide +kernel
theorem dX10_lead_5 : decode cX10_lead 5 = .ok (.iaload, 1) := by decide +kernel
theorem dX10_lead_6 : decode cX10_lead 6 = .ok (.istore 5, 2) := by decide +kernel
theorem dX10_lead_8 : decode cX10_lead 8 = .ok (.aload_n 0, 1) := by decide +kernel
theorem dX10_lead_9 : decode cX10_lead 9 = .ok (.aload_n 1, 1) := by decide +kernel
theorem dX10_lead_10 : decode cX10_lead 10 = .ok (.iload_n 2, 1) := by decide +kernel
theorem dX10_lead_11 : decode cX10_lead 11 = .ok (.iload_n 3, 1) := by decide +kernel
theorem dX10_lead_12 : decode cX10_lead 12 = .ok (.iload 5, 2) := by decide +kernel
theorem dX10_lead_14 : decode cX10_lead 14 = .ok (.iload 4, 2) := by decide +kernel
theorem dX10_lead_16 : decode cX10_lead 16 = .ok (.invokevirtual 126, 3) := by decide +kernel
theorem dX10_lead_19 : decode cX10_lead 19 = .ok (.lstore 6, 2) := by decide +kernel
theorem dX10_lead_21 : decode cX10_lead 21 = .ok (.aload_n 1, 1) := by decide +kernel
theorem dX10_lead_22 : decode cX10_lead 22 = .ok (.getfield 130, 3) := by decide +kernel
theorem dX10_lead_25 : decode cX10_lead 25 = .ok (.iload_n 3, 1) := by decide +kernel
theorem dX10_lead_26 : decode cX10_lead 26 = .ok (.aload_n 0, 1) := by decide +kernel
theorem dX10_lead_27 : decode cX10_lead 27 = .ok (.lload 6, 2) := by decide +kernel
theorem dX10_lead_29 : decode cX10_lead 29 = .ok (.aload_n 1, 1) := by decide +kernel
theorem dX10_lead_30 : decode cX10_lead 30 = .ok (.getfield 110, 3) := by decide +kernel
theorem dX10_lead_33 : decode cX10_lead 33 = .ok (.iload_n 2, 1) := by decide +kernel
theorem dX10_lead_34 : decode cX10_lead 34 = .ok (.iaload, 1) := by decide +kernel
theorem dX10_lead_35 : decode cX10_lead 35 = .ok (.iload 5, 2) := by decide +kernel
theorem dX10_lead_37 : decode cX10_lead 37 = .ok (.iadd, 1) := by decide +kernel
theorem dX10_lead_38 : decode cX10_lead 38 = .ok (.aload_n 1, 1) := by decide +kernel
theorem dX10_lead_39 : decode cX10_lead 39 = .ok (.getfield 95, 3) := by decide +kernel
theorem dX10_lead_42 : decode cX10_lead 42 = .ok (.iload_n 2, 1) := by decide +kernel
theorem dX10_lead_43 : decode cX10_lead 43 = .ok (.iaload, 1) := by decide +kernel
theorem dX10_lead_44 : decode cX10_lead 44 = .ok (.isub, 1) := by decide +kernel
theorem dX10_lead_45 : decode cX10_lead 45 = .ok (.iload_n 3, 1) := by decide +kernel
theorem dX10_lead_46 : decode cX10_lead 46 = .ok (.iload 4, 2) := by decide +kernel
theorem dX10_lead_48 : decode cX10_lead 48 = .ok (.invokevirtual 133, 3) := by decide +kernel
theorem dX10_lead_51 : decode cX10_lead 51 = .ok (.iastore, 1) := by decide +kernel
theorem dX10_lead_52 : decode cX10_lead 52 = .ok (.aload_n 1, 1) := by decide +kernel
theorem dX10_lead_53 : decode cX10_lead 53 = .ok (.getfield 137, 3) := by decide +kernel
theorem dX10_lead_56 : decode cX10_lead 56 = .ok (.ifCond .ne 22, 3) := by decide +kernel
theorem dX10_lead_59 : decode cX10_lead 59 = .ok (.aload_n 1, 1) := by decide +kernel
theorem dX10_lead_60 : decode cX10_lead 60 = .ok (.getfield 95, 3) := by decide +kernel
theorem dX10_lead_63 : decode cX10_lead 63 = .ok (.iload_n 2, 1) := by decide +kernel
theorem dX10_lead_64 : decode cX10_lead 64 = .ok (.aload_n 1, 1) := by decide +kernel
theorem dX10_lead_65 : decode cX10_lead 65 = .ok (.getfield 95, 3) := by decide +kernel
theorem dX10_lead_68 : decode cX10_lead 68 = .ok (.iload_n 2, 1) := by decide +kernel
theorem dX10_lead_69 : decode cX10_lead 69 = .ok (.iaload, 1) := by decide +kernel
theorem dX10_lead_70 : decode cX10_lead 70 = .ok (.iconst 1, 1) := by decide +kernel
theorem dX10_lead_71 : decode cX10_lead 71 = .ok (.iadd, 1) := by decide +kernel
theorem dX10_lead_72 : decode cX10_lead 72 = .ok (.bipush 99, 2) := by decide +kernel
theorem dX10_lead_74 : decode cX10_lead 74 = .ok (.invokestatic 140, 3) := by decide +kernel
theorem dX10_lead_77 : decode cX10_lead 77 = .ok (.iastore, 1) := by decide +kernel
theorem dX10_lead_78 : decode cX10_lead 78 = .ok (.return_, 1) := by decide +kernel
theorem dX10_stoneFar_0 : decode cX10_stoneFar 0 = .ok (.iload 5, 2) := by decide +kernel
theorem dX10_stoneFar_2 : decode cX10_stoneFar 2 = .ok (.ifCond .eq 13, 3) := by decide +kernel
theorem dX10_stoneFar_5 : decode cX10_stoneFar 5 = .ok (.iload_n 3, 1) := by decide +kernel
theorem dX10_stoneFar_6 : decode cX10_stoneFar 6 = .ok (.iconst 0, 1) := by decide +kernel
theorem dX10_stoneFar_7 : decode cX10_stoneFar 7 = .ok (.invokestatic 98, 3) := by decide +kernel
theorem dX10_stoneFar_10 : decode cX10_stoneFar 10 = .ok (.iconst 2, 1) := by decide +kernel
theorem dX10_stoneFar_11 : decode cX10_stoneFar 11 = .ok (.idiv, 1) := by decide +kernel
theorem dX10_stoneFar_12 : decode cX10_stoneFar 12 = .ok (.goto 8, 3) := by decide +kernel
theorem dX10_stoneFar_15 : decode cX10_stoneFar 15 = .ok (.iload_n 3, 1) := by decide +kernel
theorem dX10_stoneFar_16 : decode cX10_stoneFar 16 = .ok (.iconst 0, 1) := by decide +kernel
theorem dX10_stoneFar_17 : decode cX10_stoneFar 17 = .ok (.invokestatic 98, 3) := by decide +kernel
theorem dX10_stoneFar_20 : decode cX10_stoneFar 20 = .ok (.istore 6, 2) := by decide +kernel
theorem dX10_stoneFar_22 : decode cX10_stoneFar 22 = .ok (.lload_n 1, 1) := by decide +kernel
theorem dX10_stoneFar_23 : decode cX10_stoneFar 23 = .ok (.ldc2_w 108, 3) := by decide +kernel
theorem dX10_stoneFar_26 : decode cX10_stoneFar 26 = .ok (.lcmp, 1) := by decide +kernel
theorem dX10_stoneFar_27 : decode cX10_stoneFar 27 = .ok (.ifCond .ne 8, 3) := by decide +kernel
theorem dX10_stoneFar_30 : decode cX10_stoneFar 30 = .ok (.iload 6, 2) := by decide +kernel
theorem dX10_stoneFar_32 : decode cX10_stoneFar 32 = .ok (.goto 10, 3) := by decide +kernel
theorem dX10_stoneFar_35 : decode cX10_stoneFar 35 = .ok (.lload_n 1, 1) := by decide +kernel
theorem dX10_stoneFar_36 : decode cX10_stoneFar 36 = .ok (.iconst 0, 1) := by decide +kernel
theorem dX10_stoneFar_37 : decode cX10_stoneFar 37 = .ok (.bipush 99, 2) := by decide +kernel
theorem dX10_stoneFar_39 : decode cX10_stoneFar 39 = .ok (.invokestatic 113, 3) := by decide +kernel
theorem dX10_stoneFar_42 : decode cX10_stoneFar 42 = .ok (.istore 7, 2) := by decide +kernel
theorem dX10_stoneFar_44 : decode cX10_stoneFar 44 = .ok (.iload 7, 2) := by decide +kernel
theorem dX10_stoneFar_46 : decode cX10_stoneFar 46 = .ok (.aload_n 0, 1) := by decide +kernel
theorem dX10_stoneFar_47 : decode cX10_stoneFar 47 = .ok (.getfield 9, 3) := by decide +kernel
theorem dX10_stoneFar_50 : decode cX10_stoneFar 50 = .ok (.iload 4, 2) := by decide +kernel
theorem dX10_stoneFar_52 : decode cX10_stoneFar 52 = .ok (.iconst 4, 1) := by decide +kernel
theorem dX10_stoneFar_53 : decode cX10_stoneFar 53 = .ok (.idiv, 1) := by decide +kernel
theorem dX10_stoneFar_54 : decode cX10_stoneFar 54 = .ok (.iload 4, 2) := by decide +kernel
theorem dX10_stoneFar_56 : decode cX10_stoneFar 56 = .ok (.iconst 4, 1) := by decide +kernel
theorem dX10_stoneFar_57 : decode cX10_stoneFar 57 = .ok (.irem, 1) := by decide +kernel
theorem dX10_stoneFar_58 : decode cX10_stoneFar 58 = .ok (.invokevirtual 142, 3) := by decide +kernel
theorem dX10_stoneFar_61 : decode cX10_stoneFar 61 = .ok (.invokestatic 140, 3) := by decide +kernel
theorem dX10_stoneFar_64 : decode cX10_stoneFar 64 = .ok (.ireturn, 1) := by decide +kernel
theorem dX10_walkedFar_0 : decode cX10_walkedFar 0 = .ok (.aload_n 0, 1) := by decide +kernel
theorem dX10_walkedFar_1 : decode cX10_walkedFar 1 = .ok (.invokevirtual 41, 3) := by decide +kernel
theorem dX10_walkedFar_4 : decode cX10_walkedFar 4 = .ok (.istore 5, 2) := by decide +kernel
theorem dX10_walkedFar_6 : decode cX10_walkedFar 6 = .ok (.aload_n 0, 1) := by decide +kernel
theorem dX10_walkedFar_7 : decode cX10_walkedFar 7 = .ok (.aload_n 1, 1) := by decide +kernel
theorem dX10_walkedFar_8 : decode cX10_walkedFar 8 = .ok (.iload_n 2, 1) := by decide +kernel
theorem dX10_walkedFar_9 : decode cX10_walkedFar 9 = .ok (.iload_n 3, 1) := by decide +kernel
theorem dX10_walkedFar_10 : decode cX10_walkedFar 10 = .ok (.iload 4, 2) := by decide +kernel
theorem dX10_walkedFar_12 : decode cX10_walkedFar 12 = .ok (.iload 5, 2) := by decide +kernel
theorem dX10_walkedFar_14 : decode cX10_walkedFar 14 = .ok (.invokevirtual 126, 3) := by decide +kernel
theorem dX10_walkedFar_17 : decode cX10_walkedFar 17 = .ok (.lstore 6, 2) := by decide +kernel
theorem dX10_walkedFar_19 : decode cX10_walkedFar 19 = .ok (.aload_n 0, 1) := by decide +kernel
theorem dX10_walkedFar_20 : decode cX10_walkedFar 20 = .ok (.lload 6, 2) := by decide +kernel
theorem dX10_walkedFar_22 : decode cX10_walkedFar 22 = .ok (.aload_n 1, 1) := by decide +kernel
theorem dX10_walkedFar_23 : decode cX10_walkedFar 23 = .ok (.getfield 110, 3) := by decide +kernel
theorem dX10_walkedFar_26 : decode cX10_walkedFar 26 = .ok (.iload_n 2, 1) := by decide +kernel
theorem dX10_walkedFar_27 : decode cX10_walkedFar 27 = .ok (.iaload, 1) := by decide +kernel
theorem dX10_walkedFar_28 : decode cX10_walkedFar 28 = .ok (.iload 4, 2) := by decide +kernel
theorem dX10_walkedFar_30 : decode cX10_walkedFar 30 = .ok (.iadd, 1) := by decide +kernel
theorem dX10_walkedFar_31 : decode cX10_walkedFar 31 = .ok (.aload_n 1, 1) := by decide +kernel
theorem dX10_walkedFar_32 : decode cX10_walkedFar 32 = .ok (.getfield 95, 3) := by decide +kernel
theorem dX10_walkedFar_35 : decode cX10_walkedFar 35 = .ok (.iload_n 2, 1) := by decide +kernel
theorem dX10_walkedFar_36 : decode cX10_walkedFar 36 = .ok (.iaload, 1) := by decide +kernel
theorem dX10_walkedFar_37 : decode cX10_walkedFar 37 = .ok (.isub, 1) := by decide +kernel
theorem dX10_walkedFar_38 : decode cX10_walkedFar 38 = .ok (.iload_n 3, 1) := by decide +kernel
theorem dX10_walkedFar_39 : decode cX10_walkedFar 39 = .ok (.iload 5, 2) := by decide +kernel
theorem dX10_walkedFar_41 : decode cX10_walkedFar 41 = .ok (.invokevirtual 133, 3) := by decide +kernel
theorem dX10_walkedFar_44 : decode cX10_walkedFar 44 = .ok (.ireturn, 1) := by decide +kernel
theorem dX10_quarrelAll_0 : decode cX10_quarrelAll 0 = .ok (.iconst 0, 1) := by decide +kernel
theorem dX10_quarrelAll_1 : decode cX10_quarrelAll 1 = .ok (.istore_n 3, 1) := by decide +kernel
theorem dX10_quarrelAll_2 : decode cX10_quarrelAll 2 = .ok (.iload_n 3, 1) := by decide +kernel
theorem dX10_quarrelAll_3 : decode cX10_quarrelAll 3 = .ok (.aload_n 0, 1) := by decide +kernel
theorem dX10_quarrelAll_4 : decode cX10_quarrelAll 4 = .ok (.getfield 9, 3) := by decide +kernel
theorem dX10_quarrelAll_7 : decode cX10_quarrelAll 7 = .ok (.getfield 145, 3) := by decide +kernel
theorem dX10_quarrelAll_10 : decode cX10_quarrelAll 10 = .ok (.if_icmp .ge 97, 3) := by decide +kernel
theorem dX10_quarrelAll_13 : decode cX10_quarrelAll 13 = .ok (.iload_n 3, 1) := by decide +kernel
theorem dX10_quarrelAll_14 : decode cX10_quarrelAll 14 = .ok (.iconst 1, 1) := by decide +kernel
theorem dX10_quarrelAll_15 : decode cX10_quarrelAll 15 = .ok (.iadd, 1) := by decide +kernel
theorem dX10_quarrelAll_16 : decode cX10_quarrelAll 16 = .ok (.istore 4, 2) := by decide +kernel
theorem dX10_quarrelAll_18 : decode cX10_quarrelAll 18 = .ok (.iload 4, 2) := by decide +kernel
theorem dX10_quarrelAll_20 : decode cX10_quarrelAll 20 = .ok (.aload_n 0, 1) := by decide +kernel
theorem dX10_quarrelAll_21 : decode cX10_quarrelAll 21 = .ok (.getfield 9, 3) := by decide +kernel
theorem dX10_quarrelAll_24 : decode cX10_quarrelAll 24 = .ok (.getfield 145, 3) := by decide +kernel
theorem dX10_quarrelAll_27 : decode cX10_quarrelAll 27 = .ok (.if_icmp .ge 74, 3) := by decide +kernel
theorem dX10_quarrelAll_30 : decode cX10_quarrelAll 30 = .ok (.aload_n 1, 1) := by decide +kernel
theorem dX10_quarrelAll_31 : decode cX10_quarrelAll 31 = .ok (.iload_n 3, 1) := by decide +kernel
theorem dX10_quarrelAll_32 : decode cX10_quarrelAll 32 = .ok (.iload 4, 2) := by decide +kernel
theorem dX10_quarrelAll_34 : decode cX10_quarrelAll 34 = .ok (.invokevirtual 148, 3) := by decide +kernel
theorem dX10_quarrelAll_37 : decode cX10_quarrelAll 37 = .ok (.istore 5, 2) := by decide +kernel
theorem dX10_quarrelAll_39 : decode cX10_quarrelAll 39 = .ok (.iload 5, 2) := by decide +kernel
theorem dX10_quarrelAll_41 : decode cX10_quarrelAll 41 = .ok (.ifCond .le 54, 3) := by decide +kernel
theorem dX10_quarrelAll_44 : decode cX10_quarrelAll 44 = .ok (.aload_n 0, 1) := by decide +kernel
theorem dX10_quarrelAll_45 : decode cX10_quarrelAll 45 = .ok (.aload_n 1, 1) := by decide +kernel
theorem dX10_quarrelAll_46 : decode cX10_quarrelAll 46 = .ok (.iload 5, 2) := by decide +kernel
theorem dX10_quarrelAll_48 : decode cX10_quarrelAll 48 = .ok (.iload_n 2, 1) := by decide +kernel
theorem dX10_quarrelAll_49 : decode cX10_quarrelAll 49 = .ok (.invokevirtual 151, 3) := by decide +kernel
theorem dX10_quarrelAll_52 : decode cX10_quarrelAll 52 = .ok (.lstore 6, 2) := by decide +kernel
theorem dX10_quarrelAll_54 : decode cX10_quarrelAll 54 = .ok (.lload 6, 2) := by decide +kernel
theorem dX10_quarrelAll_56 : decode cX10_quarrelAll 56 = .ok (.ldc2_w 108, 3) := by decide +kernel
theorem dX10_quarrelAll_59 : decode cX10_quarrelAll 59 = .ok (.lcmp, 1) := by decide +kernel
theorem dX10_quarrelAll_60 : decode cX10_quarrelAll 60 = .ok (.ifCond .ne 8, 3) := by decide +kernel
theorem dX10_quarrelAll_63 : decode cX10_quarrelAll 63 = .ok (.iload 5, 2) := by decide +kernel
theorem dX10_quarrelAll_65 : decode cX10_quarrelAll 65 = .ok (.goto 12, 3) := by decide +kernel
theorem dX10_quarrelAll_68 : decode cX10_quarrelAll 68 = .ok (.lload 6, 2) := by decide +kernel
theorem dX10_quarrelAll_70 : decode cX10_quarrelAll 70 = .ok (.iconst 0, 1) := by decide +kernel
theorem dX10_quarrelAll_71 : decode cX10_quarrelAll 71 = .ok (.sipush 999, 3) := by decide +kernel
theorem dX10_quarrelAll_74 : decode cX10_quarrelAll 74 = .ok (.invokestatic 113, 3) := by decide +kernel
theorem dX10_quarrelAll_77 : decode cX10_quarrelAll 77 = .ok (.istore 8, 2) := by decide +kernel
theorem dX10_quarrelAll_79 : decode cX10_quarrelAll 79 = .ok (.aload_n 1, 1) := by decide +kernel
theorem dX10_quarrelAll_80 : decode cX10_quarrelAll 80 = .ok (.aload_n 1, 1) := by decide +kernel
theorem dX10_quarrelAll_81 : decode cX10_quarrelAll 81 = .ok (.getfield 154, 3) := by decide +kernel
theorem dX10_quarrelAll_84 : decode cX10_quarrelAll 84 = .ok (.iload 8, 2) := by decide +kernel
theorem dX10_quarrelAll_86 : decode cX10_quarrelAll 86 = .ok (.iadd, 1) := by decide +kernel
theorem dX10_quarrelAll_87 : decode cX10_quarrelAll 87 = .ok (.ldc 157, 2) := by decide +kernel
theorem dX10_quarrelAll_89 : decode cX10_quarrelAll 89 = .ok (.invokestatic 140, 3) := by decide +kernel
theorem dX10_quarrelAll_92 : decode cX10_quarrelAll 92 = .ok (.putfield 154, 3) := by decide +kernel
theorem dX10_quarrelAll_95 : decode cX10_quarrelAll 95 = .ok (.iinc 4 1, 3) := by decide +kernel
theorem dX10_quarrelAll_98 : decode cX10_quarrelAll 98 = .ok (.goto (-80), 3) := by decide +kernel
theorem dX10_quarrelAll_101 : decode cX10_quarrelAll 101 = .ok (.iinc 3 1, 3) := by decide +kernel
theorem dX10_quarrelAll_104 : decode cX10_quarrelAll 104 = .ok (.goto (-102), 3) := by decide +kernel
theorem dX10_quarrelAll_107 : decode cX10_quarrelAll 107 = .ok (.return_, 1) := by decide +kernel
theorem dX10_walk_0 : decode cX10_walk 0 = .ok (.aload_n 0, 1) := by decide +kernel
theorem dX10_walk_1 : decode cX10_walk 1 = .ok (.aload_n 1, 1) := by decide +kernel
theorem dX10_walk_2 : decode cX10_walk 2 = .ok (.iload_n 2, 1) := by decide +kernel
theorem dX10_walk_3 : decode cX10_walk 3 = .ok (.invokevirtual 158, 3) := by decide +kernel
theorem dX10_walk_6 : decode cX10_walk 6 = .ok (.aload_n 0, 1) := by decide +kernel
theorem dX10_walk_7 : decode cX10_walk 7 = .ok (.aload_n 1, 1) := by decide +kernel
theorem dX10_walk_8 : decode cX10_walk 8 = .ok (.iload 4, 2) := by decide +kernel
theorem dX10_walk_10 : decode cX10_walk 10 = .ok (.iload 5, 2) := by decide +kernel
theorem dX10_walk_12 : decode cX10_walk 12 = .ok (.aload_n 1, 1) := by decide +kernel
theorem dX10_walk_13 : decode cX10_walk 13 = .ok (.getfield 130, 3) := by decide +kernel
theorem dX10_walk_16 : decode cX10_walk 16 = .ok (.iload_n 3, 1) := by decide +kernel
theorem dX10_walk_17 : decode cX10_walk 17 = .ok (.iaload, 1) := by decide +kernel
theorem dX10_walk_18 : decode cX10_walk 18 = .ok (.invokevirtual 162, 3) := by decide +kernel
theorem dX10_walk_21 : decode cX10_walk 21 = .ok (.aload_n 0, 1) := by decide +kernel
theorem dX10_walk_22 : decode cX10_walk 22 = .ok (.getfield 9, 3) := by decide +kernel
theorem dX10_walk_25 : decode cX10_walk 25 = .ok (.getfield 166, 3) := by decide +kernel
theorem dX10_walk_28 : decode cX10_walk 28 = .ok (.iconst 0, 1) := by decide +kernel
theorem dX10_walk_29 : decode cX10_walk 29 = .ok (.aload_n 0, 1) := by decide +kernel
theorem dX10_walk_30 : decode cX10_walk 30 = .ok (.getfield 17, 3) := by decide +kernel
theorem dX10_walk_33 : decode cX10_walk 33 = .ok (.invokevirtual 170, 3) := by decide +kernel
theorem dX10_walk_36 : decode cX10_walk 36 = .ok (.lreturn, 1) := by decide +kernel
theorem dX10_quarl_0 : decode cX10_quarl 0 = .ok (.aload_n 0, 1) := by decide +kernel
theorem dX10_quarl_1 : decode cX10_quarl 1 = .ok (.getfield 17, 3) := by decide +kernel
theorem dX10_quarl_4 : decode cX10_quarl 4 = .ok (.iconst 0, 1) := by decide +kernel
theorem dX10_quarl_5 : decode cX10_quarl 5 = .ok (.lconst 0, 1) := by decide +kernel
theorem dX10_quarl_6 : decode cX10_quarl 6 = .ok (.lastore, 1) := by decide +kernel
theorem dX10_quarl_7 : decode cX10_quarl 7 = .ok (.aload_n 0, 1) := by decide +kernel
theorem dX10_quarl_8 : decode cX10_quarl 8 = .ok (.getfield 17, 3) := by decide +kernel
theorem dX10_quarl_11 : decode cX10_quarl 11 = .ok (.iconst 1, 1) := by decide +kernel
theorem dX10_quarl_12 : decode cX10_quarl 12 = .ok (.lconst 0, 1) := by decide +kernel
theorem dX10_quarl_13 : decode cX10_quarl 13 = .ok (.lastore, 1) := by decide +kernel
theorem dX10_quarl_14 : decode cX10_quarl 14 = .ok (.aload_n 0, 1) := by decide +kernel
theorem dX10_quarl_15 : decode cX10_quarl 15 = .ok (.getfield 17, 3) := by decide +kernel
theorem dX10_quarl_18 : decode cX10_quarl 18 = .ok (.iconst 2, 1) := by decide +kernel
theorem dX10_quarl_19 : decode cX10_quarl 19 = .ok (.lconst 0, 1) := by decide +kernel
theorem dX10_quarl_20 : decode cX10_quarl 20 = .ok (.lastore, 1) := by decide +kernel
theorem dX10_quarl_21 : decode cX10_quarl 21 = .ok (.aload_n 0, 1) := by decide +kernel
theorem dX10_quarl_22 : decode cX10_quarl 22 = .ok (.aload_n 1, 1) := by decide +kernel
theorem dX10_quarl_23 : decode cX10_quarl 23 = .ok (.iconst 0, 1) := by decide +kernel
theorem dX10_quarl_24 : decode cX10_quarl 24 = .ok (.iload_n 3, 1) := by decide +kernel
theorem dX10_quarl_25 : decode cX10_quarl 25 = .ok (.iload_n 2, 1) := by decide +kernel
theorem dX10_quarl_26 : decode cX10_quarl 26 = .ok (.invokevirtual 162, 3) := by decide +kernel
theorem dX10_quarl_29 : decode cX10_quarl 29 = .ok (.aload_n 0, 1) := by decide +kernel
theorem dX10_quarl_30 : decode cX10_quarl 30 = .ok (.getfield 9, 3) := by decide +kernel
theorem dX10_quarl_33 : decode cX10_quarl 33 = .ok (.getfield 166, 3) := by decide +kernel
theorem dX10_quarl_36 : decode cX10_quarl 36 = .ok (.iconst 1, 1) := by decide +kernel
theorem dX10_quarl_37 : decode cX10_quarl 37 = .ok (.aload_n 0, 1) := by decide +kernel
theorem dX10_quarl_38 : decode cX10_quarl 38 = .ok (.getfield 17, 3) := by decide +kernel
theorem dX10_quarl_41 : decode cX10_quarl 41 = .ok (.invokevirtual 170, 3) := by decide +kernel
theorem dX10_quarl_44 : decode cX10_quarl 44 = .ok (.lreturn, 1) := by decide +kernel
theorem dX10_grow_0 : decode cX10_grow 0 = .ok (.aload_n 0, 1) := by decide +kernel
theorem dX10_grow_1 : decode cX10_grow 1 = .ok (.aload_n 1, 1) := by decide +kernel
theorem dX10_grow_2 : decode cX10_grow 2 = .ok (.iload_n 2, 1) := by decide +kernel
theorem dX10_grow_3 : decode cX10_grow 3 = .ok (.invokevirtual 158, 3) := by decide +kernel
theorem dX10_grow_6 : decode cX10_grow 6 = .ok (.aload_n 0, 1) := by decide +kernel
theorem dX10_grow_7 : decode cX10_grow 7 = .ok (.aload_n 1, 1) := by decide +kernel
theorem dX10_grow_8 : decode cX10_grow 8 = .ok (.iconst 0, 1) := by decide +kernel
theorem dX10_grow_9 : decode cX10_grow 9 = .ok (.iload_n 3, 1) := by decide +kernel
theorem dX10_grow_10 : decode cX10_grow 10 = .ok (.iconst 0, 1) := by decide +kernel
theorem dX10_grow_11 : decode cX10_grow 11 = .ok (.invokevirtual 162, 3) := by decide +kernel
theorem dX10_grow_14 : decode cX10_grow 14 = .ok (.aload_n 0, 1) := by decide +kernel
theorem dX10_grow_15 : decode cX10_grow 15 = .ok (.getfield 9, 3) := by decide +kernel
theorem dX10_grow_18 : decode cX10_grow 18 = .ok (.getfield 166, 3) := by decide +kernel
theorem dX10_grow_21 : decode cX10_grow 21 = .ok (.iconst 2, 1) := by decide +kernel
theorem dX10_grow_22 : decode cX10_grow 22 = .ok (.aload_n 0, 1) := by decide +kernel
theorem dX10_grow_23 : decode cX10_grow 23 = .ok (.getfield 17, 3) := by decide +kernel
theorem dX10_grow_26 : decode cX10_grow 26 = .ok (.invokevirtual 170, 3) := by decide +kernel
theorem dX10_grow_29 : decode cX10_grow 29 = .ok (.lreturn, 1) := by decide +kernel
theorem dX10_ofChild_0 : decode cX10_ofChild 0 = .ok (.aload_n 0, 1) := by decide +kernel
theorem dX10_ofChild_1 : decode cX10_ofChild 1 = .ok (.getfield 17, 3) := by decide +kernel
theorem dX10_ofChild_4 : decode cX10_ofChild 4 = .ok (.iconst 0, 1) := by decide +kernel
theorem dX10_ofChild_5 : decode cX10_ofChild 5 = .ok (.aload_n 1, 1) := by decide +kernel
theorem dX10_ofChild_6 : decode cX10_ofChild 6 = .ok (.getfield 110, 3) := by decide +kernel
theorem dX10_ofChild_9 : decode cX10_ofChild 9 = .ok (.iload_n 2, 1) := by decide +kernel
theorem dX10_ofChild_10 : decode cX10_ofChild 10 = .ok (.iaload, 1) := by decide +kernel
theorem dX10_ofChild_11 : decode cX10_ofChild 11 = .ok (.i2l, 1) := by decide +kernel
theorem dX10_ofChild_12 : decode cX10_ofChild 12 = .ok (.lastore, 1) := by decide +kernel
theorem dX10_ofChild_13 : decode cX10_ofChild 13 = .ok (.aload_n 0, 1) := by decide +kernel
theorem dX10_ofChild_14 : decode cX10_ofChild 14 = .ok (.getfield 17, 3) := by decide +kernel
theorem dX10_ofChild_17 : decode cX10_ofChild 17 = .ok (.iconst 1, 1) := by decide +kernel
theorem dX10_ofChild_18 : decode cX10_ofChild 18 = .ok (.aload_n 0, 1) := by decide +kernel
theorem dX10_ofChild_19 : decode cX10_ofChild 19 = .ok (.getfield 9, 3) := by decide +kernel
theorem dX10_ofChild_22 : decode cX10_ofChild 22 = .ok (.getfield 176, 3) := by decide +kernel
theorem dX10_ofChild_25 : decode cX10_ofChild 25 = .ok (.iload_n 2, 1) := by decide +kernel
theorem dX10_ofChild_26 : decode cX10_ofChild 26 = .ok (.iaload, 1) := by decide +kernel
theorem dX10_ofChild_27 : decode cX10_ofChild 27 = .ok (.i2l, 1) := by decide +kernel
theorem dX10_ofChild_28 : decode cX10_ofChild 28 = .ok (.lastore, 1) := by decide +kernel
theorem dX10_ofChild_29 : decode cX10_ofChild 29 = .ok (.aload_n 0, 1) := by decide +kernel
theorem dX10_ofChild_30 : decode cX10_ofChild 30 = .ok (.getfield 17, 3) := by decide +kernel
theorem dX10_ofChild_33 : decode cX10_ofChild 33 = .ok (.iconst 2, 1) := by decide +kernel
theorem dX10_ofChild_34 : decode cX10_ofChild 34 = .ok (.aload_n 1, 1) := by decide +kernel
theorem dX10_ofChild_35 : decode cX10_ofChild 35 = .ok (.getfield 95, 3) := by decide +kernel
theorem dX10_ofChild_38 : decode cX10_ofChild 38 = .ok (.iload_n 2, 1) := by decide +kernel
theorem dX10_ofChild_39 : decode cX10_ofChild 39 = .ok (.iaload, 1) := by decide +kernel
theorem dX10_ofChild_40 : decode cX10_ofChild 40 = .ok (.i2l, 1) := by decide +kernel
theorem dX10_ofChild_41 : decode cX10_ofChild 41 = .ok (.lastore, 1) := by decide +kernel
theorem dX10_ofChild_42 : decode cX10_ofChild 42 = .ok (.return_, 1) := by decide +kernel
theorem dX10_ofYear_0 : decode cX10_ofYear 0 = .ok (.aload_n 0, 1) := by decide +kernel
theorem dX10_ofYear_1 : decode cX10_ofYear 1 = .ok (.getfield 17, 3) := by decide +kernel
theorem dX10_ofYear_4 : decode cX10_ofYear 4 = .ok (.iconst 3, 1) := by decide +kernel
theorem dX10_ofYear_5 : decode cX10_ofYear 5 = .ok (.iload_n 2, 1) := by decide +kernel
theorem dX10_ofYear_6 : decode cX10_ofYear 6 = .ok (.i2l, 1) := by decide +kernel
theorem dX10_ofYear_7 : decode cX10_ofYear 7 = .ok (.lastore, 1) := by decide +kernel
theorem dX10_ofYear_8 : decode cX10_ofYear 8 = .ok (.aload_n 0, 1) := by decide +kernel
theorem dX10_ofYear_9 : decode cX10_ofYear 9 = .ok (.getfield 17, 3) := by decide +kernel
theorem dX10_ofYear_12 : decode cX10_ofYear 12 = .ok (.iconst 4, 1) := by decide +kernel
theorem dX10_ofYear_13 : decode cX10_ofYear 13 = .ok (.iload_n 3, 1) := by decide +kernel
theorem dX10_ofYear_14 : decode cX10_ofYear 14 = .ok (.ifCond .eq 7, 3) := by decide +kernel
theorem dX10_ofYear_17 : decode cX10_ofYear 17 = .ok (.lconst 1, 1) := by decide +kernel
theorem dX10_ofYear_18 : decode cX10_ofYear 18 = .ok (.goto 4, 3) := by decide +kernel
theorem dX10_ofYear_21 : decode cX10_ofYear 21 = .ok (.lconst 0, 1) := by decide +kernel
theorem dX10_ofYear_22 : decode cX10_ofYear 22 = .ok (.lastore, 1) := by decide +kernel
theorem dX10_ofYear_23 : decode cX10_ofYear 23 = .ok (.aload_n 0, 1) := by decide +kernel
theorem dX10_ofYear_24 : decode cX10_ofYear 24 = .ok (.getfield 17, 3) := by decide +kernel
theorem dX10_ofYear_27 : decode cX10_ofYear 27 = .ok (.iconst 5, 1) := by decide +kernel
theorem dX10_ofYear_28 : decode cX10_ofYear 28 = .ok (.iload 4, 2) := by decide +kernel
theorem dX10_ofYear_30 : decode cX10_ofYear 30 = .ok (.i2l, 1) := by decide +kernel
theorem dX10_ofYear_31 : decode cX10_ofYear 31 = .ok (.lastore, 1) := by decide +kernel
theorem dX10_ofYear_32 : decode cX10_ofYear 32 = .ok (.aload_n 0, 1) := by decide +kernel
theorem dX10_ofYear_33 : decode cX10_ofYear 33 = .ok (.getfield 17, 3) := by decide +kernel
theorem dX10_ofYear_36 : decode cX10_ofYear 36 = .ok (.bipush 6, 2) := by decide +kernel
theorem dX10_ofYear_38 : decode cX10_ofYear 38 = .ok (.aload_n 1, 1) := by decide +kernel
theorem dX10_ofYear_39 : decode cX10_ofYear 39 = .ok (.getfield 63, 3) := by decide +kernel
theorem dX10_ofYear_42 : decode cX10_ofYear 42 = .ok (.i2l, 1) := by decide +kernel
theorem dX10_ofYear_43 : decode cX10_ofYear 43 = .ok (.lastore, 1) := by decide +kernel
theorem dX10_ofYear_44 : decode cX10_ofYear 44 = .ok (.return_, 1) := by decide +kernel
