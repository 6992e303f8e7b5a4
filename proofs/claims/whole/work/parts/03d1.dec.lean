theorem dX0_init_0 : decode cX0_init 0 = .ok (.aload_n 0, 1) := by decide +kernel
theorem dX0_init_1 : decode cX0_init 1 = .ok (.invokespecial 3, 3) := by decide +kernel
theorem dX0_init_4 : decode cX0_init 4 = .ok (.aload_n 0, 1) := by decide +kernel
theorem dX0_init_5 : decode cX0_init 5 = .ok (.bipush 20, 2) := by decide +kernel
theorem dX0_init_7 : decode cX0_init 7 = .ok (.newarray .int, 2) := by decide +kernel
theorem dX0_init_9 : decode cX0_init 9 = .ok (.putfield 11, 3) := by decide +kernel
theorem dX0_init_12 : decode cX0_init 12 = .ok (.aload_n 0, 1) := by decide +kernel
theorem dX0_init_13 : decode cX0_init 13 = .ok (.bipush 20, 2) := by decide +kernel
theorem dX0_init_15 : decode cX0_init 15 = .ok (.newarray .int, 2) := by decide +kernel
theorem dX0_init_17 : decode cX0_init 17 = .ok (.putfield 15, 3) := by decide +kernel
theorem dX0_init_20 : decode cX0_init 20 = .ok (.aload_n 0, 1) := by decide +kernel
theorem dX0_init_21 : decode cX0_init 21 = .ok (.bipush 20, 2) := by decide +kernel
theorem dX0_init_23 : decode cX0_init 23 = .ok (.newarray .int, 2) := by decide +kernel
theorem dX0_init_25 : decode cX0_init 25 = .ok (.putfield 18, 3) := by decide +kernel
theorem dX0_init_28 : decode cX0_init 28 = .ok (.aload_n 0, 1) := by decide +kernel
theorem dX0_init_29 : decode cX0_init 29 = .ok (.bipush 20, 2) := by decide +kernel
theorem dX0_init_31 : decode cX0_init 31 = .ok (.newarray .int, 2) := by decide +kernel
theorem dX0_init_33 : decode cX0_init 33 = .ok (.putfield 21, 3) := by decide +kernel
theorem dX0_init_36 : decode cX0_init 36 = .ok (.aload_n 0, 1) := by decide +kernel
theorem dX0_init_37 : decode cX0_init 37 = .ok (.bipush 20, 2) := by decide +kernel
theorem dX0_init_39 : decode cX0_init 39 = .ok (.newarray .int, 2) := by decide +kernel
theorem dX0_init_41 : decode cX0_init 41 = .ok (.putfield 24, 3) := by decide +kernel
theorem dX0_init_44 : decode cX0_init 44 = .ok (.return_, 1) := by decide +kernel
theorem dX0_forget_0 : decode cX0_forget 0 = .ok (.aload_n 0, 1) := by decide +kernel
theorem dX0_forget_1 : decode cX0_forget 1 = .ok (.iconst 0, 1) := by decide +kernel
theorem dX0_forget_2 : decode cX0_forget 2 = .ok (.putfield 27, 3) := by decide +kernel
theorem dX0_forget_5 : decode cX0_forget 5 = .ok (.return_, 1) := by decide +kernel
theorem dX0_note_0 : decode cX0_note 0 = .ok (.aload_n 0, 1) := by decide +kernel
theorem dX0_note_1 : decode cX0_note 1 = .ok (.getfield 31, 3) := by decide +kernel
theorem dX0_note_4 : decode cX0_note 4 = .ok (.aload_n 0, 1) := by decide +kernel
theorem dX0_note_5 : decode cX0_note 5 = .ok (.getfield 27, 3) := by decide +kernel
theorem dX0_note_8 : decode cX0_note 8 = .ok (.iadd, 1) := by decide +kernel
theorem dX0_note_9 : decode cX0_note 9 = .ok (.bipush 20, 2) := by decide +kernel
theorem dX0_note_11 : decode cX0_note 11 = .ok (.irem, 1) := by decide +kernel
theorem dX0_note_12 : decode cX0_note 12 = .ok (.istore 4, 2) := by decide +kernel
theorem dX0_note_14 : decode cX0_note 14 = .ok (.aload_n 0, 1) := by decide +kernel
theorem dX0_note_15 : decode cX0_note 15 = .ok (.getfield 11, 3) := by decide +kernel
theorem dX0_note_18 : decode cX0_note 18 = .ok (.iload 4, 2) := by decide +kernel
theorem dX0_note_20 : decode cX0_note 20 = .ok (.iload_n 2, 1) := by decide +kernel
theorem dX0_note_21 : decode cX0_note 21 = .ok (.iastore, 1) := by decide +kernel
theorem dX0_note_22 : decode cX0_note 22 = .ok (.aload_n 0, 1) := by decide +kernel
theorem dX0_note_23 : decode cX0_note 23 = .ok (.getfield 15, 3) := by decide +kernel
theorem dX0_note_26 : decode cX0_note 26 = .ok (.iload 4, 2) := by decide +kernel
theorem dX0_note_28 : decode cX0_note 28 = .ok (.aload_n 1, 1) := by decide +kernel
theorem dX0_note_29 : decode cX0_note 29 = .ok (.getfield 34, 3) := by decide +kernel
theorem dX0_note_32 : decode cX0_note 32 = .ok (.iload_n 2, 1) := by decide +kernel
theorem dX0_note_33 : decode cX0_note 33 = .ok (.iaload, 1) := by decide +kernel
theorem dX0_note_34 : decode cX0_note 34 = .ok (.iastore, 1) := by decide +kernel
theorem dX0_note_35 : decode cX0_note 35 = .ok (.aload_n 0, 1) := by decide +kernel
theorem dX0_note_36 : decode cX0_note 36 = .ok (.getfield 18, 3) := by decide +kernel
theorem dX0_note_39 : decode cX0_note 39 = .ok (.iload 4, 2) := by decide +kernel
theorem dX0_note_41 : decode cX0_note 41 = .ok (.aload_n 1, 1) := by decide +kernel
theorem dX0_note_42 : decode cX0_note 42 = .ok (.getfield 37, 3) := by decide +kernel
theorem dX0_note_45 : decode cX0_note 45 = .ok (.iload_n 2, 1) := by decide +kernel
theorem dX0_note_46 : decode cX0_note 46 = .ok (.iaload, 1) := by decide +kernel
theorem dX0_note_47 : decode cX0_note 47 = .ok (.iastore, 1) := by decide +kernel
theorem dX0_note_48 : decode cX0_note 48 = .ok (.aload_n 0, 1) := by decide +kernel
theorem dX0_note_49 : decode cX0_note 49 = .ok (.getfield 21, 3) := by decide +kernel
theorem dX0_note_52 : decode cX0_note 52 = .ok (.iload 4, 2) := by decide +kernel
theorem dX0_note_54 : decode cX0_note 54 = .ok (.iload_n 3, 1) := by decide +kernel
theorem dX0_note_55 : decode cX0_note 55 = .ok (.iastore, 1) := by decide +kernel
theorem dX0_note_56 : decode cX0_note 56 = .ok (.aload_n 0, 1) := by decide +kernel
theorem dX0_note_57 : decode cX0_note 57 = .ok (.getfield 24, 3) := by decide +kernel
theorem dX0_note_60 : decode cX0_note 60 = .ok (.iload 4, 2) := by decide +kernel
theorem dX0_note_62 : decode cX0_note 62 = .ok (.iload_n 3, 1) := by decide +kernel
theorem dX0_note_63 : decode cX0_note 63 = .ok (.iconst (-1), 1) := by decide +kernel
theorem dX0_note_64 : decode cX0_note 64 = .ok (.if_icmp .ne 7, 3) := by decide +kernel
theorem dX0_note_67 : decode cX0_note 67 = .ok (.iconst 0, 1) := by decide +kernel
theorem dX0_note_68 : decode cX0_note 68 = .ok (.goto 9, 3) := by decide +kernel
theorem dX0_note_71 : decode cX0_note 71 = .ok (.aload_n 1, 1) := by decide +kernel
theorem dX0_note_72 : decode cX0_note 72 = .ok (.getfield 38, 3) := by decide +kernel
theorem dX0_note_75 : decode cX0_note 75 = .ok (.iload_n 3, 1) := by decide +kernel
theorem dX0_note_76 : decode cX0_note 76 = .ok (.iaload, 1) := by decide +kernel
theorem dX0_note_77 : decode cX0_note 77 = .ok (.iastore, 1) := by decide +kernel
theorem dX0_note_78 : decode cX0_note 78 = .ok (.aload_n 0, 1) := by decide +kernel
theorem dX0_note_79 : decode cX0_note 79 = .ok (.getfield 27, 3) := by decide +kernel
theorem dX0_note_82 : decode cX0_note 82 = .ok (.bipush 20, 2) := by decide +kernel
theorem dX0_note_84 : decode cX0_note 84 = .ok (.if_icmp .ge 16, 3) := by decide +kernel
theorem dX0_note_87 : decode cX0_note 87 = .ok (.aload_n 0, 1) := by decide +kernel
theorem dX0_note_88 : decode cX0_note 88 = .ok (.dup, 1) := by decide +kernel
theorem dX0_note_89 : decode cX0_note 89 = .ok (.getfield 27, 3) := by decide +kernel
theorem dX0_note_92 : decode cX0_note 92 = .ok (.iconst 1, 1) := by decide +kernel
theorem dX0_note_93 : decode cX0_note 93 = .ok (.iadd, 1) := by decide +kernel
theorem dX0_note_94 : decode cX0_note 94 = .ok (.putfield 27, 3) := by decide +kernel
theorem dX0_note_97 : decode cX0_note 97 = .ok (.goto 16, 3) := by decide +kernel
theorem dX0_note_100 : decode cX0_note 100 = .ok (.aload_n 0, 1) := by decide +kernel
theorem dX0_note_101 : decode cX0_note 101 = .ok (.aload_n 0, 1) := by decide +kernel
theorem dX0_note_102 : decode cX0_note 102 = .ok (.getfield 31, 3) := by decide +kernel
theorem dX0_note_105 : decode cX0_note 105 = .ok (.iconst 1, 1) := by decide +kernel
theorem dX0_note_106 : decode cX0_note 106 = .ok (.iadd, 1) := by decide +kernel
theorem dX0_note_107 : decode cX0_note 107 = .ok (.bipush 20, 2) := by decide +kernel
theorem dX0_note_109 : decode cX0_note 109 = .ok (.irem, 1) := by decide +kernel
theorem dX0_note_110 : decode cX0_note 110 = .ok (.putfield 31, 3) := by decide +kernel
theorem dX0_note_113 : decode cX0_note 113 = .ok (.return_, 1) := by decide +kernel
theorem dX0_takeBack_0 : decode cX0_takeBack 0 = .ok (.aload_n 0, 1) := by decide +kernel
theorem dX0_takeBack_1 : decode cX0_takeBack 1 = .ok (.getfield 27, 3) := by decide +kernel
theorem dX0_takeBack_4 : decode cX0_takeBack 4 = .ok (.ifCond .ne 5, 3) := by decide +kernel
theorem dX0_takeBack_7 : decode cX0_takeBack 7 = .ok (.iconst (-1), 1) := by decide +kernel
theorem dX0_takeBack_8 : decode cX0_takeBack 8 = .ok (.ireturn, 1) := by decide +kernel
theorem dX0_takeBack_9 : decode cX0_takeBack 9 = .ok (.aload_n 0, 1) := by decide +kernel
theorem dX0_takeBack_10 : decode cX0_takeBack 10 = .ok (.dup, 1) := by decide +kernel
theorem dX0_takeBack_11 : decode cX0_takeBack 11 = .ok (.getfield 27, 3) := by decide +kernel
theorem dX0_takeBack_14 : decode cX0_takeBack 14 = .ok (.iconst 1, 1) := by decide +kernel
theorem dX0_takeBack_15 : decode cX0_takeBack 15 = .ok (.isub, 1) := by decide +kernel
theorem dX0_takeBack_16 : decode cX0_takeBack 16 = .ok (.putfield 27, 3) := by decide +kernel
theorem dX0_takeBack_19 : decode cX0_takeBack 19 = .ok (.aload_n 0, 1) := by decide +kernel
theorem dX0_takeBack_20 : decode cX0_takeBack 20 = .ok (.getfield 31, 3) := by decide +kernel
theorem dX0_takeBack_23 : decode cX0_takeBack 23 = .ok (.aload_n 0, 1) := by decide +kernel
theorem dX0_takeBack_24 : decode cX0_takeBack 24 = .ok (.getfield 27, 3) := by decide +kernel
theorem dX0_takeBack_27 : decode cX0_takeBack 27 = .ok (.iadd, 1) := by decide +kernel
theorem dX0_takeBack_28 : decode cX0_takeBack 28 = .ok (.bipush 20, 2) := by decide +kernel
theorem dX0_takeBack_30 : decode cX0_takeBack 30 = .ok (.irem, 1) := by decide +kernel
theorem dX0_takeBack_31 : decode cX0_takeBack 31 = .ok (.istore_n 2, 1) := by decide +kernel
theorem dX0_takeBack_32 : decode cX0_takeBack 32 = .ok (.aload_n 1, 1) := by decide +kernel
theorem dX0_takeBack_33 : decode cX0_takeBack 33 = .ok (.getfield 34, 3) := by decide +kernel
theorem dX0_takeBack_36 : decode cX0_takeBack 36 = .ok (.aload_n 0, 1) := by decide +kernel
theorem dX0_takeBack_37 : decode cX0_takeBack 37 = .ok (.getfield 11, 3) := by decide +kernel
theorem dX0_takeBack_40 : decode cX0_takeBack 40 = .ok (.iload_n 2, 1) := by decide +kernel
theorem dX0_takeBack_41 : decode cX0_takeBack 41 = .ok (.iaload, 1) := by decide +kernel
theorem dX0_takeBack_42 : decode cX0_takeBack 42 = .ok (.aload_n 0, 1) := by decide +kernel
theorem dX0_takeBack_43 : decode cX0_takeBack 43 = .ok (.getfield 15, 3) := by decide +kernel
theorem dX0_takeBack_46 : decode cX0_takeBack 46 = .ok (.iload_n 2, 1) := by decide +kernel
theorem dX0_takeBack_47 : decode cX0_takeBack 47 = .ok (.iaload, 1) := by decide +kernel
theorem dX0_takeBack_48 : decode cX0_takeBack 48 = .ok (.iastore, 1) := by decide +kernel
theorem dX0_takeBack_49 : decode cX0_takeBack 49 = .ok (.aload_n 1, 1) := by decide +kernel
theorem dX0_takeBack_50 : decode cX0_takeBack 50 = .ok (.getfield 37, 3) := by decide +kernel
theorem dX0_takeBack_53 : decode cX0_takeBack 53 = .ok (.aload_n 0, 1) := by decide +kernel
theorem dX0_takeBack_54 : decode cX0_takeBack 54 = .ok (.getfield 11, 3) := by decide +kernel
theorem dX0_takeBack_57 : decode cX0_takeBack 57 = .ok (.iload_n 2, 1) := by decide +kernel
theorem dX0_takeBack_58 : decode cX0_takeBack 58 = .ok (.iaload, 1) := by decide +kernel
theorem dX0_takeBack_59 : decode cX0_takeBack 59 = .ok (.aload_n 0, 1) := by decide +kernel
theorem dX0_takeBack_60 : decode cX0_takeBack 60 = .ok (.getfield 18, 3) := by decide +kernel
theorem dX0_takeBack_63 : decode cX0_takeBack 63 = .ok (.iload_n 2, 1) := by decide +kernel
theorem dX0_takeBack_64 : decode cX0_takeBack 64 = .ok (.iaload, 1) := by decide +kernel
theorem dX0_takeBack_65 : decode cX0_takeBack 65 = .ok (.iastore, 1) := by decide +kernel
theorem dX0_takeBack_66 : decode cX0_takeBack 66 = .ok (.aload_n 0, 1) := by decide +kernel
theorem dX0_takeBack_67 : decode cX0_takeBack 67 = .ok (.getfield 21, 3) := by decide +kernel
theorem dX0_takeBack_70 : decode cX0_takeBack 70 = .ok (.iload_n 2, 1) := by decide +kernel
theorem dX0_takeBack_71 : decode cX0_takeBack 71 = .ok (.iaload, 1) := by decide +kernel
theorem dX0_takeBack_72 : decode cX0_takeBack 72 = .ok (.iconst (-1), 1) := by decide +kernel
theorem dX0_takeBack_73 : decode cX0_takeBack 73 = .ok (.if_icmp .eq 20, 3) := by decide +kernel
theorem dX0_takeBack_76 : decode cX0_takeBack 76 = .ok (.aload_n 1, 1) := by decide +kernel
theorem dX0_takeBack_77 : decode cX0_takeBack 77 = .ok (.getfield 38, 3) := by decide +kernel
theorem dX0_takeBack_80 : decode cX0_takeBack 80 = .ok (.aload_n 0, 1) := by decide +kernel
theorem dX0_takeBack_81 : decode cX0_takeBack 81 = .ok (.getfield 21, 3) := by decide +kernel
theorem dX0_takeBack_84 : decode cX0_takeBack 84 = .ok (.iload_n 2, 1) := by decide +kernel
theorem dX0_takeBack_85 : decode cX0_takeBack 85 = .ok (.iaload, 1) := by decide +kernel
theorem dX0_takeBack_86 : decode cX0_takeBack 86 = .ok (.aload_n 0, 1) := by decide +kernel
theorem dX0_takeBack_87 : decode cX0_takeBack 87 = .ok (.getfield 24, 3) := by decide +kernel
theorem dX0_takeBack_90 : decode cX0_takeBack 90 = .ok (.iload_n 2, 1) := by decide +kernel
theorem dX0_takeBack_91 : decode cX0_takeBack 91 = .ok (.iaload, 1) := by decide +kernel
theorem dX0_takeBack_92 : decode cX0_takeBack 92 = .ok (.iastore, 1) := by decide +kernel
theorem dX0_takeBack_93 : decode cX0_takeBack 93 = .ok (.aload_n 0, 1) := by decide +kernel
theorem dX0_takeBack_94 : decode cX0_takeBack 94 = .ok (.getfield 27, 3) := by decide +kernel
theorem dX0_takeBack_97 : decode cX0_takeBack 97 = .ok (.ireturn, 1) := by decide +kernel
theorem dX1_init_0 : decode cX1_init 0 = .ok (.aload_n 0, 1) := by decide +kernel
theorem dX1_init_1 : decode cX1_init 1 = .ok (.invokespecial 3, 3) := by decide +kernel
theorem dX1_init_4 : decode cX1_init 4 = .ok (.aload_n 0, 1) := by decide +kernel
theorem dX1_init_5 : decode cX1_init 5 = .ok (.aload_n 1, 1) := by decide +kernel
theorem dX1_init_6 : decode cX1_init 6 = .ok (.putfield 9, 3) := by decide +kernel
theorem dX1_init_9 : decode cX1_init 9 = .ok (.aload_n 0, 1) := by decide +kernel
theorem dX1_init_10 : decode cX1_init 10 = .ok (.aload_n 2, 1) := by decide +kernel
theorem dX1_init_11 : decode cX1_init 11 = .ok (.putfield 15, 3) := by decide +kernel
theorem dX1_init_14 : decode cX1_init 14 = .ok (.aload_n 0, 1) := by decide +kernel
theorem dX1_init_15 : decode cX1_init 15 = .ok (.aload_n 3, 1) := by decide +kernel
theorem dX1_init_16 : decode cX1_init 16 = .ok (.putfield 19, 3) := by decide +kernel
theorem dX1_init_19 : decode cX1_init 19 = .ok (.aload_n 0, 1) := by decide +kernel
theorem dX1_init_20 : decode cX1_init 20 = .ok (.new 23, 3) := by decide +kernel
theorem dX1_init_23 : decode cX1_init 23 = .ok (.dup, 1) := by decide +kernel
theorem dX1_init_24 : decode cX1_init 24 = .ok (.aload_n 1, 1) := by decide +kernel
theorem dX1_init_25 : decode cX1_init 25 = .ok (.invokespecial 25, 3) := by decide +kernel
theorem dX1_init_28 : decode cX1_init 28 = .ok (.putfield 28, 3) := by decide +kernel
theorem dX1_init_31 : decode cX1_init 31 = .ok (.aload_n 0, 1) := by decide +kernel
theorem dX1_init_32 : decode cX1_init 32 = .ok (.bipush 40, 2) := by decide +kernel
theorem dX1_init_34 : decode cX1_init 34 = .ok (.newarray .int, 2) := by decide +kernel
theorem dX1_init_36 : decode cX1_init 36 = .ok (.putfield 32, 3) := by decide +kernel
theorem dX1_init_39 : decode cX1_init 39 = .ok (.aload_n 0, 1) := by decide +kernel
theorem dX1_init_40 : decode cX1_init 40 = .ok (.bipush 40, 2) := by decide +kernel
theorem dX1_init_42 : decode cX1_init 42 = .ok (.newarray .int, 2) := by decide +kernel
theorem dX1_init_44 : decode cX1_init 44 = .ok (.putfield 36, 3) := by decide +kernel
theorem dX1_init_47 : decode cX1_init 47 = .ok (.return_, 1) := by decide +kernel
theorem dX1_beginWith_0 : decode cX1_beginWith 0 = .ok (.aload_n 0, 1) := by decide +kernel
theorem dX1_beginWith_1 : decode cX1_beginWith 1 = .ok (.getfield 28, 3) := by decide +kernel
theorem dX1_beginWith_4 : decode cX1_beginWith 4 = .ok (.invokevirtual 39, 3) := by decide +kernel
theorem dX1_beginWith_7 : decode cX1_beginWith 7 = .ok (.aload_n 0, 1) := by decide +kernel
theorem dX1_beginWith_8 : decode cX1_beginWith 8 = .ok (.getfield 28, 3) := by decide +kernel
theorem dX1_beginWith_11 : decode cX1_beginWith 11 = .ok (.iconst 1, 1) := by decide +kernel
theorem dX1_beginWith_12 : decode cX1_beginWith 12 = .ok (.putfield 42, 3) := by decide +kernel
theorem dX1_beginWith_15 : decode cX1_beginWith 15 = .ok (.aload_n 0, 1) := by decide +kernel
theorem dX1_beginWith_16 : decode cX1_beginWith 16 = .ok (.getfield 28, 3) := by decide +kernel
theorem dX1_beginWith_19 : decode cX1_beginWith 19 = .ok (.getfield 46, 3) := by decide +kernel
theorem dX1_beginWith_22 : decode cX1_beginWith 22 = .ok (.iload_n 1, 1) := by decide +kernel
theorem dX1_beginWith_23 : decode cX1_beginWith 23 = .ok (.iload_n 2, 1) := by decide +kernel
theorem dX1_beginWith_24 : decode cX1_beginWith 24 = .ok (.iastore, 1) := by decide +kernel
theorem dX1_beginWith_25 : decode cX1_beginWith 25 = .ok (.return_, 1) := by decide +kernel
theorem dX1_legsLeft_0 : decode cX1_legsLeft 0 = .ok (.aload_n 0, 1) := by decide +kernel
theorem dX1_legsLeft_1 : decode cX1_legsLeft 1 = .ok (.getfield 19, 3) := by decide +kernel
theorem dX1_legsLeft_4 : decode cX1_legsLeft 4 = .ok (.invokevirtual 49, 3) := by decide +kernel
theorem dX1_legsLeft_7 : decode cX1_legsLeft 7 = .ok (.iconst 0, 1) := by decide +kernel
theorem dX1_legsLeft_8 : decode cX1_legsLeft 8 = .ok (.istore_n 2, 1) := by decide +kernel
theorem dX1_legsLeft_9 : decode cX1_legsLeft 9 = .ok (.iconst 0, 1) := by decide +kernel
theorem dX1_legsLeft_10 : decode cX1_legsLeft 10 = .ok (.istore_n 3, 1) := by decide +kernel
theorem dX1_legsLeft_11 : decode cX1_legsLeft 11 = .ok (.iload_n 3, 1) := by decide +kernel
theorem dX1_legsLeft_12 : decode cX1_legsLeft 12 = .ok (.bipush 30, 2) := by decide +kernel
theorem dX1_legsLeft_14 : decode cX1_legsLeft 14 = .ok (.if_icmp .ge 114, 3) := by decide +kernel
theorem dX1_legsLeft_17 : decode cX1_legsLeft 17 = .ok (.aload_n 0, 1) := by decide +kernel
theorem dX1_legsLeft_18 : decode cX1_legsLeft 18 = .ok (.iload_n 1, 1) := by decide +kernel
theorem dX1_legsLeft_19 : decode cX1_legsLeft 19 = .ok (.iload_n 3, 1) := by decide +kernel
theorem dX1_legsLeft_20 : decode cX1_legsLeft 20 = .ok (.iconst 1, 1) := by decide +kernel
theorem dX1_legsLeft_21 : decode cX1_legsLeft 21 = .ok (.iadd, 1) := by decide +kernel
theorem dX1_legsLeft_22 : decode cX1_legsLeft 22 = .ok (.invokevirtual 54, 3) := by decide +kernel
theorem dX1_legsLeft_25 : decode cX1_legsLeft 25 = .ok (.iconst 1, 1) := by decide +kernel
theorem dX1_legsLeft_26 : decode cX1_legsLeft 26 = .ok (.istore 4, 2) := by decide +kernel
theorem dX1_legsLeft_28 : decode cX1_legsLeft 28 = .ok (.aload_n 0, 1) := by decide +kernel
theorem dX1_legsLeft_29 : decode cX1_legsLeft 29 = .ok (.getfield 19, 3) := by decide +kernel
theorem dX1_legsLeft_32 : decode cX1_legsLeft 32 = .ok (.iconst 0, 1) := by decide +kernel
theorem dX1_legsLeft_33 : decode cX1_legsLeft 33 = .ok (.invokevirtual 58, 3) := by decide +kernel
theorem dX1_legsLeft_36 : decode cX1_legsLeft 36 = .ok (.istore 5, 2) := by decide +kernel
theorem dX1_legsLeft_38 : decode cX1_legsLeft 38 = .ok (.iconst 0, 1) := by decide +kernel
theorem dX1_legsLeft_39 : decode cX1_legsLeft 39 = .ok (.istore 6, 2) := by decide +kernel
theorem dX1_legsLeft_41 : decode cX1_legsLeft 41 = .ok (.iload 6, 2) := by decide +kernel
theorem dX1_legsLeft_43 : decode cX1_legsLeft 43 = .ok (.bipush 24, 2) := by decide +kernel
theorem dX1_legsLeft_45 : decode cX1_legsLeft 45 = .ok (.if_icmp .ge 66, 3) := by decide +kernel
theorem dX1_legsLeft_48 : decode cX1_legsLeft 48 = .ok (.iload 4, 2) := by decide +kernel
theorem dX1_legsLeft_50 : decode cX1_legsLeft 50 = .ok (.ifCond .eq 61, 3) := by decide +kernel
theorem dX1_legsLeft_53 : decode cX1_legsLeft 53 = .ok (.iload 5, 2) := by decide +kernel
theorem dX1_legsLeft_55 : decode cX1_legsLeft 55 = .ok (.iconst (-1), 1) := by decide +kernel
theorem dX1_legsLeft_56 : decode cX1_legsLeft 56 = .ok (.if_icmp .eq 55, 3) := by decide +kernel
theorem dX1_legsLeft_59 : decode cX1_legsLeft 59 = .ok (.aload_n 0, 1) := by decide +kernel
theorem dX1_legsLeft_60 : decode cX1_legsLeft 60 = .ok (.getfield 15, 3) := by decide +kernel
theorem dX1_legsLeft_63 : decode cX1_legsLeft 63 = .ok (.aload_n 0, 1) := by decide +kernel
theorem dX1_legsLeft_64 : decode cX1_legsLeft 64 = .ok (.getfield 28, 3) := by decide +kernel
theorem dX1_legsLeft_67 : decode cX1_legsLeft 67 = .ok (.iload 5, 2) := by decide +kernel
theorem dX1_legsLeft_69 : decode cX1_legsLeft 69 = .ok (.aload_n 0, 1) := by decide +kernel
theorem dX1_legsLeft_70 : decode cX1_legsLeft 70 = .ok (.getfield 28, 3) := by decide +kernel
theorem dX1_legsLeft_73 : decode cX1_legsLeft 73 = .ok (.getfield 62, 3) := by decide +kernel
theorem dX1_legsLeft_76 : decode cX1_legsLeft 76 = .ok (.isub, 1) := by decide +kernel
theorem dX1_legsLeft_77 : decode cX1_legsLeft 77 = .ok (.iconst 0, 1) := by decide +kernel
theorem dX1_legsLeft_78 : decode cX1_legsLeft 78 = .ok (.invokevirtual 66, 3) := by decide +kernel
theorem dX1_legsLeft_81 : decode cX1_legsLeft 81 = .ok (.aload_n 0, 1) := by decide +kernel
theorem dX1_legsLeft_82 : decode cX1_legsLeft 82 = .ok (.getfield 19, 3) := by decide +kernel
theorem dX1_legsLeft_85 : decode cX1_legsLeft 85 = .ok (.aload_n 0, 1) := by decide +kernel
theorem dX1_legsLeft_86 : decode cX1_legsLeft 86 = .ok (.getfield 28, 3) := by decide +kernel
theorem dX1_legsLeft_89 : decode cX1_legsLeft 89 = .ok (.invokevirtual 72, 3) := by decide +kernel
theorem dX1_legsLeft_92 : decode cX1_legsLeft 92 = .ok (.istore 4, 2) := by decide +kernel
theorem dX1_legsLeft_94 : decode cX1_legsLeft 94 = .ok (.aload_n 0, 1) := by decide +kernel
theorem dX1_legsLeft_95 : decode cX1_legsLeft 95 = .ok (.getfield 19, 3) := by decide +kernel
theorem dX1_legsLeft_98 : decode cX1_legsLeft 98 = .ok (.iload 5, 2) := by decide +kernel
theorem dX1_legsLeft_100 : decode cX1_legsLeft 100 = .ok (.invokevirtual 58, 3) := by decide +kernel
theorem dX1_legsLeft_103 : decode cX1_legsLeft 103 = .ok (.istore 5, 2) := by decide +kernel
theorem dX1_legsLeft_105 : decode cX1_legsLeft 105 = .ok (.iinc 6 1, 3) := by decide +kernel
theorem dX1_legsLeft_108 : decode cX1_legsLeft 108 = .ok (.goto (-67), 3) := by decide +kernel
theorem dX1_legsLeft_111 : decode cX1_legsLeft 111 = .ok (.iload 4, 2) := by decide +kernel
theorem dX1_legsLeft_113 : decode cX1_legsLeft 113 = .ok (.ifCond .eq 9, 3) := by decide +kernel
theorem dX1_legsLeft_116 : decode cX1_legsLeft 116 = .ok (.iload_n 2, 1) := by decide +kernel
theorem dX1_legsLeft_117 : decode cX1_legsLeft 117 = .ok (.iconst 1, 1) := by decide +kernel
theorem dX1_legsLeft_118 : decode cX1_legsLeft 118 = .ok (.iload_n 3, 1) := by decide +kernel
theorem dX1_legsLeft_119 : decode cX1_legsLeft 119 = .ok (.ishl, 1) := by decide +kernel
theorem dX1_legsLeft_120 : decode cX1_legsLeft 120 = .ok (.ior, 1) := by decide +kernel
theorem dX1_legsLeft_121 : decode cX1_legsLeft 121 = .ok (.istore_n 2, 1) := by decide +kernel
theorem dX1_legsLeft_122 : decode cX1_legsLeft 122 = .ok (.iinc 3 1, 3) := by decide +kernel
theorem dX1_legsLeft_125 : decode cX1_legsLeft 125 = .ok (.goto (-114), 3) := by decide +kernel
theorem dX1_legsLeft_128 : decode cX1_legsLeft 128 = .ok (.iload_n 2, 1) := by decide +kernel
theorem dX1_legsLeft_129 : decode cX1_legsLeft 129 = .ok (.ireturn, 1) := by decide +kernel
theorem dX1_seekCell_0 : decode cX1_seekCell 0 = .ok (.aload_n 0, 1) := by decide +kernel
theorem dX1_seekCell_1 : decode cX1_seekCell 1 = .ok (.getfield 32, 3) := by decide +kernel
theorem dX1_seekCell_4 : decode cX1_seekCell 4 = .ok (.iconst 0, 1) := by decide +kernel
theorem dX1_seekCell_5 : decode cX1_seekCell 5 = .ok (.invokestatic 76, 3) := by decide +kernel
theorem dX1_seekCell_8 : decode cX1_seekCell 8 = .ok (.aload_n 0, 1) := by decide +kernel
theorem dX1_seekCell_9 : decode cX1_seekCell 9 = .ok (.getfield 36, 3) := by decide +kernel
theorem dX1_seekCell_12 : decode cX1_seekCell 12 = .ok (.iconst 0, 1) := by decide +kernel
theorem dX1_seekCell_13 : decode cX1_seekCell 13 = .ok (.invokestatic 76, 3) := by decide +kernel
theorem dX1_seekCell_16 : decode cX1_seekCell 16 = .ok (.iconst 0, 1) := by decide +kernel
theorem dX1_seekCell_17 : decode cX1_seekCell 17 = .ok (.istore 4, 2) := by decide +kernel
theorem dX1_seekCell_19 : decode cX1_seekCell 19 = .ok (.iload 4, 2) := by decide +kernel
theorem dX1_seekCell_21 : decode cX1_seekCell 21 = .ok (.bipush 30, 2) := by decide +kernel
theorem dX1_seekCell_23 : decode cX1_seekCell 23 = .ok (.if_icmp .ge 50, 3) := by decide +kernel
theorem dX1_seekCell_26 : decode cX1_seekCell 26 = .ok (.iload_n 3, 1) := by decide +kernel
theorem dX1_seekCell_27 : decode cX1_seekCell 27 = .ok (.iload 4, 2) := by decide +kernel
theorem dX1_seekCell_29 : decode cX1_seekCell 29 = .ok (.ishr, 1) := by decide +kernel
theorem dX1_seekCell_30 : decode cX1_seekCell 30 = .ok (.iconst 1, 1) := by decide +kernel
theorem dX1_seekCell_31 : decode cX1_seekCell 31 = .ok (.iand, 1) := by decide +kernel
theorem dX1_seekCell_32 : decode cX1_seekCell 32 = .ok (.ifCond .eq 35, 3) := by decide +kernel
theorem dX1_seekCell_35 : decode cX1_seekCell 35 = .ok (.aload_n 0, 1) := by decide +kernel
theorem dX1_seekCell_36 : decode cX1_seekCell 36 = .ok (.iload_n 1, 1) := by decide +kernel
theorem dX1_seekCell_37 : decode cX1_seekCell 37 = .ok (.iload 4, 2) := by decide +kernel
theorem dX1_seekCell_39 : decode cX1_seekCell 39 = .ok (.iconst 1, 1) := by decide +kernel
theorem dX1_seekCell_40 : decode cX1_seekCell 40 = .ok (.iadd, 1) := by decide +kernel
theorem dX1_seekCell_41 : decode cX1_seekCell 41 = .ok (.invokevirtual 54, 3) := by decide +kernel
theorem dX1_seekCell_44 : decode cX1_seekCell 44 = .ok (.aload_n 0, 1) := by decide +kernel
theorem dX1_seekCell_45 : decode cX1_seekCell 45 = .ok (.getfield 15, 3) := by decide +kernel
theorem dX1_seekCell_48 : decode cX1_seekCell 48 = .ok (.aload_n 0, 1) := by decide +kernel
theorem dX1_seekCell_49 : decode cX1_seekCell 49 = .ok (.getfield 28, 3) := by decide +kernel
theorem dX1_seekCell_52 : decode cX1_seekCell 52 = .ok (.bipush 20, 2) := by decide +kernel
theorem dX1_seekCell_54 : decode cX1_seekCell 54 = .ok (.iconst 0, 1) := by decide +kernel
theorem dX1_seekCell_55 : decode cX1_seekCell 55 = .ok (.invokevirtual 66, 3) := by decide +kernel
theorem dX1_seekCell_58 : decode cX1_seekCell 58 = .ok (.aload_n 0, 1) := by decide +kernel
theorem dX1_seekCell_59 : decode cX1_seekCell 59 = .ok (.iload_n 2, 1) := by decide +kernel
theorem dX1_seekCell_60 : decode cX1_seekCell 60 = .ok (.iconst 1, 1) := by decide +kernel
theorem dX1_seekCell_61 : decode cX1_seekCell 61 = .ok (.iload 4, 2) := by decide +kernel
theorem dX1_seekCell_63 : decode cX1_seekCell 63 = .ok (.ishl, 1) := by decide +kernel
theorem dX1_seekCell_64 : decode cX1_seekCell 64 = .ok (.invokevirtual 82, 3) := by decide +kernel
theorem dX1_seekCell_67 : decode cX1_seekCell 67 = .ok (.iinc 4 1, 3) := by decide +kernel
theorem dX1_seekCell_70 : decode cX1_seekCell 70 = .ok (.goto (-51), 3) := by decide +kernel
theorem dX1_seekCell_73 : decode cX1_seekCell 73 = .ok (.aload_n 0, 1) := by decide +kernel
theorem dX1_seekCell_74 : decode cX1_seekCell 74 = .ok (.ldc 87, 2) := by decide +kernel
theorem dX1_seekCell_76 : decode cX1_seekCell 76 = .ok (.putfield 88, 3) := by decide +kernel
theorem dX1_seekCell_79 : decode cX1_seekCell 79 = .ok (.iconst 0, 1) := by decide +kernel
theorem dX1_seekCell_80 : decode cX1_seekCell 80 = .ok (.istore 4, 2) := by decide +kernel
theorem dX1_seekCell_82 : decode cX1_seekCell 82 = .ok (.iload 4, 2) := by decide +kernel
theorem dX1_seekCell_84 : decode cX1_seekCell 84 = .ok (.aload_n 0, 1) := by decide +kernel
theorem dX1_seekCell_85 : decode cX1_seekCell 85 = .ok (.getfield 9, 3) := by decide +kernel
theorem dX1_seekCell_88 : decode cX1_seekCell 88 = .ok (.getfield 91, 3) := by decide +kernel
theorem dX1_seekCell_91 : decode cX1_seekCell 91 = .ok (.if_icmp .ge 42, 3) := by decide +kernel
theorem dX1_seekCell_94 : decode cX1_seekCell 94 = .ok (.iconst 0, 1) := by decide +kernel
theorem dX1_seekCell_95 : decode cX1_seekCell 95 = .ok (.istore 5, 2) := by decide +kernel
theorem dX1_seekCell_97 : decode cX1_seekCell 97 = .ok (.iload 5, 2) := by decide +kernel
theorem dX1_seekCell_99 : decode cX1_seekCell 99 = .ok (.aload_n 0, 1) := by decide +kernel
theorem dX1_seekCell_100 : decode cX1_seekCell 100 = .ok (.getfield 9, 3) := by decide +kernel
theorem dX1_seekCell_103 : decode cX1_seekCell 103 = .ok (.getfield 91, 3) := by decide +kernel
theorem dX1_seekCell_106 : decode cX1_seekCell 106 = .ok (.if_icmp .ge 21, 3) := by decide +kernel
theorem dX1_seekCell_109 : decode cX1_seekCell 109 = .ok (.aload_n 0, 1) := by decide +kernel
theorem dX1_seekCell_110 : decode cX1_seekCell 110 = .ok (.iload 4, 2) := by decide +kernel
theorem dX1_seekCell_112 : decode cX1_seekCell 112 = .ok (.iload 5, 2) := by decide +kernel
theorem dX1_seekCell_114 : decode cX1_seekCell 114 = .ok (.iload_n 3, 1) := by decide +kernel
theorem dX1_seekCell_115 : decode cX1_seekCell 115 = .ok (.invokestatic 96, 3) := by decide +kernel
theorem dX1_seekCell_118 : decode cX1_seekCell 118 = .ok (.invokevirtual 99, 3) := by decide +kernel
theorem dX1_seekCell_121 : decode cX1_seekCell 121 = .ok (.iinc 5 1, 3) := by decide +kernel
theorem dX1_seekCell_124 : decode cX1_seekCell 124 = .ok (.goto (-27), 3) := by decide +kernel
theorem dX1_seekCell_127 : decode cX1_seekCell 127 = .ok (.iinc 4 1, 3) := by decide +kernel
theorem dX1_seekCell_130 : decode cX1_seekCell 130 = .ok (.goto (-48), 3) := by decide +kernel
theorem dX1_seekCell_133 : decode cX1_seekCell 133 = .ok (.return_, 1) := by decide +kernel
theorem dX1_mark_0 : decode cX1_mark 0 = .ok (.aload_n 0, 1) := by decide +kernel
theorem dX1_mark_1 : decode cX1_mark 1 = .ok (.getfield 28, 3) := by decide +kernel
theorem dX1_mark_4 : decode cX1_mark 4 = .ok (.iload_n 1, 1) := by decide +kernel
theorem dX1_mark_5 : decode cX1_mark 5 = .ok (.invokevirtual 103, 3) := by decide +kernel
theorem dX1_mark_8 : decode cX1_mark 8 = .ok (.istore_n 3, 1) := by decide +kernel
theorem dX1_mark_9 : decode cX1_mark 9 = .ok (.iload_n 3, 1) := by decide +kernel
theorem dX1_mark_10 : decode cX1_mark 10 = .ok (.aload_n 0, 1) := by decide +kernel
theorem dX1_mark_11 : decode cX1_mark 11 = .ok (.getfield 28, 3) := by decide +kernel
theorem dX1_mark_14 : decode cX1_mark 14 = .ok (.iload_n 1, 1) := by decide +kernel
theorem dX1_mark_15 : decode cX1_mark 15 = .ok (.invokevirtual 106, 3) := by decide +kernel
theorem dX1_mark_18 : decode cX1_mark 18 = .ok (.if_icmp .gt 29, 3) := by decide +kernel
theorem dX1_mark_21 : decode cX1_mark 21 = .ok (.iload_n 3, 1) := by decide +kernel
theorem dX1_mark_22 : decode cX1_mark 22 = .ok (.ifCond .lt 19, 3) := by decide +kernel
theorem dX1_mark_25 : decode cX1_mark 25 = .ok (.iload_n 3, 1) := by decide +kernel
theorem dX1_mark_26 : decode cX1_mark 26 = .ok (.bipush 40, 2) := by decide +kernel
theorem dX1_mark_28 : decode cX1_mark 28 = .ok (.if_icmp .ge 13, 3) := by decide +kernel
theorem dX1_mark_31 : decode cX1_mark 31 = .ok (.aload_n 0, 1) := by decide +kernel
theorem dX1_mark_32 : decode cX1_mark 32 = .ok (.getfield 32, 3) := by decide +kernel
theorem dX1_mark_35 : decode cX1_mark 35 = .ok (.iload_n 3, 1) := by decide +kernel
theorem dX1_mark_36 : decode cX1_mark 36 = .ok (.dup2, 1) := by decide +kernel
theorem dX1_mark_37 : decode cX1_mark 37 = .ok (.iaload, 1) := by decide +kernel
theorem dX1_mark_38 : decode cX1_mark 38 = .ok (.iload_n 2, 1) := by decide +kernel
theorem dX1_mark_39 : decode cX1_mark 39 = .ok (.ior, 1) := by decide +kernel
theorem dX1_mark_40 : decode cX1_mark 40 = .ok (.iastore, 1) := by decide +kernel
theorem dX1_mark_41 : decode cX1_mark 41 = .ok (.iinc 3 1, 3) := by decide +kernel
theorem dX1_mark_44 : decode cX1_mark 44 = .ok (.goto (-35), 3) := by decide +kernel
theorem dX1_mark_47 : decode cX1_mark 47 = .ok (.aload_n 0, 1) := by decide +kernel
theorem dX1_mark_48 : decode cX1_mark 48 = .ok (.getfield 28, 3) := by decide +kernel
theorem dX1_mark_51 : decode cX1_mark 51 = .ok (.iload_n 1, 1) := by decide +kernel
theorem dX1_mark_52 : decode cX1_mark 52 = .ok (.invokevirtual 109, 3) := by decide +kernel
theorem dX1_mark_55 : decode cX1_mark 55 = .ok (.istore_n 3, 1) := by decide +kernel
theorem dX1_mark_56 : decode cX1_mark 56 = .ok (.iload_n 3, 1) := by decide +kernel
theorem dX1_mark_57 : decode cX1_mark 57 = .ok (.aload_n 0, 1) := by decide +kernel
theorem dX1_mark_58 : decode cX1_mark 58 = .ok (.getfield 28, 3) := by decide +kernel
theorem dX1_mark_61 : decode cX1_mark 61 = .ok (.iload_n 1, 1) := by decide +kernel
theorem dX1_mark_62 : decode cX1_mark 62 = .ok (.invokevirtual 112, 3) := by decide +kernel
theorem dX1_mark_65 : decode cX1_mark 65 = .ok (.if_icmp .gt 29, 3) := by decide +kernel
theorem dX1_mark_68 : decode cX1_mark 68 = .ok (.iload_n 3, 1) := by decide +kernel
theorem dX1_mark_69 : decode cX1_mark 69 = .ok (.ifCond .lt 19, 3) := by decide +kernel
theorem dX1_mark_72 : decode cX1_mark 72 = .ok (.iload_n 3, 1) := by decide +kernel
theorem dX1_mark_73 : decode cX1_mark 73 = .ok (.bipush 40, 2) := by decide +kernel
theorem dX1_mark_75 : decode cX1_mark 75 = .ok (.if_icmp .ge 13, 3) := by decide +kernel
theorem dX1_mark_78 : decode cX1_mark 78 = .ok (.aload_n 0, 1) := by decide +kernel
theorem dX1_mark_79 : decode cX1_mark 79 = .ok (.getfield 36, 3) := by decide +kernel
theorem dX1_mark_82 : decode cX1_mark 82 = .ok (.iload_n 3, 1) := by decide +kernel
theorem dX1_mark_83 : decode cX1_mark 83 = .ok (.dup2, 1) := by decide +kernel
theorem dX1_mark_84 : decode cX1_mark 84 = .ok (.iaload, 1) := by decide +kernel
theorem dX1_mark_85 : decode cX1_mark 85 = .ok (.iload_n 2, 1) := by decide +kernel
theorem dX1_mark_86 : decode cX1_mark 86 = .ok (.ior, 1) := by decide +kernel
theorem dX1_mark_87 : decode cX1_mark 87 = .ok (.iastore, 1) := by decide +kernel
theorem dX1_mark_88 : decode cX1_mark 88 = .ok (.iinc 3 1, 3) := by decide +kernel
theorem dX1_mark_91 : decode cX1_mark 91 = .ok (.goto (-35), 3) := by decide +kernel
theorem dX1_mark_94 : decode cX1_mark 94 = .ok (.return_, 1) := by decide +kernel
theorem dX1_weigh_0 : decode cX1_weigh 0 = .ok (.aload_n 0, 1) := by decide +kernel
theorem dX1_weigh_1 : decode cX1_weigh 1 = .ok (.getfield 32, 3) := by decide +kernel
theorem dX1_weigh_4 : decode cX1_weigh 4 = .ok (.iload_n 1, 1) := by decide +kernel
theorem dX1_weigh_5 : decode cX1_weigh 5 = .ok (.iaload, 1) := by decide +kernel
theorem dX1_weigh_6 : decode cX1_weigh 6 = .ok (.aload_n 0, 1) := by decide +kernel
theorem dX1_weigh_7 : decode cX1_weigh 7 = .ok (.getfield 36, 3) := by decide +kernel
theorem dX1_weigh_10 : decode cX1_weigh 10 = .ok (.iload_n 2, 1) := by decide +kernel
theorem dX1_weigh_11 : decode cX1_weigh 11 = .ok (.iaload, 1) := by decide +kernel
theorem dX1_weigh_12 : decode cX1_weigh 12 = .ok (.iand, 1) := by decide +kernel
theorem dX1_weigh_13 : decode cX1_weigh 13 = .ok (.invokestatic 96, 3) := by decide +kernel
theorem dX1_weigh_16 : decode cX1_weigh 16 = .ok (.istore 4, 2) := by decide +kernel
theorem dX1_weigh_18 : decode cX1_weigh 18 = .ok (.iload 4, 2) := by decide +kernel
theorem dX1_weigh_20 : decode cX1_weigh 20 = .ok (.iload_n 3, 1) := by decide +kernel
theorem dX1_weigh_21 : decode cX1_weigh 21 = .ok (.iload 4, 2) := by decide +kernel
theorem dX1_weigh_23 : decode cX1_weigh 23 = .ok (.isub, 1) := by decide +kernel
theorem dX1_weigh_24 : decode cX1_weigh 24 = .ok (.invokestatic 115, 3) := by decide +kernel
theorem dX1_weigh_27 : decode cX1_weigh 27 = .ok (.istore 5, 2) := by decide +kernel
theorem dX1_weigh_29 : decode cX1_weigh 29 = .ok (.iload 5, 2) := by decide +kernel
theorem dX1_weigh_31 : decode cX1_weigh 31 = .ok (.aload_n 0, 1) := by decide +kernel
theorem dX1_weigh_32 : decode cX1_weigh 32 = .ok (.getfield 88, 3) := by decide +kernel
theorem dX1_weigh_35 : decode cX1_weigh 35 = .ok (.if_icmp .ge 19, 3) := by decide +kernel
theorem dX1_weigh_38 : decode cX1_weigh 38 = .ok (.aload_n 0, 1) := by decide +kernel
theorem dX1_weigh_39 : decode cX1_weigh 39 = .ok (.iload 5, 2) := by decide +kernel
theorem dX1_weigh_41 : decode cX1_weigh 41 = .ok (.putfield 88, 3) := by decide +kernel
theorem dX1_weigh_44 : decode cX1_weigh 44 = .ok (.aload_n 0, 1) := by decide +kernel
theorem dX1_weigh_45 : decode cX1_weigh 45 = .ok (.bipush 100, 2) := by decide +kernel
theorem dX1_weigh_47 : decode cX1_weigh 47 = .ok (.iload_n 1, 1) := by decide +kernel
theorem dX1_weigh_48 : decode cX1_weigh 48 = .ok (.imul, 1) := by decide +kernel
theorem dX1_weigh_49 : decode cX1_weigh 49 = .ok (.iload_n 2, 1) := by decide +kernel
theorem dX1_weigh_50 : decode cX1_weigh 50 = .ok (.iadd, 1) := by decide +kernel
theorem dX1_weigh_51 : decode cX1_weigh 51 = .ok (.putfield 121, 3) := by decide +kernel
theorem dX1_weigh_54 : decode cX1_weigh 54 = .ok (.return_, 1) := by decide +kernel
theorem dX2_init_0 : decode cX2_init 0 = .ok (.aload_n 0, 1) := by decide +kernel
theorem dX2_init_1 : decode cX2_init 1 = .ok (.invokespecial 3, 3) := by decide +kernel
theorem dX2_init_4 : decode cX2_init 4 = .ok (.aload_n 0, 1) := by decide +kernel
theorem dX2_init_5 : decode cX2_init 5 = .ok (.aload_n 1, 1) := by decide +kernel
theorem dX2_init_6 : decode cX2_init 6 = .ok (.putfield 9, 3) := by decide +kernel
theorem dX2_init_9 : decode cX2_init 9 = .ok (.aload_n 0, 1) := by decide +kernel
theorem dX2_init_10 : decode cX2_init 10 = .ok (.bipush 16, 2) := by decide +kernel
theorem dX2_init_12 : decode cX2_init 12 = .ok (.newarray .int, 2) := by decide +kernel
theorem dX2_init_14 : decode cX2_init 14 = .ok (.putfield 15, 3) := by decide +kernel
theorem dX2_init_17 : decode cX2_init 17 = .ok (.aload_n 0, 1) := by decide +kernel
theorem dX2_init_18 : decode cX2_init 18 = .ok (.bipush 16, 2) := by decide +kernel
theorem dX2_init_20 : decode cX2_init 20 = .ok (.newarray .int, 2) := by decide +kernel
theorem dX2_init_22 : decode cX2_init 22 = .ok (.putfield 19, 3) := by decide +kernel
theorem dX2_init_25 : decode cX2_init 25 = .ok (.aload_n 0, 1) := by decide +kernel
theorem dX2_init_26 : decode cX2_init 26 = .ok (.bipush 6, 2) := by decide +kernel
theorem dX2_init_28 : decode cX2_init 28 = .ok (.newarray .int, 2) := by decide +kernel
theorem dX2_init_30 : decode cX2_init 30 = .ok (.putfield 22, 3) := by decide +kernel
theorem dX2_init_33 : decode cX2_init 33 = .ok (.aload_n 0, 1) := by decide +kernel
theorem dX2_init_34 : decode cX2_init 34 = .ok (.bipush 6, 2) := by decide +kernel
theorem dX2_init_36 : decode cX2_init 36 = .ok (.newarray .int, 2) := by decide +kernel
theorem dX2_init_38 : decode cX2_init 38 = .ok (.putfield 25, 3) := by decide +kernel
theorem dX2_init_41 : decode cX2_init 41 = .ok (.aload_n 0, 1) := by decide +kernel
theorem dX2_init_42 : decode cX2_init 42 = .ok (.iconst (-1), 1) := by decide +kernel
theorem dX2_init_43 : decode cX2_init 43 = .ok (.putfield 28, 3) := by decide +kernel
theorem dX2_init_46 : decode cX2_init 46 = .ok (.return_, 1) := by decide +kernel
theorem dX2_begin_0 : decode cX2_begin 0 = .ok (.aload_n 0, 1) := by decide +kernel
theorem dX2_begin_1 : decode cX2_begin 1 = .ok (.getfield 15, 3) := by decide +kernel
theorem dX2_begin_4 : decode cX2_begin 4 = .ok (.iconst 0, 1) := by decide +kernel
theorem dX2_begin_5 : decode cX2_begin 5 = .ok (.invokestatic 32, 3) := by decide +kernel
theorem dX2_begin_8 : decode cX2_begin 8 = .ok (.aload_n 0, 1) := by decide +kernel
theorem dX2_begin_9 : decode cX2_begin 9 = .ok (.getfield 25, 3) := by decide +kernel
theorem dX2_begin_12 : decode cX2_begin 12 = .ok (.iconst 0, 1) := by decide +kernel
theorem dX2_begin_13 : decode cX2_begin 13 = .ok (.invokestatic 32, 3) := by decide +kernel
theorem dX2_begin_16 : decode cX2_begin 16 = .ok (.aload_n 0, 1) := by decide +kernel
theorem dX2_begin_17 : decode cX2_begin 17 = .ok (.getfield 9, 3) := by decide +kernel
theorem dX2_begin_20 : decode cX2_begin 20 = .ok (.getfield 38, 3) := by decide +kernel
theorem dX2_begin_23 : decode cX2_begin 23 = .ok (.iconst 0, 1) := by decide +kernel
theorem dX2_begin_24 : decode cX2_begin 24 = .ok (.aload_n 0, 1) := by decide +kernel
theorem dX2_begin_25 : decode cX2_begin 25 = .ok (.getfield 19, 3) := by decide +kernel
theorem dX2_begin_28 : decode cX2_begin 28 = .ok (.iconst 0, 1) := by decide +kernel
theorem dX2_begin_29 : decode cX2_begin 29 = .ok (.aload_n 0, 1) := by decide +kernel
theorem dX2_begin_30 : decode cX2_begin 30 = .ok (.getfield 19, 3) := by decide +kernel
theorem dX2_begin_33 : decode cX2_begin 33 = .ok (.arraylength, 1) := by decide +kernel
theorem dX2_begin_34 : decode cX2_begin 34 = .ok (.invokestatic 41, 3) := by decide +kernel
theorem dX2_begin_37 : decode cX2_begin 37 = .ok (.aload_n 0, 1) := by decide +kernel
theorem dX2_begin_38 : decode cX2_begin 38 = .ok (.getfield 9, 3) := by decide +kernel
theorem dX2_begin_41 : decode cX2_begin 41 = .ok (.getfield 47, 3) := by decide +kernel
theorem dX2_begin_44 : decode cX2_begin 44 = .ok (.iconst 0, 1) := by decide +kernel
theorem dX2_begin_45 : decode cX2_begin 45 = .ok (.aload_n 0, 1) := by decide +kernel
theorem dX2_begin_46 : decode cX2_begin 46 = .ok (.getfield 22, 3) := by decide +kernel
theorem dX2_begin_49 : decode cX2_begin 49 = .ok (.iconst 0, 1) := by decide +kernel
theorem dX2_begin_50 : decode cX2_begin 50 = .ok (.aload_n 0, 1) := by decide +kernel
theorem dX2_begin_51 : decode cX2_begin 51 = .ok (.getfield 22, 3) := by decide +kernel
theorem dX2_begin_54 : decode cX2_begin 54 = .ok (.arraylength, 1) := by decide +kernel
theorem dX2_begin_55 : decode cX2_begin 55 = .ok (.invokestatic 41, 3) := by decide +kernel
theorem dX2_begin_58 : decode cX2_begin 58 = .ok (.aload_n 0, 1) := by decide +kernel
theorem dX2_begin_59 : decode cX2_begin 59 = .ok (.iconst 0, 1) := by decide +kernel
theorem dX2_begin_60 : decode cX2_begin 60 = .ok (.putfield 48, 3) := by decide +kernel
theorem dX2_begin_63 : decode cX2_begin 63 = .ok (.aload_n 0, 1) := by decide +kernel
theorem dX2_begin_64 : decode cX2_begin 64 = .ok (.iconst 0, 1) := by decide +kernel
theorem dX2_begin_65 : decode cX2_begin 65 = .ok (.putfield 51, 3) := by decide +kernel
theorem dX2_begin_68 : decode cX2_begin 68 = .ok (.aload_n 0, 1) := by decide +kernel
theorem dX2_begin_69 : decode cX2_begin 69 = .ok (.aload_n 0, 1) := by decide +kernel
theorem dX2_begin_70 : decode cX2_begin 70 = .ok (.getfield 9, 3) := by decide +kernel
theorem dX2_begin_73 : decode cX2_begin 73 = .ok (.getfield 54, 3) := by decide +kernel
theorem dX2_begin_76 : decode cX2_begin 76 = .ok (.i2l, 1) := by decide +kernel
theorem dX2_begin_77 : decode cX2_begin 77 = .ok (.putfield 57, 3) := by decide +kernel
theorem dX2_begin_80 : decode cX2_begin 80 = .ok (.aload_n 0, 1) := by decide +kernel
theorem dX2_begin_81 : decode cX2_begin 81 = .ok (.iconst (-1), 1) := by decide +kernel
theorem dX2_begin_82 : decode cX2_begin 82 = .ok (.putfield 28, 3) := by decide +kernel
theorem dX2_begin_85 : decode cX2_begin 85 = .ok (.aload_n 0, 1) := by decide +kernel
theorem dX2_begin_86 : decode cX2_begin 86 = .ok (.iconst 0, 1) := by decide +kernel
theorem dX2_begin_87 : decode cX2_begin 87 = .ok (.putfield 61, 3) := by decide +kernel
theorem dX2_begin_90 : decode cX2_begin 90 = .ok (.aload_n 0, 1) := by decide +kernel
theorem dX2_begin_91 : decode cX2_begin 91 = .ok (.iconst 0, 1) := by decide +kernel
theorem dX2_begin_92 : decode cX2_begin 92 = .ok (.putfield 65, 3) := by decide +kernel
theorem dX2_begin_95 : decode cX2_begin 95 = .ok (.return_, 1) := by decide +kernel
theorem dX2_become_0 : decode cX2_become 0 = .ok (.aload_n 1, 1) := by decide +kernel
theorem dX2_become_1 : decode cX2_become 1 = .ok (.getfield 15, 3) := by decide +kernel
theorem dX2_become_4 : decode cX2_become 4 = .ok (.iconst 0, 1) := by decide +kernel
theorem dX2_become_5 : decode cX2_become 5 = .ok (.aload_n 0, 1) := by decide +kernel
theorem dX2_become_6 : decode cX2_become 6 = .ok (.getfield 15, 3) := by decide +kernel
theorem dX2_become_9 : decode cX2_become 9 = .ok (.iconst 0, 1) := by decide +kernel
theorem dX2_become_10 : decode cX2_become 10 = .ok (.aload_n 0, 1) := by decide +kernel
theorem dX2_become_11 : decode cX2_become 11 = .ok (.getfield 15, 3) := by decide +kernel
theorem dX2_become_14 : decode cX2_become 14 = .ok (.arraylength, 1) := by decide +kernel
theorem dX2_become_15 : decode cX2_become 15 = .ok (.invokestatic 41, 3) := by decide +kernel
theorem dX2_become_18 : decode cX2_become 18 = .ok (.aload_n 1, 1) := by decide +kernel
theorem dX2_become_19 : decode cX2_become 19 = .ok (.getfield 25, 3) := by decide +kernel
theorem dX2_become_22 : decode cX2_become 22 = .ok (.iconst 0, 1) := by decide +kernel
theorem dX2_become_23 : decode cX2_become 23 = .ok (.aload_n 0, 1) := by decide +kernel
theorem dX2_become_24 : decode cX2_become 24 = .ok (.getfield 25, 3) := by decide +kernel
theorem dX2_become_27 : decode cX2_become 27 = .ok (.iconst 0, 1) := by decide +kernel
theorem dX2_become_28 : decode cX2_become 28 = .ok (.aload_n 0, 1) := by decide +kernel
theorem dX2_become_29 : decode cX2_become 29 = .ok (.getfield 25, 3) := by decide +kernel
theorem dX2_become_32 : decode cX2_become 32 = .ok (.arraylength, 1) := by decide +kernel
theorem dX2_become_33 : decode cX2_become 33 = .ok (.invokestatic 41, 3) := by decide +kernel
theorem dX2_become_36 : decode cX2_become 36 = .ok (.aload_n 1, 1) := by decide +kernel
theorem dX2_become_37 : decode cX2_become 37 = .ok (.getfield 19, 3) := by decide +kernel
theorem dX2_become_40 : decode cX2_become 40 = .ok (.iconst 0, 1) := by decide +kernel
theorem dX2_become_41 : decode cX2_become 41 = .ok (.aload_n 0, 1) := by decide +kernel
theorem dX2_become_42 : decode cX2_become 42 = .ok (.getfield 19, 3) := by decide +kernel
theorem dX2_become_45 : decode cX2_become 45 = .ok (.iconst 0, 1) := by decide +kernel
theorem dX2_become_46 : decode cX2_become 46 = .ok (.aload_n 0, 1) := by decide +kernel
theorem dX2_become_47 : decode cX2_become 47 = .ok (.getfield 19, 3) := by decide +kernel
theorem dX2_become_50 : decode cX2_become 50 = .ok (.arraylength, 1) := by decide +kernel
theorem dX2_become_51 : decode cX2_become 51 = .ok (.invokestatic 41, 3) := by decide +kernel
theorem dX2_become_54 : decode cX2_become 54 = .ok (.aload_n 1, 1) := by decide +kernel
theorem dX2_become_55 : decode cX2_become 55 = .ok (.getfield 22, 3) := by decide +kernel
theorem dX2_become_58 : decode cX2_become 58 = .ok (.iconst 0, 1) := by decide +kernel
theorem dX2_become_59 : decode cX2_become 59 = .ok (.aload_n 0, 1) := by decide +kernel
theorem dX2_become_60 : decode cX2_become 60 = .ok (.getfield 22, 3) := by decide +kernel
theorem dX2_become_63 : decode cX2_become 63 = .ok (.iconst 0, 1) := by decide +kernel
theorem dX2_become_64 : decode cX2_become 64 = .ok (.aload_n 0, 1) := by decide +kernel
theorem dX2_become_65 : decode cX2_become 65 = .ok (.getfield 22, 3) := by decide +kernel
theorem dX2_become_68 : decode cX2_become 68 = .ok (.arraylength, 1) := by decide +kernel
theorem dX2_become_69 : decode cX2_become 69 = .ok (.invokestatic 41, 3) := by decide +kernel
theorem dX2_become_72 : decode cX2_become 72 = .ok (.aload_n 0, 1) := by decide +kernel
theorem dX2_become_73 : decode cX2_become 73 = .ok (.aload_n 1, 1) := by decide +kernel
theorem dX2_become_74 : decode cX2_become 74 = .ok (.getfield 48, 3) := by decide +kernel
theorem dX2_become_77 : decode cX2_become 77 = .ok (.putfield 48, 3) := by decide +kernel
theorem dX2_become_80 : decode cX2_become 80 = .ok (.aload_n 0, 1) := by decide +kernel
theorem dX2_become_81 : decode cX2_become 81 = .ok (.aload_n 1, 1) := by decide +kernel
theorem dX2_become_82 : decode cX2_become 82 = .ok (.getfield 51, 3) := by decide +kernel
theorem dX2_become_85 : decode cX2_become 85 = .ok (.putfield 51, 3) := by decide +kernel
theorem dX2_become_88 : decode cX2_become 88 = .ok (.aload_n 0, 1) := by decide +kernel
theorem dX2_become_89 : decode cX2_become 89 = .ok (.aload_n 1, 1) := by decide +kernel
theorem dX2_become_90 : decode cX2_become 90 = .ok (.getfield 57, 3) := by decide +kernel
theorem dX2_become_93 : decode cX2_become 93 = .ok (.putfield 57, 3) := by decide +kernel
theorem dX2_become_96 : decode cX2_become 96 = .ok (.aload_n 0, 1) := by decide +kernel
theorem dX2_become_97 : decode cX2_become 97 = .ok (.iconst (-1), 1) := by decide +kernel
theorem dX2_become_98 : decode cX2_become 98 = .ok (.putfield 28, 3) := by decide +kernel
theorem dX2_become_101 : decode cX2_become 101 = .ok (.aload_n 0, 1) := by decide +kernel
theorem dX2_become_102 : decode cX2_become 102 = .ok (.iconst 0, 1) := by decide +kernel
theorem dX2_become_103 : decode cX2_become 103 = .ok (.putfield 61, 3) := by decide +kernel
theorem dX2_become_106 : decode cX2_become 106 = .ok (.aload_n 0, 1) := by decide +kernel
theorem dX2_become_107 : decode cX2_become 107 = .ok (.iconst 0, 1) := by decide +kernel
theorem dX2_become_108 : decode cX2_become 108 = .ok (.putfield 65, 3) := by decide +kernel
theorem dX2_become_111 : decode cX2_become 111 = .ok (.return_, 1) := by decide +kernel
theorem dX2_top_0 : decode cX2_top 0 = .ok (.aload_n 0, 1) := by decide +kernel
theorem dX2_top_1 : decode cX2_top 1 = .ok (.getfield 9, 3) := by decide +kernel
theorem dX2_top_4 : decode cX2_top 4 = .ok (.getfield 68, 3) := by decide +kernel
theorem dX2_top_7 : decode cX2_top 7 = .ok (.iload_n 1, 1) := by decide +kernel
theorem dX2_top_8 : decode cX2_top 8 = .ok (.iaload, 1) := by decide +kernel
theorem dX2_top_9 : decode cX2_top 9 = .ok (.aload_n 0, 1) := by decide +kernel
theorem dX2_top_10 : decode cX2_top 10 = .ok (.getfield 15, 3) := by decide +kernel
theorem dX2_top_13 : decode cX2_top 13 = .ok (.iconst 4, 1) := by decide +kernel
theorem dX2_top_14 : decode cX2_top 14 = .ok (.iload_n 1, 1) := by decide +kernel
theorem dX2_top_15 : decode cX2_top 15 = .ok (.imul, 1) := by decide +kernel
theorem dX2_top_16 : decode cX2_top 16 = .ok (.iaload, 1) := by decide +kernel
theorem dX2_top_17 : decode cX2_top 17 = .ok (.isub, 1) := by decide +kernel
theorem dX2_top_18 : decode cX2_top 18 = .ok (.ireturn, 1) := by decide +kernel
theorem dX2_right_0 : decode cX2_right 0 = .ok (.aload_n 0, 1) := by decide +kernel
theorem dX2_right_1 : decode cX2_right 1 = .ok (.getfield 9, 3) := by decide +kernel
theorem dX2_right_4 : decode cX2_right 4 = .ok (.getfield 71, 3) := by decide +kernel
theorem dX2_right_7 : decode cX2_right 7 = .ok (.iload_n 1, 1) := by decide +kernel
theorem dX2_right_8 : decode cX2_right 8 = .ok (.iaload, 1) := by decide +kernel
theorem dX2_right_9 : decode cX2_right 9 = .ok (.aload_n 0, 1) := by decide +kernel
theorem dX2_right_10 : decode cX2_right 10 = .ok (.getfield 15, 3) := by decide +kernel
theorem dX2_right_13 : decode cX2_right 13 = .ok (.iconst 4, 1) := by decide +kernel
theorem dX2_right_14 : decode cX2_right 14 = .ok (.iload_n 1, 1) := by decide +kernel
theorem dX2_right_15 : decode cX2_right 15 = .ok (.imul, 1) := by decide +kernel
theorem dX2_right_16 : decode cX2_right 16 = .ok (.iconst 1, 1) := by decide +kernel
theorem dX2_right_17 : decode cX2_right 17 = .ok (.iadd, 1) := by decide +kernel
theorem dX2_right_18 : decode cX2_right 18 = .ok (.iaload, 1) := by decide +kernel
theorem dX2_right_19 : decode cX2_right 19 = .ok (.iadd, 1) := by decide +kernel
theorem dX2_right_20 : decode cX2_right 20 = .ok (.ireturn, 1) := by decide +kernel
theorem dX2_bottom_0 : decode cX2_bottom 0 = .ok (.aload_n 0, 1) := by decide +kernel
theorem dX2_bottom_1 : decode cX2_bottom 1 = .ok (.getfield 9, 3) := by decide +kernel
theorem dX2_bottom_4 : decode cX2_bottom 4 = .ok (.getfield 68, 3) := by decide +kernel
theorem dX2_bottom_7 : decode cX2_bottom 7 = .ok (.iload_n 1, 1) := by decide +kernel
theorem dX2_bottom_8 : decode cX2_bottom 8 = .ok (.iaload, 1) := by decide +kernel
theorem dX2_bottom_9 : decode cX2_bottom 9 = .ok (.aload_n 0, 1) := by decide +kernel
theorem dX2_bottom_10 : decode cX2_bottom 10 = .ok (.getfield 15, 3) := by decide +kernel
theorem dX2_bottom_13 : decode cX2_bottom 13 = .ok (.iconst 4, 1) := by decide +kernel
theorem dX2_bottom_14 : decode cX2_bottom 14 = .ok (.iload_n 1, 1) := by decide +kernel
theorem dX2_bottom_15 : decode cX2_bottom 15 = .ok (.imul, 1) := by decide +kernel
theorem dX2_bottom_16 : decode cX2_bottom 16 = .ok (.iconst 2, 1) := by decide +kernel
theorem dX2_bottom_17 : decode cX2_bottom 17 = .ok (.iadd, 1) := by decide +kernel
theorem dX2_bottom_18 : decode cX2_bottom 18 = .ok (.iaload, 1) := by decide +kernel
theorem dX2_bottom_19 : decode cX2_bottom 19 = .ok (.iadd, 1) := by decide +kernel
theorem dX2_bottom_20 : decode cX2_bottom 20 = .ok (.ireturn, 1) := by decide +kernel
theorem dX2_left_0 : decode cX2_left 0 = .ok (.aload_n 0, 1) := by decide +kernel
theorem dX2_left_1 : decode cX2_left 1 = .ok (.getfield 9, 3) := by decide +kernel
theorem dX2_left_4 : decode cX2_left 4 = .ok (.getfield 71, 3) := by decide +kernel
theorem dX2_left_7 : decode cX2_left 7 = .ok (.iload_n 1, 1) := by decide +kernel
theorem dX2_left_8 : decode cX2_left 8 = .ok (.iaload, 1) := by decide +kernel
theorem dX2_left_9 : decode cX2_left 9 = .ok (.aload_n 0, 1) := by decide +kernel
theorem dX2_left_10 : decode cX2_left 10 = .ok (.getfield 15, 3) := by decide +kernel
theorem dX2_left_13 : decode cX2_left 13 = .ok (.iconst 4, 1) := by decide +kernel
theorem dX2_left_14 : decode cX2_left 14 = .ok (.iload_n 1, 1) := by decide +kernel
theorem dX2_left_15 : decode cX2_left 15 = .ok (.imul, 1) := by decide +kernel
theorem dX2_left_16 : decode cX2_left 16 = .ok (.iconst 3, 1) := by decide +kernel
theorem dX2_left_17 : decode cX2_left 17 = .ok (.iadd, 1) := by decide +kernel
theorem dX2_left_18 : decode cX2_left 18 = .ok (.iaload, 1) := by decide +kernel
theorem dX2_left_19 : decode cX2_left 19 = .ok (.isub, 1) := by decide +kernel
theorem dX2_left_20 : decode cX2_left 20 = .ok (.ireturn, 1) := by decide +kernel
theorem dX2_area_0 : decode cX2_area 0 = .ok (.aload_n 0, 1) := by decide +kernel
theorem dX2_area_1 : decode cX2_area 1 = .ok (.iload_n 1, 1) := by decide +kernel
theorem dX2_area_2 : decode cX2_area 2 = .ok (.invokevirtual 74, 3) := by decide +kernel
theorem dX2_area_5 : decode cX2_area 5 = .ok (.aload_n 0, 1) := by decide +kernel
theorem dX2_area_6 : decode cX2_area 6 = .ok (.iload_n 1, 1) := by decide +kernel
theorem dX2_area_7 : decode cX2_area 7 = .ok (.invokevirtual 78, 3) := by decide +kernel
theorem dX2_area_10 : decode cX2_area 10 = .ok (.isub, 1) := by decide +kernel
theorem dX2_area_11 : decode cX2_area 11 = .ok (.iconst 1, 1) := by decide +kernel
theorem dX2_area_12 : decode cX2_area 12 = .ok (.iadd, 1) := by decide +kernel
theorem dX2_area_13 : decode cX2_area 13 = .ok (.aload_n 0, 1) := by decide +kernel
theorem dX2_area_14 : decode cX2_area 14 = .ok (.iload_n 1, 1) := by decide +kernel
theorem dX2_area_15 : decode cX2_area 15 = .ok (.invokevirtual 81, 3) := by decide +kernel
theorem dX2_area_18 : decode cX2_area 18 = .ok (.aload_n 0, 1) := by decide +kernel
theorem dX2_area_19 : decode cX2_area 19 = .ok (.iload_n 1, 1) := by decide +kernel
theorem dX2_area_20 : decode cX2_area 20 = .ok (.invokevirtual 84, 3) := by decide +kernel
theorem dX2_area_23 : decode cX2_area 23 = .ok (.isub, 1) := by decide +kernel
theorem dX2_area_24 : decode cX2_area 24 = .ok (.iconst 1, 1) := by decide +kernel
theorem dX2_area_25 : decode cX2_area 25 = .ok (.iadd, 1) := by decide +kernel
theorem dX2_area_26 : decode cX2_area 26 = .ok (.imul, 1) := by decide +kernel
theorem dX2_area_27 : decode cX2_area 27 = .ok (.ireturn, 1) := by decide +kernel
theorem dX2_holds_0 : decode cX2_holds 0 = .ok (.iload_n 2, 1) := by decide +kernel
theorem dX2_holds_1 : decode cX2_holds 1 = .ok (.aload_n 0, 1) := by decide +kernel
theorem dX2_holds_2 : decode cX2_holds 2 = .ok (.iload_n 1, 1) := by decide +kernel
theorem dX2_holds_3 : decode cX2_holds 3 = .ok (.invokevirtual 78, 3) := by decide +kernel
theorem dX2_holds_6 : decode cX2_holds 6 = .ok (.if_icmp .lt 34, 3) := by decide +kernel
theorem dX2_holds_9 : decode cX2_holds 9 = .ok (.iload_n 2, 1) := by decide +kernel
theorem dX2_holds_10 : decode cX2_holds 10 = .ok (.aload_n 0, 1) := by decide +kernel
theorem dX2_holds_11 : decode cX2_holds 11 = .ok (.iload_n 1, 1) := by decide +kernel
theorem dX2_holds_12 : decode cX2_holds 12 = .ok (.invokevirtual 74, 3) := by decide +kernel
theorem dX2_holds_15 : decode cX2_holds 15 = .ok (.if_icmp .gt 25, 3) := by decide +kernel
theorem dX2_holds_18 : decode cX2_holds 18 = .ok (.iload_n 3, 1) := by decide +kernel
theorem dX2_holds_19 : decode cX2_holds 19 = .ok (.aload_n 0, 1) := by decide +kernel
theorem dX2_holds_20 : decode cX2_holds 20 = .ok (.iload_n 1, 1) := by decide +kernel
theorem dX2_holds_21 : decode cX2_holds 21 = .ok (.invokevirtual 84, 3) := by decide +kernel
theorem dX2_holds_24 : decode cX2_holds 24 = .ok (.if_icmp .lt 16, 3) := by decide +kernel
theorem dX2_holds_27 : decode cX2_holds 27 = .ok (.iload_n 3, 1) := by decide +kernel
theorem dX2_holds_28 : decode cX2_holds 28 = .ok (.aload_n 0, 1) := by decide +kernel
theorem dX2_holds_29 : decode cX2_holds 29 = .ok (.iload_n 1, 1) := by decide +kernel
theorem dX2_holds_30 : decode cX2_holds 30 = .ok (.invokevirtual 81, 3) := by decide +kernel
theorem dX2_holds_33 : decode cX2_holds 33 = .ok (.if_icmp .gt 7, 3) := by decide +kernel
theorem dX2_holds_36 : decode cX2_holds 36 = .ok (.iconst 1, 1) := by decide +kernel
theorem dX2_holds_37 : decode cX2_holds 37 = .ok (.goto 4, 3) := by decide +kernel
theorem dX2_holds_40 : decode cX2_holds 40 = .ok (.iconst 0, 1) := by decide +kernel
theorem dX2_holds_41 : decode cX2_holds 41 = .ok (.ireturn, 1) := by decide +kernel
theorem dX2_holders_0 : decode cX2_holders 0 = .ok (.iconst 0, 1) := by decide +kernel
theorem dX2_holders_1 : decode cX2_holders 1 = .ok (.istore_n 3, 1) := by decide +kernel
theorem dX2_holders_2 : decode cX2_holders 2 = .ok (.iconst 0, 1) := by decide +kernel
theorem dX2_holders_3 : decode cX2_holders 3 = .ok (.istore 4, 2) := by decide +kernel
theorem dX2_holders_5 : decode cX2_holders 5 = .ok (.iload 4, 2) := by decide +kernel
theorem dX2_holders_7 : decode cX2_holders 7 = .ok (.aload_n 0, 1) := by decide +kernel
theorem dX2_holders_8 : decode cX2_holders 8 = .ok (.getfield 9, 3) := by decide +kernel
theorem dX2_holders_11 : decode cX2_holders 11 = .ok (.getfield 87, 3) := by decide +kernel
theorem dX2_holders_14 : decode cX2_holders 14 = .ok (.if_icmp .ge 27, 3) := by decide +kernel
theorem dX2_holders_17 : decode cX2_holders 17 = .ok (.aload_n 0, 1) := by decide +kernel
theorem dX2_holders_18 : decode cX2_holders 18 = .ok (.iload 4, 2) := by decide +kernel
theorem dX2_holders_20 : decode cX2_holders 20 = .ok (.iload_n 1, 1) := by decide +kernel
theorem dX2_holders_21 : decode cX2_holders 21 = .ok (.iload_n 2, 1) := by decide +kernel
theorem dX2_holders_22 : decode cX2_holders 22 = .ok (.invokevirtual 90, 3) := by decide +kernel
theorem dX2_holders_25 : decode cX2_holders 25 = .ok (.ifCond .eq 10, 3) := by decide +kernel
theorem dX2_holders_28 : decode cX2_holders 28 = .ok (.iload_n 3, 1) := by decide +kernel
theorem dX2_holders_29 : decode cX2_holders 29 = .ok (.iconst 1, 1) := by decide +kernel
theorem dX2_holders_30 : decode cX2_holders 30 = .ok (.iload 4, 2) := by decide +kernel
theorem dX2_holders_32 : decode cX2_holders 32 = .ok (.ishl, 1) := by decide +kernel
theorem dX2_holders_33 : decode cX2_holders 33 = .ok (.ior, 1) := by decide +kernel
theorem dX2_holders_34 : decode cX2_holders 34 = .ok (.istore_n 3, 1) := by decide +kernel
theorem dX2_holders_35 : decode cX2_holders 35 = .ok (.iinc 4 1, 3) := by decide +kernel
theorem dX2_holders_38 : decode cX2_holders 38 = .ok (.goto (-33), 3) := by decide +kernel
theorem dX2_holders_41 : decode cX2_holders 41 = .ok (.iload_n 3, 1) := by decide +kernel
theorem dX2_holders_42 : decode cX2_holders 42 = .ok (.ireturn, 1) := by decide +kernel
theorem dX2_cellsOfAtLeast_0 : decode cX2_cellsOfAtLeast 0 = .ok (.iconst 0, 1) := by decide +kernel
theorem dX2_cellsOfAtLeast_1 : decode cX2_cellsOfAtLeast 1 = .ok (.istore_n 2, 1) := by decide +kernel
theorem dX2_cellsOfAtLeast_2 : decode cX2_cellsOfAtLeast 2 = .ok (.iconst 0, 1) := by decide +kernel
theorem dX2_cellsOfAtLeast_3 : decode cX2_cellsOfAtLeast 3 = .ok (.istore_n 3, 1) := by decide +kernel
theorem dX2_cellsOfAtLeast_4 : decode cX2_cellsOfAtLeast 4 = .ok (.iload_n 3, 1) := by decide +kernel
theorem dX2_cellsOfAtLeast_5 : decode cX2_cellsOfAtLeast 5 = .ok (.aload_n 0, 1) := by decide +kernel
theorem dX2_cellsOfAtLeast_6 : decode cX2_cellsOfAtLeast 6 = .ok (.getfield 9, 3) := by decide +kernel
theorem dX2_cellsOfAtLeast_9 : decode cX2_cellsOfAtLeast 9 = .ok (.getfield 94, 3) := by decide +kernel
theorem dX2_cellsOfAtLeast_12 : decode cX2_cellsOfAtLeast 12 = .ok (.if_icmp .ge 47, 3) := by decide +kernel
theorem dX2_cellsOfAtLeast_15 : decode cX2_cellsOfAtLeast 15 = .ok (.iconst 0, 1) := by decide +kernel
theorem dX2_cellsOfAtLeast_16 : decode cX2_cellsOfAtLeast 16 = .ok (.istore 4, 2) := by decide +kernel
theorem dX2_cellsOfAtLeast_18 : decode cX2_cellsOfAtLeast 18 = .ok (.iload 4, 2) := by decide +kernel
theorem dX2_cellsOfAtLeast_20 : decode cX2_cellsOfAtLeast 20 = .ok (.aload_n 0, 1) := by decide +kernel
theorem dX2_cellsOfAtLeast_21 : decode cX2_cellsOfAtLeast 21 = .ok (.getfield 9, 3) := by decide +kernel
theorem dX2_cellsOfAtLeast_24 : decode cX2_cellsOfAtLeast 24 = .ok (.getfield 94, 3) := by decide +kernel
theorem dX2_cellsOfAtLeast_27 : decode cX2_cellsOfAtLeast 27 = .ok (.if_icmp .ge 26, 3) := by decide +kernel
theorem dX2_cellsOfAtLeast_30 : decode cX2_cellsOfAtLeast 30 = .ok (.aload_n 0, 1) := by decide +kernel
theorem dX2_cellsOfAtLeast_31 : decode cX2_cellsOfAtLeast 31 = .ok (.iload_n 3, 1) := by decide +kernel
theorem dX2_cellsOfAtLeast_32 : decode cX2_cellsOfAtLeast 32 = .ok (.iload 4, 2) := by decide +kernel
theorem dX2_cellsOfAtLeast_34 : decode cX2_cellsOfAtLeast 34 = .ok (.invokevirtual 97, 3) := by decide +kernel
theorem dX2_cellsOfAtLeast_37 : decode cX2_cellsOfAtLeast 37 = .ok (.invokestatic 101, 3) := by decide +kernel
theorem dX2_cellsOfAtLeast_40 : decode cX2_cellsOfAtLeast 40 = .ok (.iload_n 1, 1) := by decide +kernel
theorem dX2_cellsOfAtLeast_41 : decode cX2_cellsOfAtLeast 41 = .ok (.if_icmp .lt 6, 3) := by decide +kernel
theorem dX2_cellsOfAtLeast_44 : decode cX2_cellsOfAtLeast 44 = .ok (.iinc 2 1, 3) := by decide +kernel
theorem dX2_cellsOfAtLeast_47 : decode cX2_cellsOfAtLeast 47 = .ok (.iinc 4 1, 3) := by decide +kernel
theorem dX2_cellsOfAtLeast_50 : decode cX2_cellsOfAtLeast 50 = .ok (.goto (-32), 3) := by decide +kernel
theorem dX2_cellsOfAtLeast_53 : decode cX2_cellsOfAtLeast 53 = .ok (.iinc 3 1, 3) := by decide +kernel
theorem dX2_cellsOfAtLeast_56 : decode cX2_cellsOfAtLeast 56 = .ok (.goto (-52), 3) := by decide +kernel
theorem dX2_cellsOfAtLeast_59 : decode cX2_cellsOfAtLeast 59 = .ok (.iload_n 2, 1) := by decide +kernel
theorem dX2_cellsOfAtLeast_60 : decode cX2_cellsOfAtLeast 60 = .ok (.ireturn, 1) := by decide +kernel
theorem dX2_commonRows_0 : decode cX2_commonRows 0 = .ok (.aload_n 0, 1) := by decide +kernel
theorem dX2_commonRows_1 : decode cX2_commonRows 1 = .ok (.iload_n 1, 1) := by decide +kernel
theorem dX2_commonRows_2 : decode cX2_commonRows 2 = .ok (.invokevirtual 74, 3) := by decide +kernel
theorem dX2_commonRows_5 : decode cX2_commonRows 5 = .ok (.aload_n 0, 1) := by decide +kernel
theorem dX2_commonRows_6 : decode cX2_commonRows 6 = .ok (.iload_n 2, 1) := by decide +kernel
theorem dX2_commonRows_7 : decode cX2_commonRows 7 = .ok (.invokevirtual 74, 3) := by decide +kernel
theorem dX2_commonRows_10 : decode cX2_commonRows 10 = .ok (.invokestatic 106, 3) := by decide +kernel
theorem dX2_commonRows_13 : decode cX2_commonRows 13 = .ok (.aload_n 0, 1) := by decide +kernel
theorem dX2_commonRows_14 : decode cX2_commonRows 14 = .ok (.iload_n 1, 1) := by decide +kernel
theorem dX2_commonRows_15 : decode cX2_commonRows 15 = .ok (.invokevirtual 78, 3) := by decide +kernel
theorem dX2_commonRows_18 : decode cX2_commonRows 18 = .ok (.aload_n 0, 1) := by decide +kernel
theorem dX2_commonRows_19 : decode cX2_commonRows 19 = .ok (.iload_n 2, 1) := by decide +kernel
theorem dX2_commonRows_20 : decode cX2_commonRows 20 = .ok (.invokevirtual 78, 3) := by decide +kernel
theorem dX2_commonRows_23 : decode cX2_commonRows 23 = .ok (.invokestatic 111, 3) := by decide +kernel
theorem dX2_commonRows_26 : decode cX2_commonRows 26 = .ok (.isub, 1) := by decide +kernel
theorem dX2_commonRows_27 : decode cX2_commonRows 27 = .ok (.iconst 1, 1) := by decide +kernel
theorem dX2_commonRows_28 : decode cX2_commonRows 28 = .ok (.iadd, 1) := by decide +kernel
theorem dX2_commonRows_29 : decode cX2_commonRows 29 = .ok (.ireturn, 1) := by decide +kernel
theorem dX2_commonColumns_0 : decode cX2_commonColumns 0 = .ok (.aload_n 0, 1) := by decide +kernel
theorem dX2_commonColumns_1 : decode cX2_commonColumns 1 = .ok (.iload_n 1, 1) := by decide +kernel
theorem dX2_commonColumns_2 : decode cX2_commonColumns 2 = .ok (.invokevirtual 81, 3) := by decide +kernel
theorem dX2_commonColumns_5 : decode cX2_commonColumns 5 = .ok (.aload_n 0, 1) := by decide +kernel
theorem dX2_commonColumns_6 : decode cX2_commonColumns 6 = .ok (.iload_n 2, 1) := by decide +kernel
theorem dX2_commonColumns_7 : decode cX2_commonColumns 7 = .ok (.invokevirtual 81, 3) := by decide +kernel
theorem dX2_commonColumns_10 : decode cX2_commonColumns 10 = .ok (.invokestatic 106, 3) := by decide +kernel
theorem dX2_commonColumns_13 : decode cX2_commonColumns 13 = .ok (.aload_n 0, 1) := by decide +kernel
theorem dX2_commonColumns_14 : decode cX2_commonColumns 14 = .ok (.iload_n 1, 1) := by decide +kernel
theorem dX2_commonColumns_15 : decode cX2_commonColumns 15 = .ok (.invokevirtual 84, 3) := by decide +kernel
theorem dX2_commonColumns_18 : decode cX2_commonColumns 18 = .ok (.aload_n 0, 1) := by decide +kernel
theorem dX2_commonColumns_19 : decode cX2_commonColumns 19 = .ok (.iload_n 2, 1) := by decide +kernel
theorem dX2_commonColumns_20 : decode cX2_commonColumns 20 = .ok (.invokevirtual 84, 3) := by decide +kernel
theorem dX2_commonColumns_23 : decode cX2_commonColumns 23 = .ok (.invokestatic 111, 3) := by decide +kernel
theorem dX2_commonColumns_26 : decode cX2_commonColumns 26 = .ok (.isub, 1) := by decide +kernel
theorem dX2_commonColumns_27 : decode cX2_commonColumns 27 = .ok (.iconst 1, 1) := by decide +kernel
theorem dX2_commonColumns_28 : decode cX2_commonColumns 28 = .ok (.iadd, 1) := by decide +kernel
theorem dX2_commonColumns_29 : decode cX2_commonColumns 29 = .ok (.ireturn, 1) := by decide +kernel
theorem dX2_shared_0 : decode cX2_shared 0 = .ok (.aload_n 0, 1) := by decide +kernel
theorem dX2_shared_1 : decode cX2_shared 1 = .ok (.iload_n 1, 1) := by decide +kernel
theorem dX2_shared_2 : decode cX2_shared 2 = .ok (.iload_n 2, 1) := by decide +kernel
theorem dX2_shared_3 : decode cX2_shared 3 = .ok (.invokevirtual 114, 3) := by decide +kernel
theorem dX2_shared_6 : decode cX2_shared 6 = .ok (.iconst 0, 1) := by decide +kernel
theorem dX2_shared_7 : decode cX2_shared 7 = .ok (.invokestatic 111, 3) := by decide +kernel
theorem dX2_shared_10 : decode cX2_shared 10 = .ok (.aload_n 0, 1) := by decide +kernel
theorem dX2_shared_11 : decode cX2_shared 11 = .ok (.iload_n 1, 1) := by decide +kernel
theorem dX2_shared_12 : decode cX2_shared 12 = .ok (.iload_n 2, 1) := by decide +kernel
theorem dX2_shared_13 : decode cX2_shared 13 = .ok (.invokevirtual 117, 3) := by decide +kernel
theorem dX2_shared_16 : decode cX2_shared 16 = .ok (.iconst 0, 1) := by decide +kernel
theorem dX2_shared_17 : decode cX2_shared 17 = .ok (.invokestatic 111, 3) := by decide +kernel
theorem dX2_shared_20 : decode cX2_shared 20 = .ok (.imul, 1) := by decide +kernel
theorem dX2_shared_21 : decode cX2_shared 21 = .ok (.ireturn, 1) := by decide +kernel
theorem dX2_touch_0 : decode cX2_touch 0 = .ok (.aload_n 0, 1) := by decide +kernel
theorem dX2_touch_1 : decode cX2_touch 1 = .ok (.iload_n 1, 1) := by decide +kernel
theorem dX2_touch_2 : decode cX2_touch 2 = .ok (.iload_n 2, 1) := by decide +kernel
theorem dX2_touch_3 : decode cX2_touch 3 = .ok (.invokevirtual 114, 3) := by decide +kernel
theorem dX2_touch_6 : decode cX2_touch 6 = .ok (.istore_n 3, 1) := by decide +kernel
theorem dX2_touch_7 : decode cX2_touch 7 = .ok (.aload_n 0, 1) := by decide +kernel
theorem dX2_touch_8 : decode cX2_touch 8 = .ok (.iload_n 1, 1) := by decide +kernel
theorem dX2_touch_9 : decode cX2_touch 9 = .ok (.iload_n 2, 1) := by decide +kernel
theorem dX2_touch_10 : decode cX2_touch 10 = .ok (.invokevirtual 117, 3) := by decide +kernel
theorem dX2_touch_13 : decode cX2_touch 13 = .ok (.istore 4, 2) := by decide +kernel
theorem dX2_touch_15 : decode cX2_touch 15 = .ok (.iload_n 3, 1) := by decide +kernel
theorem dX2_touch_16 : decode cX2_touch 16 = .ok (.ifCond .lt 19, 3) := by decide +kernel
theorem dX2_touch_19 : decode cX2_touch 19 = .ok (.iload 4, 2) := by decide +kernel
theorem dX2_touch_21 : decode cX2_touch 21 = .ok (.ifCond .lt 14, 3) := by decide +kernel
theorem dX2_touch_24 : decode cX2_touch 24 = .ok (.iload_n 3, 1) := by decide +kernel
theorem dX2_touch_25 : decode cX2_touch 25 = .ok (.iload 4, 2) := by decide +kernel
theorem dX2_touch_27 : decode cX2_touch 27 = .ok (.iadd, 1) := by decide +kernel
theorem dX2_touch_28 : decode cX2_touch 28 = .ok (.ifCond .le 7, 3) := by decide +kernel
theorem dX2_touch_31 : decode cX2_touch 31 = .ok (.iconst 1, 1) := by decide +kernel
theorem dX2_touch_32 : decode cX2_touch 32 = .ok (.goto 4, 3) := by decide +kernel
theorem dX2_touch_35 : decode cX2_touch 35 = .ok (.iconst 0, 1) := by decide +kernel
theorem dX2_touch_36 : decode cX2_touch 36 = .ok (.ireturn, 1) := by decide +kernel
theorem dX2_touched_0 : decode cX2_touched 0 = .ok (.iconst 0, 1) := by decide +kernel
theorem dX2_touched_1 : decode cX2_touched 1 = .ok (.istore_n 2, 1) := by decide +kernel
theorem dX2_touched_2 : decode cX2_touched 2 = .ok (.iconst 0, 1) := by decide +kernel
theorem dX2_touched_3 : decode cX2_touched 3 = .ok (.istore_n 3, 1) := by decide +kernel
theorem dX2_touched_4 : decode cX2_touched 4 = .ok (.iload_n 3, 1) := by decide +kernel
theorem dX2_touched_5 : decode cX2_touched 5 = .ok (.aload_n 0, 1) := by decide +kernel
theorem dX2_touched_6 : decode cX2_touched 6 = .ok (.getfield 9, 3) := by decide +kernel
theorem dX2_touched_9 : decode cX2_touched 9 = .ok (.getfield 87, 3) := by decide +kernel
theorem dX2_touched_12 : decode cX2_touched 12 = .ok (.if_icmp .ge 29, 3) := by decide +kernel
theorem dX2_touched_15 : decode cX2_touched 15 = .ok (.iload_n 3, 1) := by decide +kernel
theorem dX2_touched_16 : decode cX2_touched 16 = .ok (.iload_n 1, 1) := by decide +kernel
theorem dX2_touched_17 : decode cX2_touched 17 = .ok (.if_icmp .eq 18, 3) := by decide +kernel
theorem dX2_touched_20 : decode cX2_touched 20 = .ok (.aload_n 0, 1) := by decide +kernel
theorem dX2_touched_21 : decode cX2_touched 21 = .ok (.iload_n 1, 1) := by decide +kernel
theorem dX2_touched_22 : decode cX2_touched 22 = .ok (.iload_n 3, 1) := by decide +kernel
theorem dX2_touched_23 : decode cX2_touched 23 = .ok (.invokevirtual 120, 3) := by decide +kernel
theorem dX2_touched_26 : decode cX2_touched 26 = .ok (.ifCond .eq 9, 3) := by decide +kernel
theorem dX2_touched_29 : decode cX2_touched 29 = .ok (.iload_n 2, 1) := by decide +kernel
theorem dX2_touched_30 : decode cX2_touched 30 = .ok (.iconst 1, 1) := by decide +kernel
theorem dX2_touched_31 : decode cX2_touched 31 = .ok (.iload_n 3, 1) := by decide +kernel
theorem dX2_touched_32 : decode cX2_touched 32 = .ok (.ishl, 1) := by decide +kernel
theorem dX2_touched_33 : decode cX2_touched 33 = .ok (.ior, 1) := by decide +kernel
theorem dX2_touched_34 : decode cX2_touched 34 = .ok (.istore_n 2, 1) := by decide +kernel
theorem dX2_touched_35 : decode cX2_touched 35 = .ok (.iinc 3 1, 3) := by decide +kernel
theorem dX2_touched_38 : decode cX2_touched 38 = .ok (.goto (-34), 3) := by decide +kernel
theorem dX2_touched_41 : decode cX2_touched 41 = .ok (.iload_n 2, 1) := by decide +kernel
theorem dX2_touched_42 : decode cX2_touched 42 = .ok (.ireturn, 1) := by decide +kernel
theorem dX2_allAreas_0 : decode cX2_allAreas 0 = .ok (.iconst 0, 1) := by decide +kernel
theorem dX2_allAreas_1 : decode cX2_allAreas 1 = .ok (.istore_n 1, 1) := by decide +kernel
theorem dX2_allAreas_2 : decode cX2_allAreas 2 = .ok (.iconst 0, 1) := by decide +kernel
theorem dX2_allAreas_3 : decode cX2_allAreas 3 = .ok (.istore_n 2, 1) := by decide +kernel
theorem dX2_allAreas_4 : decode cX2_allAreas 4 = .ok (.iload_n 2, 1) := by decide +kernel
theorem dX2_allAreas_5 : decode cX2_allAreas 5 = .ok (.aload_n 0, 1) := by decide +kernel
theorem dX2_allAreas_6 : decode cX2_allAreas 6 = .ok (.getfield 9, 3) := by decide +kernel
theorem dX2_allAreas_9 : decode cX2_allAreas 9 = .ok (.getfield 87, 3) := by decide +kernel
theorem dX2_allAreas_12 : decode cX2_allAreas 12 = .ok (.if_icmp .ge 17, 3) := by decide +kernel
theorem dX2_allAreas_15 : decode cX2_allAreas 15 = .ok (.iload_n 1, 1) := by decide +kernel
theorem dX2_allAreas_16 : decode cX2_allAreas 16 = .ok (.aload_n 0, 1) := by decide +kernel
theorem dX2_allAreas_17 : decode cX2_allAreas 17 = .ok (.iload_n 2, 1) := by decide +kernel
theorem dX2_allAreas_18 : decode cX2_allAreas 18 = .ok (.invokevirtual 124, 3) := by decide +kernel
theorem dX2_allAreas_21 : decode cX2_allAreas 21 = .ok (.iadd, 1) := by decide +kernel
theorem dX2_allAreas_22 : decode cX2_allAreas 22 = .ok (.istore_n 1, 1) := by decide +kernel
theorem dX2_allAreas_23 : decode cX2_allAreas 23 = .ok (.iinc 2 1, 3) := by decide +kernel
theorem dX2_allAreas_26 : decode cX2_allAreas 26 = .ok (.goto (-22), 3) := by decide +kernel
theorem dX2_allAreas_29 : decode cX2_allAreas 29 = .ok (.iload_n 1, 1) := by decide +kernel
theorem dX2_allAreas_30 : decode cX2_allAreas 30 = .ok (.ireturn, 1) := by decide +kernel
theorem dX2_allShared_0 : decode cX2_allShared 0 = .ok (.iconst 0, 1) := by decide +kernel
theorem dX2_allShared_1 : decode cX2_allShared 1 = .ok (.istore_n 1, 1) := by decide +kernel
theorem dX2_allShared_2 : decode cX2_allShared 2 = .ok (.iconst 0, 1) := by decide +kernel
theorem dX2_allShared_3 : decode cX2_allShared 3 = .ok (.istore_n 2, 1) := by decide +kernel
theorem dX2_allShared_4 : decode cX2_allShared 4 = .ok (.iload_n 2, 1) := by decide +kernel
theorem dX2_allShared_5 : decode cX2_allShared 5 = .ok (.aload_n 0, 1) := by decide +kernel
theorem dX2_allShared_6 : decode cX2_allShared 6 = .ok (.getfield 9, 3) := by decide +kernel
theorem dX2_allShared_9 : decode cX2_allShared 9 = .ok (.getfield 87, 3) := by decide +kernel
theorem dX2_allShared_12 : decode cX2_allShared 12 = .ok (.if_icmp .ge 39, 3) := by decide +kernel
theorem dX2_allShared_15 : decode cX2_allShared 15 = .ok (.iload_n 2, 1) := by decide +kernel
theorem dX2_allShared_16 : decode cX2_allShared 16 = .ok (.iconst 1, 1) := by decide +kernel
theorem dX2_allShared_17 : decode cX2_allShared 17 = .ok (.iadd, 1) := by decide +kernel
theorem dX2_allShared_18 : decode cX2_allShared 18 = .ok (.istore_n 3, 1) := by decide +kernel
theorem dX2_allShared_19 : decode cX2_allShared 19 = .ok (.iload_n 3, 1) := by decide +kernel
theorem dX2_allShared_20 : decode cX2_allShared 20 = .ok (.aload_n 0, 1) := by decide +kernel
theorem dX2_allShared_21 : decode cX2_allShared 21 = .ok (.getfield 9, 3) := by decide +kernel
theorem dX2_allShared_24 : decode cX2_allShared 24 = .ok (.getfield 87, 3) := by decide +kernel
theorem dX2_allShared_27 : decode cX2_allShared 27 = .ok (.if_icmp .ge 18, 3) := by decide +kernel
theorem dX2_allShared_30 : decode cX2_allShared 30 = .ok (.iload_n 1, 1) := by decide +kernel
theorem dX2_allShared_31 : decode cX2_allShared 31 = .ok (.aload_n 0, 1) := by decide +kernel
theorem dX2_allShared_32 : decode cX2_allShared 32 = .ok (.iload_n 2, 1) := by decide +kernel
theorem dX2_allShared_33 : decode cX2_allShared 33 = .ok (.iload_n 3, 1) := by decide +kernel
theorem dX2_allShared_34 : decode cX2_allShared 34 = .ok (.invokevirtual 127, 3) := by decide +kernel
theorem dX2_allShared_37 : decode cX2_allShared 37 = .ok (.iadd, 1) := by decide +kernel
theorem dX2_allShared_38 : decode cX2_allShared 38 = .ok (.istore_n 1, 1) := by decide +kernel
theorem dX2_allShared_39 : decode cX2_allShared 39 = .ok (.iinc 3 1, 3) := by decide +kernel
theorem dX2_allShared_42 : decode cX2_allShared 42 = .ok (.goto (-23), 3) := by decide +kernel
theorem dX2_allShared_45 : decode cX2_allShared 45 = .ok (.iinc 2 1, 3) := by decide +kernel
theorem dX2_allShared_48 : decode cX2_allShared 48 = .ok (.goto (-44), 3) := by decide +kernel
theorem dX2_allShared_51 : decode cX2_allShared 51 = .ok (.iload_n 1, 1) := by decide +kernel
theorem dX2_allShared_52 : decode cX2_allShared 52 = .ok (.ireturn, 1) := by decide +kernel
theorem dX2_allLegs_0 : decode cX2_allLegs 0 = .ok (.iconst 0, 1) := by decide +kernel
theorem dX2_allLegs_1 : decode cX2_allLegs 1 = .ok (.istore_n 1, 1) := by decide +kernel
theorem dX2_allLegs_2 : decode cX2_allLegs 2 = .ok (.iconst 0, 1) := by decide +kernel
theorem dX2_allLegs_3 : decode cX2_allLegs 3 = .ok (.istore_n 2, 1) := by decide +kernel
theorem dX2_allLegs_4 : decode cX2_allLegs 4 = .ok (.iload_n 2, 1) := by decide +kernel
theorem dX2_allLegs_5 : decode cX2_allLegs 5 = .ok (.aload_n 0, 1) := by decide +kernel
theorem dX2_allLegs_6 : decode cX2_allLegs 6 = .ok (.getfield 9, 3) := by decide +kernel
theorem dX2_allLegs_9 : decode cX2_allLegs 9 = .ok (.getfield 130, 3) := by decide +kernel
theorem dX2_allLegs_12 : decode cX2_allLegs 12 = .ok (.if_icmp .ge 18, 3) := by decide +kernel
theorem dX2_allLegs_15 : decode cX2_allLegs 15 = .ok (.iload_n 1, 1) := by decide +kernel
theorem dX2_allLegs_16 : decode cX2_allLegs 16 = .ok (.aload_n 0, 1) := by decide +kernel
theorem dX2_allLegs_17 : decode cX2_allLegs 17 = .ok (.getfield 22, 3) := by decide +kernel
theorem dX2_allLegs_20 : decode cX2_allLegs 20 = .ok (.iload_n 2, 1) := by decide +kernel
theorem dX2_allLegs_21 : decode cX2_allLegs 21 = .ok (.iaload, 1) := by decide +kernel
theorem dX2_allLegs_22 : decode cX2_allLegs 22 = .ok (.iadd, 1) := by decide +kernel
theorem dX2_allLegs_23 : decode cX2_allLegs 23 = .ok (.istore_n 1, 1) := by decide +kernel
theorem dX2_allLegs_24 : decode cX2_allLegs 24 = .ok (.iinc 2 1, 3) := by decide +kernel
theorem dX2_allLegs_27 : decode cX2_allLegs 27 = .ok (.goto (-23), 3) := by decide +kernel
theorem dX2_allLegs_30 : decode cX2_allLegs 30 = .ok (.iload_n 1, 1) := by decide +kernel
theorem dX2_allLegs_31 : decode cX2_allLegs 31 = .ok (.ireturn, 1) := by decide +kernel
theorem dX2_sets_0 : decode cX2_sets 0 = .ok (.iconst 0, 1) := by decide +kernel
theorem dX2_sets_1 : decode cX2_sets 1 = .ok (.istore_n 1, 1) := by decide +kernel
theorem dX2_sets_2 : decode cX2_sets 2 = .ok (.iconst 0, 1) := by decide +kernel
theorem dX2_sets_3 : decode cX2_sets 3 = .ok (.istore_n 2, 1) := by decide +kernel
theorem dX2_sets_4 : decode cX2_sets 4 = .ok (.iload_n 2, 1) := by decide +kernel
theorem dX2_sets_5 : decode cX2_sets 5 = .ok (.aload_n 0, 1) := by decide +kernel
theorem dX2_sets_6 : decode cX2_sets 6 = .ok (.getfield 9, 3) := by decide +kernel
theorem dX2_sets_9 : decode cX2_sets 9 = .ok (.getfield 87, 3) := by decide +kernel
theorem dX2_sets_12 : decode cX2_sets 12 = .ok (.if_icmp .ge 26, 3) := by decide +kernel
theorem dX2_sets_15 : decode cX2_sets 15 = .ok (.aload_n 0, 1) := by decide +kernel
theorem dX2_sets_16 : decode cX2_sets 16 = .ok (.iload_n 2, 1) := by decide +kernel
theorem dX2_sets_17 : decode cX2_sets 17 = .ok (.invokevirtual 133, 3) := by decide +kernel
theorem dX2_sets_20 : decode cX2_sets 20 = .ok (.iconst 1, 1) := by decide +kernel
theorem dX2_sets_21 : decode cX2_sets 21 = .ok (.iload_n 2, 1) := by decide +kernel
theorem dX2_sets_22 : decode cX2_sets 22 = .ok (.ishl, 1) := by decide +kernel
theorem dX2_sets_23 : decode cX2_sets 23 = .ok (.iconst 1, 1) := by decide +kernel
theorem dX2_sets_24 : decode cX2_sets 24 = .ok (.isub, 1) := by decide +kernel
theorem dX2_sets_25 : decode cX2_sets 25 = .ok (.iand, 1) := by decide +kernel
theorem dX2_sets_26 : decode cX2_sets 26 = .ok (.ifCond .ne 6, 3) := by decide +kernel
theorem dX2_sets_29 : decode cX2_sets 29 = .ok (.iinc 1 1, 3) := by decide +kernel
theorem dX2_sets_32 : decode cX2_sets 32 = .ok (.iinc 2 1, 3) := by decide +kernel
theorem dX2_sets_35 : decode cX2_sets 35 = .ok (.goto (-31), 3) := by decide +kernel
theorem dX2_sets_38 : decode cX2_sets 38 = .ok (.iload_n 1, 1) := by decide +kernel
theorem dX2_sets_39 : decode cX2_sets 39 = .ok (.ireturn, 1) := by decide +kernel
theorem dX2_hangingWith_0 : decode cX2_hangingWith 0 = .ok (.iconst 1, 1) := by decide +kernel
theorem dX2_hangingWith_1 : decode cX2_hangingWith 1 = .ok (.iload_n 1, 1) := by decide +kernel
theorem dX2_hangingWith_2 : decode cX2_hangingWith 2 = .ok (.ishl, 1) := by decide +kernel
theorem dX2_hangingWith_3 : decode cX2_hangingWith 3 = .ok (.istore_n 2, 1) := by decide +kernel
theorem dX2_hangingWith_4 : decode cX2_hangingWith 4 = .ok (.iconst 0, 1) := by decide +kernel
theorem dX2_hangingWith_5 : decode cX2_hangingWith 5 = .ok (.istore_n 3, 1) := by decide +kernel
theorem dX2_hangingWith_6 : decode cX2_hangingWith 6 = .ok (.iload_n 3, 1) := by decide +kernel
theorem dX2_hangingWith_7 : decode cX2_hangingWith 7 = .ok (.aload_n 0, 1) := by decide +kernel
theorem dX2_hangingWith_8 : decode cX2_hangingWith 8 = .ok (.getfield 9, 3) := by decide +kernel
theorem dX2_hangingWith_11 : decode cX2_hangingWith 11 = .ok (.getfield 87, 3) := by decide +kernel
theorem dX2_hangingWith_14 : decode cX2_hangingWith 14 = .ok (.if_icmp .ge 48, 3) := by decide +kernel
theorem dX2_hangingWith_17 : decode cX2_hangingWith 17 = .ok (.iconst 0, 1) := by decide +kernel
theorem dX2_hangingWith_18 : decode cX2_hangingWith 18 = .ok (.istore 4, 2) := by decide +kernel
theorem dX2_hangingWith_20 : decode cX2_hangingWith 20 = .ok (.iload 4, 2) := by decide +kernel
theorem dX2_hangingWith_22 : decode cX2_hangingWith 22 = .ok (.aload_n 0, 1) := by decide +kernel
theorem dX2_hangingWith_23 : decode cX2_hangingWith 23 = .ok (.getfield 9, 3) := by decide +kernel
theorem dX2_hangingWith_26 : decode cX2_hangingWith 26 = .ok (.getfield 87, 3) := by decide +kernel
theorem dX2_hangingWith_29 : decode cX2_hangingWith 29 = .ok (.if_icmp .ge 27, 3) := by decide +kernel
theorem dX2_hangingWith_32 : decode cX2_hangingWith 32 = .ok (.iload_n 2, 1) := by decide +kernel
theorem dX2_hangingWith_33 : decode cX2_hangingWith 33 = .ok (.iload 4, 2) := by decide +kernel
theorem dX2_hangingWith_35 : decode cX2_hangingWith 35 = .ok (.ishr, 1) := by decide +kernel
theorem dX2_hangingWith_36 : decode cX2_hangingWith 36 = .ok (.iconst 1, 1) := by decide +kernel
theorem dX2_hangingWith_37 : decode cX2_hangingWith 37 = .ok (.iand, 1) := by decide +kernel
theorem dX2_hangingWith_38 : decode cX2_hangingWith 38 = .ok (.ifCond .eq 12, 3) := by decide +kernel
theorem dX2_hangingWith_41 : decode cX2_hangingWith 41 = .ok (.iload_n 2, 1) := by decide +kernel
theorem dX2_hangingWith_42 : decode cX2_hangingWith 42 = .ok (.aload_n 0, 1) := by decide +kernel
theorem dX2_hangingWith_43 : decode cX2_hangingWith 43 = .ok (.iload 4, 2) := by decide +kernel
theorem dX2_hangingWith_45 : decode cX2_hangingWith 45 = .ok (.invokevirtual 136, 3) := by decide +kernel
theorem dX2_hangingWith_48 : decode cX2_hangingWith 48 = .ok (.ior, 1) := by decide +kernel
theorem dX2_hangingWith_49 : decode cX2_hangingWith 49 = .ok (.istore_n 2, 1) := by decide +kernel
theorem dX2_hangingWith_50 : decode cX2_hangingWith 50 = .ok (.iinc 4 1, 3) := by decide +kernel
theorem dX2_hangingWith_53 : decode cX2_hangingWith 53 = .ok (.goto (-33), 3) := by decide +kernel
theorem dX2_hangingWith_56 : decode cX2_hangingWith 56 = .ok (.iinc 3 1, 3) := by decide +kernel
theorem dX2_hangingWith_59 : decode cX2_hangingWith 59 = .ok (.goto (-53), 3) := by decide +kernel
theorem dX2_hangingWith_62 : decode cX2_hangingWith 62 = .ok (.iload_n 2, 1) := by decide +kernel
theorem dX2_hangingWith_63 : decode cX2_hangingWith 63 = .ok (.ireturn, 1) := by decide +kernel
theorem dX2_fewestColours_0 : decode cX2_fewestColours 0 = .ok (.iconst 0, 1) := by decide +kernel
theorem dX2_fewestColours_1 : decode cX2_fewestColours 1 = .ok (.istore_n 1, 1) := by decide +kernel
theorem dX2_fewestColours_2 : decode cX2_fewestColours 2 = .ok (.iload_n 1, 1) := by decide +kernel
theorem dX2_fewestColours_3 : decode cX2_fewestColours 3 = .ok (.aload_n 0, 1) := by decide +kernel
theorem dX2_fewestColours_4 : decode cX2_fewestColours 4 = .ok (.getfield 9, 3) := by decide +kernel
theorem dX2_fewestColours_7 : decode cX2_fewestColours 7 = .ok (.getfield 87, 3) := by decide +kernel
theorem dX2_fewestColours_10 : decode cX2_fewestColours 10 = .ok (.if_icmp .ge 43, 3) := by decide +kernel
theorem dX2_fewestColours_13 : decode cX2_fewestColours 13 = .ok (.iconst 0, 1) := by decide +kernel
theorem dX2_fewestColours_14 : decode cX2_fewestColours 14 = .ok (.istore_n 2, 1) := by decide +kernel
theorem dX2_fewestColours_15 : decode cX2_fewestColours 15 = .ok (.iload_n 2, 1) := by decide +kernel
theorem dX2_fewestColours_16 : decode cX2_fewestColours 16 = .ok (.iconst 1, 1) := by decide +kernel
theorem dX2_fewestColours_17 : decode cX2_fewestColours 17 = .ok (.iconst 2, 1) := by decide +kernel
theorem dX2_fewestColours_18 : decode cX2_fewestColours 18 = .ok (.aload_n 0, 1) := by decide +kernel
theorem dX2_fewestColours_19 : decode cX2_fewestColours 19 = .ok (.getfield 9, 3) := by decide +kernel
theorem dX2_fewestColours_22 : decode cX2_fewestColours 22 = .ok (.getfield 87, 3) := by decide +kernel
theorem dX2_fewestColours_25 : decode cX2_fewestColours 25 = .ok (.imul, 1) := by decide +kernel
theorem dX2_fewestColours_26 : decode cX2_fewestColours 26 = .ok (.ishl, 1) := by decide +kernel
theorem dX2_fewestColours_27 : decode cX2_fewestColours 27 = .ok (.if_icmp .ge 20, 3) := by decide +kernel
theorem dX2_fewestColours_30 : decode cX2_fewestColours 30 = .ok (.aload_n 0, 1) := by decide +kernel
theorem dX2_fewestColours_31 : decode cX2_fewestColours 31 = .ok (.iload_n 2, 1) := by decide +kernel
theorem dX2_fewestColours_32 : decode cX2_fewestColours 32 = .ok (.iload_n 1, 1) := by decide +kernel
theorem dX2_fewestColours_33 : decode cX2_fewestColours 33 = .ok (.invokevirtual 139, 3) := by decide +kernel
theorem dX2_fewestColours_36 : decode cX2_fewestColours 36 = .ok (.ifCond .eq 5, 3) := by decide +kernel
theorem dX2_fewestColours_39 : decode cX2_fewestColours 39 = .ok (.iload_n 1, 1) := by decide +kernel
theorem dX2_fewestColours_40 : decode cX2_fewestColours 40 = .ok (.ireturn, 1) := by decide +kernel
theorem dX2_fewestColours_41 : decode cX2_fewestColours 41 = .ok (.iinc 2 1, 3) := by decide +kernel
theorem dX2_fewestColours_44 : decode cX2_fewestColours 44 = .ok (.goto (-29), 3) := by decide +kernel
theorem dX2_fewestColours_47 : decode cX2_fewestColours 47 = .ok (.iinc 1 1, 3) := by decide +kernel
theorem dX2_fewestColours_50 : decode cX2_fewestColours 50 = .ok (.goto (-48), 3) := by decide +kernel
theorem dX2_fewestColours_53 : decode cX2_fewestColours 53 = .ok (.aload_n 0, 1) := by decide +kernel
theorem dX2_fewestColours_54 : decode cX2_fewestColours 54 = .ok (.getfield 9, 3) := by decide +kernel
theorem dX2_fewestColours_57 : decode cX2_fewestColours 57 = .ok (.getfield 87, 3) := by decide +kernel
theorem dX2_fewestColours_60 : decode cX2_fewestColours 60 = .ok (.ireturn, 1) := by decide +kernel
theorem dX2_isPainted_0 : decode cX2_isPainted 0 = .ok (.iconst 0, 1) := by decide +kernel
theorem dX2_isPainted_1 : decode cX2_isPainted 1 = .ok (.istore_n 3, 1) := by decide +kernel
theorem dX2_isPainted_2 : decode cX2_isPainted 2 = .ok (.iload_n 3, 1) := by decide +kernel
theorem dX2_isPainted_3 : decode cX2_isPainted 3 = .ok (.aload_n 0, 1) := by decide +kernel
theorem dX2_isPainted_4 : decode cX2_isPainted 4 = .ok (.getfield 9, 3) := by decide +kernel
theorem dX2_isPainted_7 : decode cX2_isPainted 7 = .ok (.getfield 87, 3) := by decide +kernel
theorem dX2_isPainted_10 : decode cX2_isPainted 10 = .ok (.if_icmp .ge 66, 3) := by decide +kernel
theorem dX2_isPainted_13 : decode cX2_isPainted 13 = .ok (.iload_n 1, 1) := by decide +kernel
theorem dX2_isPainted_14 : decode cX2_isPainted 14 = .ok (.iconst 2, 1) := by decide +kernel
theorem dX2_isPainted_15 : decode cX2_isPainted 15 = .ok (.iload_n 3, 1) := by decide +kernel
theorem dX2_isPainted_16 : decode cX2_isPainted 16 = .ok (.imul, 1) := by decide +kernel
theorem dX2_isPainted_17 : decode cX2_isPainted 17 = .ok (.ishr, 1) := by decide +kernel
theorem dX2_isPainted_18 : decode cX2_isPainted 18 = .ok (.iconst 3, 1) := by decide +kernel
theorem dX2_isPainted_19 : decode cX2_isPainted 19 = .ok (.iand, 1) := by decide +kernel
theorem dX2_isPainted_20 : decode cX2_isPainted 20 = .ok (.istore 4, 2) := by decide +kernel
theorem dX2_isPainted_22 : decode cX2_isPainted 22 = .ok (.iload 4, 2) := by decide +kernel
theorem dX2_isPainted_24 : decode cX2_isPainted 24 = .ok (.iload_n 2, 1) := by decide +kernel
theorem dX2_isPainted_25 : decode cX2_isPainted 25 = .ok (.if_icmp .lt 5, 3) := by decide +kernel
theorem dX2_isPainted_28 : decode cX2_isPainted 28 = .ok (.iconst 0, 1) := by decide +kernel
theorem dX2_isPainted_29 : decode cX2_isPainted 29 = .ok (.ireturn, 1) := by decide +kernel
theorem dX2_isPainted_30 : decode cX2_isPainted 30 = .ok (.iconst 0, 1) := by decide +kernel
theorem dX2_isPainted_31 : decode cX2_isPainted 31 = .ok (.istore 5, 2) := by decide +kernel
theorem dX2_isPainted_33 : decode cX2_isPainted 33 = .ok (.iload 5, 2) := by decide +kernel
theorem dX2_isPainted_35 : decode cX2_isPainted 35 = .ok (.iload_n 3, 1) := by decide +kernel
theorem dX2_isPainted_36 : decode cX2_isPainted 36 = .ok (.if_icmp .ge 34, 3) := by decide +kernel
theorem dX2_isPainted_39 : decode cX2_isPainted 39 = .ok (.iload 4, 2) := by decide +kernel
theorem dX2_isPainted_41 : decode cX2_isPainted 41 = .ok (.iload_n 1, 1) := by decide +kernel
theorem dX2_isPainted_42 : decode cX2_isPainted 42 = .ok (.iconst 2, 1) := by decide +kernel
theorem dX2_isPainted_43 : decode cX2_isPainted 43 = .ok (.iload 5, 2) := by decide +kernel
theorem dX2_isPainted_45 : decode cX2_isPainted 45 = .ok (.imul, 1) := by decide +kernel
theorem dX2_isPainted_46 : decode cX2_isPainted 46 = .ok (.ishr, 1) := by decide +kernel
theorem dX2_isPainted_47 : decode cX2_isPainted 47 = .ok (.iconst 3, 1) := by decide +kernel
theorem dX2_isPainted_48 : decode cX2_isPainted 48 = .ok (.iand, 1) := by decide +kernel
theorem dX2_isPainted_49 : decode cX2_isPainted 49 = .ok (.if_icmp .ne 15, 3) := by decide +kernel
theorem dX2_isPainted_52 : decode cX2_isPainted 52 = .ok (.aload_n 0, 1) := by decide +kernel
theorem dX2_isPainted_53 : decode cX2_isPainted 53 = .ok (.iload_n 3, 1) := by decide +kernel
theorem dX2_isPainted_54 : decode cX2_isPainted 54 = .ok (.iload 5, 2) := by decide +kernel
theorem dX2_isPainted_56 : decode cX2_isPainted 56 = .ok (.invokevirtual 120, 3) := by decide +kernel
theorem dX2_isPainted_59 : decode cX2_isPainted 59 = .ok (.ifCond .eq 5, 3) := by decide +kernel
theorem dX2_isPainted_62 : decode cX2_isPainted 62 = .ok (.iconst 0, 1) := by decide +kernel
theorem dX2_isPainted_63 : decode cX2_isPainted 63 = .ok (.ireturn, 1) := by decide +kernel
theorem dX2_isPainted_64 : decode cX2_isPainted 64 = .ok (.iinc 5 1, 3) := by decide +kernel
theorem dX2_isPainted_67 : decode cX2_isPainted 67 = .ok (.goto (-34), 3) := by decide +kernel
theorem dX2_isPainted_70 : decode cX2_isPainted 70 = .ok (.iinc 3 1, 3) := by decide +kernel
theorem dX2_isPainted_73 : decode cX2_isPainted 73 = .ok (.goto (-71), 3) := by decide +kernel
theorem dX2_isPainted_76 : decode cX2_isPainted 76 = .ok (.iconst 1, 1) := by decide +kernel
theorem dX2_isPainted_77 : decode cX2_isPainted 77 = .ok (.ireturn, 1) := by decide +kernel
theorem dX3_init_0 : decode cX3_init 0 = .ok (.aload_n 0, 1) := by decide +kernel
theorem dX3_init_1 : decode cX3_init 1 = .ok (.invokespecial 3, 3) := by decide +kernel
theorem dX3_init_4 : decode cX3_init 4 = .ok (.aload_n 0, 1) := by decide +kernel
theorem dX3_init_5 : decode cX3_init 5 = .ok (.bipush 64, 2) := by decide +kernel
theorem dX3_init_7 : decode cX3_init 7 = .ok (.newarray .int, 2) := by decide +kernel
theorem dX3_init_9 : decode cX3_init 9 = .ok (.putfield 11, 3) := by decide +kernel
theorem dX3_init_12 : decode cX3_init 12 = .ok (.aload_n 0, 1) := by decide +kernel
theorem dX3_init_13 : decode cX3_init 13 = .ok (.iconst 3, 1) := by decide +kernel
theorem dX3_init_14 : decode cX3_init 14 = .ok (.newarray .int, 2) := by decide +kernel
theorem dX3_init_16 : decode cX3_init 16 = .ok (.putfield 15, 3) := by decide +kernel
theorem dX3_init_19 : decode cX3_init 19 = .ok (.aload_n 0, 1) := by decide +kernel
theorem dX3_init_20 : decode cX3_init 20 = .ok (.iconst 3, 1) := by decide +kernel
theorem dX3_init_21 : decode cX3_init 21 = .ok (.newarray .int, 2) := by decide +kernel
theorem dX3_init_23 : decode cX3_init 23 = .ok (.putfield 18, 3) := by decide +kernel
theorem dX3_init_26 : decode cX3_init 26 = .ok (.aload_n 0, 1) := by decide +kernel
theorem dX3_init_27 : decode cX3_init 27 = .ok (.bipush 64, 2) := by decide +kernel
theorem dX3_init_29 : decode cX3_init 29 = .ok (.newarray .long, 2) := by decide +kernel
theorem dX3_init_31 : decode cX3_init 31 = .ok (.putfield 21, 3) := by decide +kernel
theorem dX3_init_34 : decode cX3_init 34 = .ok (.return_, 1) := by decide +kernel
theorem dX3_clear_0 : decode cX3_clear 0 = .ok (.aload_n 0, 1) := by decide +kernel
theorem dX3_clear_1 : decode cX3_clear 1 = .ok (.iconst 0, 1) := by decide +kernel
theorem dX3_clear_2 : decode cX3_clear 2 = .ok (.putfield 25, 3) := by decide +kernel
theorem dX3_clear_5 : decode cX3_clear 5 = .ok (.aload_n 0, 1) := by decide +kernel
theorem dX3_clear_6 : decode cX3_clear 6 = .ok (.getfield 15, 3) := by decide +kernel
theorem dX3_clear_9 : decode cX3_clear 9 = .ok (.iconst 0, 1) := by decide +kernel
theorem dX3_clear_10 : decode cX3_clear 10 = .ok (.invokestatic 29, 3) := by decide +kernel
theorem dX3_clear_13 : decode cX3_clear 13 = .ok (.aload_n 0, 1) := by decide +kernel
theorem dX3_clear_14 : decode cX3_clear 14 = .ok (.getfield 18, 3) := by decide +kernel
theorem dX3_clear_17 : decode cX3_clear 17 = .ok (.iconst 0, 1) := by decide +kernel
theorem dX3_clear_18 : decode cX3_clear 18 = .ok (.invokestatic 29, 3) := by decide +kernel
theorem dX3_clear_21 : decode cX3_clear 21 = .ok (.return_, 1) := by decide +kernel
theorem dX3_take_0 : decode cX3_take 0 = .ok (.aload_n 0, 1) := by decide +kernel
theorem dX3_take_1 : decode cX3_take 1 = .ok (.aload_n 1, 1) := by decide +kernel
theorem dX3_take_2 : decode cX3_take 2 = .ok (.getfield 25, 3) := by decide +kernel
theorem dX3_take_5 : decode cX3_take 5 = .ok (.putfield 25, 3) := by decide +kernel
theorem dX3_take_8 : decode cX3_take 8 = .ok (.aload_n 1, 1) := by decide +kernel
theorem dX3_take_9 : decode cX3_take 9 = .ok (.getfield 11, 3) := by decide +kernel
theorem dX3_take_12 : decode cX3_take 12 = .ok (.iconst 0, 1) := by decide +kernel
theorem dX3_take_13 : decode cX3_take 13 = .ok (.aload_n 0, 1) := by decide +kernel
theorem dX3_take_14 : decode cX3_take 14 = .ok (.getfield 11, 3) := by decide +kernel
theorem dX3_take_17 : decode cX3_take 17 = .ok (.iconst 0, 1) := by decide +kernel
theorem dX3_take_18 : decode cX3_take 18 = .ok (.bipush 64, 2) := by decide +kernel
theorem dX3_take_20 : decode cX3_take 20 = .ok (.invokestatic 35, 3) := by decide +kernel
theorem dX3_take_23 : decode cX3_take 23 = .ok (.aload_n 1, 1) := by decide +kernel
theorem dX3_take_24 : decode cX3_take 24 = .ok (.getfield 15, 3) := by decide +kernel
theorem dX3_take_27 : decode cX3_take 27 = .ok (.iconst 0, 1) := by decide +kernel
theorem dX3_take_28 : decode cX3_take 28 = .ok (.aload_n 0, 1) := by decide +kernel
theorem dX3_take_29 : decode cX3_take 29 = .ok (.getfield 15, 3) := by decide +kernel
theorem dX3_take_32 : decode cX3_take 32 = .ok (.iconst 0, 1) := by decide +kernel
theorem dX3_take_33 : decode cX3_take 33 = .ok (.iconst 3, 1) := by decide +kernel
theorem dX3_take_34 : decode cX3_take 34 = .ok (.invokestatic 35, 3) := by decide +kernel
theorem dX3_take_37 : decode cX3_take 37 = .ok (.aload_n 1, 1) := by decide +kernel
theorem dX3_take_38 : decode cX3_take 38 = .ok (.getfield 18, 3) := by decide +kernel
theorem dX3_take_41 : decode cX3_take 41 = .ok (.iconst 0, 1) := by decide +kernel
theorem dX3_take_42 : decode cX3_take 42 = .ok (.aload_n 0, 1) := by decide +kernel
theorem dX3_take_43 : decode cX3_take 43 = .ok (.getfield 18, 3) := by decide +kernel
theorem dX3_take_46 : decode cX3_take 46 = .ok (.iconst 0, 1) := by decide +kernel
theorem dX3_take_47 : decode cX3_take 47 = .ok (.iconst 3, 1) := by decide +kernel
theorem dX3_take_48 : decode cX3_take 48 = .ok (.invokestatic 35, 3) := by decide +kernel
theorem dX3_take_51 : decode cX3_take 51 = .ok (.return_, 1) := by decide +kernel
theorem dX3_isTold_0 : decode cX3_isTold 0 = .ok (.aload_n 0, 1) := by decide +kernel
theorem dX3_isTold_1 : decode cX3_isTold 1 = .ok (.getfield 18, 3) := by decide +kernel
theorem dX3_isTold_4 : decode cX3_isTold 4 = .ok (.iload_n 1, 1) := by decide +kernel
theorem dX3_isTold_5 : decode cX3_isTold 5 = .ok (.iaload, 1) := by decide +kernel
theorem dX3_isTold_6 : decode cX3_isTold 6 = .ok (.aload_n 0, 1) := by decide +kernel
theorem dX3_isTold_7 : decode cX3_isTold 7 = .ok (.getfield 15, 3) := by decide +kernel
theorem dX3_isTold_10 : decode cX3_isTold 10 = .ok (.iload_n 1, 1) := by decide +kernel
theorem dX3_isTold_11 : decode cX3_isTold 11 = .ok (.iaload, 1) := by decide +kernel
theorem dX3_isTold_12 : decode cX3_isTold 12 = .ok (.if_icmp .le 7, 3) := by decide +kernel
theorem dX3_isTold_15 : decode cX3_isTold 15 = .ok (.iconst 1, 1) := by decide +kernel
theorem dX3_isTold_16 : decode cX3_isTold 16 = .ok (.goto 4, 3) := by decide +kernel
theorem dX3_isTold_19 : decode cX3_isTold 19 = .ok (.iconst 0, 1) := by decide +kernel
theorem dX3_isTold_20 : decode cX3_isTold 20 = .ok (.ireturn, 1) := by decide +kernel
theorem dX3_put_0 : decode cX3_put 0 = .ok (.aload_n 0, 1) := by decide +kernel
theorem dX3_put_1 : decode cX3_put 1 = .ok (.getfield 25, 3) := by decide +kernel
theorem dX3_put_4 : decode cX3_put 4 = .ok (.bipush 64, 2) := by decide +kernel
theorem dX3_put_6 : decode cX3_put 6 = .ok (.if_icmp .ge 23, 3) := by decide +kernel
theorem dX3_put_9 : decode cX3_put 9 = .ok (.aload_n 0, 1) := by decide +kernel
theorem dX3_put_10 : decode cX3_put 10 = .ok (.getfield 11, 3) := by decide +kernel
theorem dX3_put_13 : decode cX3_put 13 = .ok (.aload_n 0, 1) := by decide +kernel
theorem dX3_put_14 : decode cX3_put 14 = .ok (.getfield 25, 3) := by decide +kernel
theorem dX3_put_17 : decode cX3_put 17 = .ok (.iload_n 1, 1) := by decide +kernel
theorem dX3_put_18 : decode cX3_put 18 = .ok (.iastore, 1) := by decide +kernel
theorem dX3_put_19 : decode cX3_put 19 = .ok (.aload_n 0, 1) := by decide +kernel
theorem dX3_put_20 : decode cX3_put 20 = .ok (.dup, 1) := by decide +kernel
theorem dX3_put_21 : decode cX3_put 21 = .ok (.getfield 25, 3) := by decide +kernel
theorem dX3_put_24 : decode cX3_put 24 = .ok (.iconst 1, 1) := by decide +kernel
theorem dX3_put_25 : decode cX3_put 25 = .ok (.iadd, 1) := by decide +kernel
theorem dX3_put_26 : decode cX3_put 26 = .ok (.putfield 25, 3) := by decide +kernel
theorem dX3_put_29 : decode cX3_put 29 = .ok (.return_, 1) := by decide +kernel
theorem dX3_work_0 : decode cX3_work 0 = .ok (.iconst 0, 1) := by decide +kernel
theorem dX3_work_1 : decode cX3_work 1 = .ok (.istore_n 3, 1) := by decide +kernel
theorem dX3_work_2 : decode cX3_work 2 = .ok (.aload_n 0, 1) := by decide +kernel
theorem dX3_work_3 : decode cX3_work 3 = .ok (.getfield 15, 3) := by decide +kernel
theorem dX3_work_6 : decode cX3_work 6 = .ok (.iload_n 1, 1) := by decide +kernel
theorem dX3_work_7 : decode cX3_work 7 = .ok (.iaload, 1) := by decide +kernel
theorem dX3_work_8 : decode cX3_work 8 = .ok (.istore 4, 2) := by decide +kernel
theorem dX3_work_10 : decode cX3_work 10 = .ok (.iload 4, 2) := by decide +kernel
theorem dX3_work_12 : decode cX3_work 12 = .ok (.aload_n 0, 1) := by decide +kernel
theorem dX3_work_13 : decode cX3_work 13 = .ok (.getfield 18, 3) := by decide +kernel
theorem dX3_work_16 : decode cX3_work 16 = .ok (.iload_n 1, 1) := by decide +kernel
theorem dX3_work_17 : decode cX3_work 17 = .ok (.iaload, 1) := by decide +kernel
theorem dX3_work_18 : decode cX3_work 18 = .ok (.if_icmp .ge 185, 3) := by decide +kernel
theorem dX3_work_21 : decode cX3_work 21 = .ok (.aload_n 0, 1) := by decide +kernel
theorem dX3_work_22 : decode cX3_work 22 = .ok (.getfield 11, 3) := by decide +kernel
theorem dX3_work_25 : decode cX3_work 25 = .ok (.iload 4, 2) := by decide +kernel
theorem dX3_work_27 : decode cX3_work 27 = .ok (.iaload, 1) := by decide +kernel
theorem dX3_work_28 : decode cX3_work 28 = .ok (.istore 5, 2) := by decide +kernel
theorem dX3_work_30 : decode cX3_work 30 = .ok (.iload 5, 2) := by decide +kernel
theorem dX3_work_32 : decode cX3_work 32 = .ok (.ineg, 1) := by decide +kernel
theorem dX3_work_33 : decode cX3_work 33 = .ok (.istore 6, 2) := by decide +kernel
theorem dX3_work_35 : decode cX3_work 35 = .ok (.iload 5, 2) := by decide +kernel
theorem dX3_work_37 : decode cX3_work 37 = .ok (.ifCond .ge 11, 3) := by decide +kernel
theorem dX3_work_40 : decode cX3_work 40 = .ok (.iload 6, 2) := by decide +kernel
theorem dX3_work_42 : decode cX3_work 42 = .ok (.invokestatic 41, 3) := by decide +kernel
theorem dX3_work_45 : decode cX3_work 45 = .ok (.ifCond .eq 43, 3) := by decide +kernel
theorem dX3_work_48 : decode cX3_work 48 = .ok (.iload_n 3, 1) := by decide +kernel
theorem dX3_work_49 : decode cX3_work 49 = .ok (.bipush 64, 2) := by decide +kernel
theorem dX3_work_51 : decode cX3_work 51 = .ok (.if_icmp .lt 7, 3) := by decide +kernel
theorem dX3_work_54 : decode cX3_work 54 = .ok (.ldc2_w 45, 3) := by decide +kernel
theorem dX3_work_57 : decode cX3_work 57 = .ok (.lreturn, 1) := by decide +kernel
theorem dX3_work_58 : decode cX3_work 58 = .ok (.aload_n 0, 1) := by decide +kernel
theorem dX3_work_59 : decode cX3_work 59 = .ok (.getfield 21, 3) := by decide +kernel
theorem dX3_work_62 : decode cX3_work 62 = .ok (.iload_n 3, 1) := by decide +kernel
theorem dX3_work_63 : decode cX3_work 63 = .ok (.iload 5, 2) := by decide +kernel
theorem dX3_work_65 : decode cX3_work 65 = .ok (.ifCond .lt 9, 3) := by decide +kernel
theorem dX3_work_68 : decode cX3_work 68 = .ok (.iload 5, 2) := by decide +kernel
theorem dX3_work_70 : decode cX3_work 70 = .ok (.i2l, 1) := by decide +kernel
theorem dX3_work_71 : decode cX3_work 71 = .ok (.goto 10, 3) := by decide +kernel
theorem dX3_work_74 : decode cX3_work 74 = .ok (.aload_n 2, 1) := by decide +kernel
theorem dX3_work_75 : decode cX3_work 75 = .ok (.iload 6, 2) := by decide +kernel
theorem dX3_work_77 : decode cX3_work 77 = .ok (.bipush 14, 2) := by decide +kernel
theorem dX3_work_79 : decode cX3_work 79 = .ok (.isub, 1) := by decide +kernel
theorem dX3_work_80 : decode cX3_work 80 = .ok (.laload, 1) := by decide +kernel
theorem dX3_work_81 : decode cX3_work 81 = .ok (.lastore, 1) := by decide +kernel
theorem dX3_work_82 : decode cX3_work 82 = .ok (.iinc 3 1, 3) := by decide +kernel
theorem dX3_work_85 : decode cX3_work 85 = .ok (.goto 112, 3) := by decide +kernel
theorem dX3_work_88 : decode cX3_work 88 = .ok (.iload 6, 2) := by decide +kernel
theorem dX3_work_90 : decode cX3_work 90 = .ok (.bipush 13, 2) := by decide +kernel
theorem dX3_work_92 : decode cX3_work 92 = .ok (.if_icmp .ne 37, 3) := by decide +kernel
theorem dX3_work_95 : decode cX3_work 95 = .ok (.iload_n 3, 1) := by decide +kernel
theorem dX3_work_96 : decode cX3_work 96 = .ok (.iconst 1, 1) := by decide +kernel
theorem dX3_work_97 : decode cX3_work 97 = .ok (.if_icmp .lt 32, 3) := by decide +kernel
theorem dX3_work_100 : decode cX3_work 100 = .ok (.aload_n 0, 1) := by decide +kernel
theorem dX3_work_101 : decode cX3_work 101 = .ok (.getfield 21, 3) := by decide +kernel
theorem dX3_work_104 : decode cX3_work 104 = .ok (.iload_n 3, 1) := by decide +kernel
theorem dX3_work_105 : decode cX3_work 105 = .ok (.iconst 1, 1) := by decide +kernel
theorem dX3_work_106 : decode cX3_work 106 = .ok (.isub, 1) := by decide +kernel
theorem dX3_work_107 : decode cX3_work 107 = .ok (.aload_n 0, 1) := by decide +kernel
theorem dX3_work_108 : decode cX3_work 108 = .ok (.getfield 21, 3) := by decide +kernel
theorem dX3_work_111 : decode cX3_work 111 = .ok (.iload_n 3, 1) := by decide +kernel
theorem dX3_work_112 : decode cX3_work 112 = .ok (.iconst 1, 1) := by decide +kernel
theorem dX3_work_113 : decode cX3_work 113 = .ok (.isub, 1) := by decide +kernel
theorem dX3_work_114 : decode cX3_work 114 = .ok (.laload, 1) := by decide +kernel
theorem dX3_work_115 : decode cX3_work 115 = .ok (.lconst 0, 1) := by decide +kernel
theorem dX3_work_116 : decode cX3_work 116 = .ok (.lcmp, 1) := by decide +kernel
theorem dX3_work_117 : decode cX3_work 117 = .ok (.ifCond .ne 7, 3) := by decide +kernel
theorem dX3_work_120 : decode cX3_work 120 = .ok (.lconst 1, 1) := by decide +kernel
theorem dX3_work_121 : decode cX3_work 121 = .ok (.goto 4, 3) := by decide +kernel
theorem dX3_work_124 : decode cX3_work 124 = .ok (.lconst 0, 1) := by decide +kernel
theorem dX3_work_125 : decode cX3_work 125 = .ok (.lastore, 1) := by decide +kernel
theorem dX3_work_126 : decode cX3_work 126 = .ok (.goto 71, 3) := by decide +kernel
theorem dX3_work_129 : decode cX3_work 129 = .ok (.iload_n 3, 1) := by decide +kernel
theorem dX3_work_130 : decode cX3_work 130 = .ok (.iconst 2, 1) := by decide +kernel
theorem dX3_work_131 : decode cX3_work 131 = .ok (.if_icmp .lt 62, 3) := by decide +kernel
theorem dX3_work_134 : decode cX3_work 134 = .ok (.iinc 3 (-1), 3) := by decide +kernel
theorem dX3_work_137 : decode cX3_work 137 = .ok (.iload 6, 2) := by decide +kernel
theorem dX3_work_139 : decode cX3_work 139 = .ok (.aload_n 0, 1) := by decide +kernel
theorem dX3_work_140 : decode cX3_work 140 = .ok (.getfield 21, 3) := by decide +kernel
theorem dX3_work_143 : decode cX3_work 143 = .ok (.iload_n 3, 1) := by decide +kernel
theorem dX3_work_144 : decode cX3_work 144 = .ok (.iconst 1, 1) := by decide +kernel
theorem dX3_work_145 : decode cX3_work 145 = .ok (.isub, 1) := by decide +kernel
theorem dX3_work_146 : decode cX3_work 146 = .ok (.laload, 1) := by decide +kernel
theorem dX3_work_147 : decode cX3_work 147 = .ok (.aload_n 0, 1) := by decide +kernel
theorem dX3_work_148 : decode cX3_work 148 = .ok (.getfield 21, 3) := by decide +kernel
theorem dX3_work_151 : decode cX3_work 151 = .ok (.iload_n 3, 1) := by decide +kernel
theorem dX3_work_152 : decode cX3_work 152 = .ok (.laload, 1) := by decide +kernel
theorem dX3_work_153 : decode cX3_work 153 = .ok (.invokestatic 49, 3) := by decide +kernel
theorem dX3_work_156 : decode cX3_work 156 = .ok (.lstore 7, 2) := by decide +kernel
theorem dX3_work_158 : decode cX3_work 158 = .ok (.lload 7, 2) := by decide +kernel
theorem dX3_work_160 : decode cX3_work 160 = .ok (.ldc2_w 53, 3) := by decide +kernel
theorem dX3_work_163 : decode cX3_work 163 = .ok (.lcmp, 1) := by decide +kernel
theorem dX3_work_164 : decode cX3_work 164 = .ok (.ifCond .gt 12, 3) := by decide +kernel
theorem dX3_work_167 : decode cX3_work 167 = .ok (.lload 7, 2) := by decide +kernel
theorem dX3_work_169 : decode cX3_work 169 = .ok (.ldc2_w 55, 3) := by decide +kernel
theorem dX3_work_172 : decode cX3_work 172 = .ok (.lcmp, 1) := by decide +kernel
theorem dX3_work_173 : decode cX3_work 173 = .ok (.ifCond .ge 7, 3) := by decide +kernel
theorem dX3_work_176 : decode cX3_work 176 = .ok (.ldc2_w 45, 3) := by decide +kernel
theorem dX3_work_179 : decode cX3_work 179 = .ok (.lreturn, 1) := by decide +kernel
theorem dX3_work_180 : decode cX3_work 180 = .ok (.aload_n 0, 1) := by decide +kernel
theorem dX3_work_181 : decode cX3_work 181 = .ok (.getfield 21, 3) := by decide +kernel
theorem dX3_work_184 : decode cX3_work 184 = .ok (.iload_n 3, 1) := by decide +kernel
theorem dX3_work_185 : decode cX3_work 185 = .ok (.iconst 1, 1) := by decide +kernel
theorem dX3_work_186 : decode cX3_work 186 = .ok (.isub, 1) := by decide +kernel
theorem dX3_work_187 : decode cX3_work 187 = .ok (.lload 7, 2) := by decide +kernel
theorem dX3_work_189 : decode cX3_work 189 = .ok (.lastore, 1) := by decide +kernel
theorem dX3_work_190 : decode cX3_work 190 = .ok (.goto 7, 3) := by decide +kernel
theorem dX3_work_193 : decode cX3_work 193 = .ok (.ldc2_w 45, 3) := by decide +kernel
theorem dX3_work_196 : decode cX3_work 196 = .ok (.lreturn, 1) := by decide +kernel
theorem dX3_work_197 : decode cX3_work 197 = .ok (.iinc 4 1, 3) := by decide +kernel
theorem dX3_work_200 : decode cX3_work 200 = .ok (.goto (-190), 3) := by decide +kernel
theorem dX3_work_203 : decode cX3_work 203 = .ok (.iload_n 3, 1) := by decide +kernel
theorem dX3_work_204 : decode cX3_work 204 = .ok (.iconst 1, 1) := by decide +kernel
theorem dX3_work_205 : decode cX3_work 205 = .ok (.if_icmp .ne 12, 3) := by decide +kernel
theorem dX3_work_208 : decode cX3_work 208 = .ok (.aload_n 0, 1) := by decide +kernel
theorem dX3_work_209 : decode cX3_work 209 = .ok (.getfield 21, 3) := by decide +kernel
theorem dX3_work_212 : decode cX3_work 212 = .ok (.iconst 0, 1) := by decide +kernel
theorem dX3_work_213 : decode cX3_work 213 = .ok (.laload, 1) := by decide +kernel
theorem dX3_work_214 : decode cX3_work 214 = .ok (.goto 6, 3) := by decide +kernel
theorem dX3_work_217 : decode cX3_work 217 = .ok (.ldc2_w 45, 3) := by decide +kernel
theorem dX3_work_220 : decode cX3_work 220 = .ok (.lreturn, 1) := by decide +kernel
theorem dX3_isName_0 : decode cX3_isName 0 = .ok (.iload_n 0, 1) := by decide +kernel
theorem dX3_isName_1 : decode cX3_isName 1 = .ok (.bipush 14, 2) := by decide +kernel
theorem dX3_isName_3 : decode cX3_isName 3 = .ok (.if_icmp .lt 13, 3) := by decide +kernel
theorem dX3_isName_6 : decode cX3_isName 6 = .ok (.iload_n 0, 1) := by decide +kernel
theorem dX3_isName_7 : decode cX3_isName 7 = .ok (.bipush 20, 2) := by decide +kernel
theorem dX3_isName_9 : decode cX3_isName 9 = .ok (.if_icmp .gt 7, 3) := by decide +kernel
theorem dX3_isName_12 : decode cX3_isName 12 = .ok (.iconst 1, 1) := by decide +kernel
theorem dX3_isName_13 : decode cX3_isName 13 = .ok (.goto 4, 3) := by decide +kernel
theorem dX3_isName_16 : decode cX3_isName 16 = .ok (.iconst 0, 1) := by decide +kernel
theorem dX3_isName_17 : decode cX3_isName 17 = .ok (.ireturn, 1) := by decide +kernel
theorem dX3_joined_0 : decode cX3_joined 0 = .ok (.iload_n 0, 1) := by decide +kernel
theorem dX3_joined_1 : decode cX3_joined 1 = .ok (.tableswitch 302 11 35 #[115, 133, 302, 302, 302, 302, 302, 302, 302, 302, 302, 302, 302, 302, 302, 223, 227, 231, 286, 151, 163, 175, 187, 199, 211], 115) := by decide +kernel
theorem dX3_joined_116 : decode cX3_joined 116 = .ok (.lload_n 1, 1) := by decide +kernel
theorem dX3_joined_117 : decode cX3_joined 117 = .ok (.lconst 0, 1) := by decide +kernel
theorem dX3_joined_118 : decode cX3_joined 118 = .ok (.lcmp, 1) := by decide +kernel
theorem dX3_joined_119 : decode cX3_joined 119 = .ok (.ifCond .ne 9, 3) := by decide +kernel
theorem dX3_joined_122 : decode cX3_joined 122 = .ok (.lload_n 3, 1) := by decide +kernel
theorem dX3_joined_123 : decode cX3_joined 123 = .ok (.lconst 0, 1) := by decide +kernel
theorem dX3_joined_124 : decode cX3_joined 124 = .ok (.lcmp, 1) := by decide +kernel
theorem dX3_joined_125 : decode cX3_joined 125 = .ok (.ifCond .eq 7, 3) := by decide +kernel
theorem dX3_joined_128 : decode cX3_joined 128 = .ok (.lconst 1, 1) := by decide +kernel
theorem dX3_joined_129 : decode cX3_joined 129 = .ok (.goto 4, 3) := by decide +kernel
theorem dX3_joined_132 : decode cX3_joined 132 = .ok (.lconst 0, 1) := by decide +kernel
theorem dX3_joined_133 : decode cX3_joined 133 = .ok (.lreturn, 1) := by decide +kernel
theorem dX3_joined_134 : decode cX3_joined 134 = .ok (.lload_n 1, 1) := by decide +kernel
theorem dX3_joined_135 : decode cX3_joined 135 = .ok (.lconst 0, 1) := by decide +kernel
theorem dX3_joined_136 : decode cX3_joined 136 = .ok (.lcmp, 1) := by decide +kernel
theorem dX3_joined_137 : decode cX3_joined 137 = .ok (.ifCond .eq 13, 3) := by decide +kernel
theorem dX3_joined_140 : decode cX3_joined 140 = .ok (.lload_n 3, 1) := by decide +kernel
theorem dX3_joined_141 : decode cX3_joined 141 = .ok (.lconst 0, 1) := by decide +kernel
theorem dX3_joined_142 : decode cX3_joined 142 = .ok (.lcmp, 1) := by decide +kernel
theorem dX3_joined_143 : decode cX3_joined 143 = .ok (.ifCond .eq 7, 3) := by decide +kernel
theorem dX3_joined_146 : decode cX3_joined 146 = .ok (.lconst 1, 1) := by decide +kernel
theorem dX3_joined_147 : decode cX3_joined 147 = .ok (.goto 4, 3) := by decide +kernel
theorem dX3_joined_150 : decode cX3_joined 150 = .ok (.lconst 0, 1) := by decide +kernel
theorem dX3_joined_151 : decode cX3_joined 151 = .ok (.lreturn, 1) := by decide +kernel
theorem dX3_joined_152 : decode cX3_joined 152 = .ok (.lload_n 1, 1) := by decide +kernel
theorem dX3_joined_153 : decode cX3_joined 153 = .ok (.lload_n 3, 1) := by decide +kernel
theorem dX3_joined_154 : decode cX3_joined 154 = .ok (.lcmp, 1) := by decide +kernel
theorem dX3_joined_155 : decode cX3_joined 155 = .ok (.ifCond .ge 7, 3) := by decide +kernel
theorem dX3_joined_158 : decode cX3_joined 158 = .ok (.lconst 1, 1) := by decide +kernel
theorem dX3_joined_159 : decode cX3_joined 159 = .ok (.goto 4, 3) := by decide +kernel
theorem dX3_joined_162 : decode cX3_joined 162 = .ok (.lconst 0, 1) := by decide +kernel
theorem dX3_joined_163 : decode cX3_joined 163 = .ok (.lreturn, 1) := by decide +kernel
theorem dX3_joined_164 : decode cX3_joined 164 = .ok (.lload_n 1, 1) := by decide +kernel
theorem dX3_joined_165 : decode cX3_joined 165 = .ok (.lload_n 3, 1) := by decide +kernel
theorem dX3_joined_166 : decode cX3_joined 166 = .ok (.lcmp, 1) := by decide +kernel
theorem dX3_joined_167 : decode cX3_joined 167 = .ok (.ifCond .gt 7, 3) := by decide +kernel
theorem dX3_joined_170 : decode cX3_joined 170 = .ok (.lconst 1, 1) := by decide +kernel
theorem dX3_joined_171 : decode cX3_joined 171 = .ok (.goto 4, 3) := by decide +kernel
theorem dX3_joined_174 : decode cX3_joined 174 = .ok (.lconst 0, 1) := by decide +kernel
theorem dX3_joined_175 : decode cX3_joined 175 = .ok (.lreturn, 1) := by decide +kernel
theorem dX3_joined_176 : decode cX3_joined 176 = .ok (.lload_n 1, 1) := by decide +kernel
theorem dX3_joined_177 : decode cX3_joined 177 = .ok (.lload_n 3, 1) := by decide +kernel
theorem dX3_joined_178 : decode cX3_joined 178 = .ok (.lcmp, 1) := by decide +kernel
theorem dX3_joined_179 : decode cX3_joined 179 = .ok (.ifCond .ne 7, 3) := by decide +kernel
theorem dX3_joined_182 : decode cX3_joined 182 = .ok (.lconst 1, 1) := by decide +kernel
theorem dX3_joined_183 : decode cX3_joined 183 = .ok (.goto 4, 3) := by decide +kernel
theorem dX3_joined_186 : decode cX3_joined 186 = .ok (.lconst 0, 1) := by decide +kernel
theorem dX3_joined_187 : decode cX3_joined 187 = .ok (.lreturn, 1) := by decide +kernel
theorem dX3_joined_188 : decode cX3_joined 188 = .ok (.lload_n 1, 1) := by decide +kernel
theorem dX3_joined_189 : decode cX3_joined 189 = .ok (.lload_n 3, 1) := by decide +kernel
theorem dX3_joined_190 : decode cX3_joined 190 = .ok (.lcmp, 1) := by decide +kernel
theorem dX3_joined_191 : decode cX3_joined 191 = .ok (.ifCond .eq 7, 3) := by decide +kernel
theorem dX3_joined_194 : decode cX3_joined 194 = .ok (.lconst 1, 1) := by decide +kernel
theorem dX3_joined_195 : decode cX3_joined 195 = .ok (.goto 4, 3) := by decide +kernel
theorem dX3_joined_198 : decode cX3_joined 198 = .ok (.lconst 0, 1) := by decide +kernel
theorem dX3_joined_199 : decode cX3_joined 199 = .ok (.lreturn, 1) := by decide +kernel
theorem dX3_joined_200 : decode cX3_joined 200 = .ok (.lload_n 1, 1) := by decide +kernel
theorem dX3_joined_201 : decode cX3_joined 201 = .ok (.lload_n 3, 1) := by decide +kernel
theorem dX3_joined_202 : decode cX3_joined 202 = .ok (.lcmp, 1) := by decide +kernel
theorem dX3_joined_203 : decode cX3_joined 203 = .ok (.ifCond .lt 7, 3) := by decide +kernel
theorem dX3_joined_206 : decode cX3_joined 206 = .ok (.lconst 1, 1) := by decide +kernel
theorem dX3_joined_207 : decode cX3_joined 207 = .ok (.goto 4, 3) := by decide +kernel
theorem dX3_joined_210 : decode cX3_joined 210 = .ok (.lconst 0, 1) := by decide +kernel
theorem dX3_joined_211 : decode cX3_joined 211 = .ok (.lreturn, 1) := by decide +kernel
theorem dX3_joined_212 : decode cX3_joined 212 = .ok (.lload_n 1, 1) := by decide +kernel
theorem dX3_joined_213 : decode cX3_joined 213 = .ok (.lload_n 3, 1) := by decide +kernel
theorem dX3_joined_214 : decode cX3_joined 214 = .ok (.lcmp, 1) := by decide +kernel
theorem dX3_joined_215 : decode cX3_joined 215 = .ok (.ifCond .le 7, 3) := by decide +kernel
theorem dX3_joined_218 : decode cX3_joined 218 = .ok (.lconst 1, 1) := by decide +kernel
theorem dX3_joined_219 : decode cX3_joined 219 = .ok (.goto 4, 3) := by decide +kernel
theorem dX3_joined_222 : decode cX3_joined 222 = .ok (.lconst 0, 1) := by decide +kernel
theorem dX3_joined_223 : decode cX3_joined 223 = .ok (.lreturn, 1) := by decide +kernel
theorem dX3_joined_224 : decode cX3_joined 224 = .ok (.lload_n 1, 1) := by decide +kernel
theorem dX3_joined_225 : decode cX3_joined 225 = .ok (.lload_n 3, 1) := by decide +kernel
theorem dX3_joined_226 : decode cX3_joined 226 = .ok (.ladd, 1) := by decide +kernel
theorem dX3_joined_227 : decode cX3_joined 227 = .ok (.lreturn, 1) := by decide +kernel
theorem dX3_joined_228 : decode cX3_joined 228 = .ok (.lload_n 1, 1) := by decide +kernel
theorem dX3_joined_229 : decode cX3_joined 229 = .ok (.lload_n 3, 1) := by decide +kernel
theorem dX3_joined_230 : decode cX3_joined 230 = .ok (.lsub, 1) := by decide +kernel
theorem dX3_joined_231 : decode cX3_joined 231 = .ok (.lreturn, 1) := by decide +kernel
theorem dX3_joined_232 : decode cX3_joined 232 = .ok (.lload_n 1, 1) := by decide +kernel
theorem dX3_joined_233 : decode cX3_joined 233 = .ok (.lconst 0, 1) := by decide +kernel
theorem dX3_joined_234 : decode cX3_joined 234 = .ok (.lcmp, 1) := by decide +kernel
theorem dX3_joined_235 : decode cX3_joined 235 = .ok (.ifCond .ne 9, 3) := by decide +kernel
theorem dX3_joined_238 : decode cX3_joined 238 = .ok (.ldc2_w 53, 3) := by decide +kernel
theorem dX3_joined_241 : decode cX3_joined 241 = .ok (.goto 19, 3) := by decide +kernel
theorem dX3_joined_244 : decode cX3_joined 244 = .ok (.ldc2_w 53, 3) := by decide +kernel
theorem dX3_joined_247 : decode cX3_joined 247 = .ok (.lload_n 1, 1) := by decide +kernel
theorem dX3_joined_248 : decode cX3_joined 248 = .ok (.lconst 0, 1) := by decide +kernel
theorem dX3_joined_249 : decode cX3_joined 249 = .ok (.lcmp, 1) := by decide +kernel
theorem dX3_joined_250 : decode cX3_joined 250 = .ok (.ifCond .ge 8, 3) := by decide +kernel
theorem dX3_joined_253 : decode cX3_joined 253 = .ok (.lload_n 1, 1) := by decide +kernel
theorem dX3_joined_254 : decode cX3_joined 254 = .ok (.lneg, 1) := by decide +kernel
theorem dX3_joined_255 : decode cX3_joined 255 = .ok (.goto 4, 3) := by decide +kernel
theorem dX3_joined_258 : decode cX3_joined 258 = .ok (.lload_n 1, 1) := by decide +kernel
theorem dX3_joined_259 : decode cX3_joined 259 = .ok (.ldiv, 1) := by decide +kernel
theorem dX3_joined_260 : decode cX3_joined 260 = .ok (.lstore 5, 2) := by decide +kernel
theorem dX3_joined_262 : decode cX3_joined 262 = .ok (.lload_n 3, 1) := by decide +kernel
theorem dX3_joined_263 : decode cX3_joined 263 = .ok (.lload 5, 2) := by decide +kernel
theorem dX3_joined_265 : decode cX3_joined 265 = .ok (.lcmp, 1) := by decide +kernel
theorem dX3_joined_266 : decode cX3_joined 266 = .ok (.ifCond .gt 11, 3) := by decide +kernel
theorem dX3_joined_269 : decode cX3_joined 269 = .ok (.lload_n 3, 1) := by decide +kernel
theorem dX3_joined_270 : decode cX3_joined 270 = .ok (.lload 5, 2) := by decide +kernel
theorem dX3_joined_272 : decode cX3_joined 272 = .ok (.lneg, 1) := by decide +kernel
theorem dX3_joined_273 : decode cX3_joined 273 = .ok (.lcmp, 1) := by decide +kernel
theorem dX3_joined_274 : decode cX3_joined 274 = .ok (.ifCond .ge 9, 3) := by decide +kernel
theorem dX3_joined_277 : decode cX3_joined 277 = .ok (.ldc2_w 45, 3) := by decide +kernel
theorem dX3_joined_280 : decode cX3_joined 280 = .ok (.goto 6, 3) := by decide +kernel
theorem dX3_joined_283 : decode cX3_joined 283 = .ok (.lload_n 1, 1) := by decide +kernel
theorem dX3_joined_284 : decode cX3_joined 284 = .ok (.lload_n 3, 1) := by decide +kernel
theorem dX3_joined_285 : decode cX3_joined 285 = .ok (.lmul, 1) := by decide +kernel
theorem dX3_joined_286 : decode cX3_joined 286 = .ok (.lreturn, 1) := by decide +kernel
theorem dX3_joined_287 : decode cX3_joined 287 = .ok (.lload_n 3, 1) := by decide +kernel
theorem dX3_joined_288 : decode cX3_joined 288 = .ok (.lconst 0, 1) := by decide +kernel
theorem dX3_joined_289 : decode cX3_joined 289 = .ok (.lcmp, 1) := by decide +kernel
theorem dX3_joined_290 : decode cX3_joined 290 = .ok (.ifCond .ne 9, 3) := by decide +kernel
theorem dX3_joined_293 : decode cX3_joined 293 = .ok (.ldc2_w 45, 3) := by decide +kernel
theorem dX3_joined_296 : decode cX3_joined 296 = .ok (.goto 6, 3) := by decide +kernel
theorem dX3_joined_299 : decode cX3_joined 299 = .ok (.lload_n 1, 1) := by decide +kernel
theorem dX3_joined_300 : decode cX3_joined 300 = .ok (.lload_n 3, 1) := by decide +kernel
theorem dX3_joined_301 : decode cX3_joined 301 = .ok (.ldiv, 1) := by decide +kernel
theorem dX3_joined_302 : decode cX3_joined 302 = .ok (.lreturn, 1) := by decide +kernel
theorem dX3_joined_303 : decode cX3_joined 303 = .ok (.ldc2_w 45, 3) := by decide +kernel
theorem dX3_joined_306 : decode cX3_joined 306 = .ok (.lreturn, 1) := by decide +kernel
theorem dX4_init_0 : decode cX4_init 0 = .ok (.aload_n 0, 1) := by decide +kernel
theorem dX4_init_1 : decode cX4_init 1 = .ok (.invokespecial 3, 3) := by decide +kernel
theorem dX4_init_4 : decode cX4_init 4 = .ok (.aload_n 0, 1) := by decide +kernel
theorem dX4_init_5 : decode cX4_init 5 = .ok (.aload_n 1, 1) := by decide +kernel
theorem dX4_init_6 : decode cX4_init 6 = .ok (.putfield 9, 3) := by decide +kernel
theorem dX4_init_9 : decode cX4_init 9 = .ok (.aload_n 0, 1) := by decide +kernel
theorem dX4_init_10 : decode cX4_init 10 = .ok (.aload_n 2, 1) := by decide +kernel
theorem dX4_init_11 : decode cX4_init 11 = .ok (.putfield 15, 3) := by decide +kernel
theorem dX4_init_14 : decode cX4_init 14 = .ok (.aload_n 0, 1) := by decide +kernel
theorem dX4_init_15 : decode cX4_init 15 = .ok (.bipush 28, 2) := by decide +kernel
theorem dX4_init_17 : decode cX4_init 17 = .ok (.newarray .int, 2) := by decide +kernel
theorem dX4_init_19 : decode cX4_init 19 = .ok (.putfield 19, 3) := by decide +kernel
theorem dX4_init_22 : decode cX4_init 22 = .ok (.aload_n 0, 1) := by decide +kernel
theorem dX4_init_23 : decode cX4_init 23 = .ok (.iconst 4, 1) := by decide +kernel
theorem dX4_init_24 : decode cX4_init 24 = .ok (.newarray .int, 2) := by decide +kernel
theorem dX4_init_26 : decode cX4_init 26 = .ok (.putfield 23, 3) := by decide +kernel
theorem dX4_init_29 : decode cX4_init 29 = .ok (.aload_n 0, 1) := by decide +kernel
theorem dX4_init_30 : decode cX4_init 30 = .ok (.iconst 4, 1) := by decide +kernel
theorem dX4_init_31 : decode cX4_init 31 = .ok (.newarray .int, 2) := by decide +kernel
theorem dX4_init_33 : decode cX4_init 33 = .ok (.putfield 26, 3) := by decide +kernel
theorem dX4_init_36 : decode cX4_init 36 = .ok (.return_, 1) := by decide +kernel
theorem dX4_match_0 : decode cX4_match 0 = .ok (.aload_n 0, 1) := by decide +kernel
theorem dX4_match_1 : decode cX4_match 1 = .ok (.aload_n 1, 1) := by decide +kernel
theorem dX4_match_2 : decode cX4_match 2 = .ok (.iload_n 2, 1) := by decide +kernel
theorem dX4_match_3 : decode cX4_match 3 = .ok (.invokevirtual 29, 3) := by decide +kernel
theorem dX4_match_6 : decode cX4_match 6 = .ok (.aload_n 0, 1) := by decide +kernel
theorem dX4_match_7 : decode cX4_match 7 = .ok (.getfield 9, 3) := by decide +kernel
theorem dX4_match_10 : decode cX4_match 10 = .ok (.getfield 33, 3) := by decide +kernel
theorem dX4_match_13 : decode cX4_match 13 = .ok (.iconst 1, 1) := by decide +kernel
theorem dX4_match_14 : decode cX4_match 14 = .ok (.iadd, 1) := by decide +kernel
theorem dX4_match_15 : decode cX4_match 15 = .ok (.istore_n 3, 1) := by decide +kernel
theorem dX4_match_16 : decode cX4_match 16 = .ok (.iload_n 3, 1) := by decide +kernel
theorem dX4_match_17 : decode cX4_match 17 = .ok (.iload_n 3, 1) := by decide +kernel
theorem dX4_match_18 : decode cX4_match 18 = .ok (.imul, 1) := by decide +kernel
theorem dX4_match_19 : decode cX4_match 19 = .ok (.iload_n 3, 1) := by decide +kernel
theorem dX4_match_20 : decode cX4_match 20 = .ok (.imul, 1) := by decide +kernel
theorem dX4_match_21 : decode cX4_match 21 = .ok (.iload_n 3, 1) := by decide +kernel
theorem dX4_match_22 : decode cX4_match 22 = .ok (.imul, 1) := by decide +kernel
theorem dX4_match_23 : decode cX4_match 23 = .ok (.istore 4, 2) := by decide +kernel
theorem dX4_match_25 : decode cX4_match 25 = .ok (.aload_n 0, 1) := by decide +kernel
theorem dX4_match_26 : decode cX4_match 26 = .ok (.iconst 0, 1) := by decide +kernel
theorem dX4_match_27 : decode cX4_match 27 = .ok (.putfield 39, 3) := by decide +kernel
theorem dX4_match_30 : decode cX4_match 30 = .ok (.iconst 0, 1) := by decide +kernel
theorem dX4_match_31 : decode cX4_match 31 = .ok (.istore 5, 2) := by decide +kernel
theorem dX4_match_33 : decode cX4_match 33 = .ok (.iload 5, 2) := by decide +kernel
theorem dX4_match_35 : decode cX4_match 35 = .ok (.iload 4, 2) := by decide +kernel
theorem dX4_match_37 : decode cX4_match 37 = .ok (.if_icmp .ge 71, 3) := by decide +kernel
theorem dX4_match_40 : decode cX4_match 40 = .ok (.aload_n 0, 1) := by decide +kernel
theorem dX4_match_41 : decode cX4_match 41 = .ok (.iload 5, 2) := by decide +kernel
theorem dX4_match_43 : decode cX4_match 43 = .ok (.iload_n 3, 1) := by decide +kernel
theorem dX4_match_44 : decode cX4_match 44 = .ok (.invokevirtual 42, 3) := by decide +kernel
theorem dX4_match_47 : decode cX4_match 47 = .ok (.iconst 1, 1) := by decide +kernel
theorem dX4_match_48 : decode cX4_match 48 = .ok (.aload_n 0, 1) := by decide +kernel
theorem dX4_match_49 : decode cX4_match 49 = .ok (.iconst 0, 1) := by decide +kernel
theorem dX4_match_50 : decode cX4_match 50 = .ok (.invokevirtual 46, 3) := by decide +kernel
theorem dX4_match_53 : decode cX4_match 53 = .ok (.iadd, 1) := by decide +kernel
theorem dX4_match_54 : decode cX4_match 54 = .ok (.aload_n 0, 1) := by decide +kernel
theorem dX4_match_55 : decode cX4_match 55 = .ok (.iconst 2, 1) := by decide +kernel
theorem dX4_match_56 : decode cX4_match 56 = .ok (.invokevirtual 46, 3) := by decide +kernel
theorem dX4_match_59 : decode cX4_match 59 = .ok (.iadd, 1) := by decide +kernel
theorem dX4_match_60 : decode cX4_match 60 = .ok (.iconst 1, 1) := by decide +kernel
theorem dX4_match_61 : decode cX4_match 61 = .ok (.aload_n 0, 1) := by decide +kernel
theorem dX4_match_62 : decode cX4_match 62 = .ok (.iconst 1, 1) := by decide +kernel
theorem dX4_match_63 : decode cX4_match 63 = .ok (.invokevirtual 46, 3) := by decide +kernel
theorem dX4_match_66 : decode cX4_match 66 = .ok (.iadd, 1) := by decide +kernel
theorem dX4_match_67 : decode cX4_match 67 = .ok (.aload_n 0, 1) := by decide +kernel
theorem dX4_match_68 : decode cX4_match 68 = .ok (.iconst 3, 1) := by decide +kernel
theorem dX4_match_69 : decode cX4_match 69 = .ok (.invokevirtual 46, 3) := by decide +kernel
theorem dX4_match_72 : decode cX4_match 72 = .ok (.iadd, 1) := by decide +kernel
theorem dX4_match_73 : decode cX4_match 73 = .ok (.imul, 1) := by decide +kernel
theorem dX4_match_74 : decode cX4_match 74 = .ok (.istore 6, 2) := by decide +kernel
theorem dX4_match_76 : decode cX4_match 76 = .ok (.iload 6, 2) := by decide +kernel
theorem dX4_match_78 : decode cX4_match 78 = .ok (.aload_n 0, 1) := by decide +kernel
theorem dX4_match_79 : decode cX4_match 79 = .ok (.getfield 39, 3) := by decide +kernel
theorem dX4_match_82 : decode cX4_match 82 = .ok (.if_icmp .le 20, 3) := by decide +kernel
theorem dX4_match_85 : decode cX4_match 85 = .ok (.aload_n 0, 1) := by decide +kernel
theorem dX4_match_86 : decode cX4_match 86 = .ok (.invokevirtual 50, 3) := by decide +kernel
theorem dX4_match_89 : decode cX4_match 89 = .ok (.ifCond .eq 13, 3) := by decide +kernel
theorem dX4_match_92 : decode cX4_match 92 = .ok (.aload_n 0, 1) := by decide +kernel
theorem dX4_match_93 : decode cX4_match 93 = .ok (.iload 6, 2) := by decide +kernel
theorem dX4_match_95 : decode cX4_match 95 = .ok (.putfield 39, 3) := by decide +kernel
theorem dX4_match_98 : decode cX4_match 98 = .ok (.aload_n 0, 1) := by decide +kernel
theorem dX4_match_99 : decode cX4_match 99 = .ok (.invokevirtual 54, 3) := by decide +kernel
theorem dX4_match_102 : decode cX4_match 102 = .ok (.iinc 5 1, 3) := by decide +kernel
theorem dX4_match_105 : decode cX4_match 105 = .ok (.goto (-72), 3) := by decide +kernel
theorem dX4_match_108 : decode cX4_match 108 = .ok (.return_, 1) := by decide +kernel
theorem dX4_walkAll_0 : decode cX4_walkAll 0 = .ok (.iconst 0, 1) := by decide +kernel
theorem dX4_walkAll_1 : decode cX4_walkAll 1 = .ok (.istore_n 3, 1) := by decide +kernel
theorem dX4_walkAll_2 : decode cX4_walkAll 2 = .ok (.iload_n 3, 1) := by decide +kernel
theorem dX4_walkAll_3 : decode cX4_walkAll 3 = .ok (.iconst 4, 1) := by decide +kernel
theorem dX4_walkAll_4 : decode cX4_walkAll 4 = .ok (.if_icmp .ge 94, 3) := by decide +kernel
theorem dX4_walkAll_7 : decode cX4_walkAll 7 = .ok (.iconst 4, 1) := by decide +kernel
theorem dX4_walkAll_8 : decode cX4_walkAll 8 = .ok (.iload_n 2, 1) := by decide +kernel
theorem dX4_walkAll_9 : decode cX4_walkAll 9 = .ok (.imul, 1) := by decide +kernel
theorem dX4_walkAll_10 : decode cX4_walkAll 10 = .ok (.iload_n 3, 1) := by decide +kernel
theorem dX4_walkAll_11 : decode cX4_walkAll 11 = .ok (.iadd, 1) := by decide +kernel
theorem dX4_walkAll_12 : decode cX4_walkAll 12 = .ok (.istore 4, 2) := by decide +kernel
theorem dX4_walkAll_14 : decode cX4_walkAll 14 = .ok (.bipush 7, 2) := by decide +kernel
theorem dX4_walkAll_16 : decode cX4_walkAll 16 = .ok (.iload_n 3, 1) := by decide +kernel
theorem dX4_walkAll_17 : decode cX4_walkAll 17 = .ok (.imul, 1) := by decide +kernel
theorem dX4_walkAll_18 : decode cX4_walkAll 18 = .ok (.istore 5, 2) := by decide +kernel
theorem dX4_walkAll_20 : decode cX4_walkAll 20 = .ok (.iconst 0, 1) := by decide +kernel
theorem dX4_walkAll_21 : decode cX4_walkAll 21 = .ok (.istore 6, 2) := by decide +kernel
theorem dX4_walkAll_23 : decode cX4_walkAll 23 = .ok (.iload 6, 2) := by decide +kernel
theorem dX4_walkAll_25 : decode cX4_walkAll 25 = .ok (.aload_n 0, 1) := by decide +kernel
theorem dX4_walkAll_26 : decode cX4_walkAll 26 = .ok (.getfield 9, 3) := by decide +kernel
theorem dX4_walkAll_29 : decode cX4_walkAll 29 = .ok (.getfield 33, 3) := by decide +kernel
theorem dX4_walkAll_32 : decode cX4_walkAll 32 = .ok (.if_icmp .ge 38, 3) := by decide +kernel
theorem dX4_walkAll_35 : decode cX4_walkAll 35 = .ok (.aload_n 0, 1) := by decide +kernel
theorem dX4_walkAll_36 : decode cX4_walkAll 36 = .ok (.getfield 19, 3) := by decide +kernel
theorem dX4_walkAll_39 : decode cX4_walkAll 39 = .ok (.iload 5, 2) := by decide +kernel
theorem dX4_walkAll_41 : decode cX4_walkAll 41 = .ok (.iload 6, 2) := by decide +kernel
theorem dX4_walkAll_43 : decode cX4_walkAll 43 = .ok (.iadd, 1) := by decide +kernel
theorem dX4_walkAll_44 : decode cX4_walkAll 44 = .ok (.aload_n 0, 1) := by decide +kernel
theorem dX4_walkAll_45 : decode cX4_walkAll 45 = .ok (.getfield 15, 3) := by decide +kernel
theorem dX4_walkAll_48 : decode cX4_walkAll 48 = .ok (.aload_n 1, 1) := by decide +kernel
theorem dX4_walkAll_49 : decode cX4_walkAll 49 = .ok (.iload 6, 2) := by decide +kernel
theorem dX4_walkAll_51 : decode cX4_walkAll 51 = .ok (.iload 4, 2) := by decide +kernel
theorem dX4_walkAll_53 : decode cX4_walkAll 53 = .ok (.aload_n 1, 1) := by decide +kernel
theorem dX4_walkAll_54 : decode cX4_walkAll 54 = .ok (.getfield 57, 3) := by decide +kernel
theorem dX4_walkAll_57 : decode cX4_walkAll 57 = .ok (.iload 4, 2) := by decide +kernel
theorem dX4_walkAll_59 : decode cX4_walkAll 59 = .ok (.iaload, 1) := by decide +kernel
theorem dX4_walkAll_60 : decode cX4_walkAll 60 = .ok (.invokevirtual 62, 3) := by decide +kernel
theorem dX4_walkAll_63 : decode cX4_walkAll 63 = .ok (.iastore, 1) := by decide +kernel
theorem dX4_walkAll_64 : decode cX4_walkAll 64 = .ok (.iinc 6 1, 3) := by decide +kernel
theorem dX4_walkAll_67 : decode cX4_walkAll 67 = .ok (.goto (-44), 3) := by decide +kernel
theorem dX4_walkAll_70 : decode cX4_walkAll 70 = .ok (.aload_n 0, 1) := by decide +kernel
theorem dX4_walkAll_71 : decode cX4_walkAll 71 = .ok (.getfield 19, 3) := by decide +kernel
theorem dX4_walkAll_74 : decode cX4_walkAll 74 = .ok (.iload 5, 2) := by decide +kernel
theorem dX4_walkAll_76 : decode cX4_walkAll 76 = .ok (.aload_n 0, 1) := by decide +kernel
theorem dX4_walkAll_77 : decode cX4_walkAll 77 = .ok (.getfield 9, 3) := by decide +kernel
theorem dX4_walkAll_80 : decode cX4_walkAll 80 = .ok (.getfield 33, 3) := by decide +kernel
theorem dX4_walkAll_83 : decode cX4_walkAll 83 = .ok (.iadd, 1) := by decide +kernel
theorem dX4_walkAll_84 : decode cX4_walkAll 84 = .ok (.aload_n 1, 1) := by decide +kernel
theorem dX4_walkAll_85 : decode cX4_walkAll 85 = .ok (.getfield 68, 3) := by decide +kernel
theorem dX4_walkAll_88 : decode cX4_walkAll 88 = .ok (.iload 4, 2) := by decide +kernel
theorem dX4_walkAll_90 : decode cX4_walkAll 90 = .ok (.iaload, 1) := by decide +kernel
theorem dX4_walkAll_91 : decode cX4_walkAll 91 = .ok (.iastore, 1) := by decide +kernel
theorem dX4_walkAll_92 : decode cX4_walkAll 92 = .ok (.iinc 3 1, 3) := by decide +kernel
theorem dX4_walkAll_95 : decode cX4_walkAll 95 = .ok (.goto (-93), 3) := by decide +kernel
theorem dX4_walkAll_98 : decode cX4_walkAll 98 = .ok (.return_, 1) := by decide +kernel
theorem dX4_pick_0 : decode cX4_pick 0 = .ok (.iload_n 1, 1) := by decide +kernel
theorem dX4_pick_1 : decode cX4_pick 1 = .ok (.istore_n 3, 1) := by decide +kernel
theorem dX4_pick_2 : decode cX4_pick 2 = .ok (.iconst 3, 1) := by decide +kernel
theorem dX4_pick_3 : decode cX4_pick 3 = .ok (.istore 4, 2) := by decide +kernel
theorem dX4_pick_5 : decode cX4_pick 5 = .ok (.iload 4, 2) := by decide +kernel
theorem dX4_pick_7 : decode cX4_pick 7 = .ok (.ifCond .lt 27, 3) := by decide +kernel
theorem dX4_pick_10 : decode cX4_pick 10 = .ok (.iload_n 2, 1) := by decide +kernel
theorem dX4_pick_11 : decode cX4_pick 11 = .ok (.ifCond .le 23, 3) := by decide +kernel
theorem dX4_pick_14 : decode cX4_pick 14 = .ok (.aload_n 0, 1) := by decide +kernel
theorem dX4_pick_15 : decode cX4_pick 15 = .ok (.getfield 23, 3) := by decide +kernel
theorem dX4_pick_18 : decode cX4_pick 18 = .ok (.iload 4, 2) := by decide +kernel
theorem dX4_pick_20 : decode cX4_pick 20 = .ok (.iload_n 3, 1) := by decide +kernel
theorem dX4_pick_21 : decode cX4_pick 21 = .ok (.iload_n 2, 1) := by decide +kernel
theorem dX4_pick_22 : decode cX4_pick 22 = .ok (.irem, 1) := by decide +kernel
theorem dX4_pick_23 : decode cX4_pick 23 = .ok (.iastore, 1) := by decide +kernel
theorem dX4_pick_24 : decode cX4_pick 24 = .ok (.iload_n 3, 1) := by decide +kernel
theorem dX4_pick_25 : decode cX4_pick 25 = .ok (.iload_n 2, 1) := by decide +kernel
theorem dX4_pick_26 : decode cX4_pick 26 = .ok (.idiv, 1) := by decide +kernel
theorem dX4_pick_27 : decode cX4_pick 27 = .ok (.istore_n 3, 1) := by decide +kernel
theorem dX4_pick_28 : decode cX4_pick 28 = .ok (.iinc 4 (-1), 3) := by decide +kernel
theorem dX4_pick_31 : decode cX4_pick 31 = .ok (.goto (-26), 3) := by decide +kernel
theorem dX4_pick_34 : decode cX4_pick 34 = .ok (.return_, 1) := by decide +kernel
theorem dX4_farOf_0 : decode cX4_farOf 0 = .ok (.aload_n 0, 1) := by decide +kernel
theorem dX4_farOf_1 : decode cX4_farOf 1 = .ok (.getfield 19, 3) := by decide +kernel
theorem dX4_farOf_4 : decode cX4_farOf 4 = .ok (.bipush 7, 2) := by decide +kernel
theorem dX4_farOf_6 : decode cX4_farOf 6 = .ok (.iload_n 1, 1) := by decide +kernel
theorem dX4_farOf_7 : decode cX4_farOf 7 = .ok (.imul, 1) := by decide +kernel
theorem dX4_farOf_8 : decode cX4_farOf 8 = .ok (.aload_n 0, 1) := by decide +kernel
theorem dX4_farOf_9 : decode cX4_farOf 9 = .ok (.getfield 23, 3) := by decide +kernel
theorem dX4_farOf_12 : decode cX4_farOf 12 = .ok (.iload_n 1, 1) := by decide +kernel
theorem dX4_farOf_13 : decode cX4_farOf 13 = .ok (.iaload, 1) := by decide +kernel
theorem dX4_farOf_14 : decode cX4_farOf 14 = .ok (.iadd, 1) := by decide +kernel
theorem dX4_farOf_15 : decode cX4_farOf 15 = .ok (.iaload, 1) := by decide +kernel
theorem dX4_farOf_16 : decode cX4_farOf 16 = .ok (.ireturn, 1) := by decide +kernel
theorem dX4_nobodyTwice_0 : decode cX4_nobodyTwice 0 = .ok (.iconst 0, 1) := by decide +kernel
theorem dX4_nobodyTwice_1 : decode cX4_nobodyTwice 1 = .ok (.istore_n 1, 1) := by decide +kernel
theorem dX4_nobodyTwice_2 : decode cX4_nobodyTwice 2 = .ok (.iconst 0, 1) := by decide +kernel
theorem dX4_nobodyTwice_3 : decode cX4_nobodyTwice 3 = .ok (.istore_n 2, 1) := by decide +kernel
theorem dX4_nobodyTwice_4 : decode cX4_nobodyTwice 4 = .ok (.iload_n 2, 1) := by decide +kernel
theorem dX4_nobodyTwice_5 : decode cX4_nobodyTwice 5 = .ok (.iconst 4, 1) := by decide +kernel
theorem dX4_nobodyTwice_6 : decode cX4_nobodyTwice 6 = .ok (.if_icmp .ge 50, 3) := by decide +kernel
theorem dX4_nobodyTwice_9 : decode cX4_nobodyTwice 9 = .ok (.aload_n 0, 1) := by decide +kernel
theorem dX4_nobodyTwice_10 : decode cX4_nobodyTwice 10 = .ok (.getfield 23, 3) := by decide +kernel
theorem dX4_nobodyTwice_13 : decode cX4_nobodyTwice 13 = .ok (.iload_n 2, 1) := by decide +kernel
theorem dX4_nobodyTwice_14 : decode cX4_nobodyTwice 14 = .ok (.iaload, 1) := by decide +kernel
theorem dX4_nobodyTwice_15 : decode cX4_nobodyTwice 15 = .ok (.aload_n 0, 1) := by decide +kernel
theorem dX4_nobodyTwice_16 : decode cX4_nobodyTwice 16 = .ok (.getfield 9, 3) := by decide +kernel
theorem dX4_nobodyTwice_19 : decode cX4_nobodyTwice 19 = .ok (.getfield 33, 3) := by decide +kernel
theorem dX4_nobodyTwice_22 : decode cX4_nobodyTwice 22 = .ok (.if_icmp .ge 14, 3) := by decide +kernel
theorem dX4_nobodyTwice_25 : decode cX4_nobodyTwice 25 = .ok (.iconst 1, 1) := by decide +kernel
theorem dX4_nobodyTwice_26 : decode cX4_nobodyTwice 26 = .ok (.aload_n 0, 1) := by decide +kernel
theorem dX4_nobodyTwice_27 : decode cX4_nobodyTwice 27 = .ok (.getfield 23, 3) := by decide +kernel
theorem dX4_nobodyTwice_30 : decode cX4_nobodyTwice 30 = .ok (.iload_n 2, 1) := by decide +kernel
theorem dX4_nobodyTwice_31 : decode cX4_nobodyTwice 31 = .ok (.iaload, 1) := by decide +kernel
theorem dX4_nobodyTwice_32 : decode cX4_nobodyTwice 32 = .ok (.ishl, 1) := by decide +kernel
theorem dX4_nobodyTwice_33 : decode cX4_nobodyTwice 33 = .ok (.goto 4, 3) := by decide +kernel
theorem dX4_nobodyTwice_36 : decode cX4_nobodyTwice 36 = .ok (.iconst 0, 1) := by decide +kernel
theorem dX4_nobodyTwice_37 : decode cX4_nobodyTwice 37 = .ok (.istore_n 3, 1) := by decide +kernel
theorem dX4_nobodyTwice_38 : decode cX4_nobodyTwice 38 = .ok (.iload_n 1, 1) := by decide +kernel
theorem dX4_nobodyTwice_39 : decode cX4_nobodyTwice 39 = .ok (.iload_n 3, 1) := by decide +kernel
theorem dX4_nobodyTwice_40 : decode cX4_nobodyTwice 40 = .ok (.iand, 1) := by decide +kernel
theorem dX4_nobodyTwice_41 : decode cX4_nobodyTwice 41 = .ok (.ifCond .eq 5, 3) := by decide +kernel
theorem dX4_nobodyTwice_44 : decode cX4_nobodyTwice 44 = .ok (.iconst 0, 1) := by decide +kernel
theorem dX4_nobodyTwice_45 : decode cX4_nobodyTwice 45 = .ok (.ireturn, 1) := by decide +kernel
theorem dX4_nobodyTwice_46 : decode cX4_nobodyTwice 46 = .ok (.iload_n 1, 1) := by decide +kernel
theorem dX4_nobodyTwice_47 : decode cX4_nobodyTwice 47 = .ok (.iload_n 3, 1) := by decide +kernel
theorem dX4_nobodyTwice_48 : decode cX4_nobodyTwice 48 = .ok (.ior, 1) := by decide +kernel
theorem dX4_nobodyTwice_49 : decode cX4_nobodyTwice 49 = .ok (.istore_n 1, 1) := by decide +kernel
theorem dX4_nobodyTwice_50 : decode cX4_nobodyTwice 50 = .ok (.iinc 2 1, 3) := by decide +kernel
theorem dX4_nobodyTwice_53 : decode cX4_nobodyTwice 53 = .ok (.goto (-49), 3) := by decide +kernel
theorem dX4_nobodyTwice_56 : decode cX4_nobodyTwice 56 = .ok (.iconst 1, 1) := by decide +kernel
theorem dX4_nobodyTwice_57 : decode cX4_nobodyTwice 57 = .ok (.ireturn, 1) := by decide +kernel
theorem dX4_keepPicked_0 : decode cX4_keepPicked 0 = .ok (.iconst 0, 1) := by decide +kernel
theorem dX4_keepPicked_1 : decode cX4_keepPicked 1 = .ok (.istore_n 1, 1) := by decide +kernel
theorem dX4_keepPicked_2 : decode cX4_keepPicked 2 = .ok (.iload_n 1, 1) := by decide +kernel
theorem dX4_keepPicked_3 : decode cX4_keepPicked 3 = .ok (.iconst 4, 1) := by decide +kernel
theorem dX4_keepPicked_4 : decode cX4_keepPicked 4 = .ok (.if_icmp .ge 42, 3) := by decide +kernel
theorem dX4_keepPicked_7 : decode cX4_keepPicked 7 = .ok (.aload_n 0, 1) := by decide +kernel
theorem dX4_keepPicked_8 : decode cX4_keepPicked 8 = .ok (.getfield 26, 3) := by decide +kernel
theorem dX4_keepPicked_11 : decode cX4_keepPicked 11 = .ok (.iload_n 1, 1) := by decide +kernel
theorem dX4_keepPicked_12 : decode cX4_keepPicked 12 = .ok (.aload_n 0, 1) := by decide +kernel
theorem dX4_keepPicked_13 : decode cX4_keepPicked 13 = .ok (.getfield 23, 3) := by decide +kernel
theorem dX4_keepPicked_16 : decode cX4_keepPicked 16 = .ok (.iload_n 1, 1) := by decide +kernel
theorem dX4_keepPicked_17 : decode cX4_keepPicked 17 = .ok (.iaload, 1) := by decide +kernel
theorem dX4_keepPicked_18 : decode cX4_keepPicked 18 = .ok (.aload_n 0, 1) := by decide +kernel
theorem dX4_keepPicked_19 : decode cX4_keepPicked 19 = .ok (.getfield 9, 3) := by decide +kernel
theorem dX4_keepPicked_22 : decode cX4_keepPicked 22 = .ok (.getfield 33, 3) := by decide +kernel
theorem dX4_keepPicked_25 : decode cX4_keepPicked 25 = .ok (.if_icmp .ge 12, 3) := by decide +kernel
theorem dX4_keepPicked_28 : decode cX4_keepPicked 28 = .ok (.aload_n 0, 1) := by decide +kernel
theorem dX4_keepPicked_29 : decode cX4_keepPicked 29 = .ok (.getfield 23, 3) := by decide +kernel
theorem dX4_keepPicked_32 : decode cX4_keepPicked 32 = .ok (.iload_n 1, 1) := by decide +kernel
theorem dX4_keepPicked_33 : decode cX4_keepPicked 33 = .ok (.iaload, 1) := by decide +kernel
theorem dX4_keepPicked_34 : decode cX4_keepPicked 34 = .ok (.goto 5, 3) := by decide +kernel
theorem dX4_keepPicked_37 : decode cX4_keepPicked 37 = .ok (.bipush (-2), 2) := by decide +kernel
theorem dX4_keepPicked_39 : decode cX4_keepPicked 39 = .ok (.iastore, 1) := by decide +kernel
theorem dX4_keepPicked_40 : decode cX4_keepPicked 40 = .ok (.iinc 1 1, 3) := by decide +kernel
theorem dX4_keepPicked_43 : decode cX4_keepPicked 43 = .ok (.goto (-41), 3) := by decide +kernel
theorem dX4_keepPicked_46 : decode cX4_keepPicked 46 = .ok (.return_, 1) := by decide +kernel
