theorem dX12_beat_0 : decode cX12_beat 0 = .ok (.aload_n 0, 1) := by decide +kernel
theorem dX12_beat_1 : decode cX12_beat 1 = .ok (.iconst 0, 1) := by decide +kernel
theorem dX12_beat_2 : decode cX12_beat 2 = .ok (.putfield 136, 3) := by decide +kernel
theorem dX12_beat_5 : decode cX12_beat 5 = .ok (.aload_n 0, 1) := by decide +kernel
theorem dX12_beat_6 : decode cX12_beat 6 = .ok (.iload_n 1, 1) := by decide +kernel
theorem dX12_beat_7 : decode cX12_beat 7 = .ok (.invokevirtual 396, 3) := by decide +kernel
theorem dX12_beat_10 : decode cX12_beat 10 = .ok (.ifCond .eq 18, 3) := by decide +kernel
theorem dX12_beat_13 : decode cX12_beat 13 = .ok (.aload_n 0, 1) := by decide +kernel
theorem dX12_beat_14 : decode cX12_beat 14 = .ok (.iload_n 2, 1) := by decide +kernel
theorem dX12_beat_15 : decode cX12_beat 15 = .ok (.invokevirtual 402, 3) := by decide +kernel
theorem dX12_beat_18 : decode cX12_beat 18 = .ok (.ifCond .eq 10, 3) := by decide +kernel
theorem dX12_beat_21 : decode cX12_beat 21 = .ok (.iload_n 3, 1) := by decide +kernel
theorem dX12_beat_22 : decode cX12_beat 22 = .ok (.invokestatic 405, 3) := by decide +kernel
theorem dX12_beat_25 : decode cX12_beat 25 = .ok (.ifCond .ne 5, 3) := by decide +kernel
theorem dX12_beat_28 : decode cX12_beat 28 = .ok (.iconst (-1), 1) := by decide +kernel
theorem dX12_beat_29 : decode cX12_beat 29 = .ok (.ireturn, 1) := by decide +kernel
theorem dX12_beat_30 : decode cX12_beat 30 = .ok (.aload_n 0, 1) := by decide +kernel
theorem dX12_beat_31 : decode cX12_beat 31 = .ok (.invokevirtual 434, 3) := by decide +kernel
theorem dX12_beat_34 : decode cX12_beat 34 = .ok (.aload_n 0, 1) := by decide +kernel
theorem dX12_beat_35 : decode cX12_beat 35 = .ok (.iconst 0, 1) := by decide +kernel
theorem dX12_beat_36 : decode cX12_beat 36 = .ok (.iload_n 1, 1) := by decide +kernel
theorem dX12_beat_37 : decode cX12_beat 37 = .ok (.iload_n 2, 1) := by decide +kernel
theorem dX12_beat_38 : decode cX12_beat 38 = .ok (.iload_n 3, 1) := by decide +kernel
theorem dX12_beat_39 : decode cX12_beat 39 = .ok (.aload_n 0, 1) := by decide +kernel
theorem dX12_beat_40 : decode cX12_beat 40 = .ok (.iconst 0, 1) := by decide +kernel
theorem dX12_beat_41 : decode cX12_beat 41 = .ok (.iconst 0, 1) := by decide +kernel
theorem dX12_beat_42 : decode cX12_beat 42 = .ok (.invokevirtual 384, 3) := by decide +kernel
theorem dX12_beat_45 : decode cX12_beat 45 = .ok (.invokevirtual 388, 3) := by decide +kernel
theorem dX12_beat_48 : decode cX12_beat 48 = .ok (.aload_n 0, 1) := by decide +kernel
theorem dX12_beat_49 : decode cX12_beat 49 = .ok (.getfield 81, 3) := by decide +kernel
theorem dX12_beat_52 : decode cX12_beat 52 = .ok (.iconst 0, 1) := by decide +kernel
theorem dX12_beat_53 : decode cX12_beat 53 = .ok (.iload_n 1, 1) := by decide +kernel
theorem dX12_beat_54 : decode cX12_beat 54 = .ok (.iload_n 3, 1) := by decide +kernel
theorem dX12_beat_55 : decode cX12_beat 55 = .ok (.invokestatic 322, 3) := by decide +kernel
theorem dX12_beat_58 : decode cX12_beat 58 = .ok (.iaload, 1) := by decide +kernel
theorem dX12_beat_59 : decode cX12_beat 59 = .ok (.ireturn, 1) := by decide +kernel
theorem dX12_bake_0 : decode cX12_bake 0 = .ok (.aload_n 0, 1) := by decide +kernel
theorem dX12_bake_1 : decode cX12_bake 1 = .ok (.iconst 0, 1) := by decide +kernel
theorem dX12_bake_2 : decode cX12_bake 2 = .ok (.putfield 136, 3) := by decide +kernel
theorem dX12_bake_5 : decode cX12_bake 5 = .ok (.aload_n 0, 1) := by decide +kernel
theorem dX12_bake_6 : decode cX12_bake 6 = .ok (.iload_n 1, 1) := by decide +kernel
theorem dX12_bake_7 : decode cX12_bake 7 = .ok (.invokevirtual 396, 3) := by decide +kernel
theorem dX12_bake_10 : decode cX12_bake 10 = .ok (.ifCond .eq 35, 3) := by decide +kernel
theorem dX12_bake_13 : decode cX12_bake 13 = .ok (.iload_n 2, 1) := by decide +kernel
theorem dX12_bake_14 : decode cX12_bake 14 = .ok (.invokestatic 405, 3) := by decide +kernel
theorem dX12_bake_17 : decode cX12_bake 17 = .ok (.ifCond .eq 28, 3) := by decide +kernel
theorem dX12_bake_20 : decode cX12_bake 20 = .ok (.iload_n 3, 1) := by decide +kernel
theorem dX12_bake_21 : decode cX12_bake 21 = .ok (.ifCond .lt 24, 3) := by decide +kernel
theorem dX12_bake_24 : decode cX12_bake 24 = .ok (.iload_n 3, 1) := by decide +kernel
theorem dX12_bake_25 : decode cX12_bake 25 = .ok (.bipush 9, 2) := by decide +kernel
theorem dX12_bake_27 : decode cX12_bake 27 = .ok (.if_icmp .gt 18, 3) := by decide +kernel
theorem dX12_bake_30 : decode cX12_bake 30 = .ok (.aload_n 0, 1) := by decide +kernel
theorem dX12_bake_31 : decode cX12_bake 31 = .ok (.getfield 84, 3) := by decide +kernel
theorem dX12_bake_34 : decode cX12_bake 34 = .ok (.iconst 0, 1) := by decide +kernel
theorem dX12_bake_35 : decode cX12_bake 35 = .ok (.iload_n 1, 1) := by decide +kernel
theorem dX12_bake_36 : decode cX12_bake 36 = .ok (.iload_n 2, 1) := by decide +kernel
theorem dX12_bake_37 : decode cX12_bake 37 = .ok (.invokestatic 322, 3) := by decide +kernel
theorem dX12_bake_40 : decode cX12_bake 40 = .ok (.iaload, 1) := by decide +kernel
theorem dX12_bake_41 : decode cX12_bake 41 = .ok (.iload_n 3, 1) := by decide +kernel
theorem dX12_bake_42 : decode cX12_bake 42 = .ok (.if_icmp .ne 5, 3) := by decide +kernel
theorem dX12_bake_45 : decode cX12_bake 45 = .ok (.iconst 0, 1) := by decide +kernel
theorem dX12_bake_46 : decode cX12_bake 46 = .ok (.ireturn, 1) := by decide +kernel
theorem dX12_bake_47 : decode cX12_bake 47 = .ok (.aload_n 0, 1) := by decide +kernel
theorem dX12_bake_48 : decode cX12_bake 48 = .ok (.invokevirtual 434, 3) := by decide +kernel
theorem dX12_bake_51 : decode cX12_bake 51 = .ok (.aload_n 0, 1) := by decide +kernel
theorem dX12_bake_52 : decode cX12_bake 52 = .ok (.getfield 84, 3) := by decide +kernel
theorem dX12_bake_55 : decode cX12_bake 55 = .ok (.iconst 0, 1) := by decide +kernel
theorem dX12_bake_56 : decode cX12_bake 56 = .ok (.iload_n 1, 1) := by decide +kernel
theorem dX12_bake_57 : decode cX12_bake 57 = .ok (.iload_n 2, 1) := by decide +kernel
theorem dX12_bake_58 : decode cX12_bake 58 = .ok (.invokestatic 322, 3) := by decide +kernel
theorem dX12_bake_61 : decode cX12_bake 61 = .ok (.iload_n 3, 1) := by decide +kernel
theorem dX12_bake_62 : decode cX12_bake 62 = .ok (.iastore, 1) := by decide +kernel
theorem dX12_bake_63 : decode cX12_bake 63 = .ok (.iconst 1, 1) := by decide +kernel
theorem dX12_bake_64 : decode cX12_bake 64 = .ok (.ireturn, 1) := by decide +kernel
theorem dX12_carry_0 : decode cX12_carry 0 = .ok (.aload_n 0, 1) := by decide +kernel
theorem dX12_carry_1 : decode cX12_carry 1 = .ok (.iconst 0, 1) := by decide +kernel
theorem dX12_carry_2 : decode cX12_carry 2 = .ok (.putfield 136, 3) := by decide +kernel
theorem dX12_carry_5 : decode cX12_carry 5 = .ok (.aload_n 0, 1) := by decide +kernel
theorem dX12_carry_6 : decode cX12_carry 6 = .ok (.iload_n 1, 1) := by decide +kernel
theorem dX12_carry_7 : decode cX12_carry 7 = .ok (.invokevirtual 396, 3) := by decide +kernel
theorem dX12_carry_10 : decode cX12_carry 10 = .ok (.ifCond .eq 39, 3) := by decide +kernel
theorem dX12_carry_13 : decode cX12_carry 13 = .ok (.iload_n 2, 1) := by decide +kernel
theorem dX12_carry_14 : decode cX12_carry 14 = .ok (.invokestatic 405, 3) := by decide +kernel
theorem dX12_carry_17 : decode cX12_carry 17 = .ok (.ifCond .eq 32, 3) := by decide +kernel
theorem dX12_carry_20 : decode cX12_carry 20 = .ok (.iload_n 3, 1) := by decide +kernel
theorem dX12_carry_21 : decode cX12_carry 21 = .ok (.ifCond .lt 28, 3) := by decide +kernel
theorem dX12_carry_24 : decode cX12_carry 24 = .ok (.iload_n 3, 1) := by decide +kernel
theorem dX12_carry_25 : decode cX12_carry 25 = .ok (.aload_n 0, 1) := by decide +kernel
theorem dX12_carry_26 : decode cX12_carry 26 = .ok (.iload_n 1, 1) := by decide +kernel
theorem dX12_carry_27 : decode cX12_carry 27 = .ok (.iload_n 2, 1) := by decide +kernel
theorem dX12_carry_28 : decode cX12_carry 28 = .ok (.invokevirtual 364, 3) := by decide +kernel
theorem dX12_carry_31 : decode cX12_carry 31 = .ok (.if_icmp .gt 18, 3) := by decide +kernel
theorem dX12_carry_34 : decode cX12_carry 34 = .ok (.aload_n 0, 1) := by decide +kernel
theorem dX12_carry_35 : decode cX12_carry 35 = .ok (.getfield 81, 3) := by decide +kernel
theorem dX12_carry_38 : decode cX12_carry 38 = .ok (.iconst 0, 1) := by decide +kernel
theorem dX12_carry_39 : decode cX12_carry 39 = .ok (.iload_n 1, 1) := by decide +kernel
theorem dX12_carry_40 : decode cX12_carry 40 = .ok (.iload_n 2, 1) := by decide +kernel
theorem dX12_carry_41 : decode cX12_carry 41 = .ok (.invokestatic 322, 3) := by decide +kernel
theorem dX12_carry_44 : decode cX12_carry 44 = .ok (.iaload, 1) := by decide +kernel
theorem dX12_carry_45 : decode cX12_carry 45 = .ok (.iload_n 3, 1) := by decide +kernel
theorem dX12_carry_46 : decode cX12_carry 46 = .ok (.if_icmp .ne 5, 3) := by decide +kernel
theorem dX12_carry_49 : decode cX12_carry 49 = .ok (.iconst (-1), 1) := by decide +kernel
theorem dX12_carry_50 : decode cX12_carry 50 = .ok (.ireturn, 1) := by decide +kernel
theorem dX12_carry_51 : decode cX12_carry 51 = .ok (.aload_n 0, 1) := by decide +kernel
theorem dX12_carry_52 : decode cX12_carry 52 = .ok (.invokevirtual 434, 3) := by decide +kernel
theorem dX12_carry_55 : decode cX12_carry 55 = .ok (.aload_n 0, 1) := by decide +kernel
theorem dX12_carry_56 : decode cX12_carry 56 = .ok (.getfield 81, 3) := by decide +kernel
theorem dX12_carry_59 : decode cX12_carry 59 = .ok (.iconst 0, 1) := by decide +kernel
theorem dX12_carry_60 : decode cX12_carry 60 = .ok (.iload_n 1, 1) := by decide +kernel
theorem dX12_carry_61 : decode cX12_carry 61 = .ok (.iload_n 2, 1) := by decide +kernel
theorem dX12_carry_62 : decode cX12_carry 62 = .ok (.invokestatic 322, 3) := by decide +kernel
theorem dX12_carry_65 : decode cX12_carry 65 = .ok (.iload_n 3, 1) := by decide +kernel
theorem dX12_carry_66 : decode cX12_carry 66 = .ok (.iastore, 1) := by decide +kernel
theorem dX12_carry_67 : decode cX12_carry 67 = .ok (.aload_n 0, 1) := by decide +kernel
theorem dX12_carry_68 : decode cX12_carry 68 = .ok (.iconst 0, 1) := by decide +kernel
theorem dX12_carry_69 : decode cX12_carry 69 = .ok (.iload_n 1, 1) := by decide +kernel
theorem dX12_carry_70 : decode cX12_carry 70 = .ok (.invokevirtual 339, 3) := by decide +kernel
theorem dX12_carry_73 : decode cX12_carry 73 = .ok (.ireturn, 1) := by decide +kernel
theorem dX12_go_0 : decode cX12_go 0 = .ok (.aload_n 0, 1) := by decide +kernel
theorem dX12_go_1 : decode cX12_go 1 = .ok (.iconst 0, 1) := by decide +kernel
theorem dX12_go_2 : decode cX12_go 2 = .ok (.putfield 136, 3) := by decide +kernel
theorem dX12_go_5 : decode cX12_go 5 = .ok (.iload_n 1, 1) := by decide +kernel
theorem dX12_go_6 : decode cX12_go 6 = .ok (.ifCond .lt 24, 3) := by decide +kernel
theorem dX12_go_9 : decode cX12_go 9 = .ok (.iload_n 1, 1) := by decide +kernel
theorem dX12_go_10 : decode cX12_go 10 = .ok (.sipush 200, 3) := by decide +kernel
theorem dX12_go_13 : decode cX12_go 13 = .ok (.if_icmp .gt 17, 3) := by decide +kernel
theorem dX12_go_16 : decode cX12_go 16 = .ok (.aload_n 0, 1) := by decide +kernel
theorem dX12_go_17 : decode cX12_go 17 = .ok (.getfield 72, 3) := by decide +kernel
theorem dX12_go_20 : decode cX12_go 20 = .ok (.iconst 0, 1) := by decide +kernel
theorem dX12_go_21 : decode cX12_go 21 = .ok (.iaload, 1) := by decide +kernel
theorem dX12_go_22 : decode cX12_go 22 = .ok (.iload_n 1, 1) := by decide +kernel
theorem dX12_go_23 : decode cX12_go 23 = .ok (.iadd, 1) := by decide +kernel
theorem dX12_go_24 : decode cX12_go 24 = .ok (.sipush 9800, 3) := by decide +kernel
theorem dX12_go_27 : decode cX12_go 27 = .ok (.if_icmp .le 5, 3) := by decide +kernel
theorem dX12_go_30 : decode cX12_go 30 = .ok (.iconst (-1), 1) := by decide +kernel
theorem dX12_go_31 : decode cX12_go 31 = .ok (.ireturn, 1) := by decide +kernel
theorem dX12_go_32 : decode cX12_go 32 = .ok (.iload_n 1, 1) := by decide +kernel
theorem dX12_go_33 : decode cX12_go 33 = .ok (.ifCond .le 8, 3) := by decide +kernel
theorem dX12_go_36 : decode cX12_go 36 = .ok (.aload_n 0, 1) := by decide +kernel
theorem dX12_go_37 : decode cX12_go 37 = .ok (.iconst 0, 1) := by decide +kernel
theorem dX12_go_38 : decode cX12_go 38 = .ok (.putfield 296, 3) := by decide +kernel
theorem dX12_go_41 : decode cX12_go 41 = .ok (.iconst 0, 1) := by decide +kernel
theorem dX12_go_42 : decode cX12_go 42 = .ok (.istore_n 2, 1) := by decide +kernel
theorem dX12_go_43 : decode cX12_go 43 = .ok (.iload_n 2, 1) := by decide +kernel
theorem dX12_go_44 : decode cX12_go 44 = .ok (.iload_n 1, 1) := by decide +kernel
theorem dX12_go_45 : decode cX12_go 45 = .ok (.if_icmp .ge 15, 3) := by decide +kernel
theorem dX12_go_48 : decode cX12_go 48 = .ok (.aload_n 0, 1) := by decide +kernel
theorem dX12_go_49 : decode cX12_go 49 = .ok (.iconst 0, 1) := by decide +kernel
theorem dX12_go_50 : decode cX12_go 50 = .ok (.iconst 1, 1) := by decide +kernel
theorem dX12_go_51 : decode cX12_go 51 = .ok (.invokevirtual 392, 3) := by decide +kernel
theorem dX12_go_54 : decode cX12_go 54 = .ok (.iinc 2 1, 3) := by decide +kernel
theorem dX12_go_57 : decode cX12_go 57 = .ok (.goto (-14), 3) := by decide +kernel
theorem dX12_go_60 : decode cX12_go 60 = .ok (.aload_n 0, 1) := by decide +kernel
theorem dX12_go_61 : decode cX12_go 61 = .ok (.getfield 72, 3) := by decide +kernel
theorem dX12_go_64 : decode cX12_go 64 = .ok (.iconst 0, 1) := by decide +kernel
theorem dX12_go_65 : decode cX12_go 65 = .ok (.iaload, 1) := by decide +kernel
theorem dX12_go_66 : decode cX12_go 66 = .ok (.ireturn, 1) := by decide +kernel
theorem dX12_ahead_0 : decode cX12_ahead 0 = .ok (.aload_n 0, 1) := by decide +kernel
theorem dX12_ahead_1 : decode cX12_ahead 1 = .ok (.iconst 0, 1) := by decide +kernel
theorem dX12_ahead_2 : decode cX12_ahead 2 = .ok (.putfield 136, 3) := by decide +kernel
theorem dX12_ahead_5 : decode cX12_ahead 5 = .ok (.iload_n 1, 1) := by decide +kernel
theorem dX12_ahead_6 : decode cX12_ahead 6 = .ok (.ifCond .lt 44, 3) := by decide +kernel
theorem dX12_ahead_9 : decode cX12_ahead 9 = .ok (.iload_n 1, 1) := by decide +kernel
theorem dX12_ahead_10 : decode cX12_ahead 10 = .ok (.sipush 200, 3) := by decide +kernel
theorem dX12_ahead_13 : decode cX12_ahead 13 = .ok (.if_icmp .gt 37, 3) := by decide +kernel
theorem dX12_ahead_16 : decode cX12_ahead 16 = .ok (.iload_n 2, 1) := by decide +kernel
theorem dX12_ahead_17 : decode cX12_ahead 17 = .ok (.ifCond .lt 33, 3) := by decide +kernel
theorem dX12_ahead_20 : decode cX12_ahead 20 = .ok (.iload_n 2, 1) := by decide +kernel
theorem dX12_ahead_21 : decode cX12_ahead 21 = .ok (.iconst 3, 1) := by decide +kernel
theorem dX12_ahead_22 : decode cX12_ahead 22 = .ok (.if_icmp .gt 28, 3) := by decide +kernel
theorem dX12_ahead_25 : decode cX12_ahead 25 = .ok (.iload_n 2, 1) := by decide +kernel
theorem dX12_ahead_26 : decode cX12_ahead 26 = .ok (.ifCond .ne 11, 3) := by decide +kernel
theorem dX12_ahead_29 : decode cX12_ahead 29 = .ok (.aload_n 0, 1) := by decide +kernel
theorem dX12_ahead_30 : decode cX12_ahead 30 = .ok (.iload_n 3, 1) := by decide +kernel
theorem dX12_ahead_31 : decode cX12_ahead 31 = .ok (.invokevirtual 396, 3) := by decide +kernel
theorem dX12_ahead_34 : decode cX12_ahead 34 = .ok (.ifCond .eq 16, 3) := by decide +kernel
theorem dX12_ahead_37 : decode cX12_ahead 37 = .ok (.iload_n 2, 1) := by decide +kernel
theorem dX12_ahead_38 : decode cX12_ahead 38 = .ok (.iconst 2, 1) := by decide +kernel
theorem dX12_ahead_39 : decode cX12_ahead 39 = .ok (.if_icmp .ne 13, 3) := by decide +kernel
theorem dX12_ahead_42 : decode cX12_ahead 42 = .ok (.aload_n 0, 1) := by decide +kernel
theorem dX12_ahead_43 : decode cX12_ahead 43 = .ok (.iload_n 3, 1) := by decide +kernel
theorem dX12_ahead_44 : decode cX12_ahead 44 = .ok (.invokevirtual 402, 3) := by decide +kernel
theorem dX12_ahead_47 : decode cX12_ahead 47 = .ok (.ifCond .ne 5, 3) := by decide +kernel
theorem dX12_ahead_50 : decode cX12_ahead 50 = .ok (.iconst (-1), 1) := by decide +kernel
theorem dX12_ahead_51 : decode cX12_ahead 51 = .ok (.ireturn, 1) := by decide +kernel
theorem dX12_ahead_52 : decode cX12_ahead 52 = .ok (.aload_n 0, 1) := by decide +kernel
theorem dX12_ahead_53 : decode cX12_ahead 53 = .ok (.iconst 1, 1) := by decide +kernel
theorem dX12_ahead_54 : decode cX12_ahead 54 = .ok (.iconst 0, 1) := by decide +kernel
theorem dX12_ahead_55 : decode cX12_ahead 55 = .ok (.invokevirtual 431, 3) := by decide +kernel
theorem dX12_ahead_58 : decode cX12_ahead 58 = .ok (.aload_n 0, 1) := by decide +kernel
theorem dX12_ahead_59 : decode cX12_ahead 59 = .ok (.iload_n 1, 1) := by decide +kernel
theorem dX12_ahead_60 : decode cX12_ahead 60 = .ok (.invokevirtual 437, 3) := by decide +kernel
theorem dX12_ahead_63 : decode cX12_ahead 63 = .ok (.iload_n 2, 1) := by decide +kernel
theorem dX12_ahead_64 : decode cX12_ahead 64 = .ok (.tableswitch 59 0 2 #[28, 35, 49], 28) := by decide +kernel
theorem dX12_ahead_92 : decode cX12_ahead 92 = .ok (.aload_n 0, 1) := by decide +kernel
theorem dX12_ahead_93 : decode cX12_ahead 93 = .ok (.iconst 1, 1) := by decide +kernel
theorem dX12_ahead_94 : decode cX12_ahead 94 = .ok (.iload_n 3, 1) := by decide +kernel
theorem dX12_ahead_95 : decode cX12_ahead 95 = .ok (.invokevirtual 339, 3) := by decide +kernel
theorem dX12_ahead_98 : decode cX12_ahead 98 = .ok (.ireturn, 1) := by decide +kernel
theorem dX12_ahead_99 : decode cX12_ahead 99 = .ok (.aload_n 0, 1) := by decide +kernel
theorem dX12_ahead_100 : decode cX12_ahead 100 = .ok (.getfield 78, 3) := by decide +kernel
theorem dX12_ahead_103 : decode cX12_ahead 103 = .ok (.iconst 1, 1) := by decide +kernel
theorem dX12_ahead_104 : decode cX12_ahead 104 = .ok (.iaload, 1) := by decide +kernel
theorem dX12_ahead_105 : decode cX12_ahead 105 = .ok (.aload_n 0, 1) := by decide +kernel
theorem dX12_ahead_106 : decode cX12_ahead 106 = .ok (.getfield 78, 3) := by decide +kernel
theorem dX12_ahead_109 : decode cX12_ahead 109 = .ok (.iconst 0, 1) := by decide +kernel
theorem dX12_ahead_110 : decode cX12_ahead 110 = .ok (.iaload, 1) := by decide +kernel
theorem dX12_ahead_111 : decode cX12_ahead 111 = .ok (.isub, 1) := by decide +kernel
theorem dX12_ahead_112 : decode cX12_ahead 112 = .ok (.ireturn, 1) := by decide +kernel
theorem dX12_ahead_113 : decode cX12_ahead 113 = .ok (.aload_n 0, 1) := by decide +kernel
theorem dX12_ahead_114 : decode cX12_ahead 114 = .ok (.getfield 87, 3) := by decide +kernel
theorem dX12_ahead_117 : decode cX12_ahead 117 = .ok (.bipush 6, 2) := by decide +kernel
theorem dX12_ahead_119 : decode cX12_ahead 119 = .ok (.iload_n 3, 1) := by decide +kernel
theorem dX12_ahead_120 : decode cX12_ahead 120 = .ok (.iadd, 1) := by decide +kernel
theorem dX12_ahead_121 : decode cX12_ahead 121 = .ok (.iaload, 1) := by decide +kernel
theorem dX12_ahead_122 : decode cX12_ahead 122 = .ok (.ireturn, 1) := by decide +kernel
theorem dX12_ahead_123 : decode cX12_ahead 123 = .ok (.aload_n 0, 1) := by decide +kernel
theorem dX12_ahead_124 : decode cX12_ahead 124 = .ok (.iconst 1, 1) := by decide +kernel
theorem dX12_ahead_125 : decode cX12_ahead 125 = .ok (.invokevirtual 440, 3) := by decide +kernel
theorem dX12_ahead_128 : decode cX12_ahead 128 = .ok (.ireturn, 1) := by decide +kernel
theorem dX12_when_0 : decode cX12_when 0 = .ok (.aload_n 0, 1) := by decide +kernel
theorem dX12_when_1 : decode cX12_when 1 = .ok (.iconst 0, 1) := by decide +kernel
theorem dX12_when_2 : decode cX12_when 2 = .ok (.putfield 136, 3) := by decide +kernel
theorem dX12_when_5 : decode cX12_when 5 = .ok (.aload_n 0, 1) := by decide +kernel
theorem dX12_when_6 : decode cX12_when 6 = .ok (.iload_n 1, 1) := by decide +kernel
theorem dX12_when_7 : decode cX12_when 7 = .ok (.invokevirtual 396, 3) := by decide +kernel
theorem dX12_when_10 : decode cX12_when 10 = .ok (.ifCond .eq 12, 3) := by decide +kernel
theorem dX12_when_13 : decode cX12_when 13 = .ok (.aload_n 0, 1) := by decide +kernel
theorem dX12_when_14 : decode cX12_when 14 = .ok (.iload_n 2, 1) := by decide +kernel
theorem dX12_when_15 : decode cX12_when 15 = .ok (.iload_n 3, 1) := by decide +kernel
theorem dX12_when_16 : decode cX12_when 16 = .ok (.invokevirtual 412, 3) := by decide +kernel
theorem dX12_when_19 : decode cX12_when 19 = .ok (.ifCond .ne 5, 3) := by decide +kernel
theorem dX12_when_22 : decode cX12_when 22 = .ok (.iconst (-1), 1) := by decide +kernel
theorem dX12_when_23 : decode cX12_when 23 = .ok (.ireturn, 1) := by decide +kernel
theorem dX12_when_24 : decode cX12_when 24 = .ok (.aload_n 0, 1) := by decide +kernel
theorem dX12_when_25 : decode cX12_when 25 = .ok (.iconst 1, 1) := by decide +kernel
theorem dX12_when_26 : decode cX12_when 26 = .ok (.iconst 0, 1) := by decide +kernel
theorem dX12_when_27 : decode cX12_when 27 = .ok (.invokevirtual 431, 3) := by decide +kernel
theorem dX12_when_30 : decode cX12_when 30 = .ok (.iconst 0, 1) := by decide +kernel
theorem dX12_when_31 : decode cX12_when 31 = .ok (.istore 4, 2) := by decide +kernel
theorem dX12_when_33 : decode cX12_when 33 = .ok (.iload 4, 2) := by decide +kernel
theorem dX12_when_35 : decode cX12_when 35 = .ok (.sipush 199, 3) := by decide +kernel
theorem dX12_when_38 : decode cX12_when 38 = .ok (.if_icmp .gt 29, 3) := by decide +kernel
theorem dX12_when_41 : decode cX12_when 41 = .ok (.aload_n 0, 1) := by decide +kernel
theorem dX12_when_42 : decode cX12_when 42 = .ok (.iconst 1, 1) := by decide +kernel
theorem dX12_when_43 : decode cX12_when 43 = .ok (.iload_n 1, 1) := by decide +kernel
theorem dX12_when_44 : decode cX12_when 44 = .ok (.iload_n 2, 1) := by decide +kernel
theorem dX12_when_45 : decode cX12_when 45 = .ok (.iload_n 3, 1) := by decide +kernel
theorem dX12_when_46 : decode cX12_when 46 = .ok (.invokevirtual 408, 3) := by decide +kernel
theorem dX12_when_49 : decode cX12_when 49 = .ok (.ifCond .eq 6, 3) := by decide +kernel
theorem dX12_when_52 : decode cX12_when 52 = .ok (.iload 4, 2) := by decide +kernel
theorem dX12_when_54 : decode cX12_when 54 = .ok (.ireturn, 1) := by decide +kernel
theorem dX12_when_55 : decode cX12_when 55 = .ok (.aload_n 0, 1) := by decide +kernel
theorem dX12_when_56 : decode cX12_when 56 = .ok (.iconst 1, 1) := by decide +kernel
theorem dX12_when_57 : decode cX12_when 57 = .ok (.iconst 0, 1) := by decide +kernel
theorem dX12_when_58 : decode cX12_when 58 = .ok (.invokevirtual 392, 3) := by decide +kernel
theorem dX12_when_61 : decode cX12_when 61 = .ok (.iinc 4 1, 3) := by decide +kernel
theorem dX12_when_64 : decode cX12_when 64 = .ok (.goto (-31), 3) := by decide +kernel
theorem dX12_when_67 : decode cX12_when 67 = .ok (.bipush (-2), 2) := by decide +kernel
theorem dX12_when_69 : decode cX12_when 69 = .ok (.ireturn, 1) := by decide +kernel
theorem dX12_areaBy_0 : decode cX12_areaBy 0 = .ok (.aload_n 0, 1) := by decide +kernel
theorem dX12_areaBy_1 : decode cX12_areaBy 1 = .ok (.iconst 0, 1) := by decide +kernel
theorem dX12_areaBy_2 : decode cX12_areaBy 2 = .ok (.iconst 0, 1) := by decide +kernel
theorem dX12_areaBy_3 : decode cX12_areaBy 3 = .ok (.invokevirtual 384, 3) := by decide +kernel
theorem dX12_areaBy_6 : decode cX12_areaBy 6 = .ok (.istore_n 2, 1) := by decide +kernel
theorem dX12_areaBy_7 : decode cX12_areaBy 7 = .ok (.aload_n 0, 1) := by decide +kernel
theorem dX12_areaBy_8 : decode cX12_areaBy 8 = .ok (.iconst 1, 1) := by decide +kernel
theorem dX12_areaBy_9 : decode cX12_areaBy 9 = .ok (.iconst 0, 1) := by decide +kernel
theorem dX12_areaBy_10 : decode cX12_areaBy 10 = .ok (.invokevirtual 431, 3) := by decide +kernel
theorem dX12_areaBy_13 : decode cX12_areaBy 13 = .ok (.iconst 0, 1) := by decide +kernel
theorem dX12_areaBy_14 : decode cX12_areaBy 14 = .ok (.istore_n 3, 1) := by decide +kernel
theorem dX12_areaBy_15 : decode cX12_areaBy 15 = .ok (.iload_n 3, 1) := by decide +kernel
theorem dX12_areaBy_16 : decode cX12_areaBy 16 = .ok (.iconst 4, 1) := by decide +kernel
theorem dX12_areaBy_17 : decode cX12_areaBy 17 = .ok (.if_icmp .ge 54, 3) := by decide +kernel
theorem dX12_areaBy_20 : decode cX12_areaBy 20 = .ok (.aload_n 0, 1) := by decide +kernel
theorem dX12_areaBy_21 : decode cX12_areaBy 21 = .ok (.getfield 96, 3) := by decide +kernel
theorem dX12_areaBy_24 : decode cX12_areaBy 24 = .ok (.iload_n 3, 1) := by decide +kernel
theorem dX12_areaBy_25 : decode cX12_areaBy 25 = .ok (.iaload, 1) := by decide +kernel
theorem dX12_areaBy_26 : decode cX12_areaBy 26 = .ok (.ifCond .lt 39, 3) := by decide +kernel
theorem dX12_areaBy_29 : decode cX12_areaBy 29 = .ok (.aload_n 0, 1) := by decide +kernel
theorem dX12_areaBy_30 : decode cX12_areaBy 30 = .ok (.getfield 81, 3) := by decide +kernel
theorem dX12_areaBy_33 : decode cX12_areaBy 33 = .ok (.iconst 1, 1) := by decide +kernel
theorem dX12_areaBy_34 : decode cX12_areaBy 34 = .ok (.iload_n 1, 1) := by decide +kernel
theorem dX12_areaBy_35 : decode cX12_areaBy 35 = .ok (.iload_n 3, 1) := by decide +kernel
theorem dX12_areaBy_36 : decode cX12_areaBy 36 = .ok (.invokestatic 322, 3) := by decide +kernel
theorem dX12_areaBy_39 : decode cX12_areaBy 39 = .ok (.aload_n 0, 1) := by decide +kernel
theorem dX12_areaBy_40 : decode cX12_areaBy 40 = .ok (.iconst 0, 1) := by decide +kernel
theorem dX12_areaBy_41 : decode cX12_areaBy 41 = .ok (.iload_n 1, 1) := by decide +kernel
theorem dX12_areaBy_42 : decode cX12_areaBy 42 = .ok (.aload_n 0, 1) := by decide +kernel
theorem dX12_areaBy_43 : decode cX12_areaBy 43 = .ok (.getfield 96, 3) := by decide +kernel
theorem dX12_areaBy_46 : decode cX12_areaBy 46 = .ok (.iload_n 3, 1) := by decide +kernel
theorem dX12_areaBy_47 : decode cX12_areaBy 47 = .ok (.iaload, 1) := by decide +kernel
theorem dX12_areaBy_48 : decode cX12_areaBy 48 = .ok (.iload_n 3, 1) := by decide +kernel
theorem dX12_areaBy_49 : decode cX12_areaBy 49 = .ok (.aload_n 0, 1) := by decide +kernel
theorem dX12_areaBy_50 : decode cX12_areaBy 50 = .ok (.getfield 84, 3) := by decide +kernel
theorem dX12_areaBy_53 : decode cX12_areaBy 53 = .ok (.iconst 0, 1) := by decide +kernel
theorem dX12_areaBy_54 : decode cX12_areaBy 54 = .ok (.iload_n 1, 1) := by decide +kernel
theorem dX12_areaBy_55 : decode cX12_areaBy 55 = .ok (.iload_n 3, 1) := by decide +kernel
theorem dX12_areaBy_56 : decode cX12_areaBy 56 = .ok (.invokestatic 322, 3) := by decide +kernel
theorem dX12_areaBy_59 : decode cX12_areaBy 59 = .ok (.iaload, 1) := by decide +kernel
theorem dX12_areaBy_60 : decode cX12_areaBy 60 = .ok (.iload_n 2, 1) := by decide +kernel
theorem dX12_areaBy_61 : decode cX12_areaBy 61 = .ok (.invokevirtual 376, 3) := by decide +kernel
theorem dX12_areaBy_64 : decode cX12_areaBy 64 = .ok (.iastore, 1) := by decide +kernel
theorem dX12_areaBy_65 : decode cX12_areaBy 65 = .ok (.iinc 3 1, 3) := by decide +kernel
theorem dX12_areaBy_68 : decode cX12_areaBy 68 = .ok (.goto (-53), 3) := by decide +kernel
theorem dX12_areaBy_71 : decode cX12_areaBy 71 = .ok (.aload_n 0, 1) := by decide +kernel
theorem dX12_areaBy_72 : decode cX12_areaBy 72 = .ok (.iconst 1, 1) := by decide +kernel
theorem dX12_areaBy_73 : decode cX12_areaBy 73 = .ok (.iload_n 1, 1) := by decide +kernel
theorem dX12_areaBy_74 : decode cX12_areaBy 74 = .ok (.invokevirtual 339, 3) := by decide +kernel
theorem dX12_areaBy_77 : decode cX12_areaBy 77 = .ok (.ireturn, 1) := by decide +kernel
theorem dX12_lays_0 : decode cX12_lays 0 = .ok (.iload_n 2, 1) := by decide +kernel
theorem dX12_lays_1 : decode cX12_lays 1 = .ok (.iconst 4, 1) := by decide +kernel
theorem dX12_lays_2 : decode cX12_lays 2 = .ok (.if_icmp .ge 76, 3) := by decide +kernel
theorem dX12_lays_5 : decode cX12_lays 5 = .ok (.iconst 0, 1) := by decide +kernel
theorem dX12_lays_6 : decode cX12_lays 6 = .ok (.istore 4, 2) := by decide +kernel
theorem dX12_lays_8 : decode cX12_lays 8 = .ok (.iload 4, 2) := by decide +kernel
theorem dX12_lays_10 : decode cX12_lays 10 = .ok (.aload_n 0, 1) := by decide +kernel
theorem dX12_lays_11 : decode cX12_lays 11 = .ok (.getfield 13, 3) := by decide +kernel
theorem dX12_lays_14 : decode cX12_lays 14 = .ok (.iconst 2, 1) := by decide +kernel
theorem dX12_lays_15 : decode cX12_lays 15 = .ok (.iaload, 1) := by decide +kernel
theorem dX12_lays_16 : decode cX12_lays 16 = .ok (.if_icmp .ge 44, 3) := by decide +kernel
theorem dX12_lays_19 : decode cX12_lays 19 = .ok (.iload_n 3, 1) := by decide +kernel
theorem dX12_lays_20 : decode cX12_lays 20 = .ok (.iload 4, 2) := by decide +kernel
theorem dX12_lays_22 : decode cX12_lays 22 = .ok (.ishr, 1) := by decide +kernel
theorem dX12_lays_23 : decode cX12_lays 23 = .ok (.iconst 1, 1) := by decide +kernel
theorem dX12_lays_24 : decode cX12_lays 24 = .ok (.iand, 1) := by decide +kernel
theorem dX12_lays_25 : decode cX12_lays 25 = .ok (.iconst 1, 1) := by decide +kernel
theorem dX12_lays_26 : decode cX12_lays 26 = .ok (.if_icmp .ne 6, 3) := by decide +kernel
theorem dX12_lays_29 : decode cX12_lays 29 = .ok (.goto 25, 3) := by decide +kernel
theorem dX12_lays_32 : decode cX12_lays 32 = .ok (.aload_n 0, 1) := by decide +kernel
theorem dX12_lays_33 : decode cX12_lays 33 = .ok (.getfield 96, 3) := by decide +kernel
theorem dX12_lays_36 : decode cX12_lays 36 = .ok (.iload_n 2, 1) := by decide +kernel
theorem dX12_lays_37 : decode cX12_lays 37 = .ok (.iload 4, 2) := by decide +kernel
theorem dX12_lays_39 : decode cX12_lays 39 = .ok (.iastore, 1) := by decide +kernel
theorem dX12_lays_40 : decode cX12_lays 40 = .ok (.aload_n 0, 1) := by decide +kernel
theorem dX12_lays_41 : decode cX12_lays 41 = .ok (.iload_n 1, 1) := by decide +kernel
theorem dX12_lays_42 : decode cX12_lays 42 = .ok (.iload_n 2, 1) := by decide +kernel
theorem dX12_lays_43 : decode cX12_lays 43 = .ok (.iconst 1, 1) := by decide +kernel
theorem dX12_lays_44 : decode cX12_lays 44 = .ok (.iadd, 1) := by decide +kernel
theorem dX12_lays_45 : decode cX12_lays 45 = .ok (.iload_n 3, 1) := by decide +kernel
theorem dX12_lays_46 : decode cX12_lays 46 = .ok (.iconst 1, 1) := by decide +kernel
theorem dX12_lays_47 : decode cX12_lays 47 = .ok (.iload 4, 2) := by decide +kernel
theorem dX12_lays_49 : decode cX12_lays 49 = .ok (.ishl, 1) := by decide +kernel
theorem dX12_lays_50 : decode cX12_lays 50 = .ok (.ior, 1) := by decide +kernel
theorem dX12_lays_51 : decode cX12_lays 51 = .ok (.invokevirtual 443, 3) := by decide +kernel
theorem dX12_lays_54 : decode cX12_lays 54 = .ok (.iinc 4 1, 3) := by decide +kernel
theorem dX12_lays_57 : decode cX12_lays 57 = .ok (.goto (-49), 3) := by decide +kernel
theorem dX12_lays_60 : decode cX12_lays 60 = .ok (.aload_n 0, 1) := by decide +kernel
theorem dX12_lays_61 : decode cX12_lays 61 = .ok (.getfield 96, 3) := by decide +kernel
theorem dX12_lays_64 : decode cX12_lays 64 = .ok (.iload_n 2, 1) := by decide +kernel
theorem dX12_lays_65 : decode cX12_lays 65 = .ok (.bipush (-2), 2) := by decide +kernel
theorem dX12_lays_67 : decode cX12_lays 67 = .ok (.iastore, 1) := by decide +kernel
theorem dX12_lays_68 : decode cX12_lays 68 = .ok (.aload_n 0, 1) := by decide +kernel
theorem dX12_lays_69 : decode cX12_lays 69 = .ok (.iload_n 1, 1) := by decide +kernel
theorem dX12_lays_70 : decode cX12_lays 70 = .ok (.iload_n 2, 1) := by decide +kernel
theorem dX12_lays_71 : decode cX12_lays 71 = .ok (.iconst 1, 1) := by decide +kernel
theorem dX12_lays_72 : decode cX12_lays 72 = .ok (.iadd, 1) := by decide +kernel
theorem dX12_lays_73 : decode cX12_lays 73 = .ok (.iload_n 3, 1) := by decide +kernel
theorem dX12_lays_74 : decode cX12_lays 74 = .ok (.invokevirtual 443, 3) := by decide +kernel
theorem dX12_lays_77 : decode cX12_lays 77 = .ok (.return_, 1) := by decide +kernel
theorem dX12_lays_78 : decode cX12_lays 78 = .ok (.aload_n 0, 1) := by decide +kernel
theorem dX12_lays_79 : decode cX12_lays 79 = .ok (.iload_n 1, 1) := by decide +kernel
theorem dX12_lays_80 : decode cX12_lays 80 = .ok (.invokevirtual 447, 3) := by decide +kernel
theorem dX12_lays_83 : decode cX12_lays 83 = .ok (.istore 4, 2) := by decide +kernel
theorem dX12_lays_85 : decode cX12_lays 85 = .ok (.iload 4, 2) := by decide +kernel
theorem dX12_lays_87 : decode cX12_lays 87 = .ok (.aload_n 0, 1) := by decide +kernel
theorem dX12_lays_88 : decode cX12_lays 88 = .ok (.getfield 450, 3) := by decide +kernel
theorem dX12_lays_91 : decode cX12_lays 91 = .ok (.if_icmp .gt 4, 3) := by decide +kernel
theorem dX12_lays_94 : decode cX12_lays 94 = .ok (.return_, 1) := by decide +kernel
theorem dX12_lays_95 : decode cX12_lays 95 = .ok (.aload_n 0, 1) := by decide +kernel
theorem dX12_lays_96 : decode cX12_lays 96 = .ok (.iload 4, 2) := by decide +kernel
theorem dX12_lays_98 : decode cX12_lays 98 = .ok (.putfield 450, 3) := by decide +kernel
theorem dX12_lays_101 : decode cX12_lays 101 = .ok (.iconst 0, 1) := by decide +kernel
theorem dX12_lays_102 : decode cX12_lays 102 = .ok (.istore 5, 2) := by decide +kernel
theorem dX12_lays_104 : decode cX12_lays 104 = .ok (.iload 5, 2) := by decide +kernel
theorem dX12_lays_106 : decode cX12_lays 106 = .ok (.iconst 4, 1) := by decide +kernel
theorem dX12_lays_107 : decode cX12_lays 107 = .ok (.if_icmp .ge 23, 3) := by decide +kernel
theorem dX12_lays_110 : decode cX12_lays 110 = .ok (.aload_n 0, 1) := by decide +kernel
theorem dX12_lays_111 : decode cX12_lays 111 = .ok (.getfield 99, 3) := by decide +kernel
theorem dX12_lays_114 : decode cX12_lays 114 = .ok (.iload 5, 2) := by decide +kernel
theorem dX12_lays_116 : decode cX12_lays 116 = .ok (.aload_n 0, 1) := by decide +kernel
theorem dX12_lays_117 : decode cX12_lays 117 = .ok (.getfield 96, 3) := by decide +kernel
theorem dX12_lays_120 : decode cX12_lays 120 = .ok (.iload 5, 2) := by decide +kernel
theorem dX12_lays_122 : decode cX12_lays 122 = .ok (.iaload, 1) := by decide +kernel
theorem dX12_lays_123 : decode cX12_lays 123 = .ok (.iastore, 1) := by decide +kernel
theorem dX12_lays_124 : decode cX12_lays 124 = .ok (.iinc 5 1, 3) := by decide +kernel
theorem dX12_lays_127 : decode cX12_lays 127 = .ok (.goto (-23), 3) := by decide +kernel
theorem dX12_lays_130 : decode cX12_lays 130 = .ok (.return_, 1) := by decide +kernel
theorem dX12_laid_0 : decode cX12_laid 0 = .ok (.aload_n 0, 1) := by decide +kernel
theorem dX12_laid_1 : decode cX12_laid 1 = .ok (.iconst 0, 1) := by decide +kernel
theorem dX12_laid_2 : decode cX12_laid 2 = .ok (.putfield 136, 3) := by decide +kernel
theorem dX12_laid_5 : decode cX12_laid 5 = .ok (.aload_n 0, 1) := by decide +kernel
theorem dX12_laid_6 : decode cX12_laid 6 = .ok (.iload_n 1, 1) := by decide +kernel
theorem dX12_laid_7 : decode cX12_laid 7 = .ok (.invokevirtual 396, 3) := by decide +kernel
theorem dX12_laid_10 : decode cX12_laid 10 = .ok (.ifCond .eq 12, 3) := by decide +kernel
theorem dX12_laid_13 : decode cX12_laid 13 = .ok (.iload_n 2, 1) := by decide +kernel
theorem dX12_laid_14 : decode cX12_laid 14 = .ok (.ifCond .lt 8, 3) := by decide +kernel
theorem dX12_laid_17 : decode cX12_laid 17 = .ok (.iload_n 2, 1) := by decide +kernel
theorem dX12_laid_18 : decode cX12_laid 18 = .ok (.iconst 4, 1) := by decide +kernel
theorem dX12_laid_19 : decode cX12_laid 19 = .ok (.if_icmp .le 5, 3) := by decide +kernel
theorem dX12_laid_22 : decode cX12_laid 22 = .ok (.iconst (-1), 1) := by decide +kernel
theorem dX12_laid_23 : decode cX12_laid 23 = .ok (.ireturn, 1) := by decide +kernel
theorem dX12_laid_24 : decode cX12_laid 24 = .ok (.aload_n 0, 1) := by decide +kernel
theorem dX12_laid_25 : decode cX12_laid 25 = .ok (.iconst (-1), 1) := by decide +kernel
theorem dX12_laid_26 : decode cX12_laid 26 = .ok (.putfield 450, 3) := by decide +kernel
theorem dX12_laid_29 : decode cX12_laid 29 = .ok (.aload_n 0, 1) := by decide +kernel
theorem dX12_laid_30 : decode cX12_laid 30 = .ok (.iload_n 1, 1) := by decide +kernel
theorem dX12_laid_31 : decode cX12_laid 31 = .ok (.iconst 0, 1) := by decide +kernel
theorem dX12_laid_32 : decode cX12_laid 32 = .ok (.iconst 0, 1) := by decide +kernel
theorem dX12_laid_33 : decode cX12_laid 33 = .ok (.invokevirtual 443, 3) := by decide +kernel
theorem dX12_laid_36 : decode cX12_laid 36 = .ok (.iload_n 2, 1) := by decide +kernel
theorem dX12_laid_37 : decode cX12_laid 37 = .ok (.iconst 4, 1) := by decide +kernel
theorem dX12_laid_38 : decode cX12_laid 38 = .ok (.if_icmp .ne 10, 3) := by decide +kernel
theorem dX12_laid_41 : decode cX12_laid 41 = .ok (.aload_n 0, 1) := by decide +kernel
theorem dX12_laid_42 : decode cX12_laid 42 = .ok (.getfield 450, 3) := by decide +kernel
theorem dX12_laid_45 : decode cX12_laid 45 = .ok (.goto 9, 3) := by decide +kernel
theorem dX12_laid_48 : decode cX12_laid 48 = .ok (.aload_n 0, 1) := by decide +kernel
theorem dX12_laid_49 : decode cX12_laid 49 = .ok (.getfield 99, 3) := by decide +kernel
theorem dX12_laid_52 : decode cX12_laid 52 = .ok (.iload_n 2, 1) := by decide +kernel
theorem dX12_laid_53 : decode cX12_laid 53 = .ok (.iaload, 1) := by decide +kernel
theorem dX12_laid_54 : decode cX12_laid 54 = .ok (.ireturn, 1) := by decide +kernel
theorem dX12_cakeFor_0 : decode cX12_cakeFor 0 = .ok (.aload_n 0, 1) := by decide +kernel
theorem dX12_cakeFor_1 : decode cX12_cakeFor 1 = .ok (.iconst 0, 1) := by decide +kernel
theorem dX12_cakeFor_2 : decode cX12_cakeFor 2 = .ok (.putfield 136, 3) := by decide +kernel
theorem dX12_cakeFor_5 : decode cX12_cakeFor 5 = .ok (.aload_n 0, 1) := by decide +kernel
theorem dX12_cakeFor_6 : decode cX12_cakeFor 6 = .ok (.iload_n 1, 1) := by decide +kernel
theorem dX12_cakeFor_7 : decode cX12_cakeFor 7 = .ok (.invokevirtual 396, 3) := by decide +kernel
theorem dX12_cakeFor_10 : decode cX12_cakeFor 10 = .ok (.ifCond .eq 29, 3) := by decide +kernel
theorem dX12_cakeFor_13 : decode cX12_cakeFor 13 = .ok (.aload_n 0, 1) := by decide +kernel
theorem dX12_cakeFor_14 : decode cX12_cakeFor 14 = .ok (.iload_n 2, 1) := by decide +kernel
theorem dX12_cakeFor_15 : decode cX12_cakeFor 15 = .ok (.invokevirtual 402, 3) := by decide +kernel
theorem dX12_cakeFor_18 : decode cX12_cakeFor 18 = .ok (.ifCond .eq 21, 3) := by decide +kernel
theorem dX12_cakeFor_21 : decode cX12_cakeFor 21 = .ok (.iload_n 3, 1) := by decide +kernel
theorem dX12_cakeFor_22 : decode cX12_cakeFor 22 = .ok (.invokestatic 405, 3) := by decide +kernel
theorem dX12_cakeFor_25 : decode cX12_cakeFor 25 = .ok (.ifCond .eq 14, 3) := by decide +kernel
theorem dX12_cakeFor_28 : decode cX12_cakeFor 28 = .ok (.aload_n 0, 1) := by decide +kernel
theorem dX12_cakeFor_29 : decode cX12_cakeFor 29 = .ok (.iload 4, 2) := by decide +kernel
theorem dX12_cakeFor_31 : decode cX12_cakeFor 31 = .ok (.iload 5, 2) := by decide +kernel
theorem dX12_cakeFor_33 : decode cX12_cakeFor 33 = .ok (.invokevirtual 412, 3) := by decide +kernel
theorem dX12_cakeFor_36 : decode cX12_cakeFor 36 = .ok (.ifCond .ne 5, 3) := by decide +kernel
theorem dX12_cakeFor_39 : decode cX12_cakeFor 39 = .ok (.iconst (-1), 1) := by decide +kernel
theorem dX12_cakeFor_40 : decode cX12_cakeFor 40 = .ok (.ireturn, 1) := by decide +kernel
theorem dX12_cakeFor_41 : decode cX12_cakeFor 41 = .ok (.aload_n 0, 1) := by decide +kernel
theorem dX12_cakeFor_42 : decode cX12_cakeFor 42 = .ok (.iconst 0, 1) := by decide +kernel
theorem dX12_cakeFor_43 : decode cX12_cakeFor 43 = .ok (.iconst 0, 1) := by decide +kernel
theorem dX12_cakeFor_44 : decode cX12_cakeFor 44 = .ok (.invokevirtual 384, 3) := by decide +kernel
theorem dX12_cakeFor_47 : decode cX12_cakeFor 47 = .ok (.istore 6, 2) := by decide +kernel
theorem dX12_cakeFor_49 : decode cX12_cakeFor 49 = .ok (.aload_n 0, 1) := by decide +kernel
theorem dX12_cakeFor_50 : decode cX12_cakeFor 50 = .ok (.iconst 1, 1) := by decide +kernel
theorem dX12_cakeFor_51 : decode cX12_cakeFor 51 = .ok (.iconst 0, 1) := by decide +kernel
theorem dX12_cakeFor_52 : decode cX12_cakeFor 52 = .ok (.invokevirtual 431, 3) := by decide +kernel
theorem dX12_cakeFor_55 : decode cX12_cakeFor 55 = .ok (.iconst 0, 1) := by decide +kernel
theorem dX12_cakeFor_56 : decode cX12_cakeFor 56 = .ok (.istore 7, 2) := by decide +kernel
theorem dX12_cakeFor_58 : decode cX12_cakeFor 58 = .ok (.iload 7, 2) := by decide +kernel
theorem dX12_cakeFor_60 : decode cX12_cakeFor 60 = .ok (.bipush 9, 2) := by decide +kernel
theorem dX12_cakeFor_62 : decode cX12_cakeFor 62 = .ok (.if_icmp .gt 48, 3) := by decide +kernel
theorem dX12_cakeFor_65 : decode cX12_cakeFor 65 = .ok (.aload_n 0, 1) := by decide +kernel
theorem dX12_cakeFor_66 : decode cX12_cakeFor 66 = .ok (.getfield 81, 3) := by decide +kernel
theorem dX12_cakeFor_69 : decode cX12_cakeFor 69 = .ok (.iconst 1, 1) := by decide +kernel
theorem dX12_cakeFor_70 : decode cX12_cakeFor 70 = .ok (.iload_n 1, 1) := by decide +kernel
theorem dX12_cakeFor_71 : decode cX12_cakeFor 71 = .ok (.iload_n 3, 1) := by decide +kernel
theorem dX12_cakeFor_72 : decode cX12_cakeFor 72 = .ok (.invokestatic 322, 3) := by decide +kernel
theorem dX12_cakeFor_75 : decode cX12_cakeFor 75 = .ok (.aload_n 0, 1) := by decide +kernel
theorem dX12_cakeFor_76 : decode cX12_cakeFor 76 = .ok (.iconst 0, 1) := by decide +kernel
theorem dX12_cakeFor_77 : decode cX12_cakeFor 77 = .ok (.iload_n 1, 1) := by decide +kernel
theorem dX12_cakeFor_78 : decode cX12_cakeFor 78 = .ok (.iload_n 2, 1) := by decide +kernel
theorem dX12_cakeFor_79 : decode cX12_cakeFor 79 = .ok (.iload_n 3, 1) := by decide +kernel
theorem dX12_cakeFor_80 : decode cX12_cakeFor 80 = .ok (.iload 7, 2) := by decide +kernel
theorem dX12_cakeFor_82 : decode cX12_cakeFor 82 = .ok (.iload 6, 2) := by decide +kernel
theorem dX12_cakeFor_84 : decode cX12_cakeFor 84 = .ok (.invokevirtual 376, 3) := by decide +kernel
theorem dX12_cakeFor_87 : decode cX12_cakeFor 87 = .ok (.iastore, 1) := by decide +kernel
theorem dX12_cakeFor_88 : decode cX12_cakeFor 88 = .ok (.aload_n 0, 1) := by decide +kernel
theorem dX12_cakeFor_89 : decode cX12_cakeFor 89 = .ok (.iconst 1, 1) := by decide +kernel
theorem dX12_cakeFor_90 : decode cX12_cakeFor 90 = .ok (.iload_n 1, 1) := by decide +kernel
theorem dX12_cakeFor_91 : decode cX12_cakeFor 91 = .ok (.iload 4, 2) := by decide +kernel
theorem dX12_cakeFor_93 : decode cX12_cakeFor 93 = .ok (.iload 5, 2) := by decide +kernel
theorem dX12_cakeFor_95 : decode cX12_cakeFor 95 = .ok (.invokevirtual 408, 3) := by decide +kernel
theorem dX12_cakeFor_98 : decode cX12_cakeFor 98 = .ok (.ifCond .eq 6, 3) := by decide +kernel
theorem dX12_cakeFor_101 : decode cX12_cakeFor 101 = .ok (.iload 7, 2) := by decide +kernel
theorem dX12_cakeFor_103 : decode cX12_cakeFor 103 = .ok (.ireturn, 1) := by decide +kernel
theorem dX12_cakeFor_104 : decode cX12_cakeFor 104 = .ok (.iinc 7 1, 3) := by decide +kernel
theorem dX12_cakeFor_107 : decode cX12_cakeFor 107 = .ok (.goto (-49), 3) := by decide +kernel
theorem dX12_cakeFor_110 : decode cX12_cakeFor 110 = .ok (.bipush (-2), 2) := by decide +kernel
theorem dX12_cakeFor_112 : decode cX12_cakeFor 112 = .ok (.ireturn, 1) := by decide +kernel
theorem dX12_cuts_0 : decode cX12_cuts 0 = .ok (.iconst 1, 1) := by decide +kernel
theorem dX12_cuts_1 : decode cX12_cuts 1 = .ok (.istore 4, 2) := by decide +kernel
theorem dX12_cuts_3 : decode cX12_cuts 3 = .ok (.iload 4, 2) := by decide +kernel
theorem dX12_cuts_5 : decode cX12_cuts 5 = .ok (.iload_n 2, 1) := by decide +kernel
theorem dX12_cuts_6 : decode cX12_cuts 6 = .ok (.if_icmp .ge 59, 3) := by decide +kernel
theorem dX12_cuts_9 : decode cX12_cuts 9 = .ok (.iconst 2, 1) := by decide +kernel
theorem dX12_cuts_10 : decode cX12_cuts 10 = .ok (.iload 4, 2) := by decide +kernel
theorem dX12_cuts_12 : decode cX12_cuts 12 = .ok (.imul, 1) := by decide +kernel
theorem dX12_cuts_13 : decode cX12_cuts 13 = .ok (.iload_n 2, 1) := by decide +kernel
theorem dX12_cuts_14 : decode cX12_cuts 14 = .ok (.isub, 1) := by decide +kernel
theorem dX12_cuts_15 : decode cX12_cuts 15 = .ok (.invokestatic 453, 3) := by decide +kernel
theorem dX12_cuts_18 : decode cX12_cuts 18 = .ok (.iload_n 3, 1) := by decide +kernel
theorem dX12_cuts_19 : decode cX12_cuts 19 = .ok (.imul, 1) := by decide +kernel
theorem dX12_cuts_20 : decode cX12_cuts 20 = .ok (.istore 5, 2) := by decide +kernel
theorem dX12_cuts_22 : decode cX12_cuts 22 = .ok (.aload_n 0, 1) := by decide +kernel
theorem dX12_cuts_23 : decode cX12_cuts 23 = .ok (.getfield 455, 3) := by decide +kernel
theorem dX12_cuts_26 : decode cX12_cuts 26 = .ok (.iconst (-1), 1) := by decide +kernel
theorem dX12_cuts_27 : decode cX12_cuts 27 = .ok (.if_icmp .eq 15, 3) := by decide +kernel
theorem dX12_cuts_30 : decode cX12_cuts 30 = .ok (.iload 5, 2) := by decide +kernel
theorem dX12_cuts_32 : decode cX12_cuts 32 = .ok (.aload_n 0, 1) := by decide +kernel
theorem dX12_cuts_33 : decode cX12_cuts 33 = .ok (.getfield 458, 3) := by decide +kernel
theorem dX12_cuts_36 : decode cX12_cuts 36 = .ok (.if_icmp .lt 6, 3) := by decide +kernel
theorem dX12_cuts_39 : decode cX12_cuts 39 = .ok (.goto 20, 3) := by decide +kernel
theorem dX12_cuts_42 : decode cX12_cuts 42 = .ok (.aload_n 0, 1) := by decide +kernel
theorem dX12_cuts_43 : decode cX12_cuts 43 = .ok (.iload_n 1, 1) := by decide +kernel
theorem dX12_cuts_44 : decode cX12_cuts 44 = .ok (.putfield 455, 3) := by decide +kernel
theorem dX12_cuts_47 : decode cX12_cuts 47 = .ok (.aload_n 0, 1) := by decide +kernel
theorem dX12_cuts_48 : decode cX12_cuts 48 = .ok (.iload 4, 2) := by decide +kernel
theorem dX12_cuts_50 : decode cX12_cuts 50 = .ok (.putfield 461, 3) := by decide +kernel
theorem dX12_cuts_53 : decode cX12_cuts 53 = .ok (.aload_n 0, 1) := by decide +kernel
theorem dX12_cuts_54 : decode cX12_cuts 54 = .ok (.iload 5, 2) := by decide +kernel
theorem dX12_cuts_56 : decode cX12_cuts 56 = .ok (.putfield 458, 3) := by decide +kernel
theorem dX12_cuts_59 : decode cX12_cuts 59 = .ok (.iinc 4 1, 3) := by decide +kernel
theorem dX12_cuts_62 : decode cX12_cuts 62 = .ok (.goto (-59), 3) := by decide +kernel
theorem dX12_cuts_65 : decode cX12_cuts 65 = .ok (.return_, 1) := by decide +kernel
theorem dX12_cut_0 : decode cX12_cut 0 = .ok (.aload_n 0, 1) := by decide +kernel
theorem dX12_cut_1 : decode cX12_cut 1 = .ok (.iconst 0, 1) := by decide +kernel
theorem dX12_cut_2 : decode cX12_cut 2 = .ok (.putfield 136, 3) := by decide +kernel
theorem dX12_cut_5 : decode cX12_cut 5 = .ok (.aload_n 0, 1) := by decide +kernel
theorem dX12_cut_6 : decode cX12_cut 6 = .ok (.iload_n 1, 1) := by decide +kernel
theorem dX12_cut_7 : decode cX12_cut 7 = .ok (.iload_n 2, 1) := by decide +kernel
theorem dX12_cut_8 : decode cX12_cut 8 = .ok (.invokevirtual 418, 3) := by decide +kernel
theorem dX12_cut_11 : decode cX12_cut 11 = .ok (.ifCond .eq 12, 3) := by decide +kernel
theorem dX12_cut_14 : decode cX12_cut 14 = .ok (.iload_n 3, 1) := by decide +kernel
theorem dX12_cut_15 : decode cX12_cut 15 = .ok (.ifCond .lt 8, 3) := by decide +kernel
theorem dX12_cut_18 : decode cX12_cut 18 = .ok (.iload_n 3, 1) := by decide +kernel
theorem dX12_cut_19 : decode cX12_cut 19 = .ok (.iconst 2, 1) := by decide +kernel
theorem dX12_cut_20 : decode cX12_cut 20 = .ok (.if_icmp .le 5, 3) := by decide +kernel
theorem dX12_cut_23 : decode cX12_cut 23 = .ok (.iconst (-1), 1) := by decide +kernel
theorem dX12_cut_24 : decode cX12_cut 24 = .ok (.ireturn, 1) := by decide +kernel
theorem dX12_cut_25 : decode cX12_cut 25 = .ok (.aload_n 0, 1) := by decide +kernel
theorem dX12_cut_26 : decode cX12_cut 26 = .ok (.iconst 0, 1) := by decide +kernel
theorem dX12_cut_27 : decode cX12_cut 27 = .ok (.iload_n 1, 1) := by decide +kernel
theorem dX12_cut_28 : decode cX12_cut 28 = .ok (.iload_n 2, 1) := by decide +kernel
theorem dX12_cut_29 : decode cX12_cut 29 = .ok (.invokevirtual 342, 3) := by decide +kernel
theorem dX12_cut_32 : decode cX12_cut 32 = .ok (.iconst 2, 1) := by decide +kernel
theorem dX12_cut_33 : decode cX12_cut 33 = .ok (.if_icmp .ge 6, 3) := by decide +kernel
theorem dX12_cut_36 : decode cX12_cut 36 = .ok (.bipush (-2), 2) := by decide +kernel
theorem dX12_cut_38 : decode cX12_cut 38 = .ok (.ireturn, 1) := by decide +kernel
theorem dX12_cut_39 : decode cX12_cut 39 = .ok (.aload_n 0, 1) := by decide +kernel
theorem dX12_cut_40 : decode cX12_cut 40 = .ok (.iconst 0, 1) := by decide +kernel
theorem dX12_cut_41 : decode cX12_cut 41 = .ok (.iload_n 1, 1) := by decide +kernel
theorem dX12_cut_42 : decode cX12_cut 42 = .ok (.iload_n 2, 1) := by decide +kernel
theorem dX12_cut_43 : decode cX12_cut 43 = .ok (.iconst 0, 1) := by decide +kernel
theorem dX12_cut_44 : decode cX12_cut 44 = .ok (.invokevirtual 335, 3) := by decide +kernel
theorem dX12_cut_47 : decode cX12_cut 47 = .ok (.istore 4, 2) := by decide +kernel
theorem dX12_cut_49 : decode cX12_cut 49 = .ok (.aload_n 0, 1) := by decide +kernel
theorem dX12_cut_50 : decode cX12_cut 50 = .ok (.iconst 0, 1) := by decide +kernel
theorem dX12_cut_51 : decode cX12_cut 51 = .ok (.iload_n 1, 1) := by decide +kernel
theorem dX12_cut_52 : decode cX12_cut 52 = .ok (.iload_n 2, 1) := by decide +kernel
theorem dX12_cut_53 : decode cX12_cut 53 = .ok (.iconst 2, 1) := by decide +kernel
theorem dX12_cut_54 : decode cX12_cut 54 = .ok (.invokevirtual 335, 3) := by decide +kernel
theorem dX12_cut_57 : decode cX12_cut 57 = .ok (.istore 5, 2) := by decide +kernel
theorem dX12_cut_59 : decode cX12_cut 59 = .ok (.aload_n 0, 1) := by decide +kernel
theorem dX12_cut_60 : decode cX12_cut 60 = .ok (.iconst (-1), 1) := by decide +kernel
theorem dX12_cut_61 : decode cX12_cut 61 = .ok (.putfield 455, 3) := by decide +kernel
theorem dX12_cut_64 : decode cX12_cut 64 = .ok (.aload_n 0, 1) := by decide +kernel
theorem dX12_cut_65 : decode cX12_cut 65 = .ok (.iconst 0, 1) := by decide +kernel
theorem dX12_cut_66 : decode cX12_cut 66 = .ok (.iload 4, 2) := by decide +kernel
theorem dX12_cut_68 : decode cX12_cut 68 = .ok (.iload 5, 2) := by decide +kernel
theorem dX12_cut_70 : decode cX12_cut 70 = .ok (.invokevirtual 464, 3) := by decide +kernel
theorem dX12_cut_73 : decode cX12_cut 73 = .ok (.aload_n 0, 1) := by decide +kernel
theorem dX12_cut_74 : decode cX12_cut 74 = .ok (.iconst 1, 1) := by decide +kernel
theorem dX12_cut_75 : decode cX12_cut 75 = .ok (.iload 5, 2) := by decide +kernel
theorem dX12_cut_77 : decode cX12_cut 77 = .ok (.iload 4, 2) := by decide +kernel
theorem dX12_cut_79 : decode cX12_cut 79 = .ok (.invokevirtual 464, 3) := by decide +kernel
theorem dX12_cut_82 : decode cX12_cut 82 = .ok (.iload_n 3, 1) := by decide +kernel
theorem dX12_cut_83 : decode cX12_cut 83 = .ok (.ifCond .ne 10, 3) := by decide +kernel
theorem dX12_cut_86 : decode cX12_cut 86 = .ok (.aload_n 0, 1) := by decide +kernel
theorem dX12_cut_87 : decode cX12_cut 87 = .ok (.getfield 455, 3) := by decide +kernel
theorem dX12_cut_90 : decode cX12_cut 90 = .ok (.goto 19, 3) := by decide +kernel
theorem dX12_cut_93 : decode cX12_cut 93 = .ok (.iload_n 3, 1) := by decide +kernel
theorem dX12_cut_94 : decode cX12_cut 94 = .ok (.iconst 1, 1) := by decide +kernel
theorem dX12_cut_95 : decode cX12_cut 95 = .ok (.if_icmp .ne 10, 3) := by decide +kernel
theorem dX12_cut_98 : decode cX12_cut 98 = .ok (.aload_n 0, 1) := by decide +kernel
theorem dX12_cut_99 : decode cX12_cut 99 = .ok (.getfield 461, 3) := by decide +kernel
theorem dX12_cut_102 : decode cX12_cut 102 = .ok (.goto 7, 3) := by decide +kernel
theorem dX12_cut_105 : decode cX12_cut 105 = .ok (.aload_n 0, 1) := by decide +kernel
theorem dX12_cut_106 : decode cX12_cut 106 = .ok (.getfield 458, 3) := by decide +kernel
theorem dX12_cut_109 : decode cX12_cut 109 = .ok (.ireturn, 1) := by decide +kernel
theorem dX12_realms_0 : decode cX12_realms 0 = .ok (.aload_n 0, 1) := by decide +kernel
theorem dX12_realms_1 : decode cX12_realms 1 = .ok (.iconst 0, 1) := by decide +kernel
theorem dX12_realms_2 : decode cX12_realms 2 = .ok (.putfield 136, 3) := by decide +kernel
theorem dX12_realms_5 : decode cX12_realms 5 = .ok (.iconst 1, 1) := by decide +kernel
theorem dX12_realms_6 : decode cX12_realms 6 = .ok (.aload_n 0, 1) := by decide +kernel
theorem dX12_realms_7 : decode cX12_realms 7 = .ok (.getfield 13, 3) := by decide +kernel
theorem dX12_realms_10 : decode cX12_realms 10 = .ok (.iconst 1, 1) := by decide +kernel
theorem dX12_realms_11 : decode cX12_realms 11 = .ok (.iaload, 1) := by decide +kernel
theorem dX12_realms_12 : decode cX12_realms 12 = .ok (.ishl, 1) := by decide +kernel
theorem dX12_realms_13 : decode cX12_realms 13 = .ok (.iconst 1, 1) := by decide +kernel
theorem dX12_realms_14 : decode cX12_realms 14 = .ok (.isub, 1) := by decide +kernel
theorem dX12_realms_15 : decode cX12_realms 15 = .ok (.istore_n 1, 1) := by decide +kernel
theorem dX12_realms_16 : decode cX12_realms 16 = .ok (.iconst 0, 1) := by decide +kernel
theorem dX12_realms_17 : decode cX12_realms 17 = .ok (.istore_n 2, 1) := by decide +kernel
theorem dX12_realms_18 : decode cX12_realms 18 = .ok (.iload_n 1, 1) := by decide +kernel
theorem dX12_realms_19 : decode cX12_realms 19 = .ok (.ifCond .eq 74, 3) := by decide +kernel
theorem dX12_realms_22 : decode cX12_realms 22 = .ok (.iload_n 1, 1) := by decide +kernel
theorem dX12_realms_23 : decode cX12_realms 23 = .ok (.iload_n 1, 1) := by decide +kernel
theorem dX12_realms_24 : decode cX12_realms 24 = .ok (.ineg, 1) := by decide +kernel
theorem dX12_realms_25 : decode cX12_realms 25 = .ok (.iand, 1) := by decide +kernel
theorem dX12_realms_26 : decode cX12_realms 26 = .ok (.istore_n 3, 1) := by decide +kernel
theorem dX12_realms_27 : decode cX12_realms 27 = .ok (.iconst 0, 1) := by decide +kernel
theorem dX12_realms_28 : decode cX12_realms 28 = .ok (.istore 4, 2) := by decide +kernel
theorem dX12_realms_30 : decode cX12_realms 30 = .ok (.iload 4, 2) := by decide +kernel
theorem dX12_realms_32 : decode cX12_realms 32 = .ok (.iconst 4, 1) := by decide +kernel
theorem dX12_realms_33 : decode cX12_realms 33 = .ok (.if_icmp .ge 48, 3) := by decide +kernel
theorem dX12_realms_36 : decode cX12_realms 36 = .ok (.iconst 0, 1) := by decide +kernel
theorem dX12_realms_37 : decode cX12_realms 37 = .ok (.istore 5, 2) := by decide +kernel
theorem dX12_realms_39 : decode cX12_realms 39 = .ok (.iload 5, 2) := by decide +kernel
theorem dX12_realms_41 : decode cX12_realms 41 = .ok (.aload_n 0, 1) := by decide +kernel
theorem dX12_realms_42 : decode cX12_realms 42 = .ok (.getfield 13, 3) := by decide +kernel
theorem dX12_realms_45 : decode cX12_realms 45 = .ok (.iconst 1, 1) := by decide +kernel
theorem dX12_realms_46 : decode cX12_realms 46 = .ok (.iaload, 1) := by decide +kernel
theorem dX12_realms_47 : decode cX12_realms 47 = .ok (.if_icmp .ge 28, 3) := by decide +kernel
theorem dX12_realms_50 : decode cX12_realms 50 = .ok (.iload_n 3, 1) := by decide +kernel
theorem dX12_realms_51 : decode cX12_realms 51 = .ok (.iload 5, 2) := by decide +kernel
theorem dX12_realms_53 : decode cX12_realms 53 = .ok (.ishr, 1) := by decide +kernel
theorem dX12_realms_54 : decode cX12_realms 54 = .ok (.iconst 1, 1) := by decide +kernel
theorem dX12_realms_55 : decode cX12_realms 55 = .ok (.iand, 1) := by decide +kernel
theorem dX12_realms_56 : decode cX12_realms 56 = .ok (.iconst 1, 1) := by decide +kernel
theorem dX12_realms_57 : decode cX12_realms 57 = .ok (.if_icmp .ne 12, 3) := by decide +kernel
theorem dX12_realms_60 : decode cX12_realms 60 = .ok (.iload_n 3, 1) := by decide +kernel
theorem dX12_realms_61 : decode cX12_realms 61 = .ok (.aload_n 0, 1) := by decide +kernel
theorem dX12_realms_62 : decode cX12_realms 62 = .ok (.iload 5, 2) := by decide +kernel
theorem dX12_realms_64 : decode cX12_realms 64 = .ok (.invokevirtual 399, 3) := by decide +kernel
theorem dX12_realms_67 : decode cX12_realms 67 = .ok (.ior, 1) := by decide +kernel
theorem dX12_realms_68 : decode cX12_realms 68 = .ok (.istore_n 3, 1) := by decide +kernel
theorem dX12_realms_69 : decode cX12_realms 69 = .ok (.iinc 5 1, 3) := by decide +kernel
theorem dX12_realms_72 : decode cX12_realms 72 = .ok (.goto (-33), 3) := by decide +kernel
theorem dX12_realms_75 : decode cX12_realms 75 = .ok (.iinc 4 1, 3) := by decide +kernel
theorem dX12_realms_78 : decode cX12_realms 78 = .ok (.goto (-48), 3) := by decide +kernel
theorem dX12_realms_81 : decode cX12_realms 81 = .ok (.iload_n 1, 1) := by decide +kernel
theorem dX12_realms_82 : decode cX12_realms 82 = .ok (.iload_n 3, 1) := by decide +kernel
theorem dX12_realms_83 : decode cX12_realms 83 = .ok (.iconst (-1), 1) := by decide +kernel
theorem dX12_realms_84 : decode cX12_realms 84 = .ok (.ixor, 1) := by decide +kernel
theorem dX12_realms_85 : decode cX12_realms 85 = .ok (.iand, 1) := by decide +kernel
theorem dX12_realms_86 : decode cX12_realms 86 = .ok (.istore_n 1, 1) := by decide +kernel
theorem dX12_realms_87 : decode cX12_realms 87 = .ok (.iinc 2 1, 3) := by decide +kernel
theorem dX12_realms_90 : decode cX12_realms 90 = .ok (.goto (-72), 3) := by decide +kernel
theorem dX12_realms_93 : decode cX12_realms 93 = .ok (.iload_n 2, 1) := by decide +kernel
theorem dX12_realms_94 : decode cX12_realms 94 = .ok (.ireturn, 1) := by decide +kernel
theorem dX12_doColours_0 : decode cX12_doColours 0 = .ok (.iconst 1, 1) := by decide +kernel
theorem dX12_doColours_1 : decode cX12_doColours 1 = .ok (.istore_n 2, 1) := by decide +kernel
theorem dX12_doColours_2 : decode cX12_doColours 2 = .ok (.iconst 0, 1) := by decide +kernel
theorem dX12_doColours_3 : decode cX12_doColours 3 = .ok (.istore_n 3, 1) := by decide +kernel
theorem dX12_doColours_4 : decode cX12_doColours 4 = .ok (.iload_n 3, 1) := by decide +kernel
theorem dX12_doColours_5 : decode cX12_doColours 5 = .ok (.aload_n 0, 1) := by decide +kernel
theorem dX12_doColours_6 : decode cX12_doColours 6 = .ok (.getfield 13, 3) := by decide +kernel
theorem dX12_doColours_9 : decode cX12_doColours 9 = .ok (.iconst 1, 1) := by decide +kernel
theorem dX12_doColours_10 : decode cX12_doColours 10 = .ok (.iaload, 1) := by decide +kernel
theorem dX12_doColours_11 : decode cX12_doColours 11 = .ok (.if_icmp .ge 13, 3) := by decide +kernel
theorem dX12_doColours_14 : decode cX12_doColours 14 = .ok (.iload_n 2, 1) := by decide +kernel
theorem dX12_doColours_15 : decode cX12_doColours 15 = .ok (.iload_n 1, 1) := by decide +kernel
theorem dX12_doColours_16 : decode cX12_doColours 16 = .ok (.imul, 1) := by decide +kernel
theorem dX12_doColours_17 : decode cX12_doColours 17 = .ok (.istore_n 2, 1) := by decide +kernel
theorem dX12_doColours_18 : decode cX12_doColours 18 = .ok (.iinc 3 1, 3) := by decide +kernel
theorem dX12_doColours_21 : decode cX12_doColours 21 = .ok (.goto (-17), 3) := by decide +kernel
theorem dX12_doColours_24 : decode cX12_doColours 24 = .ok (.iconst 0, 1) := by decide +kernel
theorem dX12_doColours_25 : decode cX12_doColours 25 = .ok (.istore_n 3, 1) := by decide +kernel
theorem dX12_doColours_26 : decode cX12_doColours 26 = .ok (.iload_n 3, 1) := by decide +kernel
theorem dX12_doColours_27 : decode cX12_doColours 27 = .ok (.iload_n 2, 1) := by decide +kernel
theorem dX12_doColours_28 : decode cX12_doColours 28 = .ok (.if_icmp .ge 20, 3) := by decide +kernel
theorem dX12_doColours_31 : decode cX12_doColours 31 = .ok (.aload_n 0, 1) := by decide +kernel
theorem dX12_doColours_32 : decode cX12_doColours 32 = .ok (.iload_n 3, 1) := by decide +kernel
theorem dX12_doColours_33 : decode cX12_doColours 33 = .ok (.iload_n 1, 1) := by decide +kernel
theorem dX12_doColours_34 : decode cX12_doColours 34 = .ok (.invokevirtual 467, 3) := by decide +kernel
theorem dX12_doColours_37 : decode cX12_doColours 37 = .ok (.ifCond .eq 5, 3) := by decide +kernel
theorem dX12_doColours_40 : decode cX12_doColours 40 = .ok (.iconst 1, 1) := by decide +kernel
theorem dX12_doColours_41 : decode cX12_doColours 41 = .ok (.ireturn, 1) := by decide +kernel
theorem dX12_doColours_42 : decode cX12_doColours 42 = .ok (.iinc 3 1, 3) := by decide +kernel
theorem dX12_doColours_45 : decode cX12_doColours 45 = .ok (.goto (-19), 3) := by decide +kernel
theorem dX12_doColours_48 : decode cX12_doColours 48 = .ok (.iconst 0, 1) := by decide +kernel
theorem dX12_doColours_49 : decode cX12_doColours 49 = .ok (.ireturn, 1) := by decide +kernel
theorem dX12_isColoured_0 : decode cX12_isColoured 0 = .ok (.iload_n 1, 1) := by decide +kernel
theorem dX12_isColoured_1 : decode cX12_isColoured 1 = .ok (.istore_n 3, 1) := by decide +kernel
theorem dX12_isColoured_2 : decode cX12_isColoured 2 = .ok (.iconst 0, 1) := by decide +kernel
theorem dX12_isColoured_3 : decode cX12_isColoured 3 = .ok (.istore 4, 2) := by decide +kernel
theorem dX12_isColoured_5 : decode cX12_isColoured 5 = .ok (.iload 4, 2) := by decide +kernel
theorem dX12_isColoured_7 : decode cX12_isColoured 7 = .ok (.aload_n 0, 1) := by decide +kernel
theorem dX12_isColoured_8 : decode cX12_isColoured 8 = .ok (.getfield 13, 3) := by decide +kernel
theorem dX12_isColoured_11 : decode cX12_isColoured 11 = .ok (.iconst 1, 1) := by decide +kernel
theorem dX12_isColoured_12 : decode cX12_isColoured 12 = .ok (.iaload, 1) := by decide +kernel
theorem dX12_isColoured_13 : decode cX12_isColoured 13 = .ok (.if_icmp .ge 23, 3) := by decide +kernel
theorem dX12_isColoured_16 : decode cX12_isColoured 16 = .ok (.aload_n 0, 1) := by decide +kernel
theorem dX12_isColoured_17 : decode cX12_isColoured 17 = .ok (.getfield 102, 3) := by decide +kernel
theorem dX12_isColoured_20 : decode cX12_isColoured 20 = .ok (.iload 4, 2) := by decide +kernel
theorem dX12_isColoured_22 : decode cX12_isColoured 22 = .ok (.iload_n 3, 1) := by decide +kernel
theorem dX12_isColoured_23 : decode cX12_isColoured 23 = .ok (.iload_n 2, 1) := by decide +kernel
theorem dX12_isColoured_24 : decode cX12_isColoured 24 = .ok (.irem, 1) := by decide +kernel
theorem dX12_isColoured_25 : decode cX12_isColoured 25 = .ok (.iastore, 1) := by decide +kernel
theorem dX12_isColoured_26 : decode cX12_isColoured 26 = .ok (.iload_n 3, 1) := by decide +kernel
theorem dX12_isColoured_27 : decode cX12_isColoured 27 = .ok (.iload_n 2, 1) := by decide +kernel
theorem dX12_isColoured_28 : decode cX12_isColoured 28 = .ok (.idiv, 1) := by decide +kernel
theorem dX12_isColoured_29 : decode cX12_isColoured 29 = .ok (.istore_n 3, 1) := by decide +kernel
theorem dX12_isColoured_30 : decode cX12_isColoured 30 = .ok (.iinc 4 1, 3) := by decide +kernel
theorem dX12_isColoured_33 : decode cX12_isColoured 33 = .ok (.goto (-28), 3) := by decide +kernel
theorem dX12_isColoured_36 : decode cX12_isColoured 36 = .ok (.iconst 0, 1) := by decide +kernel
theorem dX12_isColoured_37 : decode cX12_isColoured 37 = .ok (.istore 4, 2) := by decide +kernel
theorem dX12_isColoured_39 : decode cX12_isColoured 39 = .ok (.iload 4, 2) := by decide +kernel
theorem dX12_isColoured_41 : decode cX12_isColoured 41 = .ok (.aload_n 0, 1) := by decide +kernel
theorem dX12_isColoured_42 : decode cX12_isColoured 42 = .ok (.getfield 13, 3) := by decide +kernel
theorem dX12_isColoured_45 : decode cX12_isColoured 45 = .ok (.iconst 1, 1) := by decide +kernel
theorem dX12_isColoured_46 : decode cX12_isColoured 46 = .ok (.iaload, 1) := by decide +kernel
theorem dX12_isColoured_47 : decode cX12_isColoured 47 = .ok (.if_icmp .ge 62, 3) := by decide +kernel
theorem dX12_isColoured_50 : decode cX12_isColoured 50 = .ok (.iload 4, 2) := by decide +kernel
theorem dX12_isColoured_52 : decode cX12_isColoured 52 = .ok (.iconst 1, 1) := by decide +kernel
theorem dX12_isColoured_53 : decode cX12_isColoured 53 = .ok (.iadd, 1) := by decide +kernel
theorem dX12_isColoured_54 : decode cX12_isColoured 54 = .ok (.istore 5, 2) := by decide +kernel
theorem dX12_isColoured_56 : decode cX12_isColoured 56 = .ok (.iload 5, 2) := by decide +kernel
theorem dX12_isColoured_58 : decode cX12_isColoured 58 = .ok (.aload_n 0, 1) := by decide +kernel
theorem dX12_isColoured_59 : decode cX12_isColoured 59 = .ok (.getfield 13, 3) := by decide +kernel
theorem dX12_isColoured_62 : decode cX12_isColoured 62 = .ok (.iconst 1, 1) := by decide +kernel
theorem dX12_isColoured_63 : decode cX12_isColoured 63 = .ok (.iaload, 1) := by decide +kernel
theorem dX12_isColoured_64 : decode cX12_isColoured 64 = .ok (.if_icmp .ge 39, 3) := by decide +kernel
theorem dX12_isColoured_67 : decode cX12_isColoured 67 = .ok (.aload_n 0, 1) := by decide +kernel
theorem dX12_isColoured_68 : decode cX12_isColoured 68 = .ok (.getfield 102, 3) := by decide +kernel
theorem dX12_isColoured_71 : decode cX12_isColoured 71 = .ok (.iload 4, 2) := by decide +kernel
theorem dX12_isColoured_73 : decode cX12_isColoured 73 = .ok (.iaload, 1) := by decide +kernel
theorem dX12_isColoured_74 : decode cX12_isColoured 74 = .ok (.aload_n 0, 1) := by decide +kernel
theorem dX12_isColoured_75 : decode cX12_isColoured 75 = .ok (.getfield 102, 3) := by decide +kernel
theorem dX12_isColoured_78 : decode cX12_isColoured 78 = .ok (.iload 5, 2) := by decide +kernel
theorem dX12_isColoured_80 : decode cX12_isColoured 80 = .ok (.iaload, 1) := by decide +kernel
theorem dX12_isColoured_81 : decode cX12_isColoured 81 = .ok (.if_icmp .ne 16, 3) := by decide +kernel
theorem dX12_isColoured_84 : decode cX12_isColoured 84 = .ok (.aload_n 0, 1) := by decide +kernel
theorem dX12_isColoured_85 : decode cX12_isColoured 85 = .ok (.iload 4, 2) := by decide +kernel
theorem dX12_isColoured_87 : decode cX12_isColoured 87 = .ok (.iload 5, 2) := by decide +kernel
theorem dX12_isColoured_89 : decode cX12_isColoured 89 = .ok (.invokevirtual 345, 3) := by decide +kernel
theorem dX12_isColoured_92 : decode cX12_isColoured 92 = .ok (.ifCond .eq 5, 3) := by decide +kernel
theorem dX12_isColoured_95 : decode cX12_isColoured 95 = .ok (.iconst 0, 1) := by decide +kernel
theorem dX12_isColoured_96 : decode cX12_isColoured 96 = .ok (.ireturn, 1) := by decide +kernel
theorem dX12_isColoured_97 : decode cX12_isColoured 97 = .ok (.iinc 5 1, 3) := by decide +kernel
theorem dX12_isColoured_100 : decode cX12_isColoured 100 = .ok (.goto (-44), 3) := by decide +kernel
theorem dX12_isColoured_103 : decode cX12_isColoured 103 = .ok (.iinc 4 1, 3) := by decide +kernel
theorem dX12_isColoured_106 : decode cX12_isColoured 106 = .ok (.goto (-67), 3) := by decide +kernel
theorem dX12_isColoured_109 : decode cX12_isColoured 109 = .ok (.iconst 1, 1) := by decide +kernel
theorem dX12_isColoured_110 : decode cX12_isColoured 110 = .ok (.ireturn, 1) := by decide +kernel
theorem dX12_colours_0 : decode cX12_colours 0 = .ok (.aload_n 0, 1) := by decide +kernel
theorem dX12_colours_1 : decode cX12_colours 1 = .ok (.iconst 0, 1) := by decide +kernel
theorem dX12_colours_2 : decode cX12_colours 2 = .ok (.putfield 136, 3) := by decide +kernel
theorem dX12_colours_5 : decode cX12_colours 5 = .ok (.aload_n 0, 1) := by decide +kernel
theorem dX12_colours_6 : decode cX12_colours 6 = .ok (.getfield 13, 3) := by decide +kernel
theorem dX12_colours_9 : decode cX12_colours 9 = .ok (.iconst 1, 1) := by decide +kernel
theorem dX12_colours_10 : decode cX12_colours 10 = .ok (.iaload, 1) := by decide +kernel
theorem dX12_colours_11 : decode cX12_colours 11 = .ok (.ifCond .ne 5, 3) := by decide +kernel
theorem dX12_colours_14 : decode cX12_colours 14 = .ok (.iconst 0, 1) := by decide +kernel
theorem dX12_colours_15 : decode cX12_colours 15 = .ok (.ireturn, 1) := by decide +kernel
theorem dX12_colours_16 : decode cX12_colours 16 = .ok (.iconst 1, 1) := by decide +kernel
theorem dX12_colours_17 : decode cX12_colours 17 = .ok (.istore_n 1, 1) := by decide +kernel
theorem dX12_colours_18 : decode cX12_colours 18 = .ok (.iload_n 1, 1) := by decide +kernel
theorem dX12_colours_19 : decode cX12_colours 19 = .ok (.iconst 4, 1) := by decide +kernel
theorem dX12_colours_20 : decode cX12_colours 20 = .ok (.if_icmp .ge 19, 3) := by decide +kernel
theorem dX12_colours_23 : decode cX12_colours 23 = .ok (.aload_n 0, 1) := by decide +kernel
theorem dX12_colours_24 : decode cX12_colours 24 = .ok (.iload_n 1, 1) := by decide +kernel
theorem dX12_colours_25 : decode cX12_colours 25 = .ok (.invokevirtual 470, 3) := by decide +kernel
theorem dX12_colours_28 : decode cX12_colours 28 = .ok (.ifCond .eq 5, 3) := by decide +kernel
theorem dX12_colours_31 : decode cX12_colours 31 = .ok (.iload_n 1, 1) := by decide +kernel
theorem dX12_colours_32 : decode cX12_colours 32 = .ok (.ireturn, 1) := by decide +kernel
theorem dX12_colours_33 : decode cX12_colours 33 = .ok (.iinc 1 1, 3) := by decide +kernel
theorem dX12_colours_36 : decode cX12_colours 36 = .ok (.goto (-18), 3) := by decide +kernel
theorem dX12_colours_39 : decode cX12_colours 39 = .ok (.iconst 4, 1) := by decide +kernel
theorem dX12_colours_40 : decode cX12_colours 40 = .ok (.ireturn, 1) := by decide +kernel
theorem dX12_hasOf_0 : decode cX12_hasOf 0 = .ok (.aload_n 0, 1) := by decide +kernel
theorem dX12_hasOf_1 : decode cX12_hasOf 1 = .ok (.iconst 0, 1) := by decide +kernel
theorem dX12_hasOf_2 : decode cX12_hasOf 2 = .ok (.iload_n 1, 1) := by decide +kernel
theorem dX12_hasOf_3 : decode cX12_hasOf 3 = .ok (.iload_n 2, 1) := by decide +kernel
theorem dX12_hasOf_4 : decode cX12_hasOf 4 = .ok (.invokevirtual 342, 3) := by decide +kernel
theorem dX12_hasOf_7 : decode cX12_hasOf 7 = .ok (.istore 5, 2) := by decide +kernel
theorem dX12_hasOf_9 : decode cX12_hasOf 9 = .ok (.iload_n 3, 1) := by decide +kernel
theorem dX12_hasOf_10 : decode cX12_hasOf 10 = .ok (.ifCond .ne 17, 3) := by decide +kernel
theorem dX12_hasOf_13 : decode cX12_hasOf 13 = .ok (.iload 4, 2) := by decide +kernel
theorem dX12_hasOf_15 : decode cX12_hasOf 15 = .ok (.ifCond .ne 9, 3) := by decide +kernel
theorem dX12_hasOf_18 : decode cX12_hasOf 18 = .ok (.iload 5, 2) := by decide +kernel
theorem dX12_hasOf_20 : decode cX12_hasOf 20 = .ok (.ineg, 1) := by decide +kernel
theorem dX12_hasOf_21 : decode cX12_hasOf 21 = .ok (.goto 5, 3) := by decide +kernel
theorem dX12_hasOf_24 : decode cX12_hasOf 24 = .ok (.iload 5, 2) := by decide +kernel
theorem dX12_hasOf_26 : decode cX12_hasOf 26 = .ok (.ireturn, 1) := by decide +kernel
theorem dX12_hasOf_27 : decode cX12_hasOf 27 = .ok (.iload 4, 2) := by decide +kernel
theorem dX12_hasOf_29 : decode cX12_hasOf 29 = .ok (.ifCond .ne 16, 3) := by decide +kernel
theorem dX12_hasOf_32 : decode cX12_hasOf 32 = .ok (.aload_n 0, 1) := by decide +kernel
theorem dX12_hasOf_33 : decode cX12_hasOf 33 = .ok (.iconst 0, 1) := by decide +kernel
theorem dX12_hasOf_34 : decode cX12_hasOf 34 = .ok (.iload_n 1, 1) := by decide +kernel
theorem dX12_hasOf_35 : decode cX12_hasOf 35 = .ok (.invokevirtual 339, 3) := by decide +kernel
theorem dX12_hasOf_38 : decode cX12_hasOf 38 = .ok (.bipush 10, 2) := by decide +kernel
theorem dX12_hasOf_40 : decode cX12_hasOf 40 = .ok (.idiv, 1) := by decide +kernel
theorem dX12_hasOf_41 : decode cX12_hasOf 41 = .ok (.ineg, 1) := by decide +kernel
theorem dX12_hasOf_42 : decode cX12_hasOf 42 = .ok (.goto 7, 3) := by decide +kernel
theorem dX12_hasOf_45 : decode cX12_hasOf 45 = .ok (.iload 5, 2) := by decide +kernel
theorem dX12_hasOf_47 : decode cX12_hasOf 47 = .ok (.iconst 2, 1) := by decide +kernel
theorem dX12_hasOf_48 : decode cX12_hasOf 48 = .ok (.idiv, 1) := by decide +kernel
theorem dX12_hasOf_49 : decode cX12_hasOf 49 = .ok (.ireturn, 1) := by decide +kernel
theorem dX12_isRest_0 : decode cX12_isRest 0 = .ok (.iload_n 3, 1) := by decide +kernel
theorem dX12_isRest_1 : decode cX12_isRest 1 = .ok (.iconst 2, 1) := by decide +kernel
theorem dX12_isRest_2 : decode cX12_isRest 2 = .ok (.idiv, 1) := by decide +kernel
theorem dX12_isRest_3 : decode cX12_isRest 3 = .ok (.istore 4, 2) := by decide +kernel
theorem dX12_isRest_5 : decode cX12_isRest 5 = .ok (.iload_n 3, 1) := by decide +kernel
theorem dX12_isRest_6 : decode cX12_isRest 6 = .ok (.iconst 2, 1) := by decide +kernel
theorem dX12_isRest_7 : decode cX12_isRest 7 = .ok (.irem, 1) := by decide +kernel
theorem dX12_isRest_8 : decode cX12_isRest 8 = .ok (.istore 5, 2) := by decide +kernel
theorem dX12_isRest_10 : decode cX12_isRest 10 = .ok (.aload_n 0, 1) := by decide +kernel
theorem dX12_isRest_11 : decode cX12_isRest 11 = .ok (.iload_n 1, 1) := by decide +kernel
theorem dX12_isRest_12 : decode cX12_isRest 12 = .ok (.iload_n 2, 1) := by decide +kernel
theorem dX12_isRest_13 : decode cX12_isRest 13 = .ok (.iconst 1, 1) := by decide +kernel
theorem dX12_isRest_14 : decode cX12_isRest 14 = .ok (.iload 4, 2) := by decide +kernel
theorem dX12_isRest_16 : decode cX12_isRest 16 = .ok (.isub, 1) := by decide +kernel
theorem dX12_isRest_17 : decode cX12_isRest 17 = .ok (.iload 5, 2) := by decide +kernel
theorem dX12_isRest_19 : decode cX12_isRest 19 = .ok (.invokevirtual 473, 3) := by decide +kernel
theorem dX12_isRest_22 : decode cX12_isRest 22 = .ok (.aload_n 0, 1) := by decide +kernel
theorem dX12_isRest_23 : decode cX12_isRest 23 = .ok (.iload_n 1, 1) := by decide +kernel
theorem dX12_isRest_24 : decode cX12_isRest 24 = .ok (.iload_n 2, 1) := by decide +kernel
theorem dX12_isRest_25 : decode cX12_isRest 25 = .ok (.iload 4, 2) := by decide +kernel
theorem dX12_isRest_27 : decode cX12_isRest 27 = .ok (.iload 5, 2) := by decide +kernel
theorem dX12_isRest_29 : decode cX12_isRest 29 = .ok (.invokevirtual 473, 3) := by decide +kernel
theorem dX12_isRest_32 : decode cX12_isRest 32 = .ok (.if_icmp .gt 32, 3) := by decide +kernel
theorem dX12_isRest_35 : decode cX12_isRest 35 = .ok (.aload_n 0, 1) := by decide +kernel
theorem dX12_isRest_36 : decode cX12_isRest 36 = .ok (.iload_n 2, 1) := by decide +kernel
theorem dX12_isRest_37 : decode cX12_isRest 37 = .ok (.iload_n 1, 1) := by decide +kernel
theorem dX12_isRest_38 : decode cX12_isRest 38 = .ok (.iconst 1, 1) := by decide +kernel
theorem dX12_isRest_39 : decode cX12_isRest 39 = .ok (.iload 5, 2) := by decide +kernel
theorem dX12_isRest_41 : decode cX12_isRest 41 = .ok (.isub, 1) := by decide +kernel
theorem dX12_isRest_42 : decode cX12_isRest 42 = .ok (.iload 4, 2) := by decide +kernel
theorem dX12_isRest_44 : decode cX12_isRest 44 = .ok (.invokevirtual 473, 3) := by decide +kernel
theorem dX12_isRest_47 : decode cX12_isRest 47 = .ok (.aload_n 0, 1) := by decide +kernel
theorem dX12_isRest_48 : decode cX12_isRest 48 = .ok (.iload_n 2, 1) := by decide +kernel
theorem dX12_isRest_49 : decode cX12_isRest 49 = .ok (.iload_n 1, 1) := by decide +kernel
theorem dX12_isRest_50 : decode cX12_isRest 50 = .ok (.iload 5, 2) := by decide +kernel
theorem dX12_isRest_52 : decode cX12_isRest 52 = .ok (.iload 4, 2) := by decide +kernel
theorem dX12_isRest_54 : decode cX12_isRest 54 = .ok (.invokevirtual 473, 3) := by decide +kernel
theorem dX12_isRest_57 : decode cX12_isRest 57 = .ok (.if_icmp .gt 7, 3) := by decide +kernel
theorem dX12_isRest_60 : decode cX12_isRest 60 = .ok (.iconst 1, 1) := by decide +kernel
theorem dX12_isRest_61 : decode cX12_isRest 61 = .ok (.goto 4, 3) := by decide +kernel
theorem dX12_isRest_64 : decode cX12_isRest 64 = .ok (.iconst 0, 1) := by decide +kernel
theorem dX12_isRest_65 : decode cX12_isRest 65 = .ok (.ireturn, 1) := by decide +kernel
theorem dX12_restOf_0 : decode cX12_restOf 0 = .ok (.iconst 0, 1) := by decide +kernel
theorem dX12_restOf_1 : decode cX12_restOf 1 = .ok (.istore 4, 2) := by decide +kernel
theorem dX12_restOf_3 : decode cX12_restOf 3 = .ok (.iconst 0, 1) := by decide +kernel
theorem dX12_restOf_4 : decode cX12_restOf 4 = .ok (.istore 5, 2) := by decide +kernel
theorem dX12_restOf_6 : decode cX12_restOf 6 = .ok (.iload 5, 2) := by decide +kernel
theorem dX12_restOf_8 : decode cX12_restOf 8 = .ok (.iconst 4, 1) := by decide +kernel
theorem dX12_restOf_9 : decode cX12_restOf 9 = .ok (.if_icmp .ge 45, 3) := by decide +kernel
theorem dX12_restOf_12 : decode cX12_restOf 12 = .ok (.aload_n 0, 1) := by decide +kernel
theorem dX12_restOf_13 : decode cX12_restOf 13 = .ok (.iload_n 1, 1) := by decide +kernel
theorem dX12_restOf_14 : decode cX12_restOf 14 = .ok (.iload_n 2, 1) := by decide +kernel
theorem dX12_restOf_15 : decode cX12_restOf 15 = .ok (.iload 5, 2) := by decide +kernel
theorem dX12_restOf_17 : decode cX12_restOf 17 = .ok (.invokevirtual 476, 3) := by decide +kernel
theorem dX12_restOf_20 : decode cX12_restOf 20 = .ok (.ifCond .ne 6, 3) := by decide +kernel
theorem dX12_restOf_23 : decode cX12_restOf 23 = .ok (.goto 25, 3) := by decide +kernel
theorem dX12_restOf_26 : decode cX12_restOf 26 = .ok (.iload 4, 2) := by decide +kernel
theorem dX12_restOf_28 : decode cX12_restOf 28 = .ok (.iload_n 3, 1) := by decide +kernel
theorem dX12_restOf_29 : decode cX12_restOf 29 = .ok (.if_icmp .ne 16, 3) := by decide +kernel
theorem dX12_restOf_32 : decode cX12_restOf 32 = .ok (.bipush 10, 2) := by decide +kernel
theorem dX12_restOf_34 : decode cX12_restOf 34 = .ok (.iload 5, 2) := by decide +kernel
theorem dX12_restOf_36 : decode cX12_restOf 36 = .ok (.iconst 2, 1) := by decide +kernel
theorem dX12_restOf_37 : decode cX12_restOf 37 = .ok (.idiv, 1) := by decide +kernel
theorem dX12_restOf_38 : decode cX12_restOf 38 = .ok (.imul, 1) := by decide +kernel
theorem dX12_restOf_39 : decode cX12_restOf 39 = .ok (.iload 5, 2) := by decide +kernel
theorem dX12_restOf_41 : decode cX12_restOf 41 = .ok (.iconst 2, 1) := by decide +kernel
theorem dX12_restOf_42 : decode cX12_restOf 42 = .ok (.irem, 1) := by decide +kernel
theorem dX12_restOf_43 : decode cX12_restOf 43 = .ok (.iadd, 1) := by decide +kernel
theorem dX12_restOf_44 : decode cX12_restOf 44 = .ok (.ireturn, 1) := by decide +kernel
theorem dX12_restOf_45 : decode cX12_restOf 45 = .ok (.iinc 4 1, 3) := by decide +kernel
theorem dX12_restOf_48 : decode cX12_restOf 48 = .ok (.iinc 5 1, 3) := by decide +kernel
theorem dX12_restOf_51 : decode cX12_restOf 51 = .ok (.goto (-45), 3) := by decide +kernel
theorem dX12_restOf_54 : decode cX12_restOf 54 = .ok (.iload_n 3, 1) := by decide +kernel
theorem dX12_restOf_55 : decode cX12_restOf 55 = .ok (.iconst (-1), 1) := by decide +kernel
theorem dX12_restOf_56 : decode cX12_restOf 56 = .ok (.if_icmp .ne 8, 3) := by decide +kernel
theorem dX12_restOf_59 : decode cX12_restOf 59 = .ok (.iload 4, 2) := by decide +kernel
theorem dX12_restOf_61 : decode cX12_restOf 61 = .ok (.goto 5, 3) := by decide +kernel
theorem dX12_restOf_64 : decode cX12_restOf 64 = .ok (.bipush (-2), 2) := by decide +kernel
theorem dX12_restOf_66 : decode cX12_restOf 66 = .ok (.ireturn, 1) := by decide +kernel
theorem dX12_rests_0 : decode cX12_rests 0 = .ok (.aload_n 0, 1) := by decide +kernel
theorem dX12_rests_1 : decode cX12_rests 1 = .ok (.iconst 0, 1) := by decide +kernel
theorem dX12_rests_2 : decode cX12_rests 2 = .ok (.putfield 136, 3) := by decide +kernel
theorem dX12_rests_5 : decode cX12_rests 5 = .ok (.aload_n 0, 1) := by decide +kernel
theorem dX12_rests_6 : decode cX12_rests 6 = .ok (.iload_n 1, 1) := by decide +kernel
theorem dX12_rests_7 : decode cX12_rests 7 = .ok (.iload_n 2, 1) := by decide +kernel
theorem dX12_rests_8 : decode cX12_rests 8 = .ok (.invokevirtual 418, 3) := by decide +kernel
theorem dX12_rests_11 : decode cX12_rests 11 = .ok (.ifCond .eq 13, 3) := by decide +kernel
theorem dX12_rests_14 : decode cX12_rests 14 = .ok (.aload_n 0, 1) := by decide +kernel
theorem dX12_rests_15 : decode cX12_rests 15 = .ok (.iload_n 1, 1) := by decide +kernel
theorem dX12_rests_16 : decode cX12_rests 16 = .ok (.iload_n 2, 1) := by decide +kernel
theorem dX12_rests_17 : decode cX12_rests 17 = .ok (.iconst (-1), 1) := by decide +kernel
theorem dX12_rests_18 : decode cX12_rests 18 = .ok (.invokevirtual 480, 3) := by decide +kernel
theorem dX12_rests_21 : decode cX12_rests 21 = .ok (.goto 4, 3) := by decide +kernel
theorem dX12_rests_24 : decode cX12_rests 24 = .ok (.iconst (-1), 1) := by decide +kernel
theorem dX12_rests_25 : decode cX12_rests 25 = .ok (.ireturn, 1) := by decide +kernel
theorem dX12_rest_0 : decode cX12_rest 0 = .ok (.aload_n 0, 1) := by decide +kernel
theorem dX12_rest_1 : decode cX12_rest 1 = .ok (.iconst 0, 1) := by decide +kernel
theorem dX12_rest_2 : decode cX12_rest 2 = .ok (.putfield 136, 3) := by decide +kernel
theorem dX12_rest_5 : decode cX12_rest 5 = .ok (.aload_n 0, 1) := by decide +kernel
theorem dX12_rest_6 : decode cX12_rest 6 = .ok (.iload_n 1, 1) := by decide +kernel
theorem dX12_rest_7 : decode cX12_rest 7 = .ok (.iload_n 2, 1) := by decide +kernel
theorem dX12_rest_8 : decode cX12_rest 8 = .ok (.invokevirtual 418, 3) := by decide +kernel
theorem dX12_rest_11 : decode cX12_rest 11 = .ok (.ifCond .eq 17, 3) := by decide +kernel
theorem dX12_rest_14 : decode cX12_rest 14 = .ok (.iload_n 3, 1) := by decide +kernel
theorem dX12_rest_15 : decode cX12_rest 15 = .ok (.ifCond .lt 13, 3) := by decide +kernel
theorem dX12_rest_18 : decode cX12_rest 18 = .ok (.aload_n 0, 1) := by decide +kernel
theorem dX12_rest_19 : decode cX12_rest 19 = .ok (.iload_n 1, 1) := by decide +kernel
theorem dX12_rest_20 : decode cX12_rest 20 = .ok (.iload_n 2, 1) := by decide +kernel
theorem dX12_rest_21 : decode cX12_rest 21 = .ok (.iload_n 3, 1) := by decide +kernel
theorem dX12_rest_22 : decode cX12_rest 22 = .ok (.invokevirtual 480, 3) := by decide +kernel
theorem dX12_rest_25 : decode cX12_rest 25 = .ok (.goto 4, 3) := by decide +kernel
theorem dX12_rest_28 : decode cX12_rest 28 = .ok (.iconst (-1), 1) := by decide +kernel
theorem dX12_rest_29 : decode cX12_rest 29 = .ok (.ireturn, 1) := by decide +kernel
theorem dX12_common_0 : decode cX12_common 0 = .ok (.lload_n 0, 1) := by decide +kernel
theorem dX12_common_1 : decode cX12_common 1 = .ok (.lstore 4, 2) := by decide +kernel
theorem dX12_common_3 : decode cX12_common 3 = .ok (.lload_n 2, 1) := by decide +kernel
theorem dX12_common_4 : decode cX12_common 4 = .ok (.lstore 6, 2) := by decide +kernel
theorem dX12_common_6 : decode cX12_common 6 = .ok (.lload 6, 2) := by decide +kernel
theorem dX12_common_8 : decode cX12_common 8 = .ok (.lconst 0, 1) := by decide +kernel
theorem dX12_common_9 : decode cX12_common 9 = .ok (.lcmp, 1) := by decide +kernel
theorem dX12_common_10 : decode cX12_common 10 = .ok (.ifCond .eq 21, 3) := by decide +kernel
theorem dX12_common_13 : decode cX12_common 13 = .ok (.lload 4, 2) := by decide +kernel
theorem dX12_common_15 : decode cX12_common 15 = .ok (.lload 6, 2) := by decide +kernel
theorem dX12_common_17 : decode cX12_common 17 = .ok (.lrem, 1) := by decide +kernel
theorem dX12_common_18 : decode cX12_common 18 = .ok (.lstore 8, 2) := by decide +kernel
theorem dX12_common_20 : decode cX12_common 20 = .ok (.lload 6, 2) := by decide +kernel
theorem dX12_common_22 : decode cX12_common 22 = .ok (.lstore 4, 2) := by decide +kernel
theorem dX12_common_24 : decode cX12_common 24 = .ok (.lload 8, 2) := by decide +kernel
theorem dX12_common_26 : decode cX12_common 26 = .ok (.lstore 6, 2) := by decide +kernel
theorem dX12_common_28 : decode cX12_common 28 = .ok (.goto (-22), 3) := by decide +kernel
theorem dX12_common_31 : decode cX12_common 31 = .ok (.lload 4, 2) := by decide +kernel
theorem dX12_common_33 : decode cX12_common 33 = .ok (.lreturn, 1) := by decide +kernel
theorem dX12_dry_0 : decode cX12_dry 0 = .ok (.aload_n 0, 1) := by decide +kernel
theorem dX12_dry_1 : decode cX12_dry 1 = .ok (.iconst 0, 1) := by decide +kernel
theorem dX12_dry_2 : decode cX12_dry 2 = .ok (.putfield 136, 3) := by decide +kernel
theorem dX12_dry_5 : decode cX12_dry 5 = .ok (.iload_n 1, 1) := by decide +kernel
theorem dX12_dry_6 : decode cX12_dry 6 = .ok (.ifCond .lt 18, 3) := by decide +kernel
theorem dX12_dry_9 : decode cX12_dry 9 = .ok (.iload_n 1, 1) := by decide +kernel
theorem dX12_dry_10 : decode cX12_dry 10 = .ok (.bipush 6, 2) := by decide +kernel
theorem dX12_dry_12 : decode cX12_dry 12 = .ok (.if_icmp .gt 12, 3) := by decide +kernel
theorem dX12_dry_15 : decode cX12_dry 15 = .ok (.iload_n 2, 1) := by decide +kernel
theorem dX12_dry_16 : decode cX12_dry 16 = .ok (.ifCond .lt 8, 3) := by decide +kernel
theorem dX12_dry_19 : decode cX12_dry 19 = .ok (.iload_n 2, 1) := by decide +kernel
theorem dX12_dry_20 : decode cX12_dry 20 = .ok (.iconst 1, 1) := by decide +kernel
theorem dX12_dry_21 : decode cX12_dry 21 = .ok (.if_icmp .le 7, 3) := by decide +kernel
theorem dX12_dry_24 : decode cX12_dry 24 = .ok (.ldc2_w 483, 3) := by decide +kernel
theorem dX12_dry_27 : decode cX12_dry 27 = .ok (.lreturn, 1) := by decide +kernel
theorem dX12_dry_28 : decode cX12_dry 28 = .ok (.lconst 1, 1) := by decide +kernel
theorem dX12_dry_29 : decode cX12_dry 29 = .ok (.lstore_n 3, 1) := by decide +kernel
theorem dX12_dry_30 : decode cX12_dry 30 = .ok (.lconst 1, 1) := by decide +kernel
theorem dX12_dry_31 : decode cX12_dry 31 = .ok (.lstore 5, 2) := by decide +kernel
theorem dX12_dry_33 : decode cX12_dry 33 = .ok (.iconst 0, 1) := by decide +kernel
theorem dX12_dry_34 : decode cX12_dry 34 = .ok (.istore 7, 2) := by decide +kernel
theorem dX12_dry_36 : decode cX12_dry 36 = .ok (.iload 7, 2) := by decide +kernel
theorem dX12_dry_38 : decode cX12_dry 38 = .ok (.iload_n 1, 1) := by decide +kernel
theorem dX12_dry_39 : decode cX12_dry 39 = .ok (.if_icmp .ge 31, 3) := by decide +kernel
theorem dX12_dry_42 : decode cX12_dry 42 = .ok (.lload_n 3, 1) := by decide +kernel
theorem dX12_dry_43 : decode cX12_dry 43 = .ok (.ldc2_w 485, 3) := by decide +kernel
theorem dX12_dry_46 : decode cX12_dry 46 = .ok (.aload_n 0, 1) := by decide +kernel
theorem dX12_dry_47 : decode cX12_dry 47 = .ok (.getfield 13, 3) := by decide +kernel
theorem dX12_dry_50 : decode cX12_dry 50 = .ok (.iconst 4, 1) := by decide +kernel
theorem dX12_dry_51 : decode cX12_dry 51 = .ok (.iaload, 1) := by decide +kernel
theorem dX12_dry_52 : decode cX12_dry 52 = .ok (.i2l, 1) := by decide +kernel
theorem dX12_dry_53 : decode cX12_dry 53 = .ok (.lsub, 1) := by decide +kernel
theorem dX12_dry_54 : decode cX12_dry 54 = .ok (.lmul, 1) := by decide +kernel
theorem dX12_dry_55 : decode cX12_dry 55 = .ok (.lstore_n 3, 1) := by decide +kernel
theorem dX12_dry_56 : decode cX12_dry 56 = .ok (.lload 5, 2) := by decide +kernel
theorem dX12_dry_58 : decode cX12_dry 58 = .ok (.ldc2_w 485, 3) := by decide +kernel
theorem dX12_dry_61 : decode cX12_dry 61 = .ok (.lmul, 1) := by decide +kernel
theorem dX12_dry_62 : decode cX12_dry 62 = .ok (.lstore 5, 2) := by decide +kernel
theorem dX12_dry_64 : decode cX12_dry 64 = .ok (.iinc 7 1, 3) := by decide +kernel
theorem dX12_dry_67 : decode cX12_dry 67 = .ok (.goto (-31), 3) := by decide +kernel
theorem dX12_dry_70 : decode cX12_dry 70 = .ok (.lload_n 3, 1) := by decide +kernel
theorem dX12_dry_71 : decode cX12_dry 71 = .ok (.lload 5, 2) := by decide +kernel
theorem dX12_dry_73 : decode cX12_dry 73 = .ok (.invokestatic 487, 3) := by decide +kernel
theorem dX12_dry_76 : decode cX12_dry 76 = .ok (.lstore 7, 2) := by decide +kernel
theorem dX12_dry_78 : decode cX12_dry 78 = .ok (.iload_n 2, 1) := by decide +kernel
theorem dX12_dry_79 : decode cX12_dry 79 = .ok (.ifCond .ne 10, 3) := by decide +kernel
theorem dX12_dry_82 : decode cX12_dry 82 = .ok (.lload_n 3, 1) := by decide +kernel
theorem dX12_dry_83 : decode cX12_dry 83 = .ok (.lload 7, 2) := by decide +kernel
theorem dX12_dry_85 : decode cX12_dry 85 = .ok (.ldiv, 1) := by decide +kernel
theorem dX12_dry_86 : decode cX12_dry 86 = .ok (.goto 8, 3) := by decide +kernel
theorem dX12_dry_89 : decode cX12_dry 89 = .ok (.lload 5, 2) := by decide +kernel
theorem dX12_dry_91 : decode cX12_dry 91 = .ok (.lload 7, 2) := by decide +kernel
theorem dX12_dry_93 : decode cX12_dry 93 = .ok (.ldiv, 1) := by decide +kernel
theorem dX12_dry_94 : decode cX12_dry 94 = .ok (.lreturn, 1) := by decide +kernel
theorem dX12_see_0 : decode cX12_see 0 = .ok (.aload_n 0, 1) := by decide +kernel
theorem dX12_see_1 : decode cX12_see 1 = .ok (.iconst 0, 1) := by decide +kernel
theorem dX12_see_2 : decode cX12_see 2 = .ok (.putfield 136, 3) := by decide +kernel
theorem dX12_see_5 : decode cX12_see 5 = .ok (.iload_n 1, 1) := by decide +kernel
theorem dX12_see_6 : decode cX12_see 6 = .ok (.iconst 1, 1) := by decide +kernel
theorem dX12_see_7 : decode cX12_see 7 = .ok (.if_icmp .lt 36, 3) := by decide +kernel
theorem dX12_see_10 : decode cX12_see 10 = .ok (.iload_n 1, 1) := by decide +kernel
theorem dX12_see_11 : decode cX12_see 11 = .ok (.bipush 60, 2) := by decide +kernel
theorem dX12_see_13 : decode cX12_see 13 = .ok (.if_icmp .gt 30, 3) := by decide +kernel
theorem dX12_see_16 : decode cX12_see 16 = .ok (.aload_n 0, 1) := by decide +kernel
theorem dX12_see_17 : decode cX12_see 17 = .ok (.iload_n 2, 1) := by decide +kernel
theorem dX12_see_18 : decode cX12_see 18 = .ok (.invokevirtual 396, 3) := by decide +kernel
theorem dX12_see_21 : decode cX12_see 21 = .ok (.ifCond .eq 22, 3) := by decide +kernel
theorem dX12_see_24 : decode cX12_see 24 = .ok (.aload_n 0, 1) := by decide +kernel
theorem dX12_see_25 : decode cX12_see 25 = .ok (.iload_n 3, 1) := by decide +kernel
theorem dX12_see_26 : decode cX12_see 26 = .ok (.iload 4, 2) := by decide +kernel
theorem dX12_see_28 : decode cX12_see 28 = .ok (.invokevirtual 412, 3) := by decide +kernel
theorem dX12_see_31 : decode cX12_see 31 = .ok (.ifCond .eq 12, 3) := by decide +kernel
theorem dX12_see_34 : decode cX12_see 34 = .ok (.aload_n 0, 1) := by decide +kernel
theorem dX12_see_35 : decode cX12_see 35 = .ok (.getfield 289, 3) := by decide +kernel
theorem dX12_see_38 : decode cX12_see 38 = .ok (.bipush 24, 2) := by decide +kernel
theorem dX12_see_40 : decode cX12_see 40 = .ok (.if_icmp .ne 5, 3) := by decide +kernel
theorem dX12_see_43 : decode cX12_see 43 = .ok (.iconst (-1), 1) := by decide +kernel
theorem dX12_see_44 : decode cX12_see 44 = .ok (.ireturn, 1) := by decide +kernel
theorem dX12_see_45 : decode cX12_see 45 = .ok (.aload_n 0, 1) := by decide +kernel
theorem dX12_see_46 : decode cX12_see 46 = .ok (.getfield 108, 3) := by decide +kernel
theorem dX12_see_49 : decode cX12_see 49 = .ok (.aload_n 0, 1) := by decide +kernel
theorem dX12_see_50 : decode cX12_see 50 = .ok (.getfield 289, 3) := by decide +kernel
theorem dX12_see_53 : decode cX12_see 53 = .ok (.iload_n 1, 1) := by decide +kernel
theorem dX12_see_54 : decode cX12_see 54 = .ok (.iastore, 1) := by decide +kernel
theorem dX12_see_55 : decode cX12_see 55 = .ok (.aload_n 0, 1) := by decide +kernel
theorem dX12_see_56 : decode cX12_see 56 = .ok (.getfield 111, 3) := by decide +kernel
theorem dX12_see_59 : decode cX12_see 59 = .ok (.aload_n 0, 1) := by decide +kernel
theorem dX12_see_60 : decode cX12_see 60 = .ok (.getfield 289, 3) := by decide +kernel
theorem dX12_see_63 : decode cX12_see 63 = .ok (.iload_n 2, 1) := by decide +kernel
theorem dX12_see_64 : decode cX12_see 64 = .ok (.iastore, 1) := by decide +kernel
theorem dX12_see_65 : decode cX12_see 65 = .ok (.aload_n 0, 1) := by decide +kernel
theorem dX12_see_66 : decode cX12_see 66 = .ok (.getfield 114, 3) := by decide +kernel
theorem dX12_see_69 : decode cX12_see 69 = .ok (.aload_n 0, 1) := by decide +kernel
theorem dX12_see_70 : decode cX12_see 70 = .ok (.getfield 289, 3) := by decide +kernel
theorem dX12_see_73 : decode cX12_see 73 = .ok (.iload_n 3, 1) := by decide +kernel
theorem dX12_see_74 : decode cX12_see 74 = .ok (.iastore, 1) := by decide +kernel
theorem dX12_see_75 : decode cX12_see 75 = .ok (.aload_n 0, 1) := by decide +kernel
theorem dX12_see_76 : decode cX12_see 76 = .ok (.getfield 117, 3) := by decide +kernel
theorem dX12_see_79 : decode cX12_see 79 = .ok (.aload_n 0, 1) := by decide +kernel
theorem dX12_see_80 : decode cX12_see 80 = .ok (.getfield 289, 3) := by decide +kernel
theorem dX12_see_83 : decode cX12_see 83 = .ok (.iload 4, 2) := by decide +kernel
theorem dX12_see_85 : decode cX12_see 85 = .ok (.iastore, 1) := by decide +kernel
theorem dX12_see_86 : decode cX12_see 86 = .ok (.aload_n 0, 1) := by decide +kernel
theorem dX12_see_87 : decode cX12_see 87 = .ok (.getfield 120, 3) := by decide +kernel
theorem dX12_see_90 : decode cX12_see 90 = .ok (.aload_n 0, 1) := by decide +kernel
theorem dX12_see_91 : decode cX12_see 91 = .ok (.getfield 289, 3) := by decide +kernel
theorem dX12_see_94 : decode cX12_see 94 = .ok (.iload 5, 2) := by decide +kernel
theorem dX12_see_96 : decode cX12_see 96 = .ok (.bastore, 1) := by decide +kernel
theorem dX12_see_97 : decode cX12_see 97 = .ok (.aload_n 0, 1) := by decide +kernel
theorem dX12_see_98 : decode cX12_see 98 = .ok (.getfield 124, 3) := by decide +kernel
theorem dX12_see_101 : decode cX12_see 101 = .ok (.aload_n 0, 1) := by decide +kernel
theorem dX12_see_102 : decode cX12_see 102 = .ok (.getfield 289, 3) := by decide +kernel
theorem dX12_see_105 : decode cX12_see 105 = .ok (.iconst (-1), 1) := by decide +kernel
theorem dX12_see_106 : decode cX12_see 106 = .ok (.iastore, 1) := by decide +kernel
theorem dX12_see_107 : decode cX12_see 107 = .ok (.aload_n 0, 1) := by decide +kernel
theorem dX12_see_108 : decode cX12_see 108 = .ok (.dup, 1) := by decide +kernel
theorem dX12_see_109 : decode cX12_see 109 = .ok (.getfield 289, 3) := by decide +kernel
theorem dX12_see_112 : decode cX12_see 112 = .ok (.iconst 1, 1) := by decide +kernel
theorem dX12_see_113 : decode cX12_see 113 = .ok (.iadd, 1) := by decide +kernel
theorem dX12_see_114 : decode cX12_see 114 = .ok (.putfield 289, 3) := by decide +kernel
theorem dX12_see_117 : decode cX12_see 117 = .ok (.aload_n 0, 1) := by decide +kernel
theorem dX12_see_118 : decode cX12_see 118 = .ok (.getfield 289, 3) := by decide +kernel
theorem dX12_see_121 : decode cX12_see 121 = .ok (.iconst 1, 1) := by decide +kernel
theorem dX12_see_122 : decode cX12_see 122 = .ok (.isub, 1) := by decide +kernel
theorem dX12_see_123 : decode cX12_see 123 = .ok (.ireturn, 1) := by decide +kernel
theorem dX12_strike_0 : decode cX12_strike 0 = .ok (.aload_n 0, 1) := by decide +kernel
theorem dX12_strike_1 : decode cX12_strike 1 = .ok (.iconst 0, 1) := by decide +kernel
theorem dX12_strike_2 : decode cX12_strike 2 = .ok (.putfield 136, 3) := by decide +kernel
theorem dX12_strike_5 : decode cX12_strike 5 = .ok (.iload_n 1, 1) := by decide +kernel
theorem dX12_strike_6 : decode cX12_strike 6 = .ok (.ifCond .lt 20, 3) := by decide +kernel
theorem dX12_strike_9 : decode cX12_strike 9 = .ok (.iload_n 1, 1) := by decide +kernel
theorem dX12_strike_10 : decode cX12_strike 10 = .ok (.aload_n 0, 1) := by decide +kernel
theorem dX12_strike_11 : decode cX12_strike 11 = .ok (.getfield 289, 3) := by decide +kernel
theorem dX12_strike_14 : decode cX12_strike 14 = .ok (.if_icmp .ge 12, 3) := by decide +kernel
theorem dX12_strike_17 : decode cX12_strike 17 = .ok (.aload_n 0, 1) := by decide +kernel
theorem dX12_strike_18 : decode cX12_strike 18 = .ok (.getfield 289, 3) := by decide +kernel
theorem dX12_strike_21 : decode cX12_strike 21 = .ok (.bipush 24, 2) := by decide +kernel
theorem dX12_strike_23 : decode cX12_strike 23 = .ok (.if_icmp .ne 5, 3) := by decide +kernel
theorem dX12_strike_26 : decode cX12_strike 26 = .ok (.iconst (-1), 1) := by decide +kernel
theorem dX12_strike_27 : decode cX12_strike 27 = .ok (.ireturn, 1) := by decide +kernel
theorem dX12_strike_28 : decode cX12_strike 28 = .ok (.aload_n 0, 1) := by decide +kernel
theorem dX12_strike_29 : decode cX12_strike 29 = .ok (.getfield 124, 3) := by decide +kernel
theorem dX12_strike_32 : decode cX12_strike 32 = .ok (.aload_n 0, 1) := by decide +kernel
theorem dX12_strike_33 : decode cX12_strike 33 = .ok (.getfield 289, 3) := by decide +kernel
theorem dX12_strike_36 : decode cX12_strike 36 = .ok (.iload_n 1, 1) := by decide +kernel
theorem dX12_strike_37 : decode cX12_strike 37 = .ok (.iastore, 1) := by decide +kernel
theorem dX12_strike_38 : decode cX12_strike 38 = .ok (.aload_n 0, 1) := by decide +kernel
theorem dX12_strike_39 : decode cX12_strike 39 = .ok (.dup, 1) := by decide +kernel
theorem dX12_strike_40 : decode cX12_strike 40 = .ok (.getfield 289, 3) := by decide +kernel
theorem dX12_strike_43 : decode cX12_strike 43 = .ok (.iconst 1, 1) := by decide +kernel
theorem dX12_strike_44 : decode cX12_strike 44 = .ok (.iadd, 1) := by decide +kernel
theorem dX12_strike_45 : decode cX12_strike 45 = .ok (.putfield 289, 3) := by decide +kernel
theorem dX12_strike_48 : decode cX12_strike 48 = .ok (.aload_n 0, 1) := by decide +kernel
theorem dX12_strike_49 : decode cX12_strike 49 = .ok (.getfield 289, 3) := by decide +kernel
theorem dX12_strike_52 : decode cX12_strike 52 = .ok (.iconst 1, 1) := by decide +kernel
theorem dX12_strike_53 : decode cX12_strike 53 = .ok (.isub, 1) := by decide +kernel
theorem dX12_strike_54 : decode cX12_strike 54 = .ok (.ireturn, 1) := by decide +kernel
theorem dX12_known_0 : decode cX12_known 0 = .ok (.aload_n 0, 1) := by decide +kernel
theorem dX12_known_1 : decode cX12_known 1 = .ok (.iconst 0, 1) := by decide +kernel
theorem dX12_known_2 : decode cX12_known 2 = .ok (.putfield 136, 3) := by decide +kernel
theorem dX12_known_5 : decode cX12_known 5 = .ok (.iload_n 1, 1) := by decide +kernel
theorem dX12_known_6 : decode cX12_known 6 = .ok (.iconst (-1), 1) := by decide +kernel
theorem dX12_known_7 : decode cX12_known 7 = .ok (.if_icmp .lt 11, 3) := by decide +kernel
theorem dX12_known_10 : decode cX12_known 10 = .ok (.iload_n 1, 1) := by decide +kernel
theorem dX12_known_11 : decode cX12_known 11 = .ok (.aload_n 0, 1) := by decide +kernel
theorem dX12_known_12 : decode cX12_known 12 = .ok (.getfield 289, 3) := by decide +kernel
theorem dX12_known_15 : decode cX12_known 15 = .ok (.if_icmp .le 5, 3) := by decide +kernel
theorem dX12_known_18 : decode cX12_known 18 = .ok (.iconst 0, 1) := by decide +kernel
theorem dX12_known_19 : decode cX12_known 19 = .ok (.ireturn, 1) := by decide +kernel
theorem dX12_known_20 : decode cX12_known 20 = .ok (.aload_n 0, 1) := by decide +kernel
theorem dX12_known_21 : decode cX12_known 21 = .ok (.iload_n 1, 1) := by decide +kernel
theorem dX12_known_22 : decode cX12_known 22 = .ok (.putfield 105, 3) := by decide +kernel
theorem dX12_known_25 : decode cX12_known 25 = .ok (.iconst 1, 1) := by decide +kernel
theorem dX12_known_26 : decode cX12_known 26 = .ok (.ireturn, 1) := by decide +kernel
theorem dX12_knownMany_0 : decode cX12_knownMany 0 = .ok (.aload_n 0, 1) := by decide +kernel
theorem dX12_knownMany_1 : decode cX12_knownMany 1 = .ok (.getfield 105, 3) := by decide +kernel
theorem dX12_knownMany_4 : decode cX12_knownMany 4 = .ok (.iconst (-1), 1) := by decide +kernel
theorem dX12_knownMany_5 : decode cX12_knownMany 5 = .ok (.if_icmp .ne 10, 3) := by decide +kernel
theorem dX12_knownMany_8 : decode cX12_knownMany 8 = .ok (.aload_n 0, 1) := by decide +kernel
theorem dX12_knownMany_9 : decode cX12_knownMany 9 = .ok (.getfield 289, 3) := by decide +kernel
theorem dX12_knownMany_12 : decode cX12_knownMany 12 = .ok (.goto 7, 3) := by decide +kernel
theorem dX12_knownMany_15 : decode cX12_knownMany 15 = .ok (.aload_n 0, 1) := by decide +kernel
theorem dX12_knownMany_16 : decode cX12_knownMany 16 = .ok (.getfield 105, 3) := by decide +kernel
theorem dX12_knownMany_19 : decode cX12_knownMany 19 = .ok (.ireturn, 1) := by decide +kernel
theorem dX12_isSo_0 : decode cX12_isSo 0 = .ok (.iconst 0, 1) := by decide +kernel
theorem dX12_isSo_1 : decode cX12_isSo 1 = .ok (.istore_n 2, 1) := by decide +kernel
theorem dX12_isSo_2 : decode cX12_isSo 2 = .ok (.iload_n 2, 1) := by decide +kernel
theorem dX12_isSo_3 : decode cX12_isSo 3 = .ok (.aload_n 0, 1) := by decide +kernel
theorem dX12_isSo_4 : decode cX12_isSo 4 = .ok (.invokevirtual 490, 3) := by decide +kernel
theorem dX12_isSo_7 : decode cX12_isSo 7 = .ok (.if_icmp .ge 75, 3) := by decide +kernel
theorem dX12_isSo_10 : decode cX12_isSo 10 = .ok (.aload_n 0, 1) := by decide +kernel
theorem dX12_isSo_11 : decode cX12_isSo 11 = .ok (.getfield 127, 3) := by decide +kernel
theorem dX12_isSo_14 : decode cX12_isSo 14 = .ok (.iload_n 2, 1) := by decide +kernel
theorem dX12_isSo_15 : decode cX12_isSo 15 = .ok (.baload, 1) := by decide +kernel
theorem dX12_isSo_16 : decode cX12_isSo 16 = .ok (.ifCond .ne 60, 3) := by decide +kernel
theorem dX12_isSo_19 : decode cX12_isSo 19 = .ok (.aload_n 0, 1) := by decide +kernel
theorem dX12_isSo_20 : decode cX12_isSo 20 = .ok (.getfield 124, 3) := by decide +kernel
theorem dX12_isSo_23 : decode cX12_isSo 23 = .ok (.iload_n 2, 1) := by decide +kernel
theorem dX12_isSo_24 : decode cX12_isSo 24 = .ok (.iaload, 1) := by decide +kernel
theorem dX12_isSo_25 : decode cX12_isSo 25 = .ok (.iconst (-1), 1) := by decide +kernel
theorem dX12_isSo_26 : decode cX12_isSo 26 = .ok (.if_icmp .ne 50, 3) := by decide +kernel
theorem dX12_isSo_29 : decode cX12_isSo 29 = .ok (.aload_n 0, 1) := by decide +kernel
theorem dX12_isSo_30 : decode cX12_isSo 30 = .ok (.getfield 108, 3) := by decide +kernel
theorem dX12_isSo_33 : decode cX12_isSo 33 = .ok (.iload_n 2, 1) := by decide +kernel
theorem dX12_isSo_34 : decode cX12_isSo 34 = .ok (.iaload, 1) := by decide +kernel
theorem dX12_isSo_35 : decode cX12_isSo 35 = .ok (.iload_n 1, 1) := by decide +kernel
theorem dX12_isSo_36 : decode cX12_isSo 36 = .ok (.if_icmp .eq 6, 3) := by decide +kernel
theorem dX12_isSo_39 : decode cX12_isSo 39 = .ok (.goto 37, 3) := by decide +kernel
theorem dX12_isSo_42 : decode cX12_isSo 42 = .ok (.aload_n 0, 1) := by decide +kernel
theorem dX12_isSo_43 : decode cX12_isSo 43 = .ok (.iconst 1, 1) := by decide +kernel
theorem dX12_isSo_44 : decode cX12_isSo 44 = .ok (.aload_n 0, 1) := by decide +kernel
theorem dX12_isSo_45 : decode cX12_isSo 45 = .ok (.getfield 111, 3) := by decide +kernel
theorem dX12_isSo_48 : decode cX12_isSo 48 = .ok (.iload_n 2, 1) := by decide +kernel
theorem dX12_isSo_49 : decode cX12_isSo 49 = .ok (.iaload, 1) := by decide +kernel
theorem dX12_isSo_50 : decode cX12_isSo 50 = .ok (.aload_n 0, 1) := by decide +kernel
theorem dX12_isSo_51 : decode cX12_isSo 51 = .ok (.getfield 114, 3) := by decide +kernel
theorem dX12_isSo_54 : decode cX12_isSo 54 = .ok (.iload_n 2, 1) := by decide +kernel
theorem dX12_isSo_55 : decode cX12_isSo 55 = .ok (.iaload, 1) := by decide +kernel
theorem dX12_isSo_56 : decode cX12_isSo 56 = .ok (.aload_n 0, 1) := by decide +kernel
theorem dX12_isSo_57 : decode cX12_isSo 57 = .ok (.getfield 117, 3) := by decide +kernel
theorem dX12_isSo_60 : decode cX12_isSo 60 = .ok (.iload_n 2, 1) := by decide +kernel
theorem dX12_isSo_61 : decode cX12_isSo 61 = .ok (.iaload, 1) := by decide +kernel
theorem dX12_isSo_62 : decode cX12_isSo 62 = .ok (.invokevirtual 408, 3) := by decide +kernel
theorem dX12_isSo_65 : decode cX12_isSo 65 = .ok (.aload_n 0, 1) := by decide +kernel
theorem dX12_isSo_66 : decode cX12_isSo 66 = .ok (.getfield 120, 3) := by decide +kernel
theorem dX12_isSo_69 : decode cX12_isSo 69 = .ok (.iload_n 2, 1) := by decide +kernel
theorem dX12_isSo_70 : decode cX12_isSo 70 = .ok (.baload, 1) := by decide +kernel
theorem dX12_isSo_71 : decode cX12_isSo 71 = .ok (.if_icmp .eq 5, 3) := by decide +kernel
theorem dX12_isSo_74 : decode cX12_isSo 74 = .ok (.iconst 0, 1) := by decide +kernel
theorem dX12_isSo_75 : decode cX12_isSo 75 = .ok (.ireturn, 1) := by decide +kernel
theorem dX12_isSo_76 : decode cX12_isSo 76 = .ok (.iinc 2 1, 3) := by decide +kernel
theorem dX12_isSo_79 : decode cX12_isSo 79 = .ok (.goto (-77), 3) := by decide +kernel
theorem dX12_isSo_82 : decode cX12_isSo 82 = .ok (.iconst 1, 1) := by decide +kernel
theorem dX12_isSo_83 : decode cX12_isSo 83 = .ok (.ireturn, 1) := by decide +kernel
theorem dX12_startsWith_0 : decode cX12_startsWith 0 = .ok (.aload_n 0, 1) := by decide +kernel
theorem dX12_startsWith_1 : decode cX12_startsWith 1 = .ok (.iconst 1, 1) := by decide +kernel
theorem dX12_startsWith_2 : decode cX12_startsWith 2 = .ok (.invokevirtual 319, 3) := by decide +kernel
theorem dX12_startsWith_5 : decode cX12_startsWith 5 = .ok (.aload_n 0, 1) := by decide +kernel
theorem dX12_startsWith_6 : decode cX12_startsWith 6 = .ok (.getfield 87, 3) := by decide +kernel
theorem dX12_startsWith_9 : decode cX12_startsWith 9 = .ok (.bipush 6, 2) := by decide +kernel
theorem dX12_startsWith_11 : decode cX12_startsWith 11 = .ok (.iload_n 1, 1) := by decide +kernel
theorem dX12_startsWith_12 : decode cX12_startsWith 12 = .ok (.iadd, 1) := by decide +kernel
theorem dX12_startsWith_13 : decode cX12_startsWith 13 = .ok (.iload_n 2, 1) := by decide +kernel
theorem dX12_startsWith_14 : decode cX12_startsWith 14 = .ok (.iastore, 1) := by decide +kernel
theorem dX12_startsWith_15 : decode cX12_startsWith 15 = .ok (.return_, 1) := by decide +kernel
theorem dX12_fitsLegs_0 : decode cX12_fitsLegs 0 = .ok (.aload_n 0, 1) := by decide +kernel
theorem dX12_fitsLegs_1 : decode cX12_fitsLegs 1 = .ok (.iload_n 1, 1) := by decide +kernel
theorem dX12_fitsLegs_2 : decode cX12_fitsLegs 2 = .ok (.iload_n 2, 1) := by decide +kernel
theorem dX12_fitsLegs_3 : decode cX12_fitsLegs 3 = .ok (.invokevirtual 493, 3) := by decide +kernel
theorem dX12_fitsLegs_6 : decode cX12_fitsLegs 6 = .ok (.iconst 1, 1) := by decide +kernel
theorem dX12_fitsLegs_7 : decode cX12_fitsLegs 7 = .ok (.istore 4, 2) := by decide +kernel
theorem dX12_fitsLegs_9 : decode cX12_fitsLegs 9 = .ok (.iload 4, 2) := by decide +kernel
theorem dX12_fitsLegs_11 : decode cX12_fitsLegs 11 = .ok (.iload_n 3, 1) := by decide +kernel
theorem dX12_fitsLegs_12 : decode cX12_fitsLegs 12 = .ok (.if_icmp .gt 26, 3) := by decide +kernel
theorem dX12_fitsLegs_15 : decode cX12_fitsLegs 15 = .ok (.aload_n 0, 1) := by decide +kernel
theorem dX12_fitsLegs_16 : decode cX12_fitsLegs 16 = .ok (.iconst 1, 1) := by decide +kernel
theorem dX12_fitsLegs_17 : decode cX12_fitsLegs 17 = .ok (.iconst 0, 1) := by decide +kernel
theorem dX12_fitsLegs_18 : decode cX12_fitsLegs 18 = .ok (.invokevirtual 392, 3) := by decide +kernel
theorem dX12_fitsLegs_21 : decode cX12_fitsLegs 21 = .ok (.aload_n 0, 1) := by decide +kernel
theorem dX12_fitsLegs_22 : decode cX12_fitsLegs 22 = .ok (.iload 4, 2) := by decide +kernel
theorem dX12_fitsLegs_24 : decode cX12_fitsLegs 24 = .ok (.invokevirtual 496, 3) := by decide +kernel
theorem dX12_fitsLegs_27 : decode cX12_fitsLegs 27 = .ok (.ifCond .ne 5, 3) := by decide +kernel
theorem dX12_fitsLegs_30 : decode cX12_fitsLegs 30 = .ok (.iconst 0, 1) := by decide +kernel
theorem dX12_fitsLegs_31 : decode cX12_fitsLegs 31 = .ok (.ireturn, 1) := by decide +kernel
theorem dX12_fitsLegs_32 : decode cX12_fitsLegs 32 = .ok (.iinc 4 1, 3) := by decide +kernel
theorem dX12_fitsLegs_35 : decode cX12_fitsLegs 35 = .ok (.goto (-26), 3) := by decide +kernel
theorem dX12_fitsLegs_38 : decode cX12_fitsLegs 38 = .ok (.iconst 1, 1) := by decide +kernel
theorem dX12_fitsLegs_39 : decode cX12_fitsLegs 39 = .ok (.ireturn, 1) := by decide +kernel
theorem dX12_legsFor_0 : decode cX12_legsFor 0 = .ok (.iconst 0, 1) := by decide +kernel
theorem dX12_legsFor_1 : decode cX12_legsFor 1 = .ok (.istore_n 2, 1) := by decide +kernel
theorem dX12_legsFor_2 : decode cX12_legsFor 2 = .ok (.iconst 0, 1) := by decide +kernel
theorem dX12_legsFor_3 : decode cX12_legsFor 3 = .ok (.istore_n 3, 1) := by decide +kernel
theorem dX12_legsFor_4 : decode cX12_legsFor 4 = .ok (.iload_n 3, 1) := by decide +kernel
theorem dX12_legsFor_5 : decode cX12_legsFor 5 = .ok (.aload_n 0, 1) := by decide +kernel
theorem dX12_legsFor_6 : decode cX12_legsFor 6 = .ok (.invokevirtual 490, 3) := by decide +kernel
theorem dX12_legsFor_9 : decode cX12_legsFor 9 = .ok (.if_icmp .ge 16, 3) := by decide +kernel
theorem dX12_legsFor_12 : decode cX12_legsFor 12 = .ok (.aload_n 0, 1) := by decide +kernel
theorem dX12_legsFor_13 : decode cX12_legsFor 13 = .ok (.getfield 127, 3) := by decide +kernel
theorem dX12_legsFor_16 : decode cX12_legsFor 16 = .ok (.iload_n 3, 1) := by decide +kernel
theorem dX12_legsFor_17 : decode cX12_legsFor 17 = .ok (.iconst 0, 1) := by decide +kernel
theorem dX12_legsFor_18 : decode cX12_legsFor 18 = .ok (.bastore, 1) := by decide +kernel
theorem dX12_legsFor_19 : decode cX12_legsFor 19 = .ok (.iinc 3 1, 3) := by decide +kernel
theorem dX12_legsFor_22 : decode cX12_legsFor 22 = .ok (.goto (-18), 3) := by decide +kernel
theorem dX12_legsFor_25 : decode cX12_legsFor 25 = .ok (.aload_n 0, 1) := by decide +kernel
theorem dX12_legsFor_26 : decode cX12_legsFor 26 = .ok (.invokevirtual 490, 3) := by decide +kernel
theorem dX12_legsFor_29 : decode cX12_legsFor 29 = .ok (.iconst 1, 1) := by decide +kernel
theorem dX12_legsFor_30 : decode cX12_legsFor 30 = .ok (.isub, 1) := by decide +kernel
theorem dX12_legsFor_31 : decode cX12_legsFor 31 = .ok (.istore_n 3, 1) := by decide +kernel
theorem dX12_legsFor_32 : decode cX12_legsFor 32 = .ok (.iload_n 3, 1) := by decide +kernel
theorem dX12_legsFor_33 : decode cX12_legsFor 33 = .ok (.ifCond .lt 40, 3) := by decide +kernel
theorem dX12_legsFor_36 : decode cX12_legsFor 36 = .ok (.aload_n 0, 1) := by decide +kernel
theorem dX12_legsFor_37 : decode cX12_legsFor 37 = .ok (.getfield 127, 3) := by decide +kernel
theorem dX12_legsFor_40 : decode cX12_legsFor 40 = .ok (.iload_n 3, 1) := by decide +kernel
theorem dX12_legsFor_41 : decode cX12_legsFor 41 = .ok (.baload, 1) := by decide +kernel
theorem dX12_legsFor_42 : decode cX12_legsFor 42 = .ok (.ifCond .ne 25, 3) := by decide +kernel
theorem dX12_legsFor_45 : decode cX12_legsFor 45 = .ok (.aload_n 0, 1) := by decide +kernel
theorem dX12_legsFor_46 : decode cX12_legsFor 46 = .ok (.getfield 124, 3) := by decide +kernel
theorem dX12_legsFor_49 : decode cX12_legsFor 49 = .ok (.iload_n 3, 1) := by decide +kernel
theorem dX12_legsFor_50 : decode cX12_legsFor 50 = .ok (.iaload, 1) := by decide +kernel
theorem dX12_legsFor_51 : decode cX12_legsFor 51 = .ok (.iconst (-1), 1) := by decide +kernel
theorem dX12_legsFor_52 : decode cX12_legsFor 52 = .ok (.if_icmp .eq 15, 3) := by decide +kernel
theorem dX12_legsFor_55 : decode cX12_legsFor 55 = .ok (.aload_n 0, 1) := by decide +kernel
theorem dX12_legsFor_56 : decode cX12_legsFor 56 = .ok (.getfield 127, 3) := by decide +kernel
theorem dX12_legsFor_59 : decode cX12_legsFor 59 = .ok (.aload_n 0, 1) := by decide +kernel
theorem dX12_legsFor_60 : decode cX12_legsFor 60 = .ok (.getfield 124, 3) := by decide +kernel
theorem dX12_legsFor_63 : decode cX12_legsFor 63 = .ok (.iload_n 3, 1) := by decide +kernel
theorem dX12_legsFor_64 : decode cX12_legsFor 64 = .ok (.iaload, 1) := by decide +kernel
theorem dX12_legsFor_65 : decode cX12_legsFor 65 = .ok (.iconst 1, 1) := by decide +kernel
theorem dX12_legsFor_66 : decode cX12_legsFor 66 = .ok (.bastore, 1) := by decide +kernel
theorem dX12_legsFor_67 : decode cX12_legsFor 67 = .ok (.iinc 3 (-1), 3) := by decide +kernel
theorem dX12_legsFor_70 : decode cX12_legsFor 70 = .ok (.goto (-38), 3) := by decide +kernel
theorem dX12_legsFor_73 : decode cX12_legsFor 73 = .ok (.iconst 0, 1) := by decide +kernel
theorem dX12_legsFor_74 : decode cX12_legsFor 74 = .ok (.istore_n 3, 1) := by decide +kernel
theorem dX12_legsFor_75 : decode cX12_legsFor 75 = .ok (.iload_n 3, 1) := by decide +kernel
theorem dX12_legsFor_76 : decode cX12_legsFor 76 = .ok (.aload_n 0, 1) := by decide +kernel
theorem dX12_legsFor_77 : decode cX12_legsFor 77 = .ok (.invokevirtual 490, 3) := by decide +kernel
theorem dX12_legsFor_80 : decode cX12_legsFor 80 = .ok (.if_icmp .ge 39, 3) := by decide +kernel
theorem dX12_legsFor_83 : decode cX12_legsFor 83 = .ok (.aload_n 0, 1) := by decide +kernel
theorem dX12_legsFor_84 : decode cX12_legsFor 84 = .ok (.getfield 127, 3) := by decide +kernel
theorem dX12_legsFor_87 : decode cX12_legsFor 87 = .ok (.iload_n 3, 1) := by decide +kernel
theorem dX12_legsFor_88 : decode cX12_legsFor 88 = .ok (.baload, 1) := by decide +kernel
theorem dX12_legsFor_89 : decode cX12_legsFor 89 = .ok (.ifCond .ne 24, 3) := by decide +kernel
theorem dX12_legsFor_92 : decode cX12_legsFor 92 = .ok (.aload_n 0, 1) := by decide +kernel
theorem dX12_legsFor_93 : decode cX12_legsFor 93 = .ok (.getfield 124, 3) := by decide +kernel
theorem dX12_legsFor_96 : decode cX12_legsFor 96 = .ok (.iload_n 3, 1) := by decide +kernel
theorem dX12_legsFor_97 : decode cX12_legsFor 97 = .ok (.iaload, 1) := by decide +kernel
theorem dX12_legsFor_98 : decode cX12_legsFor 98 = .ok (.iconst (-1), 1) := by decide +kernel
theorem dX12_legsFor_99 : decode cX12_legsFor 99 = .ok (.if_icmp .ne 14, 3) := by decide +kernel
theorem dX12_legsFor_102 : decode cX12_legsFor 102 = .ok (.iload_n 2, 1) := by decide +kernel
theorem dX12_legsFor_103 : decode cX12_legsFor 103 = .ok (.aload_n 0, 1) := by decide +kernel
theorem dX12_legsFor_104 : decode cX12_legsFor 104 = .ok (.getfield 108, 3) := by decide +kernel
theorem dX12_legsFor_107 : decode cX12_legsFor 107 = .ok (.iload_n 3, 1) := by decide +kernel
theorem dX12_legsFor_108 : decode cX12_legsFor 108 = .ok (.iaload, 1) := by decide +kernel
theorem dX12_legsFor_109 : decode cX12_legsFor 109 = .ok (.invokestatic 332, 3) := by decide +kernel
theorem dX12_legsFor_112 : decode cX12_legsFor 112 = .ok (.istore_n 2, 1) := by decide +kernel
theorem dX12_legsFor_113 : decode cX12_legsFor 113 = .ok (.iinc 3 1, 3) := by decide +kernel
theorem dX12_legsFor_116 : decode cX12_legsFor 116 = .ok (.goto (-41), 3) := by decide +kernel
theorem dX12_legsFor_119 : decode cX12_legsFor 119 = .ok (.iconst 0, 1) := by decide +kernel
theorem dX12_legsFor_120 : decode cX12_legsFor 120 = .ok (.istore_n 3, 1) := by decide +kernel
theorem dX12_legsFor_121 : decode cX12_legsFor 121 = .ok (.iconst 0, 1) := by decide +kernel
theorem dX12_legsFor_122 : decode cX12_legsFor 122 = .ok (.istore 4, 2) := by decide +kernel
theorem dX12_legsFor_124 : decode cX12_legsFor 124 = .ok (.iload 4, 2) := by decide +kernel
theorem dX12_legsFor_126 : decode cX12_legsFor 126 = .ok (.bipush 30, 2) := by decide +kernel
theorem dX12_legsFor_128 : decode cX12_legsFor 128 = .ok (.if_icmp .ge 33, 3) := by decide +kernel
theorem dX12_legsFor_131 : decode cX12_legsFor 131 = .ok (.iload_n 3, 1) := by decide +kernel
theorem dX12_legsFor_132 : decode cX12_legsFor 132 = .ok (.aload_n 0, 1) := by decide +kernel
theorem dX12_legsFor_133 : decode cX12_legsFor 133 = .ok (.iload_n 1, 1) := by decide +kernel
theorem dX12_legsFor_134 : decode cX12_legsFor 134 = .ok (.iload 4, 2) := by decide +kernel
theorem dX12_legsFor_136 : decode cX12_legsFor 136 = .ok (.iconst 1, 1) := by decide +kernel
theorem dX12_legsFor_137 : decode cX12_legsFor 137 = .ok (.iadd, 1) := by decide +kernel
theorem dX12_legsFor_138 : decode cX12_legsFor 138 = .ok (.iload_n 2, 1) := by decide +kernel
theorem dX12_legsFor_139 : decode cX12_legsFor 139 = .ok (.invokevirtual 499, 3) := by decide +kernel
theorem dX12_legsFor_142 : decode cX12_legsFor 142 = .ok (.ifCond .eq 10, 3) := by decide +kernel
theorem dX12_legsFor_145 : decode cX12_legsFor 145 = .ok (.iconst 1, 1) := by decide +kernel
theorem dX12_legsFor_146 : decode cX12_legsFor 146 = .ok (.iload 4, 2) := by decide +kernel
theorem dX12_legsFor_148 : decode cX12_legsFor 148 = .ok (.ishl, 1) := by decide +kernel
theorem dX12_legsFor_149 : decode cX12_legsFor 149 = .ok (.goto 4, 3) := by decide +kernel
theorem dX12_legsFor_152 : decode cX12_legsFor 152 = .ok (.iconst 0, 1) := by decide +kernel
theorem dX12_legsFor_153 : decode cX12_legsFor 153 = .ok (.ior, 1) := by decide +kernel
theorem dX12_legsFor_154 : decode cX12_legsFor 154 = .ok (.istore_n 3, 1) := by decide +kernel
theorem dX12_legsFor_155 : decode cX12_legsFor 155 = .ok (.iinc 4 1, 3) := by decide +kernel
theorem dX12_legsFor_158 : decode cX12_legsFor 158 = .ok (.goto (-34), 3) := by decide +kernel
theorem dX12_legsFor_161 : decode cX12_legsFor 161 = .ok (.iload_n 3, 1) := by decide +kernel
theorem dX12_legsFor_162 : decode cX12_legsFor 162 = .ok (.ireturn, 1) := by decide +kernel
theorem dX12_legsOf_0 : decode cX12_legsOf 0 = .ok (.aload_n 0, 1) := by decide +kernel
theorem dX12_legsOf_1 : decode cX12_legsOf 1 = .ok (.iconst 0, 1) := by decide +kernel
theorem dX12_legsOf_2 : decode cX12_legsOf 2 = .ok (.putfield 136, 3) := by decide +kernel
theorem dX12_legsOf_5 : decode cX12_legsOf 5 = .ok (.aload_n 0, 1) := by decide +kernel
theorem dX12_legsOf_6 : decode cX12_legsOf 6 = .ok (.iload_n 1, 1) := by decide +kernel
theorem dX12_legsOf_7 : decode cX12_legsOf 7 = .ok (.invokevirtual 402, 3) := by decide +kernel
theorem dX12_legsOf_10 : decode cX12_legsOf 10 = .ok (.ifCond .eq 11, 3) := by decide +kernel
theorem dX12_legsOf_13 : decode cX12_legsOf 13 = .ok (.aload_n 0, 1) := by decide +kernel
theorem dX12_legsOf_14 : decode cX12_legsOf 14 = .ok (.iload_n 1, 1) := by decide +kernel
theorem dX12_legsOf_15 : decode cX12_legsOf 15 = .ok (.invokevirtual 502, 3) := by decide +kernel
theorem dX12_legsOf_18 : decode cX12_legsOf 18 = .ok (.goto 4, 3) := by decide +kernel
theorem dX12_legsOf_21 : decode cX12_legsOf 21 = .ok (.iconst (-1), 1) := by decide +kernel
theorem dX12_legsOf_22 : decode cX12_legsOf 22 = .ok (.ireturn, 1) := by decide +kernel
theorem dX12_yesOf_0 : decode cX12_yesOf 0 = .ok (.iconst 0, 1) := by decide +kernel
theorem dX12_yesOf_1 : decode cX12_yesOf 1 = .ok (.istore 4, 2) := by decide +kernel
theorem dX12_yesOf_3 : decode cX12_yesOf 3 = .ok (.iconst 0, 1) := by decide +kernel
theorem dX12_yesOf_4 : decode cX12_yesOf 4 = .ok (.istore 5, 2) := by decide +kernel
theorem dX12_yesOf_6 : decode cX12_yesOf 6 = .ok (.iload 5, 2) := by decide +kernel
theorem dX12_yesOf_8 : decode cX12_yesOf 8 = .ok (.bipush 30, 2) := by decide +kernel
theorem dX12_yesOf_10 : decode cX12_yesOf 10 = .ok (.if_icmp .ge 89, 3) := by decide +kernel
theorem dX12_yesOf_13 : decode cX12_yesOf 13 = .ok (.iload_n 1, 1) := by decide +kernel
theorem dX12_yesOf_14 : decode cX12_yesOf 14 = .ok (.iload 5, 2) := by decide +kernel
theorem dX12_yesOf_16 : decode cX12_yesOf 16 = .ok (.ishr, 1) := by decide +kernel
theorem dX12_yesOf_17 : decode cX12_yesOf 17 = .ok (.iconst 1, 1) := by decide +kernel
theorem dX12_yesOf_18 : decode cX12_yesOf 18 = .ok (.iand, 1) := by decide +kernel
theorem dX12_yesOf_19 : decode cX12_yesOf 19 = .ok (.ifCond .ne 6, 3) := by decide +kernel
theorem dX12_yesOf_22 : decode cX12_yesOf 22 = .ok (.goto 71, 3) := by decide +kernel
theorem dX12_yesOf_25 : decode cX12_yesOf 25 = .ok (.iload 4, 2) := by decide +kernel
theorem dX12_yesOf_27 : decode cX12_yesOf 27 = .ok (.iload_n 2, 1) := by decide +kernel
theorem dX12_yesOf_28 : decode cX12_yesOf 28 = .ok (.aload_n 0, 1) := by decide +kernel
theorem dX12_yesOf_29 : decode cX12_yesOf 29 = .ok (.getfield 130, 3) := by decide +kernel
theorem dX12_yesOf_32 : decode cX12_yesOf 32 = .ok (.iconst 4, 1) := by decide +kernel
theorem dX12_yesOf_33 : decode cX12_yesOf 33 = .ok (.iload 5, 2) := by decide +kernel
theorem dX12_yesOf_35 : decode cX12_yesOf 35 = .ok (.imul, 1) := by decide +kernel
theorem dX12_yesOf_36 : decode cX12_yesOf 36 = .ok (.iaload, 1) := by decide +kernel
theorem dX12_yesOf_37 : decode cX12_yesOf 37 = .ok (.if_icmp .lt 52, 3) := by decide +kernel
theorem dX12_yesOf_40 : decode cX12_yesOf 40 = .ok (.iload_n 2, 1) := by decide +kernel
theorem dX12_yesOf_41 : decode cX12_yesOf 41 = .ok (.aload_n 0, 1) := by decide +kernel
theorem dX12_yesOf_42 : decode cX12_yesOf 42 = .ok (.getfield 130, 3) := by decide +kernel
theorem dX12_yesOf_45 : decode cX12_yesOf 45 = .ok (.iconst 4, 1) := by decide +kernel
theorem dX12_yesOf_46 : decode cX12_yesOf 46 = .ok (.iload 5, 2) := by decide +kernel
theorem dX12_yesOf_48 : decode cX12_yesOf 48 = .ok (.imul, 1) := by decide +kernel
theorem dX12_yesOf_49 : decode cX12_yesOf 49 = .ok (.iconst 1, 1) := by decide +kernel
theorem dX12_yesOf_50 : decode cX12_yesOf 50 = .ok (.iadd, 1) := by decide +kernel
theorem dX12_yesOf_51 : decode cX12_yesOf 51 = .ok (.iaload, 1) := by decide +kernel
theorem dX12_yesOf_52 : decode cX12_yesOf 52 = .ok (.if_icmp .gt 37, 3) := by decide +kernel
theorem dX12_yesOf_55 : decode cX12_yesOf 55 = .ok (.iload_n 3, 1) := by decide +kernel
theorem dX12_yesOf_56 : decode cX12_yesOf 56 = .ok (.aload_n 0, 1) := by decide +kernel
theorem dX12_yesOf_57 : decode cX12_yesOf 57 = .ok (.getfield 130, 3) := by decide +kernel
theorem dX12_yesOf_60 : decode cX12_yesOf 60 = .ok (.iconst 4, 1) := by decide +kernel
theorem dX12_yesOf_61 : decode cX12_yesOf 61 = .ok (.iload 5, 2) := by decide +kernel
theorem dX12_yesOf_63 : decode cX12_yesOf 63 = .ok (.imul, 1) := by decide +kernel
theorem dX12_yesOf_64 : decode cX12_yesOf 64 = .ok (.iconst 2, 1) := by decide +kernel
theorem dX12_yesOf_65 : decode cX12_yesOf 65 = .ok (.iadd, 1) := by decide +kernel
theorem dX12_yesOf_66 : decode cX12_yesOf 66 = .ok (.iaload, 1) := by decide +kernel
theorem dX12_yesOf_67 : decode cX12_yesOf 67 = .ok (.if_icmp .lt 22, 3) := by decide +kernel
theorem dX12_yesOf_70 : decode cX12_yesOf 70 = .ok (.iload_n 3, 1) := by decide +kernel
theorem dX12_yesOf_71 : decode cX12_yesOf 71 = .ok (.aload_n 0, 1) := by decide +kernel
theorem dX12_yesOf_72 : decode cX12_yesOf 72 = .ok (.getfield 130, 3) := by decide +kernel
theorem dX12_yesOf_75 : decode cX12_yesOf 75 = .ok (.iconst 4, 1) := by decide +kernel
theorem dX12_yesOf_76 : decode cX12_yesOf 76 = .ok (.iload 5, 2) := by decide +kernel
theorem dX12_yesOf_78 : decode cX12_yesOf 78 = .ok (.imul, 1) := by decide +kernel
theorem dX12_yesOf_79 : decode cX12_yesOf 79 = .ok (.iconst 3, 1) := by decide +kernel
theorem dX12_yesOf_80 : decode cX12_yesOf 80 = .ok (.iadd, 1) := by decide +kernel
theorem dX12_yesOf_81 : decode cX12_yesOf 81 = .ok (.iaload, 1) := by decide +kernel
theorem dX12_yesOf_82 : decode cX12_yesOf 82 = .ok (.if_icmp .gt 7, 3) := by decide +kernel
theorem dX12_yesOf_85 : decode cX12_yesOf 85 = .ok (.iconst 1, 1) := by decide +kernel
theorem dX12_yesOf_86 : decode cX12_yesOf 86 = .ok (.goto 4, 3) := by decide +kernel
theorem dX12_yesOf_89 : decode cX12_yesOf 89 = .ok (.iconst 0, 1) := by decide +kernel
theorem dX12_yesOf_90 : decode cX12_yesOf 90 = .ok (.iadd, 1) := by decide +kernel
theorem dX12_yesOf_91 : decode cX12_yesOf 91 = .ok (.istore 4, 2) := by decide +kernel
theorem dX12_yesOf_93 : decode cX12_yesOf 93 = .ok (.iinc 5 1, 3) := by decide +kernel
theorem dX12_yesOf_96 : decode cX12_yesOf 96 = .ok (.goto (-90), 3) := by decide +kernel
theorem dX12_yesOf_99 : decode cX12_yesOf 99 = .ok (.iload 4, 2) := by decide +kernel
theorem dX12_yesOf_101 : decode cX12_yesOf 101 = .ok (.ireturn, 1) := by decide +kernel
theorem dX12_ask_0 : decode cX12_ask 0 = .ok (.aload_n 0, 1) := by decide +kernel
theorem dX12_ask_1 : decode cX12_ask 1 = .ok (.iconst 0, 1) := by decide +kernel
theorem dX12_ask_2 : decode cX12_ask 2 = .ok (.putfield 136, 3) := by decide +kernel
theorem dX12_ask_5 : decode cX12_ask 5 = .ok (.aload_n 0, 1) := by decide +kernel
theorem dX12_ask_6 : decode cX12_ask 6 = .ok (.iload_n 1, 1) := by decide +kernel
theorem dX12_ask_7 : decode cX12_ask 7 = .ok (.invokevirtual 402, 3) := by decide +kernel
theorem dX12_ask_10 : decode cX12_ask 10 = .ok (.ifCond .eq 20, 3) := by decide +kernel
theorem dX12_ask_13 : decode cX12_ask 13 = .ok (.aload_n 0, 1) := by decide +kernel
theorem dX12_ask_14 : decode cX12_ask 14 = .ok (.iload_n 2, 1) := by decide +kernel
theorem dX12_ask_15 : decode cX12_ask 15 = .ok (.invokevirtual 396, 3) := by decide +kernel
theorem dX12_ask_18 : decode cX12_ask 18 = .ok (.ifCond .eq 12, 3) := by decide +kernel
theorem dX12_ask_21 : decode cX12_ask 21 = .ok (.iload_n 3, 1) := by decide +kernel
theorem dX12_ask_22 : decode cX12_ask 22 = .ok (.ifCond .lt 8, 3) := by decide +kernel
theorem dX12_ask_25 : decode cX12_ask 25 = .ok (.iload_n 3, 1) := by decide +kernel
theorem dX12_ask_26 : decode cX12_ask 26 = .ok (.iconst 1, 1) := by decide +kernel
theorem dX12_ask_27 : decode cX12_ask 27 = .ok (.if_icmp .le 5, 3) := by decide +kernel
theorem dX12_ask_30 : decode cX12_ask 30 = .ok (.iconst (-1), 1) := by decide +kernel
theorem dX12_ask_31 : decode cX12_ask 31 = .ok (.ireturn, 1) := by decide +kernel
theorem dX12_ask_32 : decode cX12_ask 32 = .ok (.aload_n 0, 1) := by decide +kernel
theorem dX12_ask_33 : decode cX12_ask 33 = .ok (.iload_n 1, 1) := by decide +kernel
theorem dX12_ask_34 : decode cX12_ask 34 = .ok (.invokevirtual 502, 3) := by decide +kernel
theorem dX12_ask_37 : decode cX12_ask 37 = .ok (.istore 4, 2) := by decide +kernel
theorem dX12_ask_39 : decode cX12_ask 39 = .ok (.iconst 0, 1) := by decide +kernel
theorem dX12_ask_40 : decode cX12_ask 40 = .ok (.istore 5, 2) := by decide +kernel
theorem dX12_ask_42 : decode cX12_ask 42 = .ok (.iload 5, 2) := by decide +kernel
theorem dX12_ask_44 : decode cX12_ask 44 = .ok (.bipush 30, 2) := by decide +kernel
theorem dX12_ask_46 : decode cX12_ask 46 = .ok (.if_icmp .ge 59, 3) := by decide +kernel
theorem dX12_ask_49 : decode cX12_ask 49 = .ok (.aload_n 0, 1) := by decide +kernel
theorem dX12_ask_50 : decode cX12_ask 50 = .ok (.iload_n 1, 1) := by decide +kernel
theorem dX12_ask_51 : decode cX12_ask 51 = .ok (.iload 5, 2) := by decide +kernel
theorem dX12_ask_53 : decode cX12_ask 53 = .ok (.iconst 1, 1) := by decide +kernel
theorem dX12_ask_54 : decode cX12_ask 54 = .ok (.iadd, 1) := by decide +kernel
theorem dX12_ask_55 : decode cX12_ask 55 = .ok (.invokevirtual 493, 3) := by decide +kernel
theorem dX12_ask_58 : decode cX12_ask 58 = .ok (.aload_n 0, 1) := by decide +kernel
theorem dX12_ask_59 : decode cX12_ask 59 = .ok (.bipush 20, 2) := by decide +kernel
theorem dX12_ask_61 : decode cX12_ask 61 = .ok (.invokevirtual 437, 3) := by decide +kernel
theorem dX12_ask_64 : decode cX12_ask 64 = .ok (.iconst 0, 1) := by decide +kernel
theorem dX12_ask_65 : decode cX12_ask 65 = .ok (.istore 6, 2) := by decide +kernel
theorem dX12_ask_67 : decode cX12_ask 67 = .ok (.iload 6, 2) := by decide +kernel
theorem dX12_ask_69 : decode cX12_ask 69 = .ok (.iconst 4, 1) := by decide +kernel
theorem dX12_ask_70 : decode cX12_ask 70 = .ok (.if_icmp .ge 29, 3) := by decide +kernel
theorem dX12_ask_73 : decode cX12_ask 73 = .ok (.aload_n 0, 1) := by decide +kernel
theorem dX12_ask_74 : decode cX12_ask 74 = .ok (.getfield 130, 3) := by decide +kernel
theorem dX12_ask_77 : decode cX12_ask 77 = .ok (.iconst 4, 1) := by decide +kernel
theorem dX12_ask_78 : decode cX12_ask 78 = .ok (.iload 5, 2) := by decide +kernel
theorem dX12_ask_80 : decode cX12_ask 80 = .ok (.imul, 1) := by decide +kernel
theorem dX12_ask_81 : decode cX12_ask 81 = .ok (.iload 6, 2) := by decide +kernel
theorem dX12_ask_83 : decode cX12_ask 83 = .ok (.iadd, 1) := by decide +kernel
theorem dX12_ask_84 : decode cX12_ask 84 = .ok (.aload_n 0, 1) := by decide +kernel
theorem dX12_ask_85 : decode cX12_ask 85 = .ok (.iconst 1, 1) := by decide +kernel
theorem dX12_ask_86 : decode cX12_ask 86 = .ok (.iload_n 2, 1) := by decide +kernel
theorem dX12_ask_87 : decode cX12_ask 87 = .ok (.iload 6, 2) := by decide +kernel
theorem dX12_ask_89 : decode cX12_ask 89 = .ok (.invokevirtual 326, 3) := by decide +kernel
theorem dX12_ask_92 : decode cX12_ask 92 = .ok (.iastore, 1) := by decide +kernel
theorem dX12_ask_93 : decode cX12_ask 93 = .ok (.iinc 6 1, 3) := by decide +kernel
theorem dX12_ask_96 : decode cX12_ask 96 = .ok (.goto (-29), 3) := by decide +kernel
theorem dX12_ask_99 : decode cX12_ask 99 = .ok (.iinc 5 1, 3) := by decide +kernel
theorem dX12_ask_102 : decode cX12_ask 102 = .ok (.goto (-60), 3) := by decide +kernel
theorem dX12_ask_105 : decode cX12_ask 105 = .ok (.iload 4, 2) := by decide +kernel
theorem dX12_ask_107 : decode cX12_ask 107 = .ok (.invokestatic 421, 3) := by decide +kernel
theorem dX12_ask_110 : decode cX12_ask 110 = .ok (.istore 5, 2) := by decide +kernel
theorem dX12_ask_112 : decode cX12_ask 112 = .ok (.iconst (-1), 1) := by decide +kernel
theorem dX12_ask_113 : decode cX12_ask 113 = .ok (.istore 6, 2) := by decide +kernel
theorem dX12_ask_115 : decode cX12_ask 115 = .ok (.iconst 0, 1) := by decide +kernel
theorem dX12_ask_116 : decode cX12_ask 116 = .ok (.istore 7, 2) := by decide +kernel
theorem dX12_ask_118 : decode cX12_ask 118 = .ok (.iconst 0, 1) := by decide +kernel
theorem dX12_ask_119 : decode cX12_ask 119 = .ok (.istore 8, 2) := by decide +kernel
theorem dX12_ask_121 : decode cX12_ask 121 = .ok (.iload 8, 2) := by decide +kernel
theorem dX12_ask_123 : decode cX12_ask 123 = .ok (.aload_n 0, 1) := by decide +kernel
theorem dX12_ask_124 : decode cX12_ask 124 = .ok (.getfield 13, 3) := by decide +kernel
theorem dX12_ask_127 : decode cX12_ask 127 = .ok (.iconst 0, 1) := by decide +kernel
theorem dX12_ask_128 : decode cX12_ask 128 = .ok (.iaload, 1) := by decide +kernel
theorem dX12_ask_129 : decode cX12_ask 129 = .ok (.if_icmp .ge 83, 3) := by decide +kernel
theorem dX12_ask_132 : decode cX12_ask 132 = .ok (.iconst 0, 1) := by decide +kernel
theorem dX12_ask_133 : decode cX12_ask 133 = .ok (.istore 9, 2) := by decide +kernel
theorem dX12_ask_135 : decode cX12_ask 135 = .ok (.iload 9, 2) := by decide +kernel
theorem dX12_ask_137 : decode cX12_ask 137 = .ok (.aload_n 0, 1) := by decide +kernel
theorem dX12_ask_138 : decode cX12_ask 138 = .ok (.getfield 13, 3) := by decide +kernel
theorem dX12_ask_141 : decode cX12_ask 141 = .ok (.iconst 0, 1) := by decide +kernel
theorem dX12_ask_142 : decode cX12_ask 142 = .ok (.iaload, 1) := by decide +kernel
theorem dX12_ask_143 : decode cX12_ask 143 = .ok (.if_icmp .ge 63, 3) := by decide +kernel
theorem dX12_ask_146 : decode cX12_ask 146 = .ok (.aload_n 0, 1) := by decide +kernel
theorem dX12_ask_147 : decode cX12_ask 147 = .ok (.iload 4, 2) := by decide +kernel
theorem dX12_ask_149 : decode cX12_ask 149 = .ok (.iload 8, 2) := by decide +kernel
theorem dX12_ask_151 : decode cX12_ask 151 = .ok (.iload 9, 2) := by decide +kernel
theorem dX12_ask_153 : decode cX12_ask 153 = .ok (.invokevirtual 505, 3) := by decide +kernel
theorem dX12_ask_156 : decode cX12_ask 156 = .ok (.istore 10, 2) := by decide +kernel
theorem dX12_ask_158 : decode cX12_ask 158 = .ok (.iload 10, 2) := by decide +kernel
theorem dX12_ask_160 : decode cX12_ask 160 = .ok (.iload 5, 2) := by decide +kernel
theorem dX12_ask_162 : decode cX12_ask 162 = .ok (.iload 10, 2) := by decide +kernel
theorem dX12_ask_164 : decode cX12_ask 164 = .ok (.isub, 1) := by decide +kernel
theorem dX12_ask_165 : decode cX12_ask 165 = .ok (.invokestatic 332, 3) := by decide +kernel
theorem dX12_ask_168 : decode cX12_ask 168 = .ok (.istore 11, 2) := by decide +kernel
theorem dX12_ask_170 : decode cX12_ask 170 = .ok (.iload 6, 2) := by decide +kernel
theorem dX12_ask_172 : decode cX12_ask 172 = .ok (.iconst (-1), 1) := by decide +kernel
theorem dX12_ask_173 : decode cX12_ask 173 = .ok (.if_icmp .eq 13, 3) := by decide +kernel
theorem dX12_ask_176 : decode cX12_ask 176 = .ok (.iload 11, 2) := by decide +kernel
theorem dX12_ask_178 : decode cX12_ask 178 = .ok (.iload 7, 2) := by decide +kernel
theorem dX12_ask_180 : decode cX12_ask 180 = .ok (.if_icmp .lt 6, 3) := by decide +kernel
theorem dX12_ask_183 : decode cX12_ask 183 = .ok (.goto 17, 3) := by decide +kernel
theorem dX12_ask_186 : decode cX12_ask 186 = .ok (.bipush 100, 2) := by decide +kernel
theorem dX12_ask_188 : decode cX12_ask 188 = .ok (.iload 8, 2) := by decide +kernel
theorem dX12_ask_190 : decode cX12_ask 190 = .ok (.imul, 1) := by decide +kernel
theorem dX12_ask_191 : decode cX12_ask 191 = .ok (.iload 9, 2) := by decide +kernel
theorem dX12_ask_193 : decode cX12_ask 193 = .ok (.iadd, 1) := by decide +kernel
theorem dX12_ask_194 : decode cX12_ask 194 = .ok (.istore 6, 2) := by decide +kernel
theorem dX12_ask_196 : decode cX12_ask 196 = .ok (.iload 11, 2) := by decide +kernel
theorem dX12_ask_198 : decode cX12_ask 198 = .ok (.istore 7, 2) := by decide +kernel
theorem dX12_ask_200 : decode cX12_ask 200 = .ok (.iinc 9 1, 3) := by decide +kernel
theorem dX12_ask_203 : decode cX12_ask 203 = .ok (.goto (-68), 3) := by decide +kernel
theorem dX12_ask_206 : decode cX12_ask 206 = .ok (.iinc 8 1, 3) := by decide +kernel
theorem dX12_ask_209 : decode cX12_ask 209 = .ok (.goto (-88), 3) := by decide +kernel
theorem dX12_ask_212 : decode cX12_ask 212 = .ok (.iload_n 3, 1) := by decide +kernel
theorem dX12_ask_213 : decode cX12_ask 213 = .ok (.ifCond .ne 8, 3) := by decide +kernel
theorem dX12_ask_216 : decode cX12_ask 216 = .ok (.iload 6, 2) := by decide +kernel
theorem dX12_ask_218 : decode cX12_ask 218 = .ok (.goto 5, 3) := by decide +kernel
theorem dX12_ask_221 : decode cX12_ask 221 = .ok (.iload 7, 2) := by decide +kernel
theorem dX12_ask_223 : decode cX12_ask 223 = .ok (.ireturn, 1) := by decide +kernel
theorem dX12_chance_0 : decode cX12_chance 0 = .ok (.aload_n 0, 1) := by decide +kernel
theorem dX12_chance_1 : decode cX12_chance 1 = .ok (.iconst 0, 1) := by decide +kernel
theorem dX12_chance_2 : decode cX12_chance 2 = .ok (.putfield 136, 3) := by decide +kernel
theorem dX12_chance_5 : decode cX12_chance 5 = .ok (.iload_n 1, 1) := by decide +kernel
theorem dX12_chance_6 : decode cX12_chance 6 = .ok (.ifCond .lt 35, 3) := by decide +kernel
theorem dX12_chance_9 : decode cX12_chance 9 = .ok (.iload_n 2, 1) := by decide +kernel
theorem dX12_chance_10 : decode cX12_chance 10 = .ok (.iconst 1, 1) := by decide +kernel
theorem dX12_chance_11 : decode cX12_chance 11 = .ok (.if_icmp .lt 30, 3) := by decide +kernel
theorem dX12_chance_14 : decode cX12_chance 14 = .ok (.iload_n 2, 1) := by decide +kernel
theorem dX12_chance_15 : decode cX12_chance 15 = .ok (.bipush 99, 2) := by decide +kernel
theorem dX12_chance_17 : decode cX12_chance 17 = .ok (.if_icmp .gt 24, 3) := by decide +kernel
theorem dX12_chance_20 : decode cX12_chance 20 = .ok (.aload_n 0, 1) := by decide +kernel
theorem dX12_chance_21 : decode cX12_chance 21 = .ok (.iload_n 3, 1) := by decide +kernel
theorem dX12_chance_22 : decode cX12_chance 22 = .ok (.invokevirtual 396, 3) := by decide +kernel
theorem dX12_chance_25 : decode cX12_chance 25 = .ok (.ifCond .eq 16, 3) := by decide +kernel
theorem dX12_chance_28 : decode cX12_chance 28 = .ok (.iload 4, 2) := by decide +kernel
theorem dX12_chance_30 : decode cX12_chance 30 = .ok (.ifCond .lt 11, 3) := by decide +kernel
theorem dX12_chance_33 : decode cX12_chance 33 = .ok (.iload 4, 2) := by decide +kernel
theorem dX12_chance_35 : decode cX12_chance 35 = .ok (.sipush 9999, 3) := by decide +kernel
theorem dX12_chance_38 : decode cX12_chance 38 = .ok (.if_icmp .le 5, 3) := by decide +kernel
theorem dX12_chance_41 : decode cX12_chance 41 = .ok (.iconst (-1), 1) := by decide +kernel
theorem dX12_chance_42 : decode cX12_chance 42 = .ok (.ireturn, 1) := by decide +kernel
theorem dX12_chance_43 : decode cX12_chance 43 = .ok (.iload_n 1, 1) := by decide +kernel
theorem dX12_chance_44 : decode cX12_chance 44 = .ok (.istore 5, 2) := by decide +kernel
theorem dX12_chance_46 : decode cX12_chance 46 = .ok (.iconst 0, 1) := by decide +kernel
theorem dX12_chance_47 : decode cX12_chance 47 = .ok (.istore 6, 2) := by decide +kernel
theorem dX12_chance_49 : decode cX12_chance 49 = .ok (.iconst 0, 1) := by decide +kernel
theorem dX12_chance_50 : decode cX12_chance 50 = .ok (.istore 7, 2) := by decide +kernel
theorem dX12_chance_52 : decode cX12_chance 52 = .ok (.iload 7, 2) := by decide +kernel
theorem dX12_chance_54 : decode cX12_chance 54 = .ok (.bipush 10, 2) := by decide +kernel
theorem dX12_chance_56 : decode cX12_chance 56 = .ok (.if_icmp .ge 73, 3) := by decide +kernel
theorem dX12_chance_59 : decode cX12_chance 59 = .ok (.aload_n 0, 1) := by decide +kernel
theorem dX12_chance_60 : decode cX12_chance 60 = .ok (.iconst 1, 1) := by decide +kernel
theorem dX12_chance_61 : decode cX12_chance 61 = .ok (.iconst 0, 1) := by decide +kernel
theorem dX12_chance_62 : decode cX12_chance 62 = .ok (.invokevirtual 431, 3) := by decide +kernel
theorem dX12_chance_65 : decode cX12_chance 65 = .ok (.aload_n 0, 1) := by decide +kernel
theorem dX12_chance_66 : decode cX12_chance 66 = .ok (.getfield 75, 3) := by decide +kernel
theorem dX12_chance_69 : decode cX12_chance 69 = .ok (.iconst 1, 1) := by decide +kernel
theorem dX12_chance_70 : decode cX12_chance 70 = .ok (.iload 5, 2) := by decide +kernel
theorem dX12_chance_72 : decode cX12_chance 72 = .ok (.iastore, 1) := by decide +kernel
theorem dX12_chance_73 : decode cX12_chance 73 = .ok (.iconst 0, 1) := by decide +kernel
theorem dX12_chance_74 : decode cX12_chance 74 = .ok (.istore 8, 2) := by decide +kernel
theorem dX12_chance_76 : decode cX12_chance 76 = .ok (.iload 8, 2) := by decide +kernel
theorem dX12_chance_78 : decode cX12_chance 78 = .ok (.iload_n 2, 1) := by decide +kernel
theorem dX12_chance_79 : decode cX12_chance 79 = .ok (.if_icmp .ge 15, 3) := by decide +kernel
theorem dX12_chance_82 : decode cX12_chance 82 = .ok (.aload_n 0, 1) := by decide +kernel
theorem dX12_chance_83 : decode cX12_chance 83 = .ok (.iconst 1, 1) := by decide +kernel
theorem dX12_chance_84 : decode cX12_chance 84 = .ok (.iconst 1, 1) := by decide +kernel
theorem dX12_chance_85 : decode cX12_chance 85 = .ok (.invokevirtual 392, 3) := by decide +kernel
theorem dX12_chance_88 : decode cX12_chance 88 = .ok (.iinc 8 1, 3) := by decide +kernel
theorem dX12_chance_91 : decode cX12_chance 91 = .ok (.goto (-15), 3) := by decide +kernel
theorem dX12_chance_94 : decode cX12_chance 94 = .ok (.aload_n 0, 1) := by decide +kernel
theorem dX12_chance_95 : decode cX12_chance 95 = .ok (.getfield 75, 3) := by decide +kernel
theorem dX12_chance_98 : decode cX12_chance 98 = .ok (.iconst 1, 1) := by decide +kernel
theorem dX12_chance_99 : decode cX12_chance 99 = .ok (.iaload, 1) := by decide +kernel
theorem dX12_chance_100 : decode cX12_chance 100 = .ok (.istore 5, 2) := by decide +kernel
theorem dX12_chance_102 : decode cX12_chance 102 = .ok (.iload 6, 2) := by decide +kernel
theorem dX12_chance_104 : decode cX12_chance 104 = .ok (.aload_n 0, 1) := by decide +kernel
theorem dX12_chance_105 : decode cX12_chance 105 = .ok (.iconst 1, 1) := by decide +kernel
theorem dX12_chance_106 : decode cX12_chance 106 = .ok (.iload_n 3, 1) := by decide +kernel
theorem dX12_chance_107 : decode cX12_chance 107 = .ok (.invokevirtual 339, 3) := by decide +kernel
theorem dX12_chance_110 : decode cX12_chance 110 = .ok (.iload 4, 2) := by decide +kernel
theorem dX12_chance_112 : decode cX12_chance 112 = .ok (.if_icmp .lt 7, 3) := by decide +kernel
theorem dX12_chance_115 : decode cX12_chance 115 = .ok (.iconst 1, 1) := by decide +kernel
theorem dX12_chance_116 : decode cX12_chance 116 = .ok (.goto 4, 3) := by decide +kernel
theorem dX12_chance_119 : decode cX12_chance 119 = .ok (.iconst 0, 1) := by decide +kernel
theorem dX12_chance_120 : decode cX12_chance 120 = .ok (.iadd, 1) := by decide +kernel
theorem dX12_chance_121 : decode cX12_chance 121 = .ok (.istore 6, 2) := by decide +kernel
theorem dX12_chance_123 : decode cX12_chance 123 = .ok (.iinc 7 1, 3) := by decide +kernel
theorem dX12_chance_126 : decode cX12_chance 126 = .ok (.goto (-74), 3) := by decide +kernel
theorem dX12_chance_129 : decode cX12_chance 129 = .ok (.iload 6, 2) := by decide +kernel
theorem dX12_chance_131 : decode cX12_chance 131 = .ok (.ireturn, 1) := by decide +kernel
theorem dX12_tried_0 : decode cX12_tried 0 = .ok (.aload_n 0, 1) := by decide +kernel
theorem dX12_tried_1 : decode cX12_tried 1 = .ok (.iconst 0, 1) := by decide +kernel
theorem dX12_tried_2 : decode cX12_tried 2 = .ok (.putfield 136, 3) := by decide +kernel
theorem dX12_tried_5 : decode cX12_tried 5 = .ok (.iload_n 1, 1) := by decide +kernel
theorem dX12_tried_6 : decode cX12_tried 6 = .ok (.iconst 2, 1) := by decide +kernel
theorem dX12_tried_7 : decode cX12_tried 7 = .ok (.if_icmp .ne 11, 3) := by decide +kernel
theorem dX12_tried_10 : decode cX12_tried 10 = .ok (.aload_n 0, 1) := by decide +kernel
theorem dX12_tried_11 : decode cX12_tried 11 = .ok (.iload_n 2, 1) := by decide +kernel
theorem dX12_tried_12 : decode cX12_tried 12 = .ok (.invokevirtual 402, 3) := by decide +kernel
theorem dX12_tried_15 : decode cX12_tried 15 = .ok (.goto 21, 3) := by decide +kernel
theorem dX12_tried_18 : decode cX12_tried 18 = .ok (.iload_n 1, 1) := by decide +kernel
theorem dX12_tried_19 : decode cX12_tried 19 = .ok (.ifCond .lt 16, 3) := by decide +kernel
theorem dX12_tried_22 : decode cX12_tried 22 = .ok (.iload_n 1, 1) := by decide +kernel
theorem dX12_tried_23 : decode cX12_tried 23 = .ok (.iconst 4, 1) := by decide +kernel
theorem dX12_tried_24 : decode cX12_tried 24 = .ok (.if_icmp .gt 11, 3) := by decide +kernel
theorem dX12_tried_27 : decode cX12_tried 27 = .ok (.iload_n 2, 1) := by decide +kernel
theorem dX12_tried_28 : decode cX12_tried 28 = .ok (.ifCond .ne 7, 3) := by decide +kernel
theorem dX12_tried_31 : decode cX12_tried 31 = .ok (.iconst 1, 1) := by decide +kernel
theorem dX12_tried_32 : decode cX12_tried 32 = .ok (.goto 4, 3) := by decide +kernel
theorem dX12_tried_35 : decode cX12_tried 35 = .ok (.iconst 0, 1) := by decide +kernel
theorem dX12_tried_36 : decode cX12_tried 36 = .ok (.istore 4, 2) := by decide +kernel
theorem dX12_tried_38 : decode cX12_tried 38 = .ok (.iload 4, 2) := by decide +kernel
theorem dX12_tried_40 : decode cX12_tried 40 = .ok (.ifCond .eq 14, 3) := by decide +kernel
theorem dX12_tried_43 : decode cX12_tried 43 = .ok (.iload_n 3, 1) := by decide +kernel
theorem dX12_tried_44 : decode cX12_tried 44 = .ok (.ifCond .lt 10, 3) := by decide +kernel
theorem dX12_tried_47 : decode cX12_tried 47 = .ok (.iload_n 3, 1) := by decide +kernel
theorem dX12_tried_48 : decode cX12_tried 48 = .ok (.sipush 200, 3) := by decide +kernel
theorem dX12_tried_51 : decode cX12_tried 51 = .ok (.if_icmp .le 5, 3) := by decide +kernel
theorem dX12_tried_54 : decode cX12_tried 54 = .ok (.iconst (-1), 1) := by decide +kernel
theorem dX12_tried_55 : decode cX12_tried 55 = .ok (.ireturn, 1) := by decide +kernel
theorem dX12_tried_56 : decode cX12_tried 56 = .ok (.aload_n 0, 1) := by decide +kernel
theorem dX12_tried_57 : decode cX12_tried 57 = .ok (.iconst 1, 1) := by decide +kernel
theorem dX12_tried_58 : decode cX12_tried 58 = .ok (.iconst 0, 1) := by decide +kernel
theorem dX12_tried_59 : decode cX12_tried 59 = .ok (.invokevirtual 431, 3) := by decide +kernel
theorem dX12_tried_62 : decode cX12_tried 62 = .ok (.iconst 0, 1) := by decide +kernel
theorem dX12_tried_63 : decode cX12_tried 63 = .ok (.istore 5, 2) := by decide +kernel
theorem dX12_tried_65 : decode cX12_tried 65 = .ok (.iload 5, 2) := by decide +kernel
theorem dX12_tried_67 : decode cX12_tried 67 = .ok (.bipush 6, 2) := by decide +kernel
theorem dX12_tried_69 : decode cX12_tried 69 = .ok (.if_icmp .ge 25, 3) := by decide +kernel
theorem dX12_tried_72 : decode cX12_tried 72 = .ok (.iload_n 1, 1) := by decide +kernel
theorem dX12_tried_73 : decode cX12_tried 73 = .ok (.iconst 4, 1) := by decide +kernel
theorem dX12_tried_74 : decode cX12_tried 74 = .ok (.if_icmp .ne 20, 3) := by decide +kernel
theorem dX12_tried_77 : decode cX12_tried 77 = .ok (.aload_n 0, 1) := by decide +kernel
theorem dX12_tried_78 : decode cX12_tried 78 = .ok (.getfield 90, 3) := by decide +kernel
theorem dX12_tried_81 : decode cX12_tried 81 = .ok (.bipush 6, 2) := by decide +kernel
theorem dX12_tried_83 : decode cX12_tried 83 = .ok (.iload 5, 2) := by decide +kernel
theorem dX12_tried_85 : decode cX12_tried 85 = .ok (.iadd, 1) := by decide +kernel
theorem dX12_tried_86 : decode cX12_tried 86 = .ok (.iconst 0, 1) := by decide +kernel
theorem dX12_tried_87 : decode cX12_tried 87 = .ok (.iastore, 1) := by decide +kernel
theorem dX12_tried_88 : decode cX12_tried 88 = .ok (.iinc 5 1, 3) := by decide +kernel
theorem dX12_tried_91 : decode cX12_tried 91 = .ok (.goto (-26), 3) := by decide +kernel
theorem dX12_tried_94 : decode cX12_tried 94 = .ok (.aload_n 0, 1) := by decide +kernel
theorem dX12_tried_95 : decode cX12_tried 95 = .ok (.iload_n 1, 1) := by decide +kernel
theorem dX12_tried_96 : decode cX12_tried 96 = .ok (.ifCond .ne 7, 3) := by decide +kernel
theorem dX12_tried_99 : decode cX12_tried 99 = .ok (.iconst 5, 1) := by decide +kernel
theorem dX12_tried_100 : decode cX12_tried 100 = .ok (.goto 4, 3) := by decide +kernel
theorem dX12_tried_103 : decode cX12_tried 103 = .ok (.iload_n 1, 1) := by decide +kernel
theorem dX12_tried_104 : decode cX12_tried 104 = .ok (.putfield 370, 3) := by decide +kernel
theorem dX12_tried_107 : decode cX12_tried 107 = .ok (.aload_n 0, 1) := by decide +kernel
theorem dX12_tried_108 : decode cX12_tried 108 = .ok (.iload_n 2, 1) := by decide +kernel
theorem dX12_tried_109 : decode cX12_tried 109 = .ok (.putfield 93, 3) := by decide +kernel
theorem dX12_tried_112 : decode cX12_tried 112 = .ok (.aload_n 0, 1) := by decide +kernel
theorem dX12_tried_113 : decode cX12_tried 113 = .ok (.iload_n 3, 1) := by decide +kernel
theorem dX12_tried_114 : decode cX12_tried 114 = .ok (.invokevirtual 437, 3) := by decide +kernel
theorem dX12_tried_117 : decode cX12_tried 117 = .ok (.aload_n 0, 1) := by decide +kernel
theorem dX12_tried_118 : decode cX12_tried 118 = .ok (.iconst 0, 1) := by decide +kernel
theorem dX12_tried_119 : decode cX12_tried 119 = .ok (.putfield 370, 3) := by decide +kernel
theorem dX12_tried_122 : decode cX12_tried 122 = .ok (.aload_n 0, 1) := by decide +kernel
theorem dX12_tried_123 : decode cX12_tried 123 = .ok (.iconst (-1), 1) := by decide +kernel
theorem dX12_tried_124 : decode cX12_tried 124 = .ok (.putfield 93, 3) := by decide +kernel
theorem dX12_tried_127 : decode cX12_tried 127 = .ok (.aload_n 0, 1) := by decide +kernel
theorem dX12_tried_128 : decode cX12_tried 128 = .ok (.iconst 1, 1) := by decide +kernel
theorem dX12_tried_129 : decode cX12_tried 129 = .ok (.invokevirtual 508, 3) := by decide +kernel
theorem dX12_tried_132 : decode cX12_tried 132 = .ok (.ireturn, 1) := by decide +kernel
theorem dX12_undo_0 : decode cX12_undo 0 = .ok (.aload_n 0, 1) := by decide +kernel
theorem dX12_undo_1 : decode cX12_undo 1 = .ok (.iconst 0, 1) := by decide +kernel
theorem dX12_undo_2 : decode cX12_undo 2 = .ok (.putfield 136, 3) := by decide +kernel
theorem dX12_undo_5 : decode cX12_undo 5 = .ok (.aload_n 0, 1) := by decide +kernel
theorem dX12_undo_6 : decode cX12_undo 6 = .ok (.getfield 296, 3) := by decide +kernel
theorem dX12_undo_9 : decode cX12_undo 9 = .ok (.ifCond .ne 5, 3) := by decide +kernel
theorem dX12_undo_12 : decode cX12_undo 12 = .ok (.iconst (-1), 1) := by decide +kernel
theorem dX12_undo_13 : decode cX12_undo 13 = .ok (.ireturn, 1) := by decide +kernel
theorem dX12_undo_14 : decode cX12_undo 14 = .ok (.aload_n 0, 1) := by decide +kernel
theorem dX12_undo_15 : decode cX12_undo 15 = .ok (.dup, 1) := by decide +kernel
theorem dX12_undo_16 : decode cX12_undo 16 = .ok (.getfield 296, 3) := by decide +kernel
theorem dX12_undo_19 : decode cX12_undo 19 = .ok (.iconst 1, 1) := by decide +kernel
theorem dX12_undo_20 : decode cX12_undo 20 = .ok (.isub, 1) := by decide +kernel
theorem dX12_undo_21 : decode cX12_undo 21 = .ok (.putfield 296, 3) := by decide +kernel
theorem dX12_undo_24 : decode cX12_undo 24 = .ok (.aload_n 0, 1) := by decide +kernel
theorem dX12_undo_25 : decode cX12_undo 25 = .ok (.iconst 0, 1) := by decide +kernel
theorem dX12_undo_26 : decode cX12_undo 26 = .ok (.iconst 3, 1) := by decide +kernel
theorem dX12_undo_27 : decode cX12_undo 27 = .ok (.aload_n 0, 1) := by decide +kernel
theorem dX12_undo_28 : decode cX12_undo 28 = .ok (.getfield 296, 3) := by decide +kernel
theorem dX12_undo_31 : decode cX12_undo 31 = .ok (.iadd, 1) := by decide +kernel
theorem dX12_undo_32 : decode cX12_undo 32 = .ok (.invokevirtual 431, 3) := by decide +kernel
theorem dX12_undo_35 : decode cX12_undo 35 = .ok (.aload_n 0, 1) := by decide +kernel
theorem dX12_undo_36 : decode cX12_undo 36 = .ok (.getfield 296, 3) := by decide +kernel
theorem dX12_undo_39 : decode cX12_undo 39 = .ok (.ireturn, 1) := by decide +kernel
theorem dX12_keep_0 : decode cX12_keep 0 = .ok (.aload_n 0, 1) := by decide +kernel
theorem dX12_keep_1 : decode cX12_keep 1 = .ok (.iconst 0, 1) := by decide +kernel
theorem dX12_keep_2 : decode cX12_keep 2 = .ok (.putfield 136, 3) := by decide +kernel
theorem dX12_keep_5 : decode cX12_keep 5 = .ok (.aload_n 0, 1) := by decide +kernel
theorem dX12_keep_6 : decode cX12_keep 6 = .ok (.iconst 2, 1) := by decide +kernel
theorem dX12_keep_7 : decode cX12_keep 7 = .ok (.iconst 0, 1) := by decide +kernel
theorem dX12_keep_8 : decode cX12_keep 8 = .ok (.invokevirtual 431, 3) := by decide +kernel
theorem dX12_keep_11 : decode cX12_keep 11 = .ok (.aload_n 0, 1) := by decide +kernel
theorem dX12_keep_12 : decode cX12_keep 12 = .ok (.iconst 1, 1) := by decide +kernel
theorem dX12_keep_13 : decode cX12_keep 13 = .ok (.putfield 292, 3) := by decide +kernel
theorem dX12_keep_16 : decode cX12_keep 16 = .ok (.aload_n 0, 1) := by decide +kernel
theorem dX12_keep_17 : decode cX12_keep 17 = .ok (.getfield 72, 3) := by decide +kernel
theorem dX12_keep_20 : decode cX12_keep 20 = .ok (.iconst 0, 1) := by decide +kernel
theorem dX12_keep_21 : decode cX12_keep 21 = .ok (.iaload, 1) := by decide +kernel
theorem dX12_keep_22 : decode cX12_keep 22 = .ok (.ireturn, 1) := by decide +kernel
theorem dX12_back_0 : decode cX12_back 0 = .ok (.aload_n 0, 1) := by decide +kernel
theorem dX12_back_1 : decode cX12_back 1 = .ok (.iconst 0, 1) := by decide +kernel
theorem dX12_back_2 : decode cX12_back 2 = .ok (.putfield 136, 3) := by decide +kernel
theorem dX12_back_5 : decode cX12_back 5 = .ok (.aload_n 0, 1) := by decide +kernel
theorem dX12_back_6 : decode cX12_back 6 = .ok (.getfield 292, 3) := by decide +kernel
theorem dX12_back_9 : decode cX12_back 9 = .ok (.ifCond .ne 5, 3) := by decide +kernel
theorem dX12_back_12 : decode cX12_back 12 = .ok (.iconst (-1), 1) := by decide +kernel
theorem dX12_back_13 : decode cX12_back 13 = .ok (.ireturn, 1) := by decide +kernel
theorem dX12_back_14 : decode cX12_back 14 = .ok (.aload_n 0, 1) := by decide +kernel
theorem dX12_back_15 : decode cX12_back 15 = .ok (.iconst 0, 1) := by decide +kernel
theorem dX12_back_16 : decode cX12_back 16 = .ok (.iconst 2, 1) := by decide +kernel
theorem dX12_back_17 : decode cX12_back 17 = .ok (.invokevirtual 431, 3) := by decide +kernel
theorem dX12_back_20 : decode cX12_back 20 = .ok (.aload_n 0, 1) := by decide +kernel
theorem dX12_back_21 : decode cX12_back 21 = .ok (.iconst 0, 1) := by decide +kernel
theorem dX12_back_22 : decode cX12_back 22 = .ok (.putfield 296, 3) := by decide +kernel
theorem dX12_back_25 : decode cX12_back 25 = .ok (.aload_n 0, 1) := by decide +kernel
theorem dX12_back_26 : decode cX12_back 26 = .ok (.getfield 72, 3) := by decide +kernel
theorem dX12_back_29 : decode cX12_back 29 = .ok (.iconst 0, 1) := by decide +kernel
theorem dX12_back_30 : decode cX12_back 30 = .ok (.iaload, 1) := by decide +kernel
theorem dX12_back_31 : decode cX12_back 31 = .ok (.ireturn, 1) := by decide +kernel
theorem dX12_count_0 : decode cX12_count 0 = .ok (.aload_n 0, 1) := by decide +kernel
theorem dX12_count_1 : decode cX12_count 1 = .ok (.iconst 0, 1) := by decide +kernel
theorem dX12_count_2 : decode cX12_count 2 = .ok (.putfield 136, 3) := by decide +kernel
theorem dX12_count_5 : decode cX12_count 5 = .ok (.iload_n 1, 1) := by decide +kernel
theorem dX12_count_6 : decode cX12_count 6 = .ok (.tableswitch 149 0 12 #[66, 73, 80, 87, 94, 102, 109, 116, 122, 128, 134, 139, 144], 66) := by decide +kernel
theorem dX12_count_72 : decode cX12_count 72 = .ok (.aload_n 0, 1) := by decide +kernel
theorem dX12_count_73 : decode cX12_count 73 = .ok (.getfield 13, 3) := by decide +kernel
theorem dX12_count_76 : decode cX12_count 76 = .ok (.iconst 1, 1) := by decide +kernel
theorem dX12_count_77 : decode cX12_count 77 = .ok (.iaload, 1) := by decide +kernel
theorem dX12_count_78 : decode cX12_count 78 = .ok (.ireturn, 1) := by decide +kernel
theorem dX12_count_79 : decode cX12_count 79 = .ok (.aload_n 0, 1) := by decide +kernel
theorem dX12_count_80 : decode cX12_count 80 = .ok (.getfield 13, 3) := by decide +kernel
theorem dX12_count_83 : decode cX12_count 83 = .ok (.iconst 2, 1) := by decide +kernel
theorem dX12_count_84 : decode cX12_count 84 = .ok (.iaload, 1) := by decide +kernel
theorem dX12_count_85 : decode cX12_count 85 = .ok (.ireturn, 1) := by decide +kernel
theorem dX12_count_86 : decode cX12_count 86 = .ok (.aload_n 0, 1) := by decide +kernel
theorem dX12_count_87 : decode cX12_count 87 = .ok (.getfield 13, 3) := by decide +kernel
theorem dX12_count_90 : decode cX12_count 90 = .ok (.iconst 3, 1) := by decide +kernel
theorem dX12_count_91 : decode cX12_count 91 = .ok (.iaload, 1) := by decide +kernel
theorem dX12_count_92 : decode cX12_count 92 = .ok (.ireturn, 1) := by decide +kernel
theorem dX12_count_93 : decode cX12_count 93 = .ok (.aload_n 0, 1) := by decide +kernel
theorem dX12_count_94 : decode cX12_count 94 = .ok (.getfield 13, 3) := by decide +kernel
theorem dX12_count_97 : decode cX12_count 97 = .ok (.iconst 0, 1) := by decide +kernel
theorem dX12_count_98 : decode cX12_count 98 = .ok (.iaload, 1) := by decide +kernel
theorem dX12_count_99 : decode cX12_count 99 = .ok (.ireturn, 1) := by decide +kernel
theorem dX12_count_100 : decode cX12_count 100 = .ok (.aload_n 0, 1) := by decide +kernel
theorem dX12_count_101 : decode cX12_count 101 = .ok (.getfield 13, 3) := by decide +kernel
theorem dX12_count_104 : decode cX12_count 104 = .ok (.bipush 6, 2) := by decide +kernel
theorem dX12_count_106 : decode cX12_count 106 = .ok (.iaload, 1) := by decide +kernel
theorem dX12_count_107 : decode cX12_count 107 = .ok (.ireturn, 1) := by decide +kernel
theorem dX12_count_108 : decode cX12_count 108 = .ok (.aload_n 0, 1) := by decide +kernel
theorem dX12_count_109 : decode cX12_count 109 = .ok (.getfield 72, 3) := by decide +kernel
theorem dX12_count_112 : decode cX12_count 112 = .ok (.iconst 0, 1) := by decide +kernel
theorem dX12_count_113 : decode cX12_count 113 = .ok (.iaload, 1) := by decide +kernel
theorem dX12_count_114 : decode cX12_count 114 = .ok (.ireturn, 1) := by decide +kernel
theorem dX12_count_115 : decode cX12_count 115 = .ok (.aload_n 0, 1) := by decide +kernel
theorem dX12_count_116 : decode cX12_count 116 = .ok (.getfield 78, 3) := by decide +kernel
theorem dX12_count_119 : decode cX12_count 119 = .ok (.iconst 0, 1) := by decide +kernel
theorem dX12_count_120 : decode cX12_count 120 = .ok (.iaload, 1) := by decide +kernel
theorem dX12_count_121 : decode cX12_count 121 = .ok (.ireturn, 1) := by decide +kernel
theorem dX12_count_122 : decode cX12_count 122 = .ok (.aload_n 0, 1) := by decide +kernel
theorem dX12_count_123 : decode cX12_count 123 = .ok (.iconst 0, 1) := by decide +kernel
theorem dX12_count_124 : decode cX12_count 124 = .ok (.invokevirtual 508, 3) := by decide +kernel
theorem dX12_count_127 : decode cX12_count 127 = .ok (.ireturn, 1) := by decide +kernel
theorem dX12_count_128 : decode cX12_count 128 = .ok (.aload_n 0, 1) := by decide +kernel
theorem dX12_count_129 : decode cX12_count 129 = .ok (.iconst 0, 1) := by decide +kernel
theorem dX12_count_130 : decode cX12_count 130 = .ok (.invokevirtual 440, 3) := by decide +kernel
theorem dX12_count_133 : decode cX12_count 133 = .ok (.ireturn, 1) := by decide +kernel
theorem dX12_count_134 : decode cX12_count 134 = .ok (.aload_n 0, 1) := by decide +kernel
theorem dX12_count_135 : decode cX12_count 135 = .ok (.iconst 0, 1) := by decide +kernel
theorem dX12_count_136 : decode cX12_count 136 = .ok (.invokevirtual 511, 3) := by decide +kernel
theorem dX12_count_139 : decode cX12_count 139 = .ok (.ireturn, 1) := by decide +kernel
theorem dX12_count_140 : decode cX12_count 140 = .ok (.aload_n 0, 1) := by decide +kernel
theorem dX12_count_141 : decode cX12_count 141 = .ok (.getfield 289, 3) := by decide +kernel
theorem dX12_count_144 : decode cX12_count 144 = .ok (.ireturn, 1) := by decide +kernel
theorem dX12_count_145 : decode cX12_count 145 = .ok (.aload_n 0, 1) := by decide +kernel
theorem dX12_count_146 : decode cX12_count 146 = .ok (.invokevirtual 490, 3) := by decide +kernel
theorem dX12_count_149 : decode cX12_count 149 = .ok (.ireturn, 1) := by decide +kernel
theorem dX12_count_150 : decode cX12_count 150 = .ok (.aload_n 0, 1) := by decide +kernel
theorem dX12_count_151 : decode cX12_count 151 = .ok (.getfield 296, 3) := by decide +kernel
theorem dX12_count_154 : decode cX12_count 154 = .ok (.ireturn, 1) := by decide +kernel
theorem dX12_count_155 : decode cX12_count 155 = .ok (.iconst (-1), 1) := by decide +kernel
theorem dX12_count_156 : decode cX12_count 156 = .ok (.ireturn, 1) := by decide +kernel
