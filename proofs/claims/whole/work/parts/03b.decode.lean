theorem dX5_init_0 : decode cX5_init 0 = .ok (.aload_n 0, 1) := by decide +kernel
theorem dX5_init_1 : decode cX5_init 1 = .ok (.invokespecial 1, 3) := by decide +kernel
theorem dX5_init_4 : decode cX5_init 4 = .ok (.aload_n 0, 1) := by decide +kernel
theorem dX5_init_5 : decode cX5_init 5 = .ok (.iconst 4, 1) := by decide +kernel
theorem dX5_init_6 : decode cX5_init 6 = .ok (.newarray .int, 2) := by decide +kernel
theorem dX5_init_8 : decode cX5_init 8 = .ok (.dup, 1) := by decide +kernel
theorem dX5_init_9 : decode cX5_init 9 = .ok (.iconst 0, 1) := by decide +kernel
theorem dX5_init_10 : decode cX5_init 10 = .ok (.iconst 0, 1) := by decide +kernel
theorem dX5_init_11 : decode cX5_init 11 = .ok (.iastore, 1) := by decide +kernel
theorem dX5_init_12 : decode cX5_init 12 = .ok (.dup, 1) := by decide +kernel
theorem dX5_init_13 : decode cX5_init 13 = .ok (.iconst 1, 1) := by decide +kernel
theorem dX5_init_14 : decode cX5_init 14 = .ok (.bipush 7, 2) := by decide +kernel
theorem dX5_init_16 : decode cX5_init 16 = .ok (.iastore, 1) := by decide +kernel
theorem dX5_init_17 : decode cX5_init 17 = .ok (.dup, 1) := by decide +kernel
theorem dX5_init_18 : decode cX5_init 18 = .ok (.iconst 2, 1) := by decide +kernel
theorem dX5_init_19 : decode cX5_init 19 = .ok (.bipush 14, 2) := by decide +kernel
theorem dX5_init_21 : decode cX5_init 21 = .ok (.iastore, 1) := by decide +kernel
theorem dX5_init_22 : decode cX5_init 22 = .ok (.dup, 1) := by decide +kernel
theorem dX5_init_23 : decode cX5_init 23 = .ok (.iconst 3, 1) := by decide +kernel
theorem dX5_init_24 : decode cX5_init 24 = .ok (.bipush 21, 2) := by decide +kernel
theorem dX5_init_26 : decode cX5_init 26 = .ok (.iastore, 1) := by decide +kernel
theorem dX5_init_27 : decode cX5_init 27 = .ok (.putfield 7, 3) := by decide +kernel
theorem dX5_init_30 : decode cX5_init 30 = .ok (.aload_n 0, 1) := by decide +kernel
theorem dX5_init_31 : decode cX5_init 31 = .ok (.iconst 3, 1) := by decide +kernel
theorem dX5_init_32 : decode cX5_init 32 = .ok (.anewarray 13, 3) := by decide +kernel
theorem dX5_init_35 : decode cX5_init 35 = .ok (.dup, 1) := by decide +kernel
theorem dX5_init_36 : decode cX5_init 36 = .ok (.iconst 0, 1) := by decide +kernel
theorem dX5_init_37 : decode cX5_init 37 = .ok (.new 13, 3) := by decide +kernel
theorem dX5_init_40 : decode cX5_init 40 = .ok (.dup, 1) := by decide +kernel
theorem dX5_init_41 : decode cX5_init 41 = .ok (.invokespecial 15, 3) := by decide +kernel
theorem dX5_init_44 : decode cX5_init 44 = .ok (.aastore, 1) := by decide +kernel
theorem dX5_init_45 : decode cX5_init 45 = .ok (.dup, 1) := by decide +kernel
theorem dX5_init_46 : decode cX5_init 46 = .ok (.iconst 1, 1) := by decide +kernel
theorem dX5_init_47 : decode cX5_init 47 = .ok (.new 13, 3) := by decide +kernel
theorem dX5_init_50 : decode cX5_init 50 = .ok (.dup, 1) := by decide +kernel
theorem dX5_init_51 : decode cX5_init 51 = .ok (.invokespecial 15, 3) := by decide +kernel
theorem dX5_init_54 : decode cX5_init 54 = .ok (.aastore, 1) := by decide +kernel
theorem dX5_init_55 : decode cX5_init 55 = .ok (.dup, 1) := by decide +kernel
theorem dX5_init_56 : decode cX5_init 56 = .ok (.iconst 2, 1) := by decide +kernel
theorem dX5_init_57 : decode cX5_init 57 = .ok (.new 13, 3) := by decide +kernel
theorem dX5_init_60 : decode cX5_init 60 = .ok (.dup, 1) := by decide +kernel
theorem dX5_init_61 : decode cX5_init 61 = .ok (.invokespecial 15, 3) := by decide +kernel
theorem dX5_init_64 : decode cX5_init 64 = .ok (.aastore, 1) := by decide +kernel
theorem dX5_init_65 : decode cX5_init 65 = .ok (.putfield 16, 3) := by decide +kernel
theorem dX5_init_68 : decode cX5_init 68 = .ok (.aload_n 0, 1) := by decide +kernel
theorem dX5_init_69 : decode cX5_init 69 = .ok (.new 20, 3) := by decide +kernel
theorem dX5_init_72 : decode cX5_init 72 = .ok (.dup, 1) := by decide +kernel
theorem dX5_init_73 : decode cX5_init 73 = .ok (.invokespecial 22, 3) := by decide +kernel
theorem dX5_init_76 : decode cX5_init 76 = .ok (.putfield 23, 3) := by decide +kernel
theorem dX5_init_79 : decode cX5_init 79 = .ok (.return_, 1) := by decide +kernel
theorem dX5_tune_0 : decode cX5_tune 0 = .ok (.iload_n 1, 1) := by decide +kernel
theorem dX5_tune_1 : decode cX5_tune 1 = .ok (.iconst 0, 1) := by decide +kernel
theorem dX5_tune_2 : decode cX5_tune 2 = .ok (.iconst 3, 1) := by decide +kernel
theorem dX5_tune_3 : decode cX5_tune 3 = .ok (.invokestatic 27, 3) := by decide +kernel
theorem dX5_tune_6 : decode cX5_tune 6 = .ok (.ifCond .ne 13, 3) := by decide +kernel
theorem dX5_tune_9 : decode cX5_tune 9 = .ok (.iload_n 2, 1) := by decide +kernel
theorem dX5_tune_10 : decode cX5_tune 10 = .ok (.iconst 0, 1) := by decide +kernel
theorem dX5_tune_11 : decode cX5_tune 11 = .ok (.bipush 60, 2) := by decide +kernel
theorem dX5_tune_13 : decode cX5_tune 13 = .ok (.invokestatic 27, 3) := by decide +kernel
theorem dX5_tune_16 : decode cX5_tune 16 = .ok (.ifCond .eq 5, 3) := by decide +kernel
theorem dX5_tune_19 : decode cX5_tune 19 = .ok (.iconst (-1), 1) := by decide +kernel
theorem dX5_tune_20 : decode cX5_tune 20 = .ok (.ireturn, 1) := by decide +kernel
theorem dX5_tune_21 : decode cX5_tune 21 = .ok (.aload_n 0, 1) := by decide +kernel
theorem dX5_tune_22 : decode cX5_tune 22 = .ok (.getfield 7, 3) := by decide +kernel
theorem dX5_tune_25 : decode cX5_tune 25 = .ok (.iload_n 1, 1) := by decide +kernel
theorem dX5_tune_26 : decode cX5_tune 26 = .ok (.iaload, 1) := by decide +kernel
theorem dX5_tune_27 : decode cX5_tune 27 = .ok (.istore_n 3, 1) := by decide +kernel
theorem dX5_tune_28 : decode cX5_tune 28 = .ok (.aload_n 0, 1) := by decide +kernel
theorem dX5_tune_29 : decode cX5_tune 29 = .ok (.getfield 7, 3) := by decide +kernel
theorem dX5_tune_32 : decode cX5_tune 32 = .ok (.iload_n 1, 1) := by decide +kernel
theorem dX5_tune_33 : decode cX5_tune 33 = .ok (.iload_n 2, 1) := by decide +kernel
theorem dX5_tune_34 : decode cX5_tune 34 = .ok (.iastore, 1) := by decide +kernel
theorem dX5_tune_35 : decode cX5_tune 35 = .ok (.iconst 0, 1) := by decide +kernel
theorem dX5_tune_36 : decode cX5_tune 36 = .ok (.istore 4, 2) := by decide +kernel
theorem dX5_tune_38 : decode cX5_tune 38 = .ok (.iload 4, 2) := by decide +kernel
theorem dX5_tune_40 : decode cX5_tune 40 = .ok (.iconst 3, 1) := by decide +kernel
theorem dX5_tune_41 : decode cX5_tune 41 = .ok (.if_icmp .ge 20, 3) := by decide +kernel
theorem dX5_tune_44 : decode cX5_tune 44 = .ok (.aload_n 0, 1) := by decide +kernel
theorem dX5_tune_45 : decode cX5_tune 45 = .ok (.getfield 16, 3) := by decide +kernel
theorem dX5_tune_48 : decode cX5_tune 48 = .ok (.iload 4, 2) := by decide +kernel
theorem dX5_tune_50 : decode cX5_tune 50 = .ok (.aaload, 1) := by decide +kernel
theorem dX5_tune_51 : decode cX5_tune 51 = .ok (.iconst 0, 1) := by decide +kernel
theorem dX5_tune_52 : decode cX5_tune 52 = .ok (.putfield 31, 3) := by decide +kernel
theorem dX5_tune_55 : decode cX5_tune 55 = .ok (.iinc 4 1, 3) := by decide +kernel
theorem dX5_tune_58 : decode cX5_tune 58 = .ok (.goto (-20), 3) := by decide +kernel
theorem dX5_tune_61 : decode cX5_tune 61 = .ok (.iload_n 3, 1) := by decide +kernel
theorem dX5_tune_62 : decode cX5_tune 62 = .ok (.ireturn, 1) := by decide +kernel
theorem dX5_note_0 : decode cX5_note 0 = .ok (.aload_n 0, 1) := by decide +kernel
theorem dX5_note_1 : decode cX5_note 1 = .ok (.iload_n 1, 1) := by decide +kernel
theorem dX5_note_2 : decode cX5_note 2 = .ok (.invokevirtual 35, 3) := by decide +kernel
theorem dX5_note_5 : decode cX5_note 5 = .ok (.astore 5, 2) := by decide +kernel
theorem dX5_note_7 : decode cX5_note 7 = .ok (.aload 5, 2) := by decide +kernel
theorem dX5_note_9 : decode cX5_note 9 = .ok (.ifnull 34, 3) := by decide +kernel
theorem dX5_note_12 : decode cX5_note 12 = .ok (.iload_n 2, 1) := by decide +kernel
theorem dX5_note_13 : decode cX5_note 13 = .ok (.iconst 0, 1) := by decide +kernel
theorem dX5_note_14 : decode cX5_note 14 = .ok (.bipush 80, 2) := by decide +kernel
theorem dX5_note_16 : decode cX5_note 16 = .ok (.invokestatic 27, 3) := by decide +kernel
theorem dX5_note_19 : decode cX5_note 19 = .ok (.ifCond .ne 24, 3) := by decide +kernel
theorem dX5_note_22 : decode cX5_note 22 = .ok (.iload_n 3, 1) := by decide +kernel
theorem dX5_note_23 : decode cX5_note 23 = .ok (.iconst 1, 1) := by decide +kernel
theorem dX5_note_24 : decode cX5_note 24 = .ok (.bipush 16, 2) := by decide +kernel
theorem dX5_note_26 : decode cX5_note 26 = .ok (.invokestatic 27, 3) := by decide +kernel
theorem dX5_note_29 : decode cX5_note 29 = .ok (.ifCond .ne 14, 3) := by decide +kernel
theorem dX5_note_32 : decode cX5_note 32 = .ok (.iload 4, 2) := by decide +kernel
theorem dX5_note_34 : decode cX5_note 34 = .ok (.iconst 0, 1) := by decide +kernel
theorem dX5_note_35 : decode cX5_note 35 = .ok (.bipush 15, 2) := by decide +kernel
theorem dX5_note_37 : decode cX5_note 37 = .ok (.invokestatic 27, 3) := by decide +kernel
theorem dX5_note_40 : decode cX5_note 40 = .ok (.ifCond .eq 5, 3) := by decide +kernel
theorem dX5_note_43 : decode cX5_note 43 = .ok (.iconst (-1), 1) := by decide +kernel
theorem dX5_note_44 : decode cX5_note 44 = .ok (.ireturn, 1) := by decide +kernel
theorem dX5_note_45 : decode cX5_note 45 = .ok (.aload 5, 2) := by decide +kernel
theorem dX5_note_47 : decode cX5_note 47 = .ok (.getfield 39, 3) := by decide +kernel
theorem dX5_note_50 : decode cX5_note 50 = .ok (.iload 4, 2) := by decide +kernel
theorem dX5_note_52 : decode cX5_note 52 = .ok (.invokestatic 43, 3) := by decide +kernel
theorem dX5_note_55 : decode cX5_note 55 = .ok (.ifCond .ne 6, 3) := by decide +kernel
theorem dX5_note_58 : decode cX5_note 58 = .ok (.bipush (-4), 2) := by decide +kernel
theorem dX5_note_60 : decode cX5_note 60 = .ok (.ireturn, 1) := by decide +kernel
theorem dX5_note_61 : decode cX5_note 61 = .ok (.aload 5, 2) := by decide +kernel
theorem dX5_note_63 : decode cX5_note 63 = .ok (.getfield 39, 3) := by decide +kernel
theorem dX5_note_66 : decode cX5_note 66 = .ok (.bipush 12, 2) := by decide +kernel
theorem dX5_note_68 : decode cX5_note 68 = .ok (.if_icmp .lt 6, 3) := by decide +kernel
theorem dX5_note_71 : decode cX5_note 71 = .ok (.bipush (-2), 2) := by decide +kernel
theorem dX5_note_73 : decode cX5_note 73 = .ok (.ireturn, 1) := by decide +kernel
theorem dX5_note_74 : decode cX5_note 74 = .ok (.aload 5, 2) := by decide +kernel
theorem dX5_note_76 : decode cX5_note 76 = .ok (.iload_n 2, 1) := by decide +kernel
theorem dX5_note_77 : decode cX5_note 77 = .ok (.iload_n 3, 1) := by decide +kernel
theorem dX5_note_78 : decode cX5_note 78 = .ok (.iload 4, 2) := by decide +kernel
theorem dX5_note_80 : decode cX5_note 80 = .ok (.invokevirtual 47, 3) := by decide +kernel
theorem dX5_note_83 : decode cX5_note 83 = .ok (.aload 5, 2) := by decide +kernel
theorem dX5_note_85 : decode cX5_note 85 = .ok (.getfield 39, 3) := by decide +kernel
theorem dX5_note_88 : decode cX5_note 88 = .ok (.iconst 1, 1) := by decide +kernel
theorem dX5_note_89 : decode cX5_note 89 = .ok (.isub, 1) := by decide +kernel
theorem dX5_note_90 : decode cX5_note 90 = .ok (.ireturn, 1) := by decide +kernel
theorem dX5_stop_0 : decode cX5_stop 0 = .ok (.aload_n 0, 1) := by decide +kernel
theorem dX5_stop_1 : decode cX5_stop 1 = .ok (.iload_n 1, 1) := by decide +kernel
theorem dX5_stop_2 : decode cX5_stop 2 = .ok (.iload_n 2, 1) := by decide +kernel
theorem dX5_stop_3 : decode cX5_stop 3 = .ok (.invokevirtual 51, 3) := by decide +kernel
theorem dX5_stop_6 : decode cX5_stop 6 = .ok (.astore 4, 2) := by decide +kernel
theorem dX5_stop_8 : decode cX5_stop 8 = .ok (.aload 4, 2) := by decide +kernel
theorem dX5_stop_10 : decode cX5_stop 10 = .ok (.ifnonnull 6, 3) := by decide +kernel
theorem dX5_stop_13 : decode cX5_stop 13 = .ok (.bipush (-9), 2) := by decide +kernel
theorem dX5_stop_15 : decode cX5_stop 15 = .ok (.ireturn, 1) := by decide +kernel
theorem dX5_stop_16 : decode cX5_stop 16 = .ok (.iload_n 3, 1) := by decide +kernel
theorem dX5_stop_17 : decode cX5_stop 17 = .ok (.iconst (-1), 1) := by decide +kernel
theorem dX5_stop_18 : decode cX5_stop 18 = .ok (.if_icmp .eq 24, 3) := by decide +kernel
theorem dX5_stop_21 : decode cX5_stop 21 = .ok (.iload_n 3, 1) := by decide +kernel
theorem dX5_stop_22 : decode cX5_stop 22 = .ok (.aload 4, 2) := by decide +kernel
theorem dX5_stop_24 : decode cX5_stop 24 = .ok (.getfield 55, 3) := by decide +kernel
theorem dX5_stop_27 : decode cX5_stop 27 = .ok (.iload_n 2, 1) := by decide +kernel
theorem dX5_stop_28 : decode cX5_stop 28 = .ok (.iaload, 1) := by decide +kernel
theorem dX5_stop_29 : decode cX5_stop 29 = .ok (.iconst 1, 1) := by decide +kernel
theorem dX5_stop_30 : decode cX5_stop 30 = .ok (.iadd, 1) := by decide +kernel
theorem dX5_stop_31 : decode cX5_stop 31 = .ok (.bipush 80, 2) := by decide +kernel
theorem dX5_stop_33 : decode cX5_stop 33 = .ok (.invokestatic 27, 3) := by decide +kernel
theorem dX5_stop_36 : decode cX5_stop 36 = .ok (.ifCond .eq 6, 3) := by decide +kernel
theorem dX5_stop_39 : decode cX5_stop 39 = .ok (.bipush (-9), 2) := by decide +kernel
theorem dX5_stop_41 : decode cX5_stop 41 = .ok (.ireturn, 1) := by decide +kernel
theorem dX5_stop_42 : decode cX5_stop 42 = .ok (.aload 4, 2) := by decide +kernel
theorem dX5_stop_44 : decode cX5_stop 44 = .ok (.getfield 58, 3) := by decide +kernel
theorem dX5_stop_47 : decode cX5_stop 47 = .ok (.iload_n 2, 1) := by decide +kernel
theorem dX5_stop_48 : decode cX5_stop 48 = .ok (.iaload, 1) := by decide +kernel
theorem dX5_stop_49 : decode cX5_stop 49 = .ok (.istore 5, 2) := by decide +kernel
theorem dX5_stop_51 : decode cX5_stop 51 = .ok (.aload 4, 2) := by decide +kernel
theorem dX5_stop_53 : decode cX5_stop 53 = .ok (.getfield 58, 3) := by decide +kernel
theorem dX5_stop_56 : decode cX5_stop 56 = .ok (.iload_n 2, 1) := by decide +kernel
theorem dX5_stop_57 : decode cX5_stop 57 = .ok (.iload_n 3, 1) := by decide +kernel
theorem dX5_stop_58 : decode cX5_stop 58 = .ok (.iastore, 1) := by decide +kernel
theorem dX5_stop_59 : decode cX5_stop 59 = .ok (.aload 4, 2) := by decide +kernel
theorem dX5_stop_61 : decode cX5_stop 61 = .ok (.iconst 0, 1) := by decide +kernel
theorem dX5_stop_62 : decode cX5_stop 62 = .ok (.putfield 31, 3) := by decide +kernel
theorem dX5_stop_65 : decode cX5_stop 65 = .ok (.iload 5, 2) := by decide +kernel
theorem dX5_stop_67 : decode cX5_stop 67 = .ok (.ireturn, 1) := by decide +kernel
theorem dX5_mark_0 : decode cX5_mark 0 = .ok (.aload_n 0, 1) := by decide +kernel
theorem dX5_mark_1 : decode cX5_mark 1 = .ok (.iload_n 1, 1) := by decide +kernel
theorem dX5_mark_2 : decode cX5_mark 2 = .ok (.iload_n 2, 1) := by decide +kernel
theorem dX5_mark_3 : decode cX5_mark 3 = .ok (.invokevirtual 51, 3) := by decide +kernel
theorem dX5_mark_6 : decode cX5_mark 6 = .ok (.astore 4, 2) := by decide +kernel
theorem dX5_mark_8 : decode cX5_mark 8 = .ok (.aload 4, 2) := by decide +kernel
theorem dX5_mark_10 : decode cX5_mark 10 = .ok (.ifnull 13, 3) := by decide +kernel
theorem dX5_mark_13 : decode cX5_mark 13 = .ok (.iload_n 3, 1) := by decide +kernel
theorem dX5_mark_14 : decode cX5_mark 14 = .ok (.iconst 0, 1) := by decide +kernel
theorem dX5_mark_15 : decode cX5_mark 15 = .ok (.bipush 15, 2) := by decide +kernel
theorem dX5_mark_17 : decode cX5_mark 17 = .ok (.invokestatic 27, 3) := by decide +kernel
theorem dX5_mark_20 : decode cX5_mark 20 = .ok (.ifCond .eq 5, 3) := by decide +kernel
theorem dX5_mark_23 : decode cX5_mark 23 = .ok (.iconst (-1), 1) := by decide +kernel
theorem dX5_mark_24 : decode cX5_mark 24 = .ok (.ireturn, 1) := by decide +kernel
theorem dX5_mark_25 : decode cX5_mark 25 = .ok (.iload_n 2, 1) := by decide +kernel
theorem dX5_mark_26 : decode cX5_mark 26 = .ok (.iload_n 3, 1) := by decide +kernel
theorem dX5_mark_27 : decode cX5_mark 27 = .ok (.invokestatic 43, 3) := by decide +kernel
theorem dX5_mark_30 : decode cX5_mark 30 = .ok (.ifCond .ne 6, 3) := by decide +kernel
theorem dX5_mark_33 : decode cX5_mark 33 = .ok (.bipush (-4), 2) := by decide +kernel
theorem dX5_mark_35 : decode cX5_mark 35 = .ok (.ireturn, 1) := by decide +kernel
theorem dX5_mark_36 : decode cX5_mark 36 = .ok (.aload 4, 2) := by decide +kernel
theorem dX5_mark_38 : decode cX5_mark 38 = .ok (.getfield 61, 3) := by decide +kernel
theorem dX5_mark_41 : decode cX5_mark 41 = .ok (.iload_n 2, 1) := by decide +kernel
theorem dX5_mark_42 : decode cX5_mark 42 = .ok (.iaload, 1) := by decide +kernel
theorem dX5_mark_43 : decode cX5_mark 43 = .ok (.istore 5, 2) := by decide +kernel
theorem dX5_mark_45 : decode cX5_mark 45 = .ok (.aload 4, 2) := by decide +kernel
theorem dX5_mark_47 : decode cX5_mark 47 = .ok (.getfield 61, 3) := by decide +kernel
theorem dX5_mark_50 : decode cX5_mark 50 = .ok (.iload_n 2, 1) := by decide +kernel
theorem dX5_mark_51 : decode cX5_mark 51 = .ok (.iload_n 3, 1) := by decide +kernel
theorem dX5_mark_52 : decode cX5_mark 52 = .ok (.iastore, 1) := by decide +kernel
theorem dX5_mark_53 : decode cX5_mark 53 = .ok (.aload 4, 2) := by decide +kernel
theorem dX5_mark_55 : decode cX5_mark 55 = .ok (.iconst 0, 1) := by decide +kernel
theorem dX5_mark_56 : decode cX5_mark 56 = .ok (.putfield 31, 3) := by decide +kernel
theorem dX5_mark_59 : decode cX5_mark 59 = .ok (.iload 5, 2) := by decide +kernel
theorem dX5_mark_61 : decode cX5_mark 61 = .ok (.ireturn, 1) := by decide +kernel
theorem dX5_cut_0 : decode cX5_cut 0 = .ok (.aload_n 0, 1) := by decide +kernel
theorem dX5_cut_1 : decode cX5_cut 1 = .ok (.iload_n 1, 1) := by decide +kernel
theorem dX5_cut_2 : decode cX5_cut 2 = .ok (.invokevirtual 35, 3) := by decide +kernel
theorem dX5_cut_5 : decode cX5_cut 5 = .ok (.astore_n 2, 1) := by decide +kernel
theorem dX5_cut_6 : decode cX5_cut 6 = .ok (.aload_n 2, 1) := by decide +kernel
theorem dX5_cut_7 : decode cX5_cut 7 = .ok (.ifnonnull 5, 3) := by decide +kernel
theorem dX5_cut_10 : decode cX5_cut 10 = .ok (.iconst (-1), 1) := by decide +kernel
theorem dX5_cut_11 : decode cX5_cut 11 = .ok (.ireturn, 1) := by decide +kernel
theorem dX5_cut_12 : decode cX5_cut 12 = .ok (.aload_n 2, 1) := by decide +kernel
theorem dX5_cut_13 : decode cX5_cut 13 = .ok (.getfield 39, 3) := by decide +kernel
theorem dX5_cut_16 : decode cX5_cut 16 = .ok (.ifCond .gt 6, 3) := by decide +kernel
theorem dX5_cut_19 : decode cX5_cut 19 = .ok (.bipush (-3), 2) := by decide +kernel
theorem dX5_cut_21 : decode cX5_cut 21 = .ok (.ireturn, 1) := by decide +kernel
theorem dX5_cut_22 : decode cX5_cut 22 = .ok (.aload_n 2, 1) := by decide +kernel
theorem dX5_cut_23 : decode cX5_cut 23 = .ok (.dup, 1) := by decide +kernel
theorem dX5_cut_24 : decode cX5_cut 24 = .ok (.getfield 39, 3) := by decide +kernel
theorem dX5_cut_27 : decode cX5_cut 27 = .ok (.iconst 1, 1) := by decide +kernel
theorem dX5_cut_28 : decode cX5_cut 28 = .ok (.isub, 1) := by decide +kernel
theorem dX5_cut_29 : decode cX5_cut 29 = .ok (.putfield 39, 3) := by decide +kernel
theorem dX5_cut_32 : decode cX5_cut 32 = .ok (.aload_n 2, 1) := by decide +kernel
theorem dX5_cut_33 : decode cX5_cut 33 = .ok (.iconst 0, 1) := by decide +kernel
theorem dX5_cut_34 : decode cX5_cut 34 = .ok (.putfield 31, 3) := by decide +kernel
theorem dX5_cut_37 : decode cX5_cut 37 = .ok (.aload_n 2, 1) := by decide +kernel
theorem dX5_cut_38 : decode cX5_cut 38 = .ok (.getfield 39, 3) := by decide +kernel
theorem dX5_cut_41 : decode cX5_cut 41 = .ok (.ireturn, 1) := by decide +kernel
theorem dX5_of_0 : decode cX5_of 0 = .ok (.aload_n 0, 1) := by decide +kernel
theorem dX5_of_1 : decode cX5_of 1 = .ok (.iload_n 1, 1) := by decide +kernel
theorem dX5_of_2 : decode cX5_of 2 = .ok (.iload_n 2, 1) := by decide +kernel
theorem dX5_of_3 : decode cX5_of 3 = .ok (.invokevirtual 51, 3) := by decide +kernel
theorem dX5_of_6 : decode cX5_of 6 = .ok (.astore 4, 2) := by decide +kernel
theorem dX5_of_8 : decode cX5_of 8 = .ok (.aload 4, 2) := by decide +kernel
theorem dX5_of_10 : decode cX5_of 10 = .ok (.ifnonnull 5, 3) := by decide +kernel
theorem dX5_of_13 : decode cX5_of 13 = .ok (.iconst (-1), 1) := by decide +kernel
theorem dX5_of_14 : decode cX5_of 14 = .ok (.ireturn, 1) := by decide +kernel
theorem dX5_of_15 : decode cX5_of 15 = .ok (.iload_n 3, 1) := by decide +kernel
theorem dX5_of_16 : decode cX5_of 16 = .ok (.tableswitch 109 0 5 #[40, 48, 56, 64, 86, 94], 40) := by decide +kernel
theorem dX5_of_56 : decode cX5_of 56 = .ok (.aload 4, 2) := by decide +kernel
theorem dX5_of_58 : decode cX5_of 58 = .ok (.getfield 55, 3) := by decide +kernel
theorem dX5_of_61 : decode cX5_of 61 = .ok (.iload_n 2, 1) := by decide +kernel
theorem dX5_of_62 : decode cX5_of 62 = .ok (.iaload, 1) := by decide +kernel
theorem dX5_of_63 : decode cX5_of 63 = .ok (.ireturn, 1) := by decide +kernel
theorem dX5_of_64 : decode cX5_of 64 = .ok (.aload 4, 2) := by decide +kernel
theorem dX5_of_66 : decode cX5_of 66 = .ok (.getfield 64, 3) := by decide +kernel
theorem dX5_of_69 : decode cX5_of 69 = .ok (.iload_n 2, 1) := by decide +kernel
theorem dX5_of_70 : decode cX5_of 70 = .ok (.iaload, 1) := by decide +kernel
theorem dX5_of_71 : decode cX5_of 71 = .ok (.ireturn, 1) := by decide +kernel
theorem dX5_of_72 : decode cX5_of 72 = .ok (.aload 4, 2) := by decide +kernel
theorem dX5_of_74 : decode cX5_of 74 = .ok (.getfield 61, 3) := by decide +kernel
theorem dX5_of_77 : decode cX5_of 77 = .ok (.iload_n 2, 1) := by decide +kernel
theorem dX5_of_78 : decode cX5_of 78 = .ok (.iaload, 1) := by decide +kernel
theorem dX5_of_79 : decode cX5_of 79 = .ok (.ireturn, 1) := by decide +kernel
theorem dX5_of_80 : decode cX5_of 80 = .ok (.aload 4, 2) := by decide +kernel
theorem dX5_of_82 : decode cX5_of 82 = .ok (.iload_n 2, 1) := by decide +kernel
theorem dX5_of_83 : decode cX5_of 83 = .ok (.invokevirtual 67, 3) := by decide +kernel
theorem dX5_of_86 : decode cX5_of 86 = .ok (.ifCond .eq 13, 3) := by decide +kernel
theorem dX5_of_89 : decode cX5_of 89 = .ok (.aload 4, 2) := by decide +kernel
theorem dX5_of_91 : decode cX5_of 91 = .ok (.getfield 58, 3) := by decide +kernel
theorem dX5_of_94 : decode cX5_of 94 = .ok (.iload_n 2, 1) := by decide +kernel
theorem dX5_of_95 : decode cX5_of 95 = .ok (.iaload, 1) := by decide +kernel
theorem dX5_of_96 : decode cX5_of 96 = .ok (.goto 5, 3) := by decide +kernel
theorem dX5_of_99 : decode cX5_of 99 = .ok (.bipush (-3), 2) := by decide +kernel
theorem dX5_of_101 : decode cX5_of 101 = .ok (.ireturn, 1) := by decide +kernel
theorem dX5_of_102 : decode cX5_of 102 = .ok (.aload 4, 2) := by decide +kernel
theorem dX5_of_104 : decode cX5_of 104 = .ok (.getfield 71, 3) := by decide +kernel
theorem dX5_of_107 : decode cX5_of 107 = .ok (.iload_n 2, 1) := by decide +kernel
theorem dX5_of_108 : decode cX5_of 108 = .ok (.iaload, 1) := by decide +kernel
theorem dX5_of_109 : decode cX5_of 109 = .ok (.ireturn, 1) := by decide +kernel
theorem dX5_of_110 : decode cX5_of 110 = .ok (.aload_n 0, 1) := by decide +kernel
theorem dX5_of_111 : decode cX5_of 111 = .ok (.getfield 23, 3) := by decide +kernel
theorem dX5_of_114 : decode cX5_of 114 = .ok (.aload_n 0, 1) := by decide +kernel
theorem dX5_of_115 : decode cX5_of 115 = .ok (.getfield 7, 3) := by decide +kernel
theorem dX5_of_118 : decode cX5_of 118 = .ok (.aload 4, 2) := by decide +kernel
theorem dX5_of_120 : decode cX5_of 120 = .ok (.iload_n 2, 1) := by decide +kernel
theorem dX5_of_121 : decode cX5_of 121 = .ok (.invokevirtual 74, 3) := by decide +kernel
theorem dX5_of_124 : decode cX5_of 124 = .ok (.ireturn, 1) := by decide +kernel
theorem dX5_of_125 : decode cX5_of 125 = .ok (.iconst (-1), 1) := by decide +kernel
theorem dX5_of_126 : decode cX5_of 126 = .ok (.ireturn, 1) := by decide +kernel
theorem dX5_hold_0 : decode cX5_hold 0 = .ok (.aload_n 0, 1) := by decide +kernel
theorem dX5_hold_1 : decode cX5_hold 1 = .ok (.iload_n 1, 1) := by decide +kernel
theorem dX5_hold_2 : decode cX5_hold 2 = .ok (.iload_n 2, 1) := by decide +kernel
theorem dX5_hold_3 : decode cX5_hold 3 = .ok (.invokevirtual 51, 3) := by decide +kernel
theorem dX5_hold_6 : decode cX5_hold 6 = .ok (.astore 4, 2) := by decide +kernel
theorem dX5_hold_8 : decode cX5_hold 8 = .ok (.aload 4, 2) := by decide +kernel
theorem dX5_hold_10 : decode cX5_hold 10 = .ok (.ifnonnull 5, 3) := by decide +kernel
theorem dX5_hold_13 : decode cX5_hold 13 = .ok (.iconst (-1), 1) := by decide +kernel
theorem dX5_hold_14 : decode cX5_hold 14 = .ok (.ireturn, 1) := by decide +kernel
theorem dX5_hold_15 : decode cX5_hold 15 = .ok (.aload_n 0, 1) := by decide +kernel
theorem dX5_hold_16 : decode cX5_hold 16 = .ok (.getfield 23, 3) := by decide +kernel
theorem dX5_hold_19 : decode cX5_hold 19 = .ok (.aload_n 0, 1) := by decide +kernel
theorem dX5_hold_20 : decode cX5_hold 20 = .ok (.getfield 7, 3) := by decide +kernel
theorem dX5_hold_23 : decode cX5_hold 23 = .ok (.aload 4, 2) := by decide +kernel
theorem dX5_hold_25 : decode cX5_hold 25 = .ok (.iload_n 2, 1) := by decide +kernel
theorem dX5_hold_26 : decode cX5_hold 26 = .ok (.invokevirtual 74, 3) := by decide +kernel
theorem dX5_hold_29 : decode cX5_hold 29 = .ok (.istore 5, 2) := by decide +kernel
theorem dX5_hold_31 : decode cX5_hold 31 = .ok (.iload_n 3, 1) := by decide +kernel
theorem dX5_hold_32 : decode cX5_hold 32 = .ok (.iconst 0, 1) := by decide +kernel
theorem dX5_hold_33 : decode cX5_hold 33 = .ok (.iload 5, 2) := by decide +kernel
theorem dX5_hold_35 : decode cX5_hold 35 = .ok (.iconst 1, 1) := by decide +kernel
theorem dX5_hold_36 : decode cX5_hold 36 = .ok (.isub, 1) := by decide +kernel
theorem dX5_hold_37 : decode cX5_hold 37 = .ok (.invokestatic 27, 3) := by decide +kernel
theorem dX5_hold_40 : decode cX5_hold 40 = .ok (.ifCond .eq 8, 3) := by decide +kernel
theorem dX5_hold_43 : decode cX5_hold 43 = .ok (.bipush (-3), 2) := by decide +kernel
theorem dX5_hold_45 : decode cX5_hold 45 = .ok (.goto 15, 3) := by decide +kernel
theorem dX5_hold_48 : decode cX5_hold 48 = .ok (.aload_n 0, 1) := by decide +kernel
theorem dX5_hold_49 : decode cX5_hold 49 = .ok (.getfield 23, 3) := by decide +kernel
theorem dX5_hold_52 : decode cX5_hold 52 = .ok (.iload_n 2, 1) := by decide +kernel
theorem dX5_hold_53 : decode cX5_hold 53 = .ok (.iload_n 3, 1) := by decide +kernel
theorem dX5_hold_54 : decode cX5_hold 54 = .ok (.invokevirtual 78, 3) := by decide +kernel
theorem dX5_hold_57 : decode cX5_hold 57 = .ok (.invokestatic 82, 3) := by decide +kernel
theorem dX5_hold_60 : decode cX5_hold 60 = .ok (.ireturn, 1) := by decide +kernel
theorem dX5_hard_0 : decode cX5_hard 0 = .ok (.aload_n 0, 1) := by decide +kernel
theorem dX5_hard_1 : decode cX5_hard 1 = .ok (.iload_n 1, 1) := by decide +kernel
theorem dX5_hard_2 : decode cX5_hard 2 = .ok (.invokevirtual 35, 3) := by decide +kernel
theorem dX5_hard_5 : decode cX5_hard 5 = .ok (.astore_n 2, 1) := by decide +kernel
theorem dX5_hard_6 : decode cX5_hard 6 = .ok (.aload_n 2, 1) := by decide +kernel
theorem dX5_hard_7 : decode cX5_hard 7 = .ok (.ifnonnull 5, 3) := by decide +kernel
theorem dX5_hard_10 : decode cX5_hard 10 = .ok (.iconst (-1), 1) := by decide +kernel
theorem dX5_hard_11 : decode cX5_hard 11 = .ok (.ireturn, 1) := by decide +kernel
theorem dX5_hard_12 : decode cX5_hard 12 = .ok (.aload_n 0, 1) := by decide +kernel
theorem dX5_hard_13 : decode cX5_hard 13 = .ok (.aload_n 2, 1) := by decide +kernel
theorem dX5_hard_14 : decode cX5_hard 14 = .ok (.invokevirtual 88, 3) := by decide +kernel
theorem dX5_hard_17 : decode cX5_hard 17 = .ok (.ifCond .eq 10, 3) := by decide +kernel
theorem dX5_hard_20 : decode cX5_hard 20 = .ok (.aload_n 2, 1) := by decide +kernel
theorem dX5_hard_21 : decode cX5_hard 21 = .ok (.getfield 92, 3) := by decide +kernel
theorem dX5_hard_24 : decode cX5_hard 24 = .ok (.goto 5, 3) := by decide +kernel
theorem dX5_hard_27 : decode cX5_hard 27 = .ok (.bipush (-3), 2) := by decide +kernel
theorem dX5_hard_29 : decode cX5_hard 29 = .ok (.ireturn, 1) := by decide +kernel
theorem dX5_finger_0 : decode cX5_finger 0 = .ok (.aload_n 0, 1) := by decide +kernel
theorem dX5_finger_1 : decode cX5_finger 1 = .ok (.iload_n 1, 1) := by decide +kernel
theorem dX5_finger_2 : decode cX5_finger 2 = .ok (.iload_n 2, 1) := by decide +kernel
theorem dX5_finger_3 : decode cX5_finger 3 = .ok (.invokevirtual 51, 3) := by decide +kernel
theorem dX5_finger_6 : decode cX5_finger 6 = .ok (.astore 4, 2) := by decide +kernel
theorem dX5_finger_8 : decode cX5_finger 8 = .ok (.aload 4, 2) := by decide +kernel
theorem dX5_finger_10 : decode cX5_finger 10 = .ok (.ifnull 12, 3) := by decide +kernel
theorem dX5_finger_13 : decode cX5_finger 13 = .ok (.iload_n 3, 1) := by decide +kernel
theorem dX5_finger_14 : decode cX5_finger 14 = .ok (.iconst 0, 1) := by decide +kernel
theorem dX5_finger_15 : decode cX5_finger 15 = .ok (.iconst 5, 1) := by decide +kernel
theorem dX5_finger_16 : decode cX5_finger 16 = .ok (.invokestatic 27, 3) := by decide +kernel
theorem dX5_finger_19 : decode cX5_finger 19 = .ok (.ifCond .eq 5, 3) := by decide +kernel
theorem dX5_finger_22 : decode cX5_finger 22 = .ok (.iconst (-1), 1) := by decide +kernel
theorem dX5_finger_23 : decode cX5_finger 23 = .ok (.ireturn, 1) := by decide +kernel
theorem dX5_finger_24 : decode cX5_finger 24 = .ok (.aload_n 0, 1) := by decide +kernel
theorem dX5_finger_25 : decode cX5_finger 25 = .ok (.aload 4, 2) := by decide +kernel
theorem dX5_finger_27 : decode cX5_finger 27 = .ok (.invokevirtual 88, 3) := by decide +kernel
theorem dX5_finger_30 : decode cX5_finger 30 = .ok (.ifCond .ne 6, 3) := by decide +kernel
theorem dX5_finger_33 : decode cX5_finger 33 = .ok (.bipush (-3), 2) := by decide +kernel
theorem dX5_finger_35 : decode cX5_finger 35 = .ok (.ireturn, 1) := by decide +kernel
theorem dX5_finger_36 : decode cX5_finger 36 = .ok (.aload 4, 2) := by decide +kernel
theorem dX5_finger_38 : decode cX5_finger 38 = .ok (.getfield 95, 3) := by decide +kernel
theorem dX5_finger_41 : decode cX5_finger 41 = .ok (.iload_n 2, 1) := by decide +kernel
theorem dX5_finger_42 : decode cX5_finger 42 = .ok (.iaload, 1) := by decide +kernel
theorem dX5_finger_43 : decode cX5_finger 43 = .ok (.istore 5, 2) := by decide +kernel
theorem dX5_finger_45 : decode cX5_finger 45 = .ok (.iload_n 3, 1) := by decide +kernel
theorem dX5_finger_46 : decode cX5_finger 46 = .ok (.tableswitch 87 0 4 #[34, 40, 46, 55, 64], 34) := by decide +kernel
theorem dX5_finger_80 : decode cX5_finger 80 = .ok (.iload 5, 2) := by decide +kernel
theorem dX5_finger_82 : decode cX5_finger 82 = .ok (.invokestatic 98, 3) := by decide +kernel
theorem dX5_finger_85 : decode cX5_finger 85 = .ok (.ireturn, 1) := by decide +kernel
theorem dX5_finger_86 : decode cX5_finger 86 = .ok (.iload 5, 2) := by decide +kernel
theorem dX5_finger_88 : decode cX5_finger 88 = .ok (.invokestatic 101, 3) := by decide +kernel
theorem dX5_finger_91 : decode cX5_finger 91 = .ok (.ireturn, 1) := by decide +kernel
theorem dX5_finger_92 : decode cX5_finger 92 = .ok (.iload 5, 2) := by decide +kernel
theorem dX5_finger_94 : decode cX5_finger 94 = .ok (.invokestatic 104, 3) := by decide +kernel
theorem dX5_finger_97 : decode cX5_finger 97 = .ok (.invokestatic 107, 3) := by decide +kernel
theorem dX5_finger_100 : decode cX5_finger 100 = .ok (.ireturn, 1) := by decide +kernel
theorem dX5_finger_101 : decode cX5_finger 101 = .ok (.iload 5, 2) := by decide +kernel
theorem dX5_finger_103 : decode cX5_finger 103 = .ok (.invokestatic 104, 3) := by decide +kernel
theorem dX5_finger_106 : decode cX5_finger 106 = .ok (.invokestatic 112, 3) := by decide +kernel
theorem dX5_finger_109 : decode cX5_finger 109 = .ok (.ireturn, 1) := by decide +kernel
theorem dX5_finger_110 : decode cX5_finger 110 = .ok (.aload 4, 2) := by decide +kernel
theorem dX5_finger_112 : decode cX5_finger 112 = .ok (.iload_n 2, 1) := by decide +kernel
theorem dX5_finger_113 : decode cX5_finger 113 = .ok (.invokevirtual 67, 3) := by decide +kernel
theorem dX5_finger_116 : decode cX5_finger 116 = .ok (.ifCond .eq 14, 3) := by decide +kernel
theorem dX5_finger_119 : decode cX5_finger 119 = .ok (.iload 5, 2) := by decide +kernel
theorem dX5_finger_121 : decode cX5_finger 121 = .ok (.invokestatic 115, 3) := by decide +kernel
theorem dX5_finger_124 : decode cX5_finger 124 = .ok (.invokestatic 107, 3) := by decide +kernel
theorem dX5_finger_127 : decode cX5_finger 127 = .ok (.goto 5, 3) := by decide +kernel
theorem dX5_finger_130 : decode cX5_finger 130 = .ok (.bipush (-3), 2) := by decide +kernel
theorem dX5_finger_132 : decode cX5_finger 132 = .ok (.ireturn, 1) := by decide +kernel
theorem dX5_finger_133 : decode cX5_finger 133 = .ok (.aload 4, 2) := by decide +kernel
theorem dX5_finger_135 : decode cX5_finger 135 = .ok (.iload_n 2, 1) := by decide +kernel
theorem dX5_finger_136 : decode cX5_finger 136 = .ok (.invokevirtual 67, 3) := by decide +kernel
theorem dX5_finger_139 : decode cX5_finger 139 = .ok (.ifCond .eq 14, 3) := by decide +kernel
theorem dX5_finger_142 : decode cX5_finger 142 = .ok (.iload 5, 2) := by decide +kernel
theorem dX5_finger_144 : decode cX5_finger 144 = .ok (.invokestatic 115, 3) := by decide +kernel
theorem dX5_finger_147 : decode cX5_finger 147 = .ok (.invokestatic 112, 3) := by decide +kernel
theorem dX5_finger_150 : decode cX5_finger 150 = .ok (.goto 5, 3) := by decide +kernel
theorem dX5_finger_153 : decode cX5_finger 153 = .ok (.bipush (-3), 2) := by decide +kernel
theorem dX5_finger_155 : decode cX5_finger 155 = .ok (.ireturn, 1) := by decide +kernel
theorem dX5_shifts_0 : decode cX5_shifts 0 = .ok (.aload_n 0, 1) := by decide +kernel
theorem dX5_shifts_1 : decode cX5_shifts 1 = .ok (.iload_n 1, 1) := by decide +kernel
theorem dX5_shifts_2 : decode cX5_shifts 2 = .ok (.invokevirtual 35, 3) := by decide +kernel
theorem dX5_shifts_5 : decode cX5_shifts 5 = .ok (.astore_n 2, 1) := by decide +kernel
theorem dX5_shifts_6 : decode cX5_shifts 6 = .ok (.aload_n 2, 1) := by decide +kernel
theorem dX5_shifts_7 : decode cX5_shifts 7 = .ok (.ifnonnull 5, 3) := by decide +kernel
theorem dX5_shifts_10 : decode cX5_shifts 10 = .ok (.iconst (-1), 1) := by decide +kernel
theorem dX5_shifts_11 : decode cX5_shifts 11 = .ok (.ireturn, 1) := by decide +kernel
theorem dX5_shifts_12 : decode cX5_shifts 12 = .ok (.aload_n 0, 1) := by decide +kernel
theorem dX5_shifts_13 : decode cX5_shifts 13 = .ok (.aload_n 2, 1) := by decide +kernel
theorem dX5_shifts_14 : decode cX5_shifts 14 = .ok (.invokevirtual 88, 3) := by decide +kernel
theorem dX5_shifts_17 : decode cX5_shifts 17 = .ok (.ifCond .ne 6, 3) := by decide +kernel
theorem dX5_shifts_20 : decode cX5_shifts 20 = .ok (.bipush (-3), 2) := by decide +kernel
theorem dX5_shifts_22 : decode cX5_shifts 22 = .ok (.ireturn, 1) := by decide +kernel
theorem dX5_shifts_23 : decode cX5_shifts 23 = .ok (.iconst 0, 1) := by decide +kernel
theorem dX5_shifts_24 : decode cX5_shifts 24 = .ok (.istore_n 3, 1) := by decide +kernel
theorem dX5_shifts_25 : decode cX5_shifts 25 = .ok (.iconst 1, 1) := by decide +kernel
theorem dX5_shifts_26 : decode cX5_shifts 26 = .ok (.istore 4, 2) := by decide +kernel
theorem dX5_shifts_28 : decode cX5_shifts 28 = .ok (.iload 4, 2) := by decide +kernel
theorem dX5_shifts_30 : decode cX5_shifts 30 = .ok (.aload_n 2, 1) := by decide +kernel
theorem dX5_shifts_31 : decode cX5_shifts 31 = .ok (.getfield 39, 3) := by decide +kernel
theorem dX5_shifts_34 : decode cX5_shifts 34 = .ok (.if_icmp .ge 34, 3) := by decide +kernel
theorem dX5_shifts_37 : decode cX5_shifts 37 = .ok (.aload_n 2, 1) := by decide +kernel
theorem dX5_shifts_38 : decode cX5_shifts 38 = .ok (.getfield 95, 3) := by decide +kernel
theorem dX5_shifts_41 : decode cX5_shifts 41 = .ok (.iload 4, 2) := by decide +kernel
theorem dX5_shifts_43 : decode cX5_shifts 43 = .ok (.iconst 1, 1) := by decide +kernel
theorem dX5_shifts_44 : decode cX5_shifts 44 = .ok (.isub, 1) := by decide +kernel
theorem dX5_shifts_45 : decode cX5_shifts 45 = .ok (.iaload, 1) := by decide +kernel
theorem dX5_shifts_46 : decode cX5_shifts 46 = .ok (.aload_n 2, 1) := by decide +kernel
theorem dX5_shifts_47 : decode cX5_shifts 47 = .ok (.getfield 95, 3) := by decide +kernel
theorem dX5_shifts_50 : decode cX5_shifts 50 = .ok (.iload 4, 2) := by decide +kernel
theorem dX5_shifts_52 : decode cX5_shifts 52 = .ok (.iaload, 1) := by decide +kernel
theorem dX5_shifts_53 : decode cX5_shifts 53 = .ok (.invokestatic 118, 3) := by decide +kernel
theorem dX5_shifts_56 : decode cX5_shifts 56 = .ok (.ifCond .eq 6, 3) := by decide +kernel
theorem dX5_shifts_59 : decode cX5_shifts 59 = .ok (.iinc 3 1, 3) := by decide +kernel
theorem dX5_shifts_62 : decode cX5_shifts 62 = .ok (.iinc 4 1, 3) := by decide +kernel
theorem dX5_shifts_65 : decode cX5_shifts 65 = .ok (.goto (-37), 3) := by decide +kernel
theorem dX5_shifts_68 : decode cX5_shifts 68 = .ok (.iload_n 3, 1) := by decide +kernel
theorem dX5_shifts_69 : decode cX5_shifts 69 = .ok (.ireturn, 1) := by decide +kernel
theorem dX5_bow_0 : decode cX5_bow 0 = .ok (.aload_n 0, 1) := by decide +kernel
theorem dX5_bow_1 : decode cX5_bow 1 = .ok (.iload_n 1, 1) := by decide +kernel
theorem dX5_bow_2 : decode cX5_bow 2 = .ok (.invokevirtual 35, 3) := by decide +kernel
theorem dX5_bow_5 : decode cX5_bow 5 = .ok (.astore_n 3, 1) := by decide +kernel
theorem dX5_bow_6 : decode cX5_bow 6 = .ok (.aload_n 3, 1) := by decide +kernel
theorem dX5_bow_7 : decode cX5_bow 7 = .ok (.ifnull 12, 3) := by decide +kernel
theorem dX5_bow_10 : decode cX5_bow 10 = .ok (.iload_n 2, 1) := by decide +kernel
theorem dX5_bow_11 : decode cX5_bow 11 = .ok (.iconst 0, 1) := by decide +kernel
theorem dX5_bow_12 : decode cX5_bow 12 = .ok (.iconst 1, 1) := by decide +kernel
theorem dX5_bow_13 : decode cX5_bow 13 = .ok (.invokestatic 27, 3) := by decide +kernel
theorem dX5_bow_16 : decode cX5_bow 16 = .ok (.ifCond .eq 5, 3) := by decide +kernel
theorem dX5_bow_19 : decode cX5_bow 19 = .ok (.iconst (-1), 1) := by decide +kernel
theorem dX5_bow_20 : decode cX5_bow 20 = .ok (.ireturn, 1) := by decide +kernel
theorem dX5_bow_21 : decode cX5_bow 21 = .ok (.aload_n 3, 1) := by decide +kernel
theorem dX5_bow_22 : decode cX5_bow 22 = .ok (.iload_n 2, 1) := by decide +kernel
theorem dX5_bow_23 : decode cX5_bow 23 = .ok (.invokevirtual 121, 3) := by decide +kernel
theorem dX5_bow_26 : decode cX5_bow 26 = .ok (.astore 4, 2) := by decide +kernel
theorem dX5_bow_28 : decode cX5_bow 28 = .ok (.aload 4, 2) := by decide +kernel
theorem dX5_bow_30 : decode cX5_bow 30 = .ok (.aload_n 3, 1) := by decide +kernel
theorem dX5_bow_31 : decode cX5_bow 31 = .ok (.iload_n 2, 1) := by decide +kernel
theorem dX5_bow_32 : decode cX5_bow 32 = .ok (.invokevirtual 125, 3) := by decide +kernel
theorem dX5_bow_35 : decode cX5_bow 35 = .ok (.aload 4, 2) := by decide +kernel
theorem dX5_bow_37 : decode cX5_bow 37 = .ok (.invokevirtual 131, 3) := by decide +kernel
theorem dX5_bow_40 : decode cX5_bow 40 = .ok (.ifCond .eq 11, 3) := by decide +kernel
theorem dX5_bow_43 : decode cX5_bow 43 = .ok (.aload 4, 2) := by decide +kernel
theorem dX5_bow_45 : decode cX5_bow 45 = .ok (.getfield 135, 3) := by decide +kernel
theorem dX5_bow_48 : decode cX5_bow 48 = .ok (.goto 5, 3) := by decide +kernel
theorem dX5_bow_51 : decode cX5_bow 51 = .ok (.bipush (-3), 2) := by decide +kernel
theorem dX5_bow_53 : decode cX5_bow 53 = .ok (.ireturn, 1) := by decide +kernel
theorem dX5_stroke_0 : decode cX5_stroke 0 = .ok (.aload_n 0, 1) := by decide +kernel
theorem dX5_stroke_1 : decode cX5_stroke 1 = .ok (.iload_n 1, 1) := by decide +kernel
theorem dX5_stroke_2 : decode cX5_stroke 2 = .ok (.iload_n 2, 1) := by decide +kernel
theorem dX5_stroke_3 : decode cX5_stroke 3 = .ok (.invokevirtual 51, 3) := by decide +kernel
theorem dX5_stroke_6 : decode cX5_stroke 6 = .ok (.astore 4, 2) := by decide +kernel
theorem dX5_stroke_8 : decode cX5_stroke 8 = .ok (.aload 4, 2) := by decide +kernel
theorem dX5_stroke_10 : decode cX5_stroke 10 = .ok (.ifnull 12, 3) := by decide +kernel
theorem dX5_stroke_13 : decode cX5_stroke 13 = .ok (.iload_n 3, 1) := by decide +kernel
theorem dX5_stroke_14 : decode cX5_stroke 14 = .ok (.iconst 0, 1) := by decide +kernel
theorem dX5_stroke_15 : decode cX5_stroke 15 = .ok (.iconst 1, 1) := by decide +kernel
theorem dX5_stroke_16 : decode cX5_stroke 16 = .ok (.invokestatic 27, 3) := by decide +kernel
theorem dX5_stroke_19 : decode cX5_stroke 19 = .ok (.ifCond .eq 5, 3) := by decide +kernel
theorem dX5_stroke_22 : decode cX5_stroke 22 = .ok (.iconst (-1), 1) := by decide +kernel
theorem dX5_stroke_23 : decode cX5_stroke 23 = .ok (.ireturn, 1) := by decide +kernel
theorem dX5_stroke_24 : decode cX5_stroke 24 = .ok (.aload 4, 2) := by decide +kernel
theorem dX5_stroke_26 : decode cX5_stroke 26 = .ok (.iload_n 3, 1) := by decide +kernel
theorem dX5_stroke_27 : decode cX5_stroke 27 = .ok (.invokevirtual 121, 3) := by decide +kernel
theorem dX5_stroke_30 : decode cX5_stroke 30 = .ok (.astore 5, 2) := by decide +kernel
theorem dX5_stroke_32 : decode cX5_stroke 32 = .ok (.aload 5, 2) := by decide +kernel
theorem dX5_stroke_34 : decode cX5_stroke 34 = .ok (.aload 4, 2) := by decide +kernel
theorem dX5_stroke_36 : decode cX5_stroke 36 = .ok (.iload_n 3, 1) := by decide +kernel
theorem dX5_stroke_37 : decode cX5_stroke 37 = .ok (.invokevirtual 125, 3) := by decide +kernel
theorem dX5_stroke_40 : decode cX5_stroke 40 = .ok (.aload 5, 2) := by decide +kernel
theorem dX5_stroke_42 : decode cX5_stroke 42 = .ok (.invokevirtual 131, 3) := by decide +kernel
theorem dX5_stroke_45 : decode cX5_stroke 45 = .ok (.ifCond .eq 13, 3) := by decide +kernel
theorem dX5_stroke_48 : decode cX5_stroke 48 = .ok (.aload 5, 2) := by decide +kernel
theorem dX5_stroke_50 : decode cX5_stroke 50 = .ok (.getfield 138, 3) := by decide +kernel
theorem dX5_stroke_53 : decode cX5_stroke 53 = .ok (.iload_n 2, 1) := by decide +kernel
theorem dX5_stroke_54 : decode cX5_stroke 54 = .ok (.iaload, 1) := by decide +kernel
theorem dX5_stroke_55 : decode cX5_stroke 55 = .ok (.goto 5, 3) := by decide +kernel
theorem dX5_stroke_58 : decode cX5_stroke 58 = .ok (.bipush (-3), 2) := by decide +kernel
theorem dX5_stroke_60 : decode cX5_stroke 60 = .ok (.ireturn, 1) := by decide +kernel
theorem dX5_strokes_0 : decode cX5_strokes 0 = .ok (.aload_n 0, 1) := by decide +kernel
theorem dX5_strokes_1 : decode cX5_strokes 1 = .ok (.iload_n 1, 1) := by decide +kernel
theorem dX5_strokes_2 : decode cX5_strokes 2 = .ok (.invokevirtual 35, 3) := by decide +kernel
theorem dX5_strokes_5 : decode cX5_strokes 5 = .ok (.astore 4, 2) := by decide +kernel
theorem dX5_strokes_7 : decode cX5_strokes 7 = .ok (.aload 4, 2) := by decide +kernel
theorem dX5_strokes_9 : decode cX5_strokes 9 = .ok (.ifnull 21, 3) := by decide +kernel
theorem dX5_strokes_12 : decode cX5_strokes 12 = .ok (.iload_n 2, 1) := by decide +kernel
theorem dX5_strokes_13 : decode cX5_strokes 13 = .ok (.iconst 0, 1) := by decide +kernel
theorem dX5_strokes_14 : decode cX5_strokes 14 = .ok (.iconst 1, 1) := by decide +kernel
theorem dX5_strokes_15 : decode cX5_strokes 15 = .ok (.invokestatic 27, 3) := by decide +kernel
theorem dX5_strokes_18 : decode cX5_strokes 18 = .ok (.ifCond .ne 12, 3) := by decide +kernel
theorem dX5_strokes_21 : decode cX5_strokes 21 = .ok (.iload_n 3, 1) := by decide +kernel
theorem dX5_strokes_22 : decode cX5_strokes 22 = .ok (.iconst 0, 1) := by decide +kernel
theorem dX5_strokes_23 : decode cX5_strokes 23 = .ok (.iconst 2, 1) := by decide +kernel
theorem dX5_strokes_24 : decode cX5_strokes 24 = .ok (.invokestatic 27, 3) := by decide +kernel
theorem dX5_strokes_27 : decode cX5_strokes 27 = .ok (.ifCond .eq 5, 3) := by decide +kernel
theorem dX5_strokes_30 : decode cX5_strokes 30 = .ok (.iconst (-1), 1) := by decide +kernel
theorem dX5_strokes_31 : decode cX5_strokes 31 = .ok (.ireturn, 1) := by decide +kernel
theorem dX5_strokes_32 : decode cX5_strokes 32 = .ok (.aload 4, 2) := by decide +kernel
theorem dX5_strokes_34 : decode cX5_strokes 34 = .ok (.iload_n 2, 1) := by decide +kernel
theorem dX5_strokes_35 : decode cX5_strokes 35 = .ok (.invokevirtual 121, 3) := by decide +kernel
theorem dX5_strokes_38 : decode cX5_strokes 38 = .ok (.astore 5, 2) := by decide +kernel
theorem dX5_strokes_40 : decode cX5_strokes 40 = .ok (.aload 5, 2) := by decide +kernel
theorem dX5_strokes_42 : decode cX5_strokes 42 = .ok (.aload 4, 2) := by decide +kernel
theorem dX5_strokes_44 : decode cX5_strokes 44 = .ok (.iload_n 2, 1) := by decide +kernel
theorem dX5_strokes_45 : decode cX5_strokes 45 = .ok (.invokevirtual 125, 3) := by decide +kernel
theorem dX5_strokes_48 : decode cX5_strokes 48 = .ok (.aload 5, 2) := by decide +kernel
theorem dX5_strokes_50 : decode cX5_strokes 50 = .ok (.invokevirtual 131, 3) := by decide +kernel
theorem dX5_strokes_53 : decode cX5_strokes 53 = .ok (.ifCond .ne 6, 3) := by decide +kernel
theorem dX5_strokes_56 : decode cX5_strokes 56 = .ok (.bipush (-3), 2) := by decide +kernel
theorem dX5_strokes_58 : decode cX5_strokes 58 = .ok (.ireturn, 1) := by decide +kernel
theorem dX5_strokes_59 : decode cX5_strokes 59 = .ok (.iload_n 3, 1) := by decide +kernel
theorem dX5_strokes_60 : decode cX5_strokes 60 = .ok (.ifCond .ne 11, 3) := by decide +kernel
theorem dX5_strokes_63 : decode cX5_strokes 63 = .ok (.aload 5, 2) := by decide +kernel
theorem dX5_strokes_65 : decode cX5_strokes 65 = .ok (.aload 4, 2) := by decide +kernel
theorem dX5_strokes_67 : decode cX5_strokes 67 = .ok (.invokevirtual 141, 3) := by decide +kernel
theorem dX5_strokes_70 : decode cX5_strokes 70 = .ok (.ireturn, 1) := by decide +kernel
theorem dX5_strokes_71 : decode cX5_strokes 71 = .ok (.aload 5, 2) := by decide +kernel
theorem dX5_strokes_73 : decode cX5_strokes 73 = .ok (.aload 4, 2) := by decide +kernel
theorem dX5_strokes_75 : decode cX5_strokes 75 = .ok (.invokevirtual 145, 3) := by decide +kernel
theorem dX5_strokes_78 : decode cX5_strokes 78 = .ok (.istore 6, 2) := by decide +kernel
theorem dX5_strokes_80 : decode cX5_strokes 80 = .ok (.iload_n 3, 1) := by decide +kernel
theorem dX5_strokes_81 : decode cX5_strokes 81 = .ok (.iconst 1, 1) := by decide +kernel
theorem dX5_strokes_82 : decode cX5_strokes 82 = .ok (.if_icmp .ne 8, 3) := by decide +kernel
theorem dX5_strokes_85 : decode cX5_strokes 85 = .ok (.iload 6, 2) := by decide +kernel
theorem dX5_strokes_87 : decode cX5_strokes 87 = .ok (.goto 17, 3) := by decide +kernel
theorem dX5_strokes_90 : decode cX5_strokes 90 = .ok (.iload 6, 2) := by decide +kernel
theorem dX5_strokes_92 : decode cX5_strokes 92 = .ok (.aload 4, 2) := by decide +kernel
theorem dX5_strokes_94 : decode cX5_strokes 94 = .ok (.getfield 39, 3) := by decide +kernel
theorem dX5_strokes_97 : decode cX5_strokes 97 = .ok (.iadd, 1) := by decide +kernel
theorem dX5_strokes_98 : decode cX5_strokes 98 = .ok (.aload 4, 2) := by decide +kernel
theorem dX5_strokes_100 : decode cX5_strokes 100 = .ok (.invokevirtual 148, 3) := by decide +kernel
theorem dX5_strokes_103 : decode cX5_strokes 103 = .ok (.isub, 1) := by decide +kernel
theorem dX5_strokes_104 : decode cX5_strokes 104 = .ok (.ireturn, 1) := by decide +kernel
theorem dX5_alike_0 : decode cX5_alike 0 = .ok (.aload_n 0, 1) := by decide +kernel
theorem dX5_alike_1 : decode cX5_alike 1 = .ok (.iload_n 1, 1) := by decide +kernel
theorem dX5_alike_2 : decode cX5_alike 2 = .ok (.iload_n 2, 1) := by decide +kernel
theorem dX5_alike_3 : decode cX5_alike 3 = .ok (.invokevirtual 51, 3) := by decide +kernel
theorem dX5_alike_6 : decode cX5_alike 6 = .ok (.astore 5, 2) := by decide +kernel
theorem dX5_alike_8 : decode cX5_alike 8 = .ok (.aload_n 0, 1) := by decide +kernel
theorem dX5_alike_9 : decode cX5_alike 9 = .ok (.iload_n 3, 1) := by decide +kernel
theorem dX5_alike_10 : decode cX5_alike 10 = .ok (.iload 4, 2) := by decide +kernel
theorem dX5_alike_12 : decode cX5_alike 12 = .ok (.invokevirtual 51, 3) := by decide +kernel
theorem dX5_alike_15 : decode cX5_alike 15 = .ok (.astore 6, 2) := by decide +kernel
theorem dX5_alike_17 : decode cX5_alike 17 = .ok (.aload 5, 2) := by decide +kernel
theorem dX5_alike_19 : decode cX5_alike 19 = .ok (.ifnull 13, 3) := by decide +kernel
theorem dX5_alike_22 : decode cX5_alike 22 = .ok (.aload 6, 2) := by decide +kernel
theorem dX5_alike_24 : decode cX5_alike 24 = .ok (.ifnull 8, 3) := by decide +kernel
theorem dX5_alike_27 : decode cX5_alike 27 = .ok (.iload_n 1, 1) := by decide +kernel
theorem dX5_alike_28 : decode cX5_alike 28 = .ok (.iload_n 3, 1) := by decide +kernel
theorem dX5_alike_29 : decode cX5_alike 29 = .ok (.if_icmp .ne 5, 3) := by decide +kernel
theorem dX5_alike_32 : decode cX5_alike 32 = .ok (.iconst (-1), 1) := by decide +kernel
theorem dX5_alike_33 : decode cX5_alike 33 = .ok (.ireturn, 1) := by decide +kernel
theorem dX5_alike_34 : decode cX5_alike 34 = .ok (.aload 5, 2) := by decide +kernel
theorem dX5_alike_36 : decode cX5_alike 36 = .ok (.iload_n 2, 1) := by decide +kernel
theorem dX5_alike_37 : decode cX5_alike 37 = .ok (.aload 6, 2) := by decide +kernel
theorem dX5_alike_39 : decode cX5_alike 39 = .ok (.iload 4, 2) := by decide +kernel
theorem dX5_alike_41 : decode cX5_alike 41 = .ok (.invokestatic 152, 3) := by decide +kernel
theorem dX5_alike_44 : decode cX5_alike 44 = .ok (.ifCond .eq 7, 3) := by decide +kernel
theorem dX5_alike_47 : decode cX5_alike 47 = .ok (.iconst 1, 1) := by decide +kernel
theorem dX5_alike_48 : decode cX5_alike 48 = .ok (.goto 4, 3) := by decide +kernel
theorem dX5_alike_51 : decode cX5_alike 51 = .ok (.iconst 0, 1) := by decide +kernel
theorem dX5_alike_52 : decode cX5_alike 52 = .ok (.ireturn, 1) := by decide +kernel
theorem dX5_union_0 : decode cX5_union 0 = .ok (.iload_n 1, 1) := by decide +kernel
theorem dX5_union_1 : decode cX5_union 1 = .ok (.iconst 0, 1) := by decide +kernel
theorem dX5_union_2 : decode cX5_union 2 = .ok (.iconst 2, 1) := by decide +kernel
theorem dX5_union_3 : decode cX5_union 3 = .ok (.invokestatic 27, 3) := by decide +kernel
theorem dX5_union_6 : decode cX5_union 6 = .ok (.ifCond .eq 5, 3) := by decide +kernel
theorem dX5_union_9 : decode cX5_union 9 = .ok (.iconst (-1), 1) := by decide +kernel
theorem dX5_union_10 : decode cX5_union 10 = .ok (.ireturn, 1) := by decide +kernel
theorem dX5_union_11 : decode cX5_union 11 = .ok (.aload_n 0, 1) := by decide +kernel
theorem dX5_union_12 : decode cX5_union 12 = .ok (.invokevirtual 156, 3) := by decide +kernel
theorem dX5_union_15 : decode cX5_union 15 = .ok (.aload_n 0, 1) := by decide +kernel
theorem dX5_union_16 : decode cX5_union 16 = .ok (.invokevirtual 159, 3) := by decide +kernel
theorem dX5_union_19 : decode cX5_union 19 = .ok (.istore_n 2, 1) := by decide +kernel
theorem dX5_union_20 : decode cX5_union 20 = .ok (.iload_n 1, 1) := by decide +kernel
theorem dX5_union_21 : decode cX5_union 21 = .ok (.ifCond .ne 5, 3) := by decide +kernel
theorem dX5_union_24 : decode cX5_union 24 = .ok (.iload_n 2, 1) := by decide +kernel
theorem dX5_union_25 : decode cX5_union 25 = .ok (.ireturn, 1) := by decide +kernel
theorem dX5_union_26 : decode cX5_union 26 = .ok (.iload_n 1, 1) := by decide +kernel
theorem dX5_union_27 : decode cX5_union 27 = .ok (.iconst 1, 1) := by decide +kernel
theorem dX5_union_28 : decode cX5_union 28 = .ok (.if_icmp .ne 11, 3) := by decide +kernel
theorem dX5_union_31 : decode cX5_union 31 = .ok (.aload_n 0, 1) := by decide +kernel
theorem dX5_union_32 : decode cX5_union 32 = .ok (.iload_n 2, 1) := by decide +kernel
theorem dX5_union_33 : decode cX5_union 33 = .ok (.invokevirtual 162, 3) := by decide +kernel
theorem dX5_union_36 : decode cX5_union 36 = .ok (.goto 8, 3) := by decide +kernel
theorem dX5_union_39 : decode cX5_union 39 = .ok (.aload_n 0, 1) := by decide +kernel
theorem dX5_union_40 : decode cX5_union 40 = .ok (.iload_n 2, 1) := by decide +kernel
theorem dX5_union_41 : decode cX5_union 41 = .ok (.invokevirtual 165, 3) := by decide +kernel
theorem dX5_union_44 : decode cX5_union 44 = .ok (.ireturn, 1) := by decide +kernel
theorem dX5_many_0 : decode cX5_many 0 = .ok (.iload_n 1, 1) := by decide +kernel
theorem dX5_many_1 : decode cX5_many 1 = .ok (.tableswitch 73 0 6 #[43, 43, 43, 53, 58, 63, 68], 43) := by decide +kernel
theorem dX5_many_44 : decode cX5_many 44 = .ok (.aload_n 0, 1) := by decide +kernel
theorem dX5_many_45 : decode cX5_many 45 = .ok (.getfield 16, 3) := by decide +kernel
theorem dX5_many_48 : decode cX5_many 48 = .ok (.iload_n 1, 1) := by decide +kernel
theorem dX5_many_49 : decode cX5_many 49 = .ok (.aaload, 1) := by decide +kernel
theorem dX5_many_50 : decode cX5_many 50 = .ok (.getfield 39, 3) := by decide +kernel
theorem dX5_many_53 : decode cX5_many 53 = .ok (.ireturn, 1) := by decide +kernel
theorem dX5_many_54 : decode cX5_many 54 = .ok (.aload_n 0, 1) := by decide +kernel
theorem dX5_many_55 : decode cX5_many 55 = .ok (.invokevirtual 168, 3) := by decide +kernel
theorem dX5_many_58 : decode cX5_many 58 = .ok (.ireturn, 1) := by decide +kernel
theorem dX5_many_59 : decode cX5_many 59 = .ok (.aload_n 0, 1) := by decide +kernel
theorem dX5_many_60 : decode cX5_many 60 = .ok (.invokevirtual 171, 3) := by decide +kernel
theorem dX5_many_63 : decode cX5_many 63 = .ok (.ireturn, 1) := by decide +kernel
theorem dX5_many_64 : decode cX5_many 64 = .ok (.aload_n 0, 1) := by decide +kernel
theorem dX5_many_65 : decode cX5_many 65 = .ok (.invokevirtual 174, 3) := by decide +kernel
theorem dX5_many_68 : decode cX5_many 68 = .ok (.ireturn, 1) := by decide +kernel
theorem dX5_many_69 : decode cX5_many 69 = .ok (.aload_n 0, 1) := by decide +kernel
theorem dX5_many_70 : decode cX5_many 70 = .ok (.invokevirtual 175, 3) := by decide +kernel
theorem dX5_many_73 : decode cX5_many 73 = .ok (.ireturn, 1) := by decide +kernel
theorem dX5_many_74 : decode cX5_many 74 = .ok (.iconst (-1), 1) := by decide +kernel
theorem dX5_many_75 : decode cX5_many 75 = .ok (.ireturn, 1) := by decide +kernel
theorem dX5_isOutside_0 : decode cX5_isOutside 0 = .ok (.iload_n 0, 1) := by decide +kernel
theorem dX5_isOutside_1 : decode cX5_isOutside 1 = .ok (.iload_n 1, 1) := by decide +kernel
theorem dX5_isOutside_2 : decode cX5_isOutside 2 = .ok (.if_icmp .lt 8, 3) := by decide +kernel
theorem dX5_isOutside_5 : decode cX5_isOutside 5 = .ok (.iload_n 0, 1) := by decide +kernel
theorem dX5_isOutside_6 : decode cX5_isOutside 6 = .ok (.iload_n 2, 1) := by decide +kernel
theorem dX5_isOutside_7 : decode cX5_isOutside 7 = .ok (.if_icmp .le 7, 3) := by decide +kernel
theorem dX5_isOutside_10 : decode cX5_isOutside 10 = .ok (.iconst 1, 1) := by decide +kernel
theorem dX5_isOutside_11 : decode cX5_isOutside 11 = .ok (.goto 4, 3) := by decide +kernel
theorem dX5_isOutside_14 : decode cX5_isOutside 14 = .ok (.iconst 0, 1) := by decide +kernel
theorem dX5_isOutside_15 : decode cX5_isOutside 15 = .ok (.ireturn, 1) := by decide +kernel
theorem dX5_marksMayBe_0 : decode cX5_marksMayBe 0 = .ok (.iload_n 1, 1) := by decide +kernel
theorem dX5_marksMayBe_1 : decode cX5_marksMayBe 1 = .ok (.iconst 2, 1) := by decide +kernel
theorem dX5_marksMayBe_2 : decode cX5_marksMayBe 2 = .ok (.iand, 1) := by decide +kernel
theorem dX5_marksMayBe_3 : decode cX5_marksMayBe 3 = .ok (.ifCond .eq 7, 3) := by decide +kernel
theorem dX5_marksMayBe_6 : decode cX5_marksMayBe 6 = .ok (.iconst 1, 1) := by decide +kernel
theorem dX5_marksMayBe_7 : decode cX5_marksMayBe 7 = .ok (.goto 4, 3) := by decide +kernel
theorem dX5_marksMayBe_10 : decode cX5_marksMayBe 10 = .ok (.iconst 0, 1) := by decide +kernel
theorem dX5_marksMayBe_11 : decode cX5_marksMayBe 11 = .ok (.istore_n 2, 1) := by decide +kernel
theorem dX5_marksMayBe_12 : decode cX5_marksMayBe 12 = .ok (.iload_n 1, 1) := by decide +kernel
theorem dX5_marksMayBe_13 : decode cX5_marksMayBe 13 = .ok (.iconst 1, 1) := by decide +kernel
theorem dX5_marksMayBe_14 : decode cX5_marksMayBe 14 = .ok (.iand, 1) := by decide +kernel
theorem dX5_marksMayBe_15 : decode cX5_marksMayBe 15 = .ok (.ifCond .eq 7, 3) := by decide +kernel
theorem dX5_marksMayBe_18 : decode cX5_marksMayBe 18 = .ok (.iconst 1, 1) := by decide +kernel
theorem dX5_marksMayBe_19 : decode cX5_marksMayBe 19 = .ok (.goto 4, 3) := by decide +kernel
theorem dX5_marksMayBe_22 : decode cX5_marksMayBe 22 = .ok (.iconst 0, 1) := by decide +kernel
theorem dX5_marksMayBe_23 : decode cX5_marksMayBe 23 = .ok (.istore_n 3, 1) := by decide +kernel
theorem dX5_marksMayBe_24 : decode cX5_marksMayBe 24 = .ok (.iload_n 2, 1) := by decide +kernel
theorem dX5_marksMayBe_25 : decode cX5_marksMayBe 25 = .ok (.ifCond .eq 11, 3) := by decide +kernel
theorem dX5_marksMayBe_28 : decode cX5_marksMayBe 28 = .ok (.iload_n 0, 1) := by decide +kernel
theorem dX5_marksMayBe_29 : decode cX5_marksMayBe 29 = .ok (.ifCond .le 11, 3) := by decide +kernel
theorem dX5_marksMayBe_32 : decode cX5_marksMayBe 32 = .ok (.iload_n 3, 1) := by decide +kernel
theorem dX5_marksMayBe_33 : decode cX5_marksMayBe 33 = .ok (.ifCond .ne 7, 3) := by decide +kernel
theorem dX5_marksMayBe_36 : decode cX5_marksMayBe 36 = .ok (.iconst 1, 1) := by decide +kernel
theorem dX5_marksMayBe_37 : decode cX5_marksMayBe 37 = .ok (.goto 4, 3) := by decide +kernel
theorem dX5_marksMayBe_40 : decode cX5_marksMayBe 40 = .ok (.iconst 0, 1) := by decide +kernel
theorem dX5_marksMayBe_41 : decode cX5_marksMayBe 41 = .ok (.ireturn, 1) := by decide +kernel
theorem dX5_partAt_0 : decode cX5_partAt 0 = .ok (.iload_n 1, 1) := by decide +kernel
theorem dX5_partAt_1 : decode cX5_partAt 1 = .ok (.iconst 0, 1) := by decide +kernel
theorem dX5_partAt_2 : decode cX5_partAt 2 = .ok (.iconst 2, 1) := by decide +kernel
theorem dX5_partAt_3 : decode cX5_partAt 3 = .ok (.invokestatic 27, 3) := by decide +kernel
theorem dX5_partAt_6 : decode cX5_partAt 6 = .ok (.ifCond .eq 7, 3) := by decide +kernel
theorem dX5_partAt_9 : decode cX5_partAt 9 = .ok (.aconst_null, 1) := by decide +kernel
theorem dX5_partAt_10 : decode cX5_partAt 10 = .ok (.goto 9, 3) := by decide +kernel
theorem dX5_partAt_13 : decode cX5_partAt 13 = .ok (.aload_n 0, 1) := by decide +kernel
theorem dX5_partAt_14 : decode cX5_partAt 14 = .ok (.getfield 16, 3) := by decide +kernel
theorem dX5_partAt_17 : decode cX5_partAt 17 = .ok (.iload_n 1, 1) := by decide +kernel
theorem dX5_partAt_18 : decode cX5_partAt 18 = .ok (.aaload, 1) := by decide +kernel
theorem dX5_partAt_19 : decode cX5_partAt 19 = .ok (.areturn, 1) := by decide +kernel
theorem dX5_partWith_0 : decode cX5_partWith 0 = .ok (.aload_n 0, 1) := by decide +kernel
theorem dX5_partWith_1 : decode cX5_partWith 1 = .ok (.iload_n 1, 1) := by decide +kernel
theorem dX5_partWith_2 : decode cX5_partWith 2 = .ok (.invokevirtual 35, 3) := by decide +kernel
theorem dX5_partWith_5 : decode cX5_partWith 5 = .ok (.astore_n 3, 1) := by decide +kernel
theorem dX5_partWith_6 : decode cX5_partWith 6 = .ok (.aload_n 3, 1) := by decide +kernel
theorem dX5_partWith_7 : decode cX5_partWith 7 = .ok (.ifnull 17, 3) := by decide +kernel
theorem dX5_partWith_10 : decode cX5_partWith 10 = .ok (.iload_n 2, 1) := by decide +kernel
theorem dX5_partWith_11 : decode cX5_partWith 11 = .ok (.iconst 0, 1) := by decide +kernel
theorem dX5_partWith_12 : decode cX5_partWith 12 = .ok (.aload_n 3, 1) := by decide +kernel
theorem dX5_partWith_13 : decode cX5_partWith 13 = .ok (.getfield 39, 3) := by decide +kernel
theorem dX5_partWith_16 : decode cX5_partWith 16 = .ok (.iconst 1, 1) := by decide +kernel
theorem dX5_partWith_17 : decode cX5_partWith 17 = .ok (.isub, 1) := by decide +kernel
theorem dX5_partWith_18 : decode cX5_partWith 18 = .ok (.invokestatic 27, 3) := by decide +kernel
theorem dX5_partWith_21 : decode cX5_partWith 21 = .ok (.ifCond .eq 7, 3) := by decide +kernel
theorem dX5_partWith_24 : decode cX5_partWith 24 = .ok (.aconst_null, 1) := by decide +kernel
theorem dX5_partWith_25 : decode cX5_partWith 25 = .ok (.goto 4, 3) := by decide +kernel
theorem dX5_partWith_28 : decode cX5_partWith 28 = .ok (.aload_n 3, 1) := by decide +kernel
theorem dX5_partWith_29 : decode cX5_partWith 29 = .ok (.areturn, 1) := by decide +kernel
theorem dX5_hasFingering_0 : decode cX5_hasFingering 0 = .ok (.aload_n 1, 1) := by decide +kernel
theorem dX5_hasFingering_1 : decode cX5_hasFingering 1 = .ok (.getfield 31, 3) := by decide +kernel
theorem dX5_hasFingering_4 : decode cX5_hasFingering 4 = .ok (.ifCond .ne 24, 3) := by decide +kernel
theorem dX5_hasFingering_7 : decode cX5_hasFingering 7 = .ok (.aload_n 1, 1) := by decide +kernel
theorem dX5_hasFingering_8 : decode cX5_hasFingering 8 = .ok (.aload_n 0, 1) := by decide +kernel
theorem dX5_hasFingering_9 : decode cX5_hasFingering 9 = .ok (.getfield 23, 3) := by decide +kernel
theorem dX5_hasFingering_12 : decode cX5_hasFingering 12 = .ok (.aload_n 0, 1) := by decide +kernel
theorem dX5_hasFingering_13 : decode cX5_hasFingering 13 = .ok (.getfield 7, 3) := by decide +kernel
theorem dX5_hasFingering_16 : decode cX5_hasFingering 16 = .ok (.aload_n 1, 1) := by decide +kernel
theorem dX5_hasFingering_17 : decode cX5_hasFingering 17 = .ok (.invokevirtual 178, 3) := by decide +kernel
theorem dX5_hasFingering_20 : decode cX5_hasFingering 20 = .ok (.putfield 92, 3) := by decide +kernel
theorem dX5_hasFingering_23 : decode cX5_hasFingering 23 = .ok (.aload_n 1, 1) := by decide +kernel
theorem dX5_hasFingering_24 : decode cX5_hasFingering 24 = .ok (.iconst 1, 1) := by decide +kernel
theorem dX5_hasFingering_25 : decode cX5_hasFingering 25 = .ok (.putfield 31, 3) := by decide +kernel
theorem dX5_hasFingering_28 : decode cX5_hasFingering 28 = .ok (.aload_n 1, 1) := by decide +kernel
theorem dX5_hasFingering_29 : decode cX5_hasFingering 29 = .ok (.getfield 92, 3) := by decide +kernel
theorem dX5_hasFingering_32 : decode cX5_hasFingering 32 = .ok (.ldc 182, 2) := by decide +kernel
theorem dX5_hasFingering_34 : decode cX5_hasFingering 34 = .ok (.if_icmp .ge 7, 3) := by decide +kernel
theorem dX5_hasFingering_37 : decode cX5_hasFingering 37 = .ok (.iconst 1, 1) := by decide +kernel
theorem dX5_hasFingering_38 : decode cX5_hasFingering 38 = .ok (.goto 4, 3) := by decide +kernel
theorem dX5_hasFingering_41 : decode cX5_hasFingering 41 = .ok (.iconst 0, 1) := by decide +kernel
theorem dX5_hasFingering_42 : decode cX5_hasFingering 42 = .ok (.ireturn, 1) := by decide +kernel
theorem dX5_areAlike_0 : decode cX5_areAlike 0 = .ok (.aload_n 0, 1) := by decide +kernel
theorem dX5_areAlike_1 : decode cX5_areAlike 1 = .ok (.getfield 71, 3) := by decide +kernel
theorem dX5_areAlike_4 : decode cX5_areAlike 4 = .ok (.iload_n 1, 1) := by decide +kernel
theorem dX5_areAlike_5 : decode cX5_areAlike 5 = .ok (.iaload, 1) := by decide +kernel
theorem dX5_areAlike_6 : decode cX5_areAlike 6 = .ok (.aload_n 2, 1) := by decide +kernel
theorem dX5_areAlike_7 : decode cX5_areAlike 7 = .ok (.getfield 71, 3) := by decide +kernel
theorem dX5_areAlike_10 : decode cX5_areAlike 10 = .ok (.iload_n 3, 1) := by decide +kernel
theorem dX5_areAlike_11 : decode cX5_areAlike 11 = .ok (.iaload, 1) := by decide +kernel
theorem dX5_areAlike_12 : decode cX5_areAlike 12 = .ok (.if_icmp .ne 22, 3) := by decide +kernel
theorem dX5_areAlike_15 : decode cX5_areAlike 15 = .ok (.aload_n 0, 1) := by decide +kernel
theorem dX5_areAlike_16 : decode cX5_areAlike 16 = .ok (.getfield 64, 3) := by decide +kernel
theorem dX5_areAlike_19 : decode cX5_areAlike 19 = .ok (.iload_n 1, 1) := by decide +kernel
theorem dX5_areAlike_20 : decode cX5_areAlike 20 = .ok (.iaload, 1) := by decide +kernel
theorem dX5_areAlike_21 : decode cX5_areAlike 21 = .ok (.aload_n 2, 1) := by decide +kernel
theorem dX5_areAlike_22 : decode cX5_areAlike 22 = .ok (.getfield 64, 3) := by decide +kernel
theorem dX5_areAlike_25 : decode cX5_areAlike 25 = .ok (.iload_n 3, 1) := by decide +kernel
theorem dX5_areAlike_26 : decode cX5_areAlike 26 = .ok (.iaload, 1) := by decide +kernel
theorem dX5_areAlike_27 : decode cX5_areAlike 27 = .ok (.if_icmp .ne 7, 3) := by decide +kernel
theorem dX5_areAlike_30 : decode cX5_areAlike 30 = .ok (.iconst 1, 1) := by decide +kernel
theorem dX5_areAlike_31 : decode cX5_areAlike 31 = .ok (.goto 4, 3) := by decide +kernel
theorem dX5_areAlike_34 : decode cX5_areAlike 34 = .ok (.iconst 0, 1) := by decide +kernel
theorem dX5_areAlike_35 : decode cX5_areAlike 35 = .ok (.ireturn, 1) := by decide +kernel
theorem dX5_workAllBowings_0 : decode cX5_workAllBowings 0 = .ok (.iconst 0, 1) := by decide +kernel
theorem dX5_workAllBowings_1 : decode cX5_workAllBowings 1 = .ok (.istore_n 1, 1) := by decide +kernel
theorem dX5_workAllBowings_2 : decode cX5_workAllBowings 2 = .ok (.iload_n 1, 1) := by decide +kernel
theorem dX5_workAllBowings_3 : decode cX5_workAllBowings 3 = .ok (.iconst 3, 1) := by decide +kernel
theorem dX5_workAllBowings_4 : decode cX5_workAllBowings 4 = .ok (.if_icmp .ge 47, 3) := by decide +kernel
theorem dX5_workAllBowings_7 : decode cX5_workAllBowings 7 = .ok (.aload_n 0, 1) := by decide +kernel
theorem dX5_workAllBowings_8 : decode cX5_workAllBowings 8 = .ok (.getfield 16, 3) := by decide +kernel
theorem dX5_workAllBowings_11 : decode cX5_workAllBowings 11 = .ok (.iload_n 1, 1) := by decide +kernel
theorem dX5_workAllBowings_12 : decode cX5_workAllBowings 12 = .ok (.aaload, 1) := by decide +kernel
theorem dX5_workAllBowings_13 : decode cX5_workAllBowings 13 = .ok (.getfield 183, 3) := by decide +kernel
theorem dX5_workAllBowings_16 : decode cX5_workAllBowings 16 = .ok (.aload_n 0, 1) := by decide +kernel
theorem dX5_workAllBowings_17 : decode cX5_workAllBowings 17 = .ok (.getfield 16, 3) := by decide +kernel
theorem dX5_workAllBowings_20 : decode cX5_workAllBowings 20 = .ok (.iload_n 1, 1) := by decide +kernel
theorem dX5_workAllBowings_21 : decode cX5_workAllBowings 21 = .ok (.aaload, 1) := by decide +kernel
theorem dX5_workAllBowings_22 : decode cX5_workAllBowings 22 = .ok (.iconst 0, 1) := by decide +kernel
theorem dX5_workAllBowings_23 : decode cX5_workAllBowings 23 = .ok (.invokevirtual 125, 3) := by decide +kernel
theorem dX5_workAllBowings_26 : decode cX5_workAllBowings 26 = .ok (.aload_n 0, 1) := by decide +kernel
theorem dX5_workAllBowings_27 : decode cX5_workAllBowings 27 = .ok (.getfield 16, 3) := by decide +kernel
theorem dX5_workAllBowings_30 : decode cX5_workAllBowings 30 = .ok (.iload_n 1, 1) := by decide +kernel
theorem dX5_workAllBowings_31 : decode cX5_workAllBowings 31 = .ok (.aaload, 1) := by decide +kernel
theorem dX5_workAllBowings_32 : decode cX5_workAllBowings 32 = .ok (.getfield 187, 3) := by decide +kernel
theorem dX5_workAllBowings_35 : decode cX5_workAllBowings 35 = .ok (.aload_n 0, 1) := by decide +kernel
theorem dX5_workAllBowings_36 : decode cX5_workAllBowings 36 = .ok (.getfield 16, 3) := by decide +kernel
theorem dX5_workAllBowings_39 : decode cX5_workAllBowings 39 = .ok (.iload_n 1, 1) := by decide +kernel
theorem dX5_workAllBowings_40 : decode cX5_workAllBowings 40 = .ok (.aaload, 1) := by decide +kernel
theorem dX5_workAllBowings_41 : decode cX5_workAllBowings 41 = .ok (.iconst 1, 1) := by decide +kernel
theorem dX5_workAllBowings_42 : decode cX5_workAllBowings 42 = .ok (.invokevirtual 125, 3) := by decide +kernel
theorem dX5_workAllBowings_45 : decode cX5_workAllBowings 45 = .ok (.iinc 1 1, 3) := by decide +kernel
theorem dX5_workAllBowings_48 : decode cX5_workAllBowings 48 = .ok (.goto (-46), 3) := by decide +kernel
theorem dX5_workAllBowings_51 : decode cX5_workAllBowings 51 = .ok (.return_, 1) := by decide +kernel
theorem dX5_leastUnion_0 : decode cX5_leastUnion 0 = .ok (.iconst 0, 1) := by decide +kernel
theorem dX5_leastUnion_1 : decode cX5_leastUnion 1 = .ok (.istore_n 1, 1) := by decide +kernel
theorem dX5_leastUnion_2 : decode cX5_leastUnion 2 = .ok (.aload_n 0, 1) := by decide +kernel
theorem dX5_leastUnion_3 : decode cX5_leastUnion 3 = .ok (.iconst 0, 1) := by decide +kernel
theorem dX5_leastUnion_4 : decode cX5_leastUnion 4 = .ok (.invokevirtual 162, 3) := by decide +kernel
theorem dX5_leastUnion_7 : decode cX5_leastUnion 7 = .ok (.istore_n 2, 1) := by decide +kernel
theorem dX5_leastUnion_8 : decode cX5_leastUnion 8 = .ok (.iconst 1, 1) := by decide +kernel
theorem dX5_leastUnion_9 : decode cX5_leastUnion 9 = .ok (.istore_n 3, 1) := by decide +kernel
theorem dX5_leastUnion_10 : decode cX5_leastUnion 10 = .ok (.iload_n 3, 1) := by decide +kernel
theorem dX5_leastUnion_11 : decode cX5_leastUnion 11 = .ok (.bipush 8, 2) := by decide +kernel
theorem dX5_leastUnion_13 : decode cX5_leastUnion 13 = .ok (.if_icmp .ge 27, 3) := by decide +kernel
theorem dX5_leastUnion_16 : decode cX5_leastUnion 16 = .ok (.aload_n 0, 1) := by decide +kernel
theorem dX5_leastUnion_17 : decode cX5_leastUnion 17 = .ok (.iload_n 3, 1) := by decide +kernel
theorem dX5_leastUnion_18 : decode cX5_leastUnion 18 = .ok (.invokevirtual 162, 3) := by decide +kernel
theorem dX5_leastUnion_21 : decode cX5_leastUnion 21 = .ok (.istore 4, 2) := by decide +kernel
theorem dX5_leastUnion_23 : decode cX5_leastUnion 23 = .ok (.iload 4, 2) := by decide +kernel
theorem dX5_leastUnion_25 : decode cX5_leastUnion 25 = .ok (.iload_n 2, 1) := by decide +kernel
theorem dX5_leastUnion_26 : decode cX5_leastUnion 26 = .ok (.if_icmp .ge 8, 3) := by decide +kernel
theorem dX5_leastUnion_29 : decode cX5_leastUnion 29 = .ok (.iload_n 3, 1) := by decide +kernel
theorem dX5_leastUnion_30 : decode cX5_leastUnion 30 = .ok (.istore_n 1, 1) := by decide +kernel
theorem dX5_leastUnion_31 : decode cX5_leastUnion 31 = .ok (.iload 4, 2) := by decide +kernel
theorem dX5_leastUnion_33 : decode cX5_leastUnion 33 = .ok (.istore_n 2, 1) := by decide +kernel
theorem dX5_leastUnion_34 : decode cX5_leastUnion 34 = .ok (.iinc 3 1, 3) := by decide +kernel
theorem dX5_leastUnion_37 : decode cX5_leastUnion 37 = .ok (.goto (-27), 3) := by decide +kernel
theorem dX5_leastUnion_40 : decode cX5_leastUnion 40 = .ok (.iload_n 1, 1) := by decide +kernel
theorem dX5_leastUnion_41 : decode cX5_leastUnion 41 = .ok (.ireturn, 1) := by decide +kernel
theorem dX5_unionSum_0 : decode cX5_unionSum 0 = .ok (.iconst 0, 1) := by decide +kernel
theorem dX5_unionSum_1 : decode cX5_unionSum 1 = .ok (.istore_n 2, 1) := by decide +kernel
theorem dX5_unionSum_2 : decode cX5_unionSum 2 = .ok (.iconst 0, 1) := by decide +kernel
theorem dX5_unionSum_3 : decode cX5_unionSum 3 = .ok (.istore_n 3, 1) := by decide +kernel
theorem dX5_unionSum_4 : decode cX5_unionSum 4 = .ok (.iload_n 3, 1) := by decide +kernel
theorem dX5_unionSum_5 : decode cX5_unionSum 5 = .ok (.iconst 3, 1) := by decide +kernel
theorem dX5_unionSum_6 : decode cX5_unionSum 6 = .ok (.if_icmp .ge 21, 3) := by decide +kernel
theorem dX5_unionSum_9 : decode cX5_unionSum 9 = .ok (.iload_n 2, 1) := by decide +kernel
theorem dX5_unionSum_10 : decode cX5_unionSum 10 = .ok (.aload_n 0, 1) := by decide +kernel
theorem dX5_unionSum_11 : decode cX5_unionSum 11 = .ok (.iload_n 1, 1) := by decide +kernel
theorem dX5_unionSum_12 : decode cX5_unionSum 12 = .ok (.iload_n 3, 1) := by decide +kernel
theorem dX5_unionSum_13 : decode cX5_unionSum 13 = .ok (.invokevirtual 190, 3) := by decide +kernel
theorem dX5_unionSum_16 : decode cX5_unionSum 16 = .ok (.getfield 135, 3) := by decide +kernel
theorem dX5_unionSum_19 : decode cX5_unionSum 19 = .ok (.iadd, 1) := by decide +kernel
theorem dX5_unionSum_20 : decode cX5_unionSum 20 = .ok (.istore_n 2, 1) := by decide +kernel
theorem dX5_unionSum_21 : decode cX5_unionSum 21 = .ok (.iinc 3 1, 3) := by decide +kernel
theorem dX5_unionSum_24 : decode cX5_unionSum 24 = .ok (.goto (-20), 3) := by decide +kernel
theorem dX5_unionSum_27 : decode cX5_unionSum 27 = .ok (.iload_n 2, 1) := by decide +kernel
theorem dX5_unionSum_28 : decode cX5_unionSum 28 = .ok (.ldc 182, 2) := by decide +kernel
theorem dX5_unionSum_30 : decode cX5_unionSum 30 = .ok (.if_icmp .lt 8, 3) := by decide +kernel
theorem dX5_unionSum_33 : decode cX5_unionSum 33 = .ok (.ldc 182, 2) := by decide +kernel
theorem dX5_unionSum_35 : decode cX5_unionSum 35 = .ok (.goto 12, 3) := by decide +kernel
theorem dX5_unionSum_38 : decode cX5_unionSum 38 = .ok (.iload_n 2, 1) := by decide +kernel
theorem dX5_unionSum_39 : decode cX5_unionSum 39 = .ok (.iconst 4, 1) := by decide +kernel
theorem dX5_unionSum_40 : decode cX5_unionSum 40 = .ok (.aload_n 0, 1) := by decide +kernel
theorem dX5_unionSum_41 : decode cX5_unionSum 41 = .ok (.iload_n 1, 1) := by decide +kernel
theorem dX5_unionSum_42 : decode cX5_unionSum 42 = .ok (.invokevirtual 165, 3) := by decide +kernel
theorem dX5_unionSum_45 : decode cX5_unionSum 45 = .ok (.imul, 1) := by decide +kernel
theorem dX5_unionSum_46 : decode cX5_unionSum 46 = .ok (.iadd, 1) := by decide +kernel
theorem dX5_unionSum_47 : decode cX5_unionSum 47 = .ok (.ireturn, 1) := by decide +kernel
theorem dX5_unionBowing_0 : decode cX5_unionBowing 0 = .ok (.aload_n 0, 1) := by decide +kernel
theorem dX5_unionBowing_1 : decode cX5_unionBowing 1 = .ok (.getfield 16, 3) := by decide +kernel
theorem dX5_unionBowing_4 : decode cX5_unionBowing 4 = .ok (.iload_n 2, 1) := by decide +kernel
theorem dX5_unionBowing_5 : decode cX5_unionBowing 5 = .ok (.aaload, 1) := by decide +kernel
theorem dX5_unionBowing_6 : decode cX5_unionBowing 6 = .ok (.iload_n 1, 1) := by decide +kernel
theorem dX5_unionBowing_7 : decode cX5_unionBowing 7 = .ok (.iload_n 2, 1) := by decide +kernel
theorem dX5_unionBowing_8 : decode cX5_unionBowing 8 = .ok (.ishr, 1) := by decide +kernel
theorem dX5_unionBowing_9 : decode cX5_unionBowing 9 = .ok (.iconst 1, 1) := by decide +kernel
theorem dX5_unionBowing_10 : decode cX5_unionBowing 10 = .ok (.iand, 1) := by decide +kernel
theorem dX5_unionBowing_11 : decode cX5_unionBowing 11 = .ok (.invokevirtual 121, 3) := by decide +kernel
theorem dX5_unionBowing_14 : decode cX5_unionBowing 14 = .ok (.areturn, 1) := by decide +kernel
theorem dX5_countUnlike_0 : decode cX5_countUnlike 0 = .ok (.iconst 0, 1) := by decide +kernel
theorem dX5_countUnlike_1 : decode cX5_countUnlike 1 = .ok (.istore_n 2, 1) := by decide +kernel
theorem dX5_countUnlike_2 : decode cX5_countUnlike 2 = .ok (.iconst 0, 1) := by decide +kernel
theorem dX5_countUnlike_3 : decode cX5_countUnlike 3 = .ok (.istore_n 3, 1) := by decide +kernel
theorem dX5_countUnlike_4 : decode cX5_countUnlike 4 = .ok (.iload_n 3, 1) := by decide +kernel
theorem dX5_countUnlike_5 : decode cX5_countUnlike 5 = .ok (.iconst 3, 1) := by decide +kernel
theorem dX5_countUnlike_6 : decode cX5_countUnlike 6 = .ok (.if_icmp .ge 72, 3) := by decide +kernel
theorem dX5_countUnlike_9 : decode cX5_countUnlike 9 = .ok (.iload_n 3, 1) := by decide +kernel
theorem dX5_countUnlike_10 : decode cX5_countUnlike 10 = .ok (.iconst 1, 1) := by decide +kernel
theorem dX5_countUnlike_11 : decode cX5_countUnlike 11 = .ok (.iadd, 1) := by decide +kernel
theorem dX5_countUnlike_12 : decode cX5_countUnlike 12 = .ok (.istore 4, 2) := by decide +kernel
theorem dX5_countUnlike_14 : decode cX5_countUnlike 14 = .ok (.iload 4, 2) := by decide +kernel
theorem dX5_countUnlike_16 : decode cX5_countUnlike 16 = .ok (.iconst 3, 1) := by decide +kernel
theorem dX5_countUnlike_17 : decode cX5_countUnlike 17 = .ok (.if_icmp .ge 55, 3) := by decide +kernel
theorem dX5_countUnlike_20 : decode cX5_countUnlike 20 = .ok (.aload_n 0, 1) := by decide +kernel
theorem dX5_countUnlike_21 : decode cX5_countUnlike 21 = .ok (.iload_n 1, 1) := by decide +kernel
theorem dX5_countUnlike_22 : decode cX5_countUnlike 22 = .ok (.iload_n 3, 1) := by decide +kernel
theorem dX5_countUnlike_23 : decode cX5_countUnlike 23 = .ok (.invokevirtual 190, 3) := by decide +kernel
theorem dX5_countUnlike_26 : decode cX5_countUnlike 26 = .ok (.getfield 138, 3) := by decide +kernel
theorem dX5_countUnlike_29 : decode cX5_countUnlike 29 = .ok (.astore 5, 2) := by decide +kernel
theorem dX5_countUnlike_31 : decode cX5_countUnlike 31 = .ok (.aload_n 0, 1) := by decide +kernel
theorem dX5_countUnlike_32 : decode cX5_countUnlike 32 = .ok (.iload_n 1, 1) := by decide +kernel
theorem dX5_countUnlike_33 : decode cX5_countUnlike 33 = .ok (.iload 4, 2) := by decide +kernel
theorem dX5_countUnlike_35 : decode cX5_countUnlike 35 = .ok (.invokevirtual 190, 3) := by decide +kernel
theorem dX5_countUnlike_38 : decode cX5_countUnlike 38 = .ok (.getfield 138, 3) := by decide +kernel
theorem dX5_countUnlike_41 : decode cX5_countUnlike 41 = .ok (.astore 6, 2) := by decide +kernel
theorem dX5_countUnlike_43 : decode cX5_countUnlike 43 = .ok (.iload_n 2, 1) := by decide +kernel
theorem dX5_countUnlike_44 : decode cX5_countUnlike 44 = .ok (.aload_n 0, 1) := by decide +kernel
theorem dX5_countUnlike_45 : decode cX5_countUnlike 45 = .ok (.getfield 16, 3) := by decide +kernel
theorem dX5_countUnlike_48 : decode cX5_countUnlike 48 = .ok (.iload_n 3, 1) := by decide +kernel
theorem dX5_countUnlike_49 : decode cX5_countUnlike 49 = .ok (.aaload, 1) := by decide +kernel
theorem dX5_countUnlike_50 : decode cX5_countUnlike 50 = .ok (.aload 5, 2) := by decide +kernel
theorem dX5_countUnlike_52 : decode cX5_countUnlike 52 = .ok (.aload_n 0, 1) := by decide +kernel
theorem dX5_countUnlike_53 : decode cX5_countUnlike 53 = .ok (.getfield 16, 3) := by decide +kernel
theorem dX5_countUnlike_56 : decode cX5_countUnlike 56 = .ok (.iload 4, 2) := by decide +kernel
theorem dX5_countUnlike_58 : decode cX5_countUnlike 58 = .ok (.aaload, 1) := by decide +kernel
theorem dX5_countUnlike_59 : decode cX5_countUnlike 59 = .ok (.aload 6, 2) := by decide +kernel
theorem dX5_countUnlike_61 : decode cX5_countUnlike 61 = .ok (.invokestatic 194, 3) := by decide +kernel
theorem dX5_countUnlike_64 : decode cX5_countUnlike 64 = .ok (.iadd, 1) := by decide +kernel
theorem dX5_countUnlike_65 : decode cX5_countUnlike 65 = .ok (.istore_n 2, 1) := by decide +kernel
theorem dX5_countUnlike_66 : decode cX5_countUnlike 66 = .ok (.iinc 4 1, 3) := by decide +kernel
theorem dX5_countUnlike_69 : decode cX5_countUnlike 69 = .ok (.goto (-55), 3) := by decide +kernel
theorem dX5_countUnlike_72 : decode cX5_countUnlike 72 = .ok (.iinc 3 1, 3) := by decide +kernel
theorem dX5_countUnlike_75 : decode cX5_countUnlike 75 = .ok (.goto (-71), 3) := by decide +kernel
theorem dX5_countUnlike_78 : decode cX5_countUnlike 78 = .ok (.iload_n 2, 1) := by decide +kernel
theorem dX5_countUnlike_79 : decode cX5_countUnlike 79 = .ok (.ireturn, 1) := by decide +kernel
theorem dX5_countUnlikeOfTwo_0 : decode cX5_countUnlikeOfTwo 0 = .ok (.iconst 0, 1) := by decide +kernel
theorem dX5_countUnlikeOfTwo_1 : decode cX5_countUnlikeOfTwo 1 = .ok (.istore 4, 2) := by decide +kernel
theorem dX5_countUnlikeOfTwo_3 : decode cX5_countUnlikeOfTwo 3 = .ok (.iconst 0, 1) := by decide +kernel
theorem dX5_countUnlikeOfTwo_4 : decode cX5_countUnlikeOfTwo 4 = .ok (.istore 5, 2) := by decide +kernel
theorem dX5_countUnlikeOfTwo_6 : decode cX5_countUnlikeOfTwo 6 = .ok (.iload 5, 2) := by decide +kernel
theorem dX5_countUnlikeOfTwo_8 : decode cX5_countUnlikeOfTwo 8 = .ok (.aload_n 0, 1) := by decide +kernel
theorem dX5_countUnlikeOfTwo_9 : decode cX5_countUnlikeOfTwo 9 = .ok (.getfield 39, 3) := by decide +kernel
theorem dX5_countUnlikeOfTwo_12 : decode cX5_countUnlikeOfTwo 12 = .ok (.if_icmp .ge 53, 3) := by decide +kernel
theorem dX5_countUnlikeOfTwo_15 : decode cX5_countUnlikeOfTwo 15 = .ok (.iconst 0, 1) := by decide +kernel
theorem dX5_countUnlikeOfTwo_16 : decode cX5_countUnlikeOfTwo 16 = .ok (.istore 6, 2) := by decide +kernel
theorem dX5_countUnlikeOfTwo_18 : decode cX5_countUnlikeOfTwo 18 = .ok (.iload 6, 2) := by decide +kernel
theorem dX5_countUnlikeOfTwo_20 : decode cX5_countUnlikeOfTwo 20 = .ok (.aload_n 2, 1) := by decide +kernel
theorem dX5_countUnlikeOfTwo_21 : decode cX5_countUnlikeOfTwo 21 = .ok (.getfield 39, 3) := by decide +kernel
theorem dX5_countUnlikeOfTwo_24 : decode cX5_countUnlikeOfTwo 24 = .ok (.if_icmp .ge 35, 3) := by decide +kernel
theorem dX5_countUnlikeOfTwo_27 : decode cX5_countUnlikeOfTwo 27 = .ok (.aload_n 0, 1) := by decide +kernel
theorem dX5_countUnlikeOfTwo_28 : decode cX5_countUnlikeOfTwo 28 = .ok (.iload 5, 2) := by decide +kernel
theorem dX5_countUnlikeOfTwo_30 : decode cX5_countUnlikeOfTwo 30 = .ok (.aload_n 2, 1) := by decide +kernel
theorem dX5_countUnlikeOfTwo_31 : decode cX5_countUnlikeOfTwo 31 = .ok (.iload 6, 2) := by decide +kernel
theorem dX5_countUnlikeOfTwo_33 : decode cX5_countUnlikeOfTwo 33 = .ok (.invokestatic 152, 3) := by decide +kernel
theorem dX5_countUnlikeOfTwo_36 : decode cX5_countUnlikeOfTwo 36 = .ok (.ifCond .eq 17, 3) := by decide +kernel
theorem dX5_countUnlikeOfTwo_39 : decode cX5_countUnlikeOfTwo 39 = .ok (.aload_n 1, 1) := by decide +kernel
theorem dX5_countUnlikeOfTwo_40 : decode cX5_countUnlikeOfTwo 40 = .ok (.iload 5, 2) := by decide +kernel
theorem dX5_countUnlikeOfTwo_42 : decode cX5_countUnlikeOfTwo 42 = .ok (.iaload, 1) := by decide +kernel
theorem dX5_countUnlikeOfTwo_43 : decode cX5_countUnlikeOfTwo 43 = .ok (.aload_n 3, 1) := by decide +kernel
theorem dX5_countUnlikeOfTwo_44 : decode cX5_countUnlikeOfTwo 44 = .ok (.iload 6, 2) := by decide +kernel
theorem dX5_countUnlikeOfTwo_46 : decode cX5_countUnlikeOfTwo 46 = .ok (.iaload, 1) := by decide +kernel
theorem dX5_countUnlikeOfTwo_47 : decode cX5_countUnlikeOfTwo 47 = .ok (.if_icmp .eq 6, 3) := by decide +kernel
theorem dX5_countUnlikeOfTwo_50 : decode cX5_countUnlikeOfTwo 50 = .ok (.iinc 4 1, 3) := by decide +kernel
theorem dX5_countUnlikeOfTwo_53 : decode cX5_countUnlikeOfTwo 53 = .ok (.iinc 6 1, 3) := by decide +kernel
theorem dX5_countUnlikeOfTwo_56 : decode cX5_countUnlikeOfTwo 56 = .ok (.goto (-38), 3) := by decide +kernel
theorem dX5_countUnlikeOfTwo_59 : decode cX5_countUnlikeOfTwo 59 = .ok (.iinc 5 1, 3) := by decide +kernel
theorem dX5_countUnlikeOfTwo_62 : decode cX5_countUnlikeOfTwo 62 = .ok (.goto (-56), 3) := by decide +kernel
theorem dX5_countUnlikeOfTwo_65 : decode cX5_countUnlikeOfTwo 65 = .ok (.iload 4, 2) := by decide +kernel
theorem dX5_countUnlikeOfTwo_67 : decode cX5_countUnlikeOfTwo 67 = .ok (.ireturn, 1) := by decide +kernel
theorem dX5_countAlike_0 : decode cX5_countAlike 0 = .ok (.iconst 0, 1) := by decide +kernel
theorem dX5_countAlike_1 : decode cX5_countAlike 1 = .ok (.istore_n 1, 1) := by decide +kernel
theorem dX5_countAlike_2 : decode cX5_countAlike 2 = .ok (.iconst 0, 1) := by decide +kernel
theorem dX5_countAlike_3 : decode cX5_countAlike 3 = .ok (.istore_n 2, 1) := by decide +kernel
theorem dX5_countAlike_4 : decode cX5_countAlike 4 = .ok (.iload_n 2, 1) := by decide +kernel
theorem dX5_countAlike_5 : decode cX5_countAlike 5 = .ok (.iconst 3, 1) := by decide +kernel
theorem dX5_countAlike_6 : decode cX5_countAlike 6 = .ok (.if_icmp .ge 42, 3) := by decide +kernel
theorem dX5_countAlike_9 : decode cX5_countAlike 9 = .ok (.iload_n 2, 1) := by decide +kernel
theorem dX5_countAlike_10 : decode cX5_countAlike 10 = .ok (.iconst 1, 1) := by decide +kernel
theorem dX5_countAlike_11 : decode cX5_countAlike 11 = .ok (.iadd, 1) := by decide +kernel
theorem dX5_countAlike_12 : decode cX5_countAlike 12 = .ok (.istore_n 3, 1) := by decide +kernel
theorem dX5_countAlike_13 : decode cX5_countAlike 13 = .ok (.iload_n 3, 1) := by decide +kernel
theorem dX5_countAlike_14 : decode cX5_countAlike 14 = .ok (.iconst 3, 1) := by decide +kernel
theorem dX5_countAlike_15 : decode cX5_countAlike 15 = .ok (.if_icmp .ge 27, 3) := by decide +kernel
theorem dX5_countAlike_18 : decode cX5_countAlike 18 = .ok (.iload_n 1, 1) := by decide +kernel
theorem dX5_countAlike_19 : decode cX5_countAlike 19 = .ok (.aload_n 0, 1) := by decide +kernel
theorem dX5_countAlike_20 : decode cX5_countAlike 20 = .ok (.getfield 16, 3) := by decide +kernel
theorem dX5_countAlike_23 : decode cX5_countAlike 23 = .ok (.iload_n 2, 1) := by decide +kernel
theorem dX5_countAlike_24 : decode cX5_countAlike 24 = .ok (.aaload, 1) := by decide +kernel
theorem dX5_countAlike_25 : decode cX5_countAlike 25 = .ok (.aload_n 0, 1) := by decide +kernel
theorem dX5_countAlike_26 : decode cX5_countAlike 26 = .ok (.getfield 16, 3) := by decide +kernel
theorem dX5_countAlike_29 : decode cX5_countAlike 29 = .ok (.iload_n 3, 1) := by decide +kernel
theorem dX5_countAlike_30 : decode cX5_countAlike 30 = .ok (.aaload, 1) := by decide +kernel
theorem dX5_countAlike_31 : decode cX5_countAlike 31 = .ok (.invokestatic 198, 3) := by decide +kernel
theorem dX5_countAlike_34 : decode cX5_countAlike 34 = .ok (.iadd, 1) := by decide +kernel
theorem dX5_countAlike_35 : decode cX5_countAlike 35 = .ok (.istore_n 1, 1) := by decide +kernel
theorem dX5_countAlike_36 : decode cX5_countAlike 36 = .ok (.iinc 3 1, 3) := by decide +kernel
theorem dX5_countAlike_39 : decode cX5_countAlike 39 = .ok (.goto (-26), 3) := by decide +kernel
theorem dX5_countAlike_42 : decode cX5_countAlike 42 = .ok (.iinc 2 1, 3) := by decide +kernel
theorem dX5_countAlike_45 : decode cX5_countAlike 45 = .ok (.goto (-41), 3) := by decide +kernel
theorem dX5_countAlike_48 : decode cX5_countAlike 48 = .ok (.iload_n 1, 1) := by decide +kernel
theorem dX5_countAlike_49 : decode cX5_countAlike 49 = .ok (.ireturn, 1) := by decide +kernel
theorem dX5_countAlikeOfTwo_0 : decode cX5_countAlikeOfTwo 0 = .ok (.iconst 0, 1) := by decide +kernel
theorem dX5_countAlikeOfTwo_1 : decode cX5_countAlikeOfTwo 1 = .ok (.istore_n 2, 1) := by decide +kernel
theorem dX5_countAlikeOfTwo_2 : decode cX5_countAlikeOfTwo 2 = .ok (.iconst 0, 1) := by decide +kernel
theorem dX5_countAlikeOfTwo_3 : decode cX5_countAlikeOfTwo 3 = .ok (.istore_n 3, 1) := by decide +kernel
theorem dX5_countAlikeOfTwo_4 : decode cX5_countAlikeOfTwo 4 = .ok (.iload_n 3, 1) := by decide +kernel
theorem dX5_countAlikeOfTwo_5 : decode cX5_countAlikeOfTwo 5 = .ok (.aload_n 0, 1) := by decide +kernel
theorem dX5_countAlikeOfTwo_6 : decode cX5_countAlikeOfTwo 6 = .ok (.getfield 39, 3) := by decide +kernel
theorem dX5_countAlikeOfTwo_9 : decode cX5_countAlikeOfTwo 9 = .ok (.if_icmp .ge 41, 3) := by decide +kernel
theorem dX5_countAlikeOfTwo_12 : decode cX5_countAlikeOfTwo 12 = .ok (.iconst 0, 1) := by decide +kernel
theorem dX5_countAlikeOfTwo_13 : decode cX5_countAlikeOfTwo 13 = .ok (.istore 4, 2) := by decide +kernel
theorem dX5_countAlikeOfTwo_15 : decode cX5_countAlikeOfTwo 15 = .ok (.iload 4, 2) := by decide +kernel
theorem dX5_countAlikeOfTwo_17 : decode cX5_countAlikeOfTwo 17 = .ok (.aload_n 1, 1) := by decide +kernel
theorem dX5_countAlikeOfTwo_18 : decode cX5_countAlikeOfTwo 18 = .ok (.getfield 39, 3) := by decide +kernel
theorem dX5_countAlikeOfTwo_21 : decode cX5_countAlikeOfTwo 21 = .ok (.if_icmp .ge 23, 3) := by decide +kernel
theorem dX5_countAlikeOfTwo_24 : decode cX5_countAlikeOfTwo 24 = .ok (.aload_n 0, 1) := by decide +kernel
theorem dX5_countAlikeOfTwo_25 : decode cX5_countAlikeOfTwo 25 = .ok (.iload_n 3, 1) := by decide +kernel
theorem dX5_countAlikeOfTwo_26 : decode cX5_countAlikeOfTwo 26 = .ok (.aload_n 1, 1) := by decide +kernel
theorem dX5_countAlikeOfTwo_27 : decode cX5_countAlikeOfTwo 27 = .ok (.iload 4, 2) := by decide +kernel
theorem dX5_countAlikeOfTwo_29 : decode cX5_countAlikeOfTwo 29 = .ok (.invokestatic 152, 3) := by decide +kernel
theorem dX5_countAlikeOfTwo_32 : decode cX5_countAlikeOfTwo 32 = .ok (.ifCond .eq 6, 3) := by decide +kernel
theorem dX5_countAlikeOfTwo_35 : decode cX5_countAlikeOfTwo 35 = .ok (.iinc 2 1, 3) := by decide +kernel
theorem dX5_countAlikeOfTwo_38 : decode cX5_countAlikeOfTwo 38 = .ok (.iinc 4 1, 3) := by decide +kernel
theorem dX5_countAlikeOfTwo_41 : decode cX5_countAlikeOfTwo 41 = .ok (.goto (-26), 3) := by decide +kernel
theorem dX5_countAlikeOfTwo_44 : decode cX5_countAlikeOfTwo 44 = .ok (.iinc 3 1, 3) := by decide +kernel
theorem dX5_countAlikeOfTwo_47 : decode cX5_countAlikeOfTwo 47 = .ok (.goto (-43), 3) := by decide +kernel
theorem dX5_countAlikeOfTwo_50 : decode cX5_countAlikeOfTwo 50 = .ok (.iload_n 2, 1) := by decide +kernel
theorem dX5_countAlikeOfTwo_51 : decode cX5_countAlikeOfTwo 51 = .ok (.ireturn, 1) := by decide +kernel
theorem dX5_countDoubles_0 : decode cX5_countDoubles 0 = .ok (.iconst 0, 1) := by decide +kernel
theorem dX5_countDoubles_1 : decode cX5_countDoubles 1 = .ok (.istore_n 1, 1) := by decide +kernel
theorem dX5_countDoubles_2 : decode cX5_countDoubles 2 = .ok (.iconst 0, 1) := by decide +kernel
theorem dX5_countDoubles_3 : decode cX5_countDoubles 3 = .ok (.istore_n 2, 1) := by decide +kernel
theorem dX5_countDoubles_4 : decode cX5_countDoubles 4 = .ok (.iload_n 2, 1) := by decide +kernel
theorem dX5_countDoubles_5 : decode cX5_countDoubles 5 = .ok (.iconst 3, 1) := by decide +kernel
theorem dX5_countDoubles_6 : decode cX5_countDoubles 6 = .ok (.if_icmp .ge 21, 3) := by decide +kernel
theorem dX5_countDoubles_9 : decode cX5_countDoubles 9 = .ok (.iload_n 1, 1) := by decide +kernel
theorem dX5_countDoubles_10 : decode cX5_countDoubles 10 = .ok (.aload_n 0, 1) := by decide +kernel
theorem dX5_countDoubles_11 : decode cX5_countDoubles 11 = .ok (.getfield 16, 3) := by decide +kernel
theorem dX5_countDoubles_14 : decode cX5_countDoubles 14 = .ok (.iload_n 2, 1) := by decide +kernel
theorem dX5_countDoubles_15 : decode cX5_countDoubles 15 = .ok (.aaload, 1) := by decide +kernel
theorem dX5_countDoubles_16 : decode cX5_countDoubles 16 = .ok (.invokevirtual 202, 3) := by decide +kernel
theorem dX5_countDoubles_19 : decode cX5_countDoubles 19 = .ok (.iadd, 1) := by decide +kernel
theorem dX5_countDoubles_20 : decode cX5_countDoubles 20 = .ok (.istore_n 1, 1) := by decide +kernel
theorem dX5_countDoubles_21 : decode cX5_countDoubles 21 = .ok (.iinc 2 1, 3) := by decide +kernel
theorem dX5_countDoubles_24 : decode cX5_countDoubles 24 = .ok (.goto (-20), 3) := by decide +kernel
theorem dX5_countDoubles_27 : decode cX5_countDoubles 27 = .ok (.iload_n 1, 1) := by decide +kernel
theorem dX5_countDoubles_28 : decode cX5_countDoubles 28 = .ok (.ireturn, 1) := by decide +kernel
theorem dX5_countSlurred_0 : decode cX5_countSlurred 0 = .ok (.iconst 0, 1) := by decide +kernel
theorem dX5_countSlurred_1 : decode cX5_countSlurred 1 = .ok (.istore_n 1, 1) := by decide +kernel
theorem dX5_countSlurred_2 : decode cX5_countSlurred 2 = .ok (.iconst 0, 1) := by decide +kernel
theorem dX5_countSlurred_3 : decode cX5_countSlurred 3 = .ok (.istore_n 2, 1) := by decide +kernel
theorem dX5_countSlurred_4 : decode cX5_countSlurred 4 = .ok (.iload_n 2, 1) := by decide +kernel
theorem dX5_countSlurred_5 : decode cX5_countSlurred 5 = .ok (.iconst 3, 1) := by decide +kernel
theorem dX5_countSlurred_6 : decode cX5_countSlurred 6 = .ok (.if_icmp .ge 21, 3) := by decide +kernel
theorem dX5_countSlurred_9 : decode cX5_countSlurred 9 = .ok (.iload_n 1, 1) := by decide +kernel
theorem dX5_countSlurred_10 : decode cX5_countSlurred 10 = .ok (.aload_n 0, 1) := by decide +kernel
theorem dX5_countSlurred_11 : decode cX5_countSlurred 11 = .ok (.getfield 16, 3) := by decide +kernel
theorem dX5_countSlurred_14 : decode cX5_countSlurred 14 = .ok (.iload_n 2, 1) := by decide +kernel
theorem dX5_countSlurred_15 : decode cX5_countSlurred 15 = .ok (.aaload, 1) := by decide +kernel
theorem dX5_countSlurred_16 : decode cX5_countSlurred 16 = .ok (.invokevirtual 148, 3) := by decide +kernel
theorem dX5_countSlurred_19 : decode cX5_countSlurred 19 = .ok (.iadd, 1) := by decide +kernel
theorem dX5_countSlurred_20 : decode cX5_countSlurred 20 = .ok (.istore_n 1, 1) := by decide +kernel
theorem dX5_countSlurred_21 : decode cX5_countSlurred 21 = .ok (.iinc 2 1, 3) := by decide +kernel
theorem dX5_countSlurred_24 : decode cX5_countSlurred 24 = .ok (.goto (-20), 3) := by decide +kernel
theorem dX5_countSlurred_27 : decode cX5_countSlurred 27 = .ok (.iload_n 1, 1) := by decide +kernel
theorem dX5_countSlurred_28 : decode cX5_countSlurred 28 = .ok (.ireturn, 1) := by decide +kernel
theorem dX5_countWithoutFingering_0 : decode cX5_countWithoutFingering 0 = .ok (.iconst 0, 1) := by decide +kernel
theorem dX5_countWithoutFingering_1 : decode cX5_countWithoutFingering 1 = .ok (.istore_n 1, 1) := by decide +kernel
theorem dX5_countWithoutFingering_2 : decode cX5_countWithoutFingering 2 = .ok (.iconst 0, 1) := by decide +kernel
theorem dX5_countWithoutFingering_3 : decode cX5_countWithoutFingering 3 = .ok (.istore_n 2, 1) := by decide +kernel
theorem dX5_countWithoutFingering_4 : decode cX5_countWithoutFingering 4 = .ok (.iload_n 2, 1) := by decide +kernel
theorem dX5_countWithoutFingering_5 : decode cX5_countWithoutFingering 5 = .ok (.iconst 3, 1) := by decide +kernel
theorem dX5_countWithoutFingering_6 : decode cX5_countWithoutFingering 6 = .ok (.if_icmp .ge 25, 3) := by decide +kernel
theorem dX5_countWithoutFingering_9 : decode cX5_countWithoutFingering 9 = .ok (.aload_n 0, 1) := by decide +kernel
theorem dX5_countWithoutFingering_10 : decode cX5_countWithoutFingering 10 = .ok (.aload_n 0, 1) := by decide +kernel
theorem dX5_countWithoutFingering_11 : decode cX5_countWithoutFingering 11 = .ok (.getfield 16, 3) := by decide +kernel
theorem dX5_countWithoutFingering_14 : decode cX5_countWithoutFingering 14 = .ok (.iload_n 2, 1) := by decide +kernel
theorem dX5_countWithoutFingering_15 : decode cX5_countWithoutFingering 15 = .ok (.aaload, 1) := by decide +kernel
theorem dX5_countWithoutFingering_16 : decode cX5_countWithoutFingering 16 = .ok (.invokevirtual 88, 3) := by decide +kernel
theorem dX5_countWithoutFingering_19 : decode cX5_countWithoutFingering 19 = .ok (.ifCond .ne 6, 3) := by decide +kernel
theorem dX5_countWithoutFingering_22 : decode cX5_countWithoutFingering 22 = .ok (.iinc 1 1, 3) := by decide +kernel
theorem dX5_countWithoutFingering_25 : decode cX5_countWithoutFingering 25 = .ok (.iinc 2 1, 3) := by decide +kernel
theorem dX5_countWithoutFingering_28 : decode cX5_countWithoutFingering 28 = .ok (.goto (-24), 3) := by decide +kernel
theorem dX5_countWithoutFingering_31 : decode cX5_countWithoutFingering 31 = .ok (.iload_n 1, 1) := by decide +kernel
theorem dX5_countWithoutFingering_32 : decode cX5_countWithoutFingering 32 = .ok (.ireturn, 1) := by decide +kernel
