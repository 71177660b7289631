theorem dX0_init_0 : decode cX0_init 0 = .ok (.aload_n 0, 1) := by decide +kernel
theorem dX0_init_1 : decode cX0_init 1 = .ok (.invokespecial 3, 3) := by decide +kernel
theorem dX0_init_4 : decode cX0_init 4 = .ok (.aload_n 0, 1) := by decide +kernel
theorem dX0_init_5 : decode cX0_init 5 = .ok (.bipush 12, 2) := by decide +kernel
theorem dX0_init_7 : decode cX0_init 7 = .ok (.newarray .int, 2) := by decide +kernel
theorem dX0_init_9 : decode cX0_init 9 = .ok (.putfield 9, 3) := by decide +kernel
theorem dX0_init_12 : decode cX0_init 12 = .ok (.aload_n 0, 1) := by decide +kernel
theorem dX0_init_13 : decode cX0_init 13 = .ok (.bipush 12, 2) := by decide +kernel
theorem dX0_init_15 : decode cX0_init 15 = .ok (.newarray .int, 2) := by decide +kernel
theorem dX0_init_17 : decode cX0_init 17 = .ok (.putfield 15, 3) := by decide +kernel
theorem dX0_init_20 : decode cX0_init 20 = .ok (.aload_n 0, 1) := by decide +kernel
theorem dX0_init_21 : decode cX0_init 21 = .ok (.bipush 12, 2) := by decide +kernel
theorem dX0_init_23 : decode cX0_init 23 = .ok (.newarray .int, 2) := by decide +kernel
theorem dX0_init_25 : decode cX0_init 25 = .ok (.putfield 18, 3) := by decide +kernel
theorem dX0_init_28 : decode cX0_init 28 = .ok (.return_, 1) := by decide +kernel
theorem dX0_isThere_0 : decode cX0_isThere 0 = .ok (.aload_n 0, 1) := by decide +kernel
theorem dX0_isThere_1 : decode cX0_isThere 1 = .ok (.getfield 21, 3) := by decide +kernel
theorem dX0_isThere_4 : decode cX0_isThere 4 = .ok (.ldc 25, 2) := by decide +kernel
theorem dX0_isThere_6 : decode cX0_isThere 6 = .ok (.if_icmp .ge 7, 3) := by decide +kernel
theorem dX0_isThere_9 : decode cX0_isThere 9 = .ok (.iconst 1, 1) := by decide +kernel
theorem dX0_isThere_10 : decode cX0_isThere 10 = .ok (.goto 4, 3) := by decide +kernel
theorem dX0_isThere_13 : decode cX0_isThere 13 = .ok (.iconst 0, 1) := by decide +kernel
theorem dX0_isThere_14 : decode cX0_isThere 14 = .ok (.ireturn, 1) := by decide +kernel
theorem dX0_work_0 : decode cX0_work 0 = .ok (.aload_n 0, 1) := by decide +kernel
theorem dX0_work_1 : decode cX0_work 1 = .ok (.iconst 0, 1) := by decide +kernel
theorem dX0_work_2 : decode cX0_work 2 = .ok (.putfield 21, 3) := by decide +kernel
theorem dX0_work_5 : decode cX0_work 5 = .ok (.aload_n 1, 1) := by decide +kernel
theorem dX0_work_6 : decode cX0_work 6 = .ok (.getfield 26, 3) := by decide +kernel
theorem dX0_work_9 : decode cX0_work 9 = .ok (.ifCond .gt 4, 3) := by decide +kernel
theorem dX0_work_12 : decode cX0_work 12 = .ok (.return_, 1) := by decide +kernel
theorem dX0_work_13 : decode cX0_work 13 = .ok (.iload_n 2, 1) := by decide +kernel
theorem dX0_work_14 : decode cX0_work 14 = .ok (.iconst 1, 1) := by decide +kernel
theorem dX0_work_15 : decode cX0_work 15 = .ok (.if_icmp .ne 19, 3) := by decide +kernel
theorem dX0_work_18 : decode cX0_work 18 = .ok (.aload_n 1, 1) := by decide +kernel
theorem dX0_work_19 : decode cX0_work 19 = .ok (.iconst 0, 1) := by decide +kernel
theorem dX0_work_20 : decode cX0_work 20 = .ok (.iconst 4, 1) := by decide +kernel
theorem dX0_work_21 : decode cX0_work 21 = .ok (.invokevirtual 31, 3) := by decide +kernel
theorem dX0_work_24 : decode cX0_work 24 = .ok (.ifCond .eq 10, 3) := by decide +kernel
theorem dX0_work_27 : decode cX0_work 27 = .ok (.aload_n 0, 1) := by decide +kernel
theorem dX0_work_28 : decode cX0_work 28 = .ok (.ldc 25, 2) := by decide +kernel
theorem dX0_work_30 : decode cX0_work 30 = .ok (.putfield 21, 3) := by decide +kernel
theorem dX0_work_33 : decode cX0_work 33 = .ok (.return_, 1) := by decide +kernel
theorem dX0_work_34 : decode cX0_work 34 = .ok (.aload_n 0, 1) := by decide +kernel
theorem dX0_work_35 : decode cX0_work 35 = .ok (.aload_n 1, 1) := by decide +kernel
theorem dX0_work_36 : decode cX0_work 36 = .ok (.invokevirtual 35, 3) := by decide +kernel
theorem dX0_work_39 : decode cX0_work 39 = .ok (.aload_n 0, 1) := by decide +kernel
theorem dX0_work_40 : decode cX0_work 40 = .ok (.iload_n 2, 1) := by decide +kernel
theorem dX0_work_41 : decode cX0_work 41 = .ok (.ifCond .ne 12, 3) := by decide +kernel
theorem dX0_work_44 : decode cX0_work 44 = .ok (.aload_n 0, 1) := by decide +kernel
theorem dX0_work_45 : decode cX0_work 45 = .ok (.getfield 15, 3) := by decide +kernel
theorem dX0_work_48 : decode cX0_work 48 = .ok (.iconst 0, 1) := by decide +kernel
theorem dX0_work_49 : decode cX0_work 49 = .ok (.iaload, 1) := by decide +kernel
theorem dX0_work_50 : decode cX0_work 50 = .ok (.goto 9, 3) := by decide +kernel
theorem dX0_work_53 : decode cX0_work 53 = .ok (.aload_n 0, 1) := by decide +kernel
theorem dX0_work_54 : decode cX0_work 54 = .ok (.getfield 18, 3) := by decide +kernel
theorem dX0_work_57 : decode cX0_work 57 = .ok (.iconst 0, 1) := by decide +kernel
theorem dX0_work_58 : decode cX0_work 58 = .ok (.iaload, 1) := by decide +kernel
theorem dX0_work_59 : decode cX0_work 59 = .ok (.putfield 21, 3) := by decide +kernel
theorem dX0_work_62 : decode cX0_work 62 = .ok (.aload_n 0, 1) := by decide +kernel
theorem dX0_work_63 : decode cX0_work 63 = .ok (.aload_n 1, 1) := by decide +kernel
theorem dX0_work_64 : decode cX0_work 64 = .ok (.iload_n 2, 1) := by decide +kernel
theorem dX0_work_65 : decode cX0_work 65 = .ok (.invokevirtual 39, 3) := by decide +kernel
theorem dX0_work_68 : decode cX0_work 68 = .ok (.return_, 1) := by decide +kernel
theorem dX0_reckonBehind_0 : decode cX0_reckonBehind 0 = .ok (.aload_n 1, 1) := by decide +kernel
theorem dX0_reckonBehind_1 : decode cX0_reckonBehind 1 = .ok (.getfield 26, 3) := by decide +kernel
theorem dX0_reckonBehind_4 : decode cX0_reckonBehind 4 = .ok (.iconst 1, 1) := by decide +kernel
theorem dX0_reckonBehind_5 : decode cX0_reckonBehind 5 = .ok (.isub, 1) := by decide +kernel
theorem dX0_reckonBehind_6 : decode cX0_reckonBehind 6 = .ok (.istore_n 2, 1) := by decide +kernel
theorem dX0_reckonBehind_7 : decode cX0_reckonBehind 7 = .ok (.aload_n 0, 1) := by decide +kernel
theorem dX0_reckonBehind_8 : decode cX0_reckonBehind 8 = .ok (.getfield 15, 3) := by decide +kernel
theorem dX0_reckonBehind_11 : decode cX0_reckonBehind 11 = .ok (.iload_n 2, 1) := by decide +kernel
theorem dX0_reckonBehind_12 : decode cX0_reckonBehind 12 = .ok (.iconst 0, 1) := by decide +kernel
theorem dX0_reckonBehind_13 : decode cX0_reckonBehind 13 = .ok (.iastore, 1) := by decide +kernel
theorem dX0_reckonBehind_14 : decode cX0_reckonBehind 14 = .ok (.aload_n 0, 1) := by decide +kernel
theorem dX0_reckonBehind_15 : decode cX0_reckonBehind 15 = .ok (.getfield 18, 3) := by decide +kernel
theorem dX0_reckonBehind_18 : decode cX0_reckonBehind 18 = .ok (.iload_n 2, 1) := by decide +kernel
theorem dX0_reckonBehind_19 : decode cX0_reckonBehind 19 = .ok (.iconst 0, 1) := by decide +kernel
theorem dX0_reckonBehind_20 : decode cX0_reckonBehind 20 = .ok (.iastore, 1) := by decide +kernel
theorem dX0_reckonBehind_21 : decode cX0_reckonBehind 21 = .ok (.iload_n 2, 1) := by decide +kernel
theorem dX0_reckonBehind_22 : decode cX0_reckonBehind 22 = .ok (.istore_n 3, 1) := by decide +kernel
theorem dX0_reckonBehind_23 : decode cX0_reckonBehind 23 = .ok (.iload_n 3, 1) := by decide +kernel
theorem dX0_reckonBehind_24 : decode cX0_reckonBehind 24 = .ok (.ifCond .le 63, 3) := by decide +kernel
theorem dX0_reckonBehind_27 : decode cX0_reckonBehind 27 = .ok (.aload_n 0, 1) := by decide +kernel
theorem dX0_reckonBehind_28 : decode cX0_reckonBehind 28 = .ok (.getfield 15, 3) := by decide +kernel
theorem dX0_reckonBehind_31 : decode cX0_reckonBehind 31 = .ok (.iload_n 3, 1) := by decide +kernel
theorem dX0_reckonBehind_32 : decode cX0_reckonBehind 32 = .ok (.iconst 1, 1) := by decide +kernel
theorem dX0_reckonBehind_33 : decode cX0_reckonBehind 33 = .ok (.isub, 1) := by decide +kernel
theorem dX0_reckonBehind_34 : decode cX0_reckonBehind 34 = .ok (.aload_n 0, 1) := by decide +kernel
theorem dX0_reckonBehind_35 : decode cX0_reckonBehind 35 = .ok (.aload_n 1, 1) := by decide +kernel
theorem dX0_reckonBehind_36 : decode cX0_reckonBehind 36 = .ok (.iload_n 3, 1) := by decide +kernel
theorem dX0_reckonBehind_37 : decode cX0_reckonBehind 37 = .ok (.iconst 0, 1) := by decide +kernel
theorem dX0_reckonBehind_38 : decode cX0_reckonBehind 38 = .ok (.iconst 0, 1) := by decide +kernel
theorem dX0_reckonBehind_39 : decode cX0_reckonBehind 39 = .ok (.invokevirtual 43, 3) := by decide +kernel
theorem dX0_reckonBehind_42 : decode cX0_reckonBehind 42 = .ok (.aload_n 0, 1) := by decide +kernel
theorem dX0_reckonBehind_43 : decode cX0_reckonBehind 43 = .ok (.aload_n 1, 1) := by decide +kernel
theorem dX0_reckonBehind_44 : decode cX0_reckonBehind 44 = .ok (.iload_n 3, 1) := by decide +kernel
theorem dX0_reckonBehind_45 : decode cX0_reckonBehind 45 = .ok (.iconst 0, 1) := by decide +kernel
theorem dX0_reckonBehind_46 : decode cX0_reckonBehind 46 = .ok (.iconst 1, 1) := by decide +kernel
theorem dX0_reckonBehind_47 : decode cX0_reckonBehind 47 = .ok (.invokevirtual 43, 3) := by decide +kernel
theorem dX0_reckonBehind_50 : decode cX0_reckonBehind 50 = .ok (.invokestatic 47, 3) := by decide +kernel
theorem dX0_reckonBehind_53 : decode cX0_reckonBehind 53 = .ok (.iastore, 1) := by decide +kernel
theorem dX0_reckonBehind_54 : decode cX0_reckonBehind 54 = .ok (.aload_n 0, 1) := by decide +kernel
theorem dX0_reckonBehind_55 : decode cX0_reckonBehind 55 = .ok (.getfield 18, 3) := by decide +kernel
theorem dX0_reckonBehind_58 : decode cX0_reckonBehind 58 = .ok (.iload_n 3, 1) := by decide +kernel
theorem dX0_reckonBehind_59 : decode cX0_reckonBehind 59 = .ok (.iconst 1, 1) := by decide +kernel
theorem dX0_reckonBehind_60 : decode cX0_reckonBehind 60 = .ok (.isub, 1) := by decide +kernel
theorem dX0_reckonBehind_61 : decode cX0_reckonBehind 61 = .ok (.aload_n 0, 1) := by decide +kernel
theorem dX0_reckonBehind_62 : decode cX0_reckonBehind 62 = .ok (.aload_n 1, 1) := by decide +kernel
theorem dX0_reckonBehind_63 : decode cX0_reckonBehind 63 = .ok (.iload_n 3, 1) := by decide +kernel
theorem dX0_reckonBehind_64 : decode cX0_reckonBehind 64 = .ok (.iconst 1, 1) := by decide +kernel
theorem dX0_reckonBehind_65 : decode cX0_reckonBehind 65 = .ok (.iconst 0, 1) := by decide +kernel
theorem dX0_reckonBehind_66 : decode cX0_reckonBehind 66 = .ok (.invokevirtual 43, 3) := by decide +kernel
theorem dX0_reckonBehind_69 : decode cX0_reckonBehind 69 = .ok (.aload_n 0, 1) := by decide +kernel
theorem dX0_reckonBehind_70 : decode cX0_reckonBehind 70 = .ok (.aload_n 1, 1) := by decide +kernel
theorem dX0_reckonBehind_71 : decode cX0_reckonBehind 71 = .ok (.iload_n 3, 1) := by decide +kernel
theorem dX0_reckonBehind_72 : decode cX0_reckonBehind 72 = .ok (.iconst 1, 1) := by decide +kernel
theorem dX0_reckonBehind_73 : decode cX0_reckonBehind 73 = .ok (.iconst 1, 1) := by decide +kernel
theorem dX0_reckonBehind_74 : decode cX0_reckonBehind 74 = .ok (.invokevirtual 43, 3) := by decide +kernel
theorem dX0_reckonBehind_77 : decode cX0_reckonBehind 77 = .ok (.invokestatic 47, 3) := by decide +kernel
theorem dX0_reckonBehind_80 : decode cX0_reckonBehind 80 = .ok (.iastore, 1) := by decide +kernel
theorem dX0_reckonBehind_81 : decode cX0_reckonBehind 81 = .ok (.iinc 3 (-1), 3) := by decide +kernel
theorem dX0_reckonBehind_84 : decode cX0_reckonBehind 84 = .ok (.goto (-61), 3) := by decide +kernel
theorem dX0_reckonBehind_87 : decode cX0_reckonBehind 87 = .ok (.return_, 1) := by decide +kernel
theorem dX0_follow_0 : decode cX0_follow 0 = .ok (.aload_n 0, 1) := by decide +kernel
theorem dX0_follow_1 : decode cX0_follow 1 = .ok (.getfield 9, 3) := by decide +kernel
theorem dX0_follow_4 : decode cX0_follow 4 = .ok (.iconst 0, 1) := by decide +kernel
theorem dX0_follow_5 : decode cX0_follow 5 = .ok (.iload_n 2, 1) := by decide +kernel
theorem dX0_follow_6 : decode cX0_follow 6 = .ok (.iastore, 1) := by decide +kernel
theorem dX0_follow_7 : decode cX0_follow 7 = .ok (.iconst 1, 1) := by decide +kernel
theorem dX0_follow_8 : decode cX0_follow 8 = .ok (.istore_n 3, 1) := by decide +kernel
theorem dX0_follow_9 : decode cX0_follow 9 = .ok (.iload_n 3, 1) := by decide +kernel
theorem dX0_follow_10 : decode cX0_follow 10 = .ok (.aload_n 1, 1) := by decide +kernel
theorem dX0_follow_11 : decode cX0_follow 11 = .ok (.getfield 26, 3) := by decide +kernel
theorem dX0_follow_14 : decode cX0_follow 14 = .ok (.if_icmp .ge 63, 3) := by decide +kernel
theorem dX0_follow_17 : decode cX0_follow 17 = .ok (.aload_n 0, 1) := by decide +kernel
theorem dX0_follow_18 : decode cX0_follow 18 = .ok (.getfield 9, 3) := by decide +kernel
theorem dX0_follow_21 : decode cX0_follow 21 = .ok (.iload_n 3, 1) := by decide +kernel
theorem dX0_follow_22 : decode cX0_follow 22 = .ok (.iconst 1, 1) := by decide +kernel
theorem dX0_follow_23 : decode cX0_follow 23 = .ok (.isub, 1) := by decide +kernel
theorem dX0_follow_24 : decode cX0_follow 24 = .ok (.iaload, 1) := by decide +kernel
theorem dX0_follow_25 : decode cX0_follow 25 = .ok (.istore 4, 2) := by decide +kernel
theorem dX0_follow_27 : decode cX0_follow 27 = .ok (.aload_n 0, 1) := by decide +kernel
theorem dX0_follow_28 : decode cX0_follow 28 = .ok (.aload_n 1, 1) := by decide +kernel
theorem dX0_follow_29 : decode cX0_follow 29 = .ok (.iload_n 3, 1) := by decide +kernel
theorem dX0_follow_30 : decode cX0_follow 30 = .ok (.iload 4, 2) := by decide +kernel
theorem dX0_follow_32 : decode cX0_follow 32 = .ok (.iconst 0, 1) := by decide +kernel
theorem dX0_follow_33 : decode cX0_follow 33 = .ok (.invokevirtual 43, 3) := by decide +kernel
theorem dX0_follow_36 : decode cX0_follow 36 = .ok (.aload_n 0, 1) := by decide +kernel
theorem dX0_follow_37 : decode cX0_follow 37 = .ok (.aload_n 1, 1) := by decide +kernel
theorem dX0_follow_38 : decode cX0_follow 38 = .ok (.iload_n 3, 1) := by decide +kernel
theorem dX0_follow_39 : decode cX0_follow 39 = .ok (.iload 4, 2) := by decide +kernel
theorem dX0_follow_41 : decode cX0_follow 41 = .ok (.iconst 1, 1) := by decide +kernel
theorem dX0_follow_42 : decode cX0_follow 42 = .ok (.invokevirtual 43, 3) := by decide +kernel
theorem dX0_follow_45 : decode cX0_follow 45 = .ok (.if_icmp .gt 7, 3) := by decide +kernel
theorem dX0_follow_48 : decode cX0_follow 48 = .ok (.iconst 1, 1) := by decide +kernel
theorem dX0_follow_49 : decode cX0_follow 49 = .ok (.goto 4, 3) := by decide +kernel
theorem dX0_follow_52 : decode cX0_follow 52 = .ok (.iconst 0, 1) := by decide +kernel
theorem dX0_follow_53 : decode cX0_follow 53 = .ok (.istore 5, 2) := by decide +kernel
theorem dX0_follow_55 : decode cX0_follow 55 = .ok (.aload_n 0, 1) := by decide +kernel
theorem dX0_follow_56 : decode cX0_follow 56 = .ok (.getfield 9, 3) := by decide +kernel
theorem dX0_follow_59 : decode cX0_follow 59 = .ok (.iload_n 3, 1) := by decide +kernel
theorem dX0_follow_60 : decode cX0_follow 60 = .ok (.iload 5, 2) := by decide +kernel
theorem dX0_follow_62 : decode cX0_follow 62 = .ok (.ifCond .eq 7, 3) := by decide +kernel
theorem dX0_follow_65 : decode cX0_follow 65 = .ok (.iconst 0, 1) := by decide +kernel
theorem dX0_follow_66 : decode cX0_follow 66 = .ok (.goto 4, 3) := by decide +kernel
theorem dX0_follow_69 : decode cX0_follow 69 = .ok (.iconst 1, 1) := by decide +kernel
theorem dX0_follow_70 : decode cX0_follow 70 = .ok (.iastore, 1) := by decide +kernel
theorem dX0_follow_71 : decode cX0_follow 71 = .ok (.iinc 3 1, 3) := by decide +kernel
theorem dX0_follow_74 : decode cX0_follow 74 = .ok (.goto (-65), 3) := by decide +kernel
theorem dX0_follow_77 : decode cX0_follow 77 = .ok (.return_, 1) := by decide +kernel
theorem dX0_costFrom_0 : decode cX0_costFrom 0 = .ok (.iload 4, 2) := by decide +kernel
theorem dX0_costFrom_2 : decode cX0_costFrom 2 = .ok (.ifCond .ne 25, 3) := by decide +kernel
theorem dX0_costFrom_5 : decode cX0_costFrom 5 = .ok (.aload_n 0, 1) := by decide +kernel
theorem dX0_costFrom_6 : decode cX0_costFrom 6 = .ok (.getfield 15, 3) := by decide +kernel
theorem dX0_costFrom_9 : decode cX0_costFrom 9 = .ok (.iload_n 2, 1) := by decide +kernel
theorem dX0_costFrom_10 : decode cX0_costFrom 10 = .ok (.iaload, 1) := by decide +kernel
theorem dX0_costFrom_11 : decode cX0_costFrom 11 = .ok (.aload_n 1, 1) := by decide +kernel
theorem dX0_costFrom_12 : decode cX0_costFrom 12 = .ok (.iload_n 2, 1) := by decide +kernel
theorem dX0_costFrom_13 : decode cX0_costFrom 13 = .ok (.iload_n 3, 1) := by decide +kernel
theorem dX0_costFrom_14 : decode cX0_costFrom 14 = .ok (.ifCond .ne 7, 3) := by decide +kernel
theorem dX0_costFrom_17 : decode cX0_costFrom 17 = .ok (.iconst 1, 1) := by decide +kernel
theorem dX0_costFrom_18 : decode cX0_costFrom 18 = .ok (.goto 4, 3) := by decide +kernel
theorem dX0_costFrom_21 : decode cX0_costFrom 21 = .ok (.iconst 0, 1) := by decide +kernel
theorem dX0_costFrom_22 : decode cX0_costFrom 22 = .ok (.invokestatic 53, 3) := by decide +kernel
theorem dX0_costFrom_25 : decode cX0_costFrom 25 = .ok (.iadd, 1) := by decide +kernel
theorem dX0_costFrom_26 : decode cX0_costFrom 26 = .ok (.ireturn, 1) := by decide +kernel
theorem dX0_costFrom_27 : decode cX0_costFrom 27 = .ok (.aload_n 1, 1) := by decide +kernel
theorem dX0_costFrom_28 : decode cX0_costFrom 28 = .ok (.iload_n 2, 1) := by decide +kernel
theorem dX0_costFrom_29 : decode cX0_costFrom 29 = .ok (.iconst 4, 1) := by decide +kernel
theorem dX0_costFrom_30 : decode cX0_costFrom 30 = .ok (.invokevirtual 31, 3) := by decide +kernel
theorem dX0_costFrom_33 : decode cX0_costFrom 33 = .ok (.ifCond .eq 6, 3) := by decide +kernel
theorem dX0_costFrom_36 : decode cX0_costFrom 36 = .ok (.ldc 25, 2) := by decide +kernel
theorem dX0_costFrom_38 : decode cX0_costFrom 38 = .ok (.ireturn, 1) := by decide +kernel
theorem dX0_costFrom_39 : decode cX0_costFrom 39 = .ok (.aload_n 0, 1) := by decide +kernel
theorem dX0_costFrom_40 : decode cX0_costFrom 40 = .ok (.getfield 18, 3) := by decide +kernel
theorem dX0_costFrom_43 : decode cX0_costFrom 43 = .ok (.iload_n 2, 1) := by decide +kernel
theorem dX0_costFrom_44 : decode cX0_costFrom 44 = .ok (.iaload, 1) := by decide +kernel
theorem dX0_costFrom_45 : decode cX0_costFrom 45 = .ok (.aload_n 1, 1) := by decide +kernel
theorem dX0_costFrom_46 : decode cX0_costFrom 46 = .ok (.iload_n 2, 1) := by decide +kernel
theorem dX0_costFrom_47 : decode cX0_costFrom 47 = .ok (.iload_n 3, 1) := by decide +kernel
theorem dX0_costFrom_48 : decode cX0_costFrom 48 = .ok (.iconst 1, 1) := by decide +kernel
theorem dX0_costFrom_49 : decode cX0_costFrom 49 = .ok (.if_icmp .ne 7, 3) := by decide +kernel
theorem dX0_costFrom_52 : decode cX0_costFrom 52 = .ok (.iconst 1, 1) := by decide +kernel
theorem dX0_costFrom_53 : decode cX0_costFrom 53 = .ok (.goto 4, 3) := by decide +kernel
theorem dX0_costFrom_56 : decode cX0_costFrom 56 = .ok (.iconst 0, 1) := by decide +kernel
theorem dX0_costFrom_57 : decode cX0_costFrom 57 = .ok (.invokestatic 53, 3) := by decide +kernel
theorem dX0_costFrom_60 : decode cX0_costFrom 60 = .ok (.iadd, 1) := by decide +kernel
theorem dX0_costFrom_61 : decode cX0_costFrom 61 = .ok (.ireturn, 1) := by decide +kernel
theorem dX0_turnCost_0 : decode cX0_turnCost 0 = .ok (.aload_n 0, 1) := by decide +kernel
theorem dX0_turnCost_1 : decode cX0_turnCost 1 = .ok (.iload_n 1, 1) := by decide +kernel
theorem dX0_turnCost_2 : decode cX0_turnCost 2 = .ok (.iconst 2, 1) := by decide +kernel
theorem dX0_turnCost_3 : decode cX0_turnCost 3 = .ok (.invokevirtual 31, 3) := by decide +kernel
theorem dX0_turnCost_6 : decode cX0_turnCost 6 = .ok (.ifCond .eq 13, 3) := by decide +kernel
theorem dX0_turnCost_9 : decode cX0_turnCost 9 = .ok (.iload_n 2, 1) := by decide +kernel
theorem dX0_turnCost_10 : decode cX0_turnCost 10 = .ok (.ifCond .eq 7, 3) := by decide +kernel
theorem dX0_turnCost_13 : decode cX0_turnCost 13 = .ok (.iconst 0, 1) := by decide +kernel
theorem dX0_turnCost_14 : decode cX0_turnCost 14 = .ok (.goto 4, 3) := by decide +kernel
theorem dX0_turnCost_17 : decode cX0_turnCost 17 = .ok (.iconst 2, 1) := by decide +kernel
theorem dX0_turnCost_18 : decode cX0_turnCost 18 = .ok (.ireturn, 1) := by decide +kernel
theorem dX0_turnCost_19 : decode cX0_turnCost 19 = .ok (.iload_n 2, 1) := by decide +kernel
theorem dX0_turnCost_20 : decode cX0_turnCost 20 = .ok (.ifCond .ne 5, 3) := by decide +kernel
theorem dX0_turnCost_23 : decode cX0_turnCost 23 = .ok (.iconst 0, 1) := by decide +kernel
theorem dX0_turnCost_24 : decode cX0_turnCost 24 = .ok (.ireturn, 1) := by decide +kernel
theorem dX0_turnCost_25 : decode cX0_turnCost 25 = .ok (.aload_n 0, 1) := by decide +kernel
theorem dX0_turnCost_26 : decode cX0_turnCost 26 = .ok (.iload_n 1, 1) := by decide +kernel
theorem dX0_turnCost_27 : decode cX0_turnCost 27 = .ok (.iconst 1, 1) := by decide +kernel
theorem dX0_turnCost_28 : decode cX0_turnCost 28 = .ok (.invokevirtual 31, 3) := by decide +kernel
theorem dX0_turnCost_31 : decode cX0_turnCost 31 = .ok (.ifCond .eq 7, 3) := by decide +kernel
theorem dX0_turnCost_34 : decode cX0_turnCost 34 = .ok (.iconst 1, 1) := by decide +kernel
theorem dX0_turnCost_35 : decode cX0_turnCost 35 = .ok (.goto 4, 3) := by decide +kernel
theorem dX0_turnCost_38 : decode cX0_turnCost 38 = .ok (.iconst 3, 1) := by decide +kernel
theorem dX0_turnCost_39 : decode cX0_turnCost 39 = .ok (.ireturn, 1) := by decide +kernel
theorem dX0_countHooks_0 : decode cX0_countHooks 0 = .ok (.iconst 0, 1) := by decide +kernel
theorem dX0_countHooks_1 : decode cX0_countHooks 1 = .ok (.istore_n 2, 1) := by decide +kernel
theorem dX0_countHooks_2 : decode cX0_countHooks 2 = .ok (.iconst 1, 1) := by decide +kernel
theorem dX0_countHooks_3 : decode cX0_countHooks 3 = .ok (.istore_n 3, 1) := by decide +kernel
theorem dX0_countHooks_4 : decode cX0_countHooks 4 = .ok (.iload_n 3, 1) := by decide +kernel
theorem dX0_countHooks_5 : decode cX0_countHooks 5 = .ok (.aload_n 1, 1) := by decide +kernel
theorem dX0_countHooks_6 : decode cX0_countHooks 6 = .ok (.getfield 26, 3) := by decide +kernel
theorem dX0_countHooks_9 : decode cX0_countHooks 9 = .ok (.if_icmp .ge 38, 3) := by decide +kernel
theorem dX0_countHooks_12 : decode cX0_countHooks 12 = .ok (.aload_n 1, 1) := by decide +kernel
theorem dX0_countHooks_13 : decode cX0_countHooks 13 = .ok (.iload_n 3, 1) := by decide +kernel
theorem dX0_countHooks_14 : decode cX0_countHooks 14 = .ok (.iconst 2, 1) := by decide +kernel
theorem dX0_countHooks_15 : decode cX0_countHooks 15 = .ok (.invokevirtual 31, 3) := by decide +kernel
theorem dX0_countHooks_18 : decode cX0_countHooks 18 = .ok (.ifCond .ne 23, 3) := by decide +kernel
theorem dX0_countHooks_21 : decode cX0_countHooks 21 = .ok (.aload_n 0, 1) := by decide +kernel
theorem dX0_countHooks_22 : decode cX0_countHooks 22 = .ok (.getfield 9, 3) := by decide +kernel
theorem dX0_countHooks_25 : decode cX0_countHooks 25 = .ok (.iload_n 3, 1) := by decide +kernel
theorem dX0_countHooks_26 : decode cX0_countHooks 26 = .ok (.iaload, 1) := by decide +kernel
theorem dX0_countHooks_27 : decode cX0_countHooks 27 = .ok (.aload_n 0, 1) := by decide +kernel
theorem dX0_countHooks_28 : decode cX0_countHooks 28 = .ok (.getfield 9, 3) := by decide +kernel
theorem dX0_countHooks_31 : decode cX0_countHooks 31 = .ok (.iload_n 3, 1) := by decide +kernel
theorem dX0_countHooks_32 : decode cX0_countHooks 32 = .ok (.iconst 1, 1) := by decide +kernel
theorem dX0_countHooks_33 : decode cX0_countHooks 33 = .ok (.isub, 1) := by decide +kernel
theorem dX0_countHooks_34 : decode cX0_countHooks 34 = .ok (.iaload, 1) := by decide +kernel
theorem dX0_countHooks_35 : decode cX0_countHooks 35 = .ok (.if_icmp .ne 6, 3) := by decide +kernel
theorem dX0_countHooks_38 : decode cX0_countHooks 38 = .ok (.iinc 2 1, 3) := by decide +kernel
theorem dX0_countHooks_41 : decode cX0_countHooks 41 = .ok (.iinc 3 1, 3) := by decide +kernel
theorem dX0_countHooks_44 : decode cX0_countHooks 44 = .ok (.goto (-40), 3) := by decide +kernel
theorem dX0_countHooks_47 : decode cX0_countHooks 47 = .ok (.iload_n 2, 1) := by decide +kernel
theorem dX0_countHooks_48 : decode cX0_countHooks 48 = .ok (.ireturn, 1) := by decide +kernel
theorem dX0_countParted_0 : decode cX0_countParted 0 = .ok (.iconst 0, 1) := by decide +kernel
theorem dX0_countParted_1 : decode cX0_countParted 1 = .ok (.istore_n 2, 1) := by decide +kernel
theorem dX0_countParted_2 : decode cX0_countParted 2 = .ok (.iconst 1, 1) := by decide +kernel
theorem dX0_countParted_3 : decode cX0_countParted 3 = .ok (.istore_n 3, 1) := by decide +kernel
theorem dX0_countParted_4 : decode cX0_countParted 4 = .ok (.iload_n 3, 1) := by decide +kernel
theorem dX0_countParted_5 : decode cX0_countParted 5 = .ok (.aload_n 1, 1) := by decide +kernel
theorem dX0_countParted_6 : decode cX0_countParted 6 = .ok (.getfield 26, 3) := by decide +kernel
theorem dX0_countParted_9 : decode cX0_countParted 9 = .ok (.if_icmp .ge 38, 3) := by decide +kernel
theorem dX0_countParted_12 : decode cX0_countParted 12 = .ok (.aload_n 1, 1) := by decide +kernel
theorem dX0_countParted_13 : decode cX0_countParted 13 = .ok (.iload_n 3, 1) := by decide +kernel
theorem dX0_countParted_14 : decode cX0_countParted 14 = .ok (.iconst 2, 1) := by decide +kernel
theorem dX0_countParted_15 : decode cX0_countParted 15 = .ok (.invokevirtual 31, 3) := by decide +kernel
theorem dX0_countParted_18 : decode cX0_countParted 18 = .ok (.ifCond .eq 23, 3) := by decide +kernel
theorem dX0_countParted_21 : decode cX0_countParted 21 = .ok (.aload_n 0, 1) := by decide +kernel
theorem dX0_countParted_22 : decode cX0_countParted 22 = .ok (.getfield 9, 3) := by decide +kernel
theorem dX0_countParted_25 : decode cX0_countParted 25 = .ok (.iload_n 3, 1) := by decide +kernel
theorem dX0_countParted_26 : decode cX0_countParted 26 = .ok (.iaload, 1) := by decide +kernel
theorem dX0_countParted_27 : decode cX0_countParted 27 = .ok (.aload_n 0, 1) := by decide +kernel
theorem dX0_countParted_28 : decode cX0_countParted 28 = .ok (.getfield 9, 3) := by decide +kernel
theorem dX0_countParted_31 : decode cX0_countParted 31 = .ok (.iload_n 3, 1) := by decide +kernel
theorem dX0_countParted_32 : decode cX0_countParted 32 = .ok (.iconst 1, 1) := by decide +kernel
theorem dX0_countParted_33 : decode cX0_countParted 33 = .ok (.isub, 1) := by decide +kernel
theorem dX0_countParted_34 : decode cX0_countParted 34 = .ok (.iaload, 1) := by decide +kernel
theorem dX0_countParted_35 : decode cX0_countParted 35 = .ok (.if_icmp .eq 6, 3) := by decide +kernel
theorem dX0_countParted_38 : decode cX0_countParted 38 = .ok (.iinc 2 1, 3) := by decide +kernel
theorem dX0_countParted_41 : decode cX0_countParted 41 = .ok (.iinc 3 1, 3) := by decide +kernel
theorem dX0_countParted_44 : decode cX0_countParted 44 = .ok (.goto (-40), 3) := by decide +kernel
theorem dX0_countParted_47 : decode cX0_countParted 47 = .ok (.iload_n 2, 1) := by decide +kernel
theorem dX0_countParted_48 : decode cX0_countParted 48 = .ok (.ireturn, 1) := by decide +kernel
theorem dX1_init_0 : decode cX1_init 0 = .ok (.aload_n 0, 1) := by decide +kernel
theorem dX1_init_1 : decode cX1_init 1 = .ok (.invokespecial 3, 3) := by decide +kernel
theorem dX1_init_4 : decode cX1_init 4 = .ok (.aload_n 0, 1) := by decide +kernel
theorem dX1_init_5 : decode cX1_init 5 = .ok (.bipush 12, 2) := by decide +kernel
theorem dX1_init_7 : decode cX1_init 7 = .ok (.bipush 60, 2) := by decide +kernel
theorem dX1_init_9 : decode cX1_init 9 = .ok (.multianewarray 11 2, 4) := by decide +kernel
theorem dX1_init_13 : decode cX1_init 13 = .ok (.putfield 13, 3) := by decide +kernel
theorem dX1_init_16 : decode cX1_init 16 = .ok (.aload_n 0, 1) := by decide +kernel
theorem dX1_init_17 : decode cX1_init 17 = .ok (.bipush 12, 2) := by decide +kernel
theorem dX1_init_19 : decode cX1_init 19 = .ok (.newarray .int, 2) := by decide +kernel
theorem dX1_init_21 : decode cX1_init 21 = .ok (.putfield 16, 3) := by decide +kernel
theorem dX1_init_24 : decode cX1_init 24 = .ok (.aload_n 0, 1) := by decide +kernel
theorem dX1_init_25 : decode cX1_init 25 = .ok (.bipush 12, 2) := by decide +kernel
theorem dX1_init_27 : decode cX1_init 27 = .ok (.bipush 60, 2) := by decide +kernel
theorem dX1_init_29 : decode cX1_init 29 = .ok (.multianewarray 11 2, 4) := by decide +kernel
theorem dX1_init_33 : decode cX1_init 33 = .ok (.putfield 20, 3) := by decide +kernel
theorem dX1_init_36 : decode cX1_init 36 = .ok (.return_, 1) := by decide +kernel
theorem dX1_keyAt_0 : decode cX1_keyAt 0 = .ok (.aload_n 0, 1) := by decide +kernel
theorem dX1_keyAt_1 : decode cX1_keyAt 1 = .ok (.getfield 13, 3) := by decide +kernel
theorem dX1_keyAt_4 : decode cX1_keyAt 4 = .ok (.iload_n 1, 1) := by decide +kernel
theorem dX1_keyAt_5 : decode cX1_keyAt 5 = .ok (.aaload, 1) := by decide +kernel
theorem dX1_keyAt_6 : decode cX1_keyAt 6 = .ok (.iload_n 2, 1) := by decide +kernel
theorem dX1_keyAt_7 : decode cX1_keyAt 7 = .ok (.iaload, 1) := by decide +kernel
theorem dX1_keyAt_8 : decode cX1_keyAt 8 = .ok (.ireturn, 1) := by decide +kernel
theorem dX1_listHolds_0 : decode cX1_listHolds 0 = .ok (.aload_n 0, 1) := by decide +kernel
theorem dX1_listHolds_1 : decode cX1_listHolds 1 = .ok (.getfield 16, 3) := by decide +kernel
theorem dX1_listHolds_4 : decode cX1_listHolds 4 = .ok (.iload_n 3, 1) := by decide +kernel
theorem dX1_listHolds_5 : decode cX1_listHolds 5 = .ok (.iconst 0, 1) := by decide +kernel
theorem dX1_listHolds_6 : decode cX1_listHolds 6 = .ok (.iastore, 1) := by decide +kernel
theorem dX1_listHolds_7 : decode cX1_listHolds 7 = .ok (.aload_n 2, 1) := by decide +kernel
theorem dX1_listHolds_8 : decode cX1_listHolds 8 = .ok (.iload_n 3, 1) := by decide +kernel
theorem dX1_listHolds_9 : decode cX1_listHolds 9 = .ok (.invokevirtual 23, 3) := by decide +kernel
theorem dX1_listHolds_12 : decode cX1_listHolds 12 = .ok (.ifCond .eq 85, 3) := by decide +kernel
theorem dX1_listHolds_15 : decode cX1_listHolds 15 = .ok (.iconst 0, 1) := by decide +kernel
theorem dX1_listHolds_16 : decode cX1_listHolds 16 = .ok (.istore 4, 2) := by decide +kernel
theorem dX1_listHolds_18 : decode cX1_listHolds 18 = .ok (.iload 4, 2) := by decide +kernel
theorem dX1_listHolds_20 : decode cX1_listHolds 20 = .ok (.iconst 1, 1) := by decide +kernel
theorem dX1_listHolds_21 : decode cX1_listHolds 21 = .ok (.iadd, 1) := by decide +kernel
theorem dX1_listHolds_22 : decode cX1_listHolds 22 = .ok (.iconst 4, 1) := by decide +kernel
theorem dX1_listHolds_23 : decode cX1_listHolds 23 = .ok (.if_icmp .ge 71, 3) := by decide +kernel
theorem dX1_listHolds_26 : decode cX1_listHolds 26 = .ok (.aload_n 0, 1) := by decide +kernel
theorem dX1_listHolds_27 : decode cX1_listHolds 27 = .ok (.iload_n 3, 1) := by decide +kernel
theorem dX1_listHolds_28 : decode cX1_listHolds 28 = .ok (.iload 4, 2) := by decide +kernel
theorem dX1_listHolds_30 : decode cX1_listHolds 30 = .ok (.aload_n 2, 1) := by decide +kernel
theorem dX1_listHolds_31 : decode cX1_listHolds 31 = .ok (.getfield 29, 3) := by decide +kernel
theorem dX1_listHolds_34 : decode cX1_listHolds 34 = .ok (.iload_n 3, 1) := by decide +kernel
theorem dX1_listHolds_35 : decode cX1_listHolds 35 = .ok (.iaload, 1) := by decide +kernel
theorem dX1_listHolds_36 : decode cX1_listHolds 36 = .ok (.aload_n 1, 1) := by decide +kernel
theorem dX1_listHolds_37 : decode cX1_listHolds 37 = .ok (.iload 4, 2) := by decide +kernel
theorem dX1_listHolds_39 : decode cX1_listHolds 39 = .ok (.iaload, 1) := by decide +kernel
theorem dX1_listHolds_40 : decode cX1_listHolds 40 = .ok (.isub, 1) := by decide +kernel
theorem dX1_listHolds_41 : decode cX1_listHolds 41 = .ok (.aload_n 2, 1) := by decide +kernel
theorem dX1_listHolds_42 : decode cX1_listHolds 42 = .ok (.getfield 32, 3) := by decide +kernel
theorem dX1_listHolds_45 : decode cX1_listHolds 45 = .ok (.iload_n 3, 1) := by decide +kernel
theorem dX1_listHolds_46 : decode cX1_listHolds 46 = .ok (.iaload, 1) := by decide +kernel
theorem dX1_listHolds_47 : decode cX1_listHolds 47 = .ok (.aload_n 1, 1) := by decide +kernel
theorem dX1_listHolds_48 : decode cX1_listHolds 48 = .ok (.iload 4, 2) := by decide +kernel
theorem dX1_listHolds_50 : decode cX1_listHolds 50 = .ok (.iconst 1, 1) := by decide +kernel
theorem dX1_listHolds_51 : decode cX1_listHolds 51 = .ok (.iadd, 1) := by decide +kernel
theorem dX1_listHolds_52 : decode cX1_listHolds 52 = .ok (.iaload, 1) := by decide +kernel
theorem dX1_listHolds_53 : decode cX1_listHolds 53 = .ok (.isub, 1) := by decide +kernel
theorem dX1_listHolds_54 : decode cX1_listHolds 54 = .ok (.invokevirtual 35, 3) := by decide +kernel
theorem dX1_listHolds_57 : decode cX1_listHolds 57 = .ok (.aload_n 0, 1) := by decide +kernel
theorem dX1_listHolds_58 : decode cX1_listHolds 58 = .ok (.iload_n 3, 1) := by decide +kernel
theorem dX1_listHolds_59 : decode cX1_listHolds 59 = .ok (.iload 4, 2) := by decide +kernel
theorem dX1_listHolds_61 : decode cX1_listHolds 61 = .ok (.aload_n 2, 1) := by decide +kernel
theorem dX1_listHolds_62 : decode cX1_listHolds 62 = .ok (.getfield 32, 3) := by decide +kernel
theorem dX1_listHolds_65 : decode cX1_listHolds 65 = .ok (.iload_n 3, 1) := by decide +kernel
theorem dX1_listHolds_66 : decode cX1_listHolds 66 = .ok (.iaload, 1) := by decide +kernel
theorem dX1_listHolds_67 : decode cX1_listHolds 67 = .ok (.aload_n 1, 1) := by decide +kernel
theorem dX1_listHolds_68 : decode cX1_listHolds 68 = .ok (.iload 4, 2) := by decide +kernel
theorem dX1_listHolds_70 : decode cX1_listHolds 70 = .ok (.iaload, 1) := by decide +kernel
theorem dX1_listHolds_71 : decode cX1_listHolds 71 = .ok (.isub, 1) := by decide +kernel
theorem dX1_listHolds_72 : decode cX1_listHolds 72 = .ok (.aload_n 2, 1) := by decide +kernel
theorem dX1_listHolds_73 : decode cX1_listHolds 73 = .ok (.getfield 29, 3) := by decide +kernel
theorem dX1_listHolds_76 : decode cX1_listHolds 76 = .ok (.iload_n 3, 1) := by decide +kernel
theorem dX1_listHolds_77 : decode cX1_listHolds 77 = .ok (.iaload, 1) := by decide +kernel
theorem dX1_listHolds_78 : decode cX1_listHolds 78 = .ok (.aload_n 1, 1) := by decide +kernel
theorem dX1_listHolds_79 : decode cX1_listHolds 79 = .ok (.iload 4, 2) := by decide +kernel
theorem dX1_listHolds_81 : decode cX1_listHolds 81 = .ok (.iconst 1, 1) := by decide +kernel
theorem dX1_listHolds_82 : decode cX1_listHolds 82 = .ok (.iadd, 1) := by decide +kernel
theorem dX1_listHolds_83 : decode cX1_listHolds 83 = .ok (.iaload, 1) := by decide +kernel
theorem dX1_listHolds_84 : decode cX1_listHolds 84 = .ok (.isub, 1) := by decide +kernel
theorem dX1_listHolds_85 : decode cX1_listHolds 85 = .ok (.invokevirtual 35, 3) := by decide +kernel
theorem dX1_listHolds_88 : decode cX1_listHolds 88 = .ok (.iinc 4 1, 3) := by decide +kernel
theorem dX1_listHolds_91 : decode cX1_listHolds 91 = .ok (.goto (-73), 3) := by decide +kernel
theorem dX1_listHolds_94 : decode cX1_listHolds 94 = .ok (.goto 36, 3) := by decide +kernel
theorem dX1_listHolds_97 : decode cX1_listHolds 97 = .ok (.iconst 0, 1) := by decide +kernel
theorem dX1_listHolds_98 : decode cX1_listHolds 98 = .ok (.istore 4, 2) := by decide +kernel
theorem dX1_listHolds_100 : decode cX1_listHolds 100 = .ok (.iload 4, 2) := by decide +kernel
theorem dX1_listHolds_102 : decode cX1_listHolds 102 = .ok (.iconst 4, 1) := by decide +kernel
theorem dX1_listHolds_103 : decode cX1_listHolds 103 = .ok (.if_icmp .ge 27, 3) := by decide +kernel
theorem dX1_listHolds_106 : decode cX1_listHolds 106 = .ok (.aload_n 0, 1) := by decide +kernel
theorem dX1_listHolds_107 : decode cX1_listHolds 107 = .ok (.iload_n 3, 1) := by decide +kernel
theorem dX1_listHolds_108 : decode cX1_listHolds 108 = .ok (.iload 4, 2) := by decide +kernel
theorem dX1_listHolds_110 : decode cX1_listHolds 110 = .ok (.aload_n 2, 1) := by decide +kernel
theorem dX1_listHolds_111 : decode cX1_listHolds 111 = .ok (.getfield 29, 3) := by decide +kernel
theorem dX1_listHolds_114 : decode cX1_listHolds 114 = .ok (.iload_n 3, 1) := by decide +kernel
theorem dX1_listHolds_115 : decode cX1_listHolds 115 = .ok (.iaload, 1) := by decide +kernel
theorem dX1_listHolds_116 : decode cX1_listHolds 116 = .ok (.aload_n 1, 1) := by decide +kernel
theorem dX1_listHolds_117 : decode cX1_listHolds 117 = .ok (.iload 4, 2) := by decide +kernel
theorem dX1_listHolds_119 : decode cX1_listHolds 119 = .ok (.iaload, 1) := by decide +kernel
theorem dX1_listHolds_120 : decode cX1_listHolds 120 = .ok (.isub, 1) := by decide +kernel
theorem dX1_listHolds_121 : decode cX1_listHolds 121 = .ok (.invokevirtual 39, 3) := by decide +kernel
theorem dX1_listHolds_124 : decode cX1_listHolds 124 = .ok (.iinc 4 1, 3) := by decide +kernel
theorem dX1_listHolds_127 : decode cX1_listHolds 127 = .ok (.goto (-27), 3) := by decide +kernel
theorem dX1_listHolds_130 : decode cX1_listHolds 130 = .ok (.aload_n 0, 1) := by decide +kernel
theorem dX1_listHolds_131 : decode cX1_listHolds 131 = .ok (.getfield 16, 3) := by decide +kernel
theorem dX1_listHolds_134 : decode cX1_listHolds 134 = .ok (.iload_n 3, 1) := by decide +kernel
theorem dX1_listHolds_135 : decode cX1_listHolds 135 = .ok (.iaload, 1) := by decide +kernel
theorem dX1_listHolds_136 : decode cX1_listHolds 136 = .ok (.ireturn, 1) := by decide +kernel
theorem dX1_listSingles_0 : decode cX1_listSingles 0 = .ok (.iconst 0, 1) := by decide +kernel
theorem dX1_listSingles_1 : decode cX1_listSingles 1 = .ok (.istore 4, 2) := by decide +kernel
theorem dX1_listSingles_3 : decode cX1_listSingles 3 = .ok (.iload 4, 2) := by decide +kernel
theorem dX1_listSingles_5 : decode cX1_listSingles 5 = .ok (.bipush 10, 2) := by decide +kernel
theorem dX1_listSingles_7 : decode cX1_listSingles 7 = .ok (.if_icmp .ge 36, 3) := by decide +kernel
theorem dX1_listSingles_10 : decode cX1_listSingles 10 = .ok (.iload 4, 2) := by decide +kernel
theorem dX1_listSingles_12 : decode cX1_listSingles 12 = .ok (.iload_n 3, 1) := by decide +kernel
theorem dX1_listSingles_13 : decode cX1_listSingles 13 = .ok (.invokestatic 45, 3) := by decide +kernel
theorem dX1_listSingles_16 : decode cX1_listSingles 16 = .ok (.istore 5, 2) := by decide +kernel
theorem dX1_listSingles_18 : decode cX1_listSingles 18 = .ok (.iload 5, 2) := by decide +kernel
theorem dX1_listSingles_20 : decode cX1_listSingles 20 = .ok (.ifCond .lt 17, 3) := by decide +kernel
theorem dX1_listSingles_23 : decode cX1_listSingles 23 = .ok (.aload_n 0, 1) := by decide +kernel
theorem dX1_listSingles_24 : decode cX1_listSingles 24 = .ok (.iload_n 1, 1) := by decide +kernel
theorem dX1_listSingles_25 : decode cX1_listSingles 25 = .ok (.iload_n 2, 1) := by decide +kernel
theorem dX1_listSingles_26 : decode cX1_listSingles 26 = .ok (.iload 5, 2) := by decide +kernel
theorem dX1_listSingles_28 : decode cX1_listSingles 28 = .ok (.iload 4, 2) := by decide +kernel
theorem dX1_listSingles_30 : decode cX1_listSingles 30 = .ok (.iconst 0, 1) := by decide +kernel
theorem dX1_listSingles_31 : decode cX1_listSingles 31 = .ok (.invokestatic 49, 3) := by decide +kernel
theorem dX1_listSingles_34 : decode cX1_listSingles 34 = .ok (.invokevirtual 55, 3) := by decide +kernel
theorem dX1_listSingles_37 : decode cX1_listSingles 37 = .ok (.iinc 4 1, 3) := by decide +kernel
theorem dX1_listSingles_40 : decode cX1_listSingles 40 = .ok (.goto (-37), 3) := by decide +kernel
theorem dX1_listSingles_43 : decode cX1_listSingles 43 = .ok (.return_, 1) := by decide +kernel
theorem dX1_listPairs_0 : decode cX1_listPairs 0 = .ok (.iconst 0, 1) := by decide +kernel
theorem dX1_listPairs_1 : decode cX1_listPairs 1 = .ok (.istore 5, 2) := by decide +kernel
theorem dX1_listPairs_3 : decode cX1_listPairs 3 = .ok (.iload 5, 2) := by decide +kernel
theorem dX1_listPairs_5 : decode cX1_listPairs 5 = .ok (.bipush 10, 2) := by decide +kernel
theorem dX1_listPairs_7 : decode cX1_listPairs 7 = .ok (.if_icmp .ge 86, 3) := by decide +kernel
theorem dX1_listPairs_10 : decode cX1_listPairs 10 = .ok (.iload 5, 2) := by decide +kernel
theorem dX1_listPairs_12 : decode cX1_listPairs 12 = .ok (.iload_n 3, 1) := by decide +kernel
theorem dX1_listPairs_13 : decode cX1_listPairs 13 = .ok (.invokestatic 45, 3) := by decide +kernel
theorem dX1_listPairs_16 : decode cX1_listPairs 16 = .ok (.istore 6, 2) := by decide +kernel
theorem dX1_listPairs_18 : decode cX1_listPairs 18 = .ok (.iconst 0, 1) := by decide +kernel
theorem dX1_listPairs_19 : decode cX1_listPairs 19 = .ok (.istore 7, 2) := by decide +kernel
theorem dX1_listPairs_21 : decode cX1_listPairs 21 = .ok (.iload 6, 2) := by decide +kernel
theorem dX1_listPairs_23 : decode cX1_listPairs 23 = .ok (.ifCond .lt 64, 3) := by decide +kernel
theorem dX1_listPairs_26 : decode cX1_listPairs 26 = .ok (.iload 7, 2) := by decide +kernel
theorem dX1_listPairs_28 : decode cX1_listPairs 28 = .ok (.bipush 10, 2) := by decide +kernel
theorem dX1_listPairs_30 : decode cX1_listPairs 30 = .ok (.if_icmp .ge 57, 3) := by decide +kernel
theorem dX1_listPairs_33 : decode cX1_listPairs 33 = .ok (.iload 7, 2) := by decide +kernel
theorem dX1_listPairs_35 : decode cX1_listPairs 35 = .ok (.iload 4, 2) := by decide +kernel
theorem dX1_listPairs_37 : decode cX1_listPairs 37 = .ok (.invokestatic 45, 3) := by decide +kernel
theorem dX1_listPairs_40 : decode cX1_listPairs 40 = .ok (.istore 8, 2) := by decide +kernel
theorem dX1_listPairs_42 : decode cX1_listPairs 42 = .ok (.iload 8, 2) := by decide +kernel
theorem dX1_listPairs_44 : decode cX1_listPairs 44 = .ok (.ifCond .lt 37, 3) := by decide +kernel
theorem dX1_listPairs_47 : decode cX1_listPairs 47 = .ok (.iload 5, 2) := by decide +kernel
theorem dX1_listPairs_49 : decode cX1_listPairs 49 = .ok (.iload 6, 2) := by decide +kernel
theorem dX1_listPairs_51 : decode cX1_listPairs 51 = .ok (.iload 7, 2) := by decide +kernel
theorem dX1_listPairs_53 : decode cX1_listPairs 53 = .ok (.iload 8, 2) := by decide +kernel
theorem dX1_listPairs_55 : decode cX1_listPairs 55 = .ok (.invokestatic 59, 3) := by decide +kernel
theorem dX1_listPairs_58 : decode cX1_listPairs 58 = .ok (.ifCond .eq 23, 3) := by decide +kernel
theorem dX1_listPairs_61 : decode cX1_listPairs 61 = .ok (.aload_n 0, 1) := by decide +kernel
theorem dX1_listPairs_62 : decode cX1_listPairs 62 = .ok (.iload_n 1, 1) := by decide +kernel
theorem dX1_listPairs_63 : decode cX1_listPairs 63 = .ok (.iload_n 2, 1) := by decide +kernel
theorem dX1_listPairs_64 : decode cX1_listPairs 64 = .ok (.iload 6, 2) := by decide +kernel
theorem dX1_listPairs_66 : decode cX1_listPairs 66 = .ok (.iload 8, 2) := by decide +kernel
theorem dX1_listPairs_68 : decode cX1_listPairs 68 = .ok (.invokestatic 63, 3) := by decide +kernel
theorem dX1_listPairs_71 : decode cX1_listPairs 71 = .ok (.iload 5, 2) := by decide +kernel
theorem dX1_listPairs_73 : decode cX1_listPairs 73 = .ok (.iload 7, 2) := by decide +kernel
theorem dX1_listPairs_75 : decode cX1_listPairs 75 = .ok (.invokestatic 49, 3) := by decide +kernel
theorem dX1_listPairs_78 : decode cX1_listPairs 78 = .ok (.invokevirtual 55, 3) := by decide +kernel
theorem dX1_listPairs_81 : decode cX1_listPairs 81 = .ok (.iinc 7 1, 3) := by decide +kernel
theorem dX1_listPairs_84 : decode cX1_listPairs 84 = .ok (.goto (-63), 3) := by decide +kernel
theorem dX1_listPairs_87 : decode cX1_listPairs 87 = .ok (.iinc 5 1, 3) := by decide +kernel
theorem dX1_listPairs_90 : decode cX1_listPairs 90 = .ok (.goto (-87), 3) := by decide +kernel
theorem dX1_listPairs_93 : decode cX1_listPairs 93 = .ok (.return_, 1) := by decide +kernel
theorem dX1_insert_0 : decode cX1_insert 0 = .ok (.aload_n 0, 1) := by decide +kernel
theorem dX1_insert_1 : decode cX1_insert 1 = .ok (.getfield 13, 3) := by decide +kernel
theorem dX1_insert_4 : decode cX1_insert 4 = .ok (.iload_n 1, 1) := by decide +kernel
theorem dX1_insert_5 : decode cX1_insert 5 = .ok (.aaload, 1) := by decide +kernel
theorem dX1_insert_6 : decode cX1_insert 6 = .ok (.astore_n 3, 1) := by decide +kernel
theorem dX1_insert_7 : decode cX1_insert 7 = .ok (.aload_n 0, 1) := by decide +kernel
theorem dX1_insert_8 : decode cX1_insert 8 = .ok (.getfield 16, 3) := by decide +kernel
theorem dX1_insert_11 : decode cX1_insert 11 = .ok (.iload_n 1, 1) := by decide +kernel
theorem dX1_insert_12 : decode cX1_insert 12 = .ok (.iaload, 1) := by decide +kernel
theorem dX1_insert_13 : decode cX1_insert 13 = .ok (.istore 4, 2) := by decide +kernel
theorem dX1_insert_15 : decode cX1_insert 15 = .ok (.iload 4, 2) := by decide +kernel
theorem dX1_insert_17 : decode cX1_insert 17 = .ok (.bipush 60, 2) := by decide +kernel
theorem dX1_insert_19 : decode cX1_insert 19 = .ok (.if_icmp .lt 4, 3) := by decide +kernel
theorem dX1_insert_22 : decode cX1_insert 22 = .ok (.return_, 1) := by decide +kernel
theorem dX1_insert_23 : decode cX1_insert 23 = .ok (.iload 4, 2) := by decide +kernel
theorem dX1_insert_25 : decode cX1_insert 25 = .ok (.ifCond .le 29, 3) := by decide +kernel
theorem dX1_insert_28 : decode cX1_insert 28 = .ok (.aload_n 3, 1) := by decide +kernel
theorem dX1_insert_29 : decode cX1_insert 29 = .ok (.iload 4, 2) := by decide +kernel
theorem dX1_insert_31 : decode cX1_insert 31 = .ok (.iconst 1, 1) := by decide +kernel
theorem dX1_insert_32 : decode cX1_insert 32 = .ok (.isub, 1) := by decide +kernel
theorem dX1_insert_33 : decode cX1_insert 33 = .ok (.iaload, 1) := by decide +kernel
theorem dX1_insert_34 : decode cX1_insert 34 = .ok (.iload_n 2, 1) := by decide +kernel
theorem dX1_insert_35 : decode cX1_insert 35 = .ok (.if_icmp .le 19, 3) := by decide +kernel
theorem dX1_insert_38 : decode cX1_insert 38 = .ok (.aload_n 3, 1) := by decide +kernel
theorem dX1_insert_39 : decode cX1_insert 39 = .ok (.iload 4, 2) := by decide +kernel
theorem dX1_insert_41 : decode cX1_insert 41 = .ok (.aload_n 3, 1) := by decide +kernel
theorem dX1_insert_42 : decode cX1_insert 42 = .ok (.iload 4, 2) := by decide +kernel
theorem dX1_insert_44 : decode cX1_insert 44 = .ok (.iconst 1, 1) := by decide +kernel
theorem dX1_insert_45 : decode cX1_insert 45 = .ok (.isub, 1) := by decide +kernel
theorem dX1_insert_46 : decode cX1_insert 46 = .ok (.iaload, 1) := by decide +kernel
theorem dX1_insert_47 : decode cX1_insert 47 = .ok (.iastore, 1) := by decide +kernel
theorem dX1_insert_48 : decode cX1_insert 48 = .ok (.iinc 4 (-1), 3) := by decide +kernel
theorem dX1_insert_51 : decode cX1_insert 51 = .ok (.goto (-28), 3) := by decide +kernel
theorem dX1_insert_54 : decode cX1_insert 54 = .ok (.aload_n 3, 1) := by decide +kernel
theorem dX1_insert_55 : decode cX1_insert 55 = .ok (.iload 4, 2) := by decide +kernel
theorem dX1_insert_57 : decode cX1_insert 57 = .ok (.iload_n 2, 1) := by decide +kernel
theorem dX1_insert_58 : decode cX1_insert 58 = .ok (.iastore, 1) := by decide +kernel
theorem dX1_insert_59 : decode cX1_insert 59 = .ok (.aload_n 0, 1) := by decide +kernel
theorem dX1_insert_60 : decode cX1_insert 60 = .ok (.getfield 16, 3) := by decide +kernel
theorem dX1_insert_63 : decode cX1_insert 63 = .ok (.iload_n 1, 1) := by decide +kernel
theorem dX1_insert_64 : decode cX1_insert 64 = .ok (.dup2, 1) := by decide +kernel
theorem dX1_insert_65 : decode cX1_insert 65 = .ok (.iaload, 1) := by decide +kernel
theorem dX1_insert_66 : decode cX1_insert 66 = .ok (.iconst 1, 1) := by decide +kernel
theorem dX1_insert_67 : decode cX1_insert 67 = .ok (.iadd, 1) := by decide +kernel
theorem dX1_insert_68 : decode cX1_insert 68 = .ok (.iastore, 1) := by decide +kernel
theorem dX1_insert_69 : decode cX1_insert 69 = .ok (.return_, 1) := by decide +kernel
theorem dX1_findFingering_0 : decode cX1_findFingering 0 = .ok (.aload_n 2, 1) := by decide +kernel
theorem dX1_findFingering_1 : decode cX1_findFingering 1 = .ok (.getfield 68, 3) := by decide +kernel
theorem dX1_findFingering_4 : decode cX1_findFingering 4 = .ok (.ifCond .gt 5, 3) := by decide +kernel
theorem dX1_findFingering_7 : decode cX1_findFingering 7 = .ok (.iconst 0, 1) := by decide +kernel
theorem dX1_findFingering_8 : decode cX1_findFingering 8 = .ok (.ireturn, 1) := by decide +kernel
theorem dX1_findFingering_9 : decode cX1_findFingering 9 = .ok (.aload_n 2, 1) := by decide +kernel
theorem dX1_findFingering_10 : decode cX1_findFingering 10 = .ok (.getfield 68, 3) := by decide +kernel
theorem dX1_findFingering_13 : decode cX1_findFingering 13 = .ok (.iconst 1, 1) := by decide +kernel
theorem dX1_findFingering_14 : decode cX1_findFingering 14 = .ok (.isub, 1) := by decide +kernel
theorem dX1_findFingering_15 : decode cX1_findFingering 15 = .ok (.istore_n 3, 1) := by decide +kernel
theorem dX1_findFingering_16 : decode cX1_findFingering 16 = .ok (.iload_n 3, 1) := by decide +kernel
theorem dX1_findFingering_17 : decode cX1_findFingering 17 = .ok (.ifCond .lt 61, 3) := by decide +kernel
theorem dX1_findFingering_20 : decode cX1_findFingering 20 = .ok (.aload_n 0, 1) := by decide +kernel
theorem dX1_findFingering_21 : decode cX1_findFingering 21 = .ok (.aload_n 1, 1) := by decide +kernel
theorem dX1_findFingering_22 : decode cX1_findFingering 22 = .ok (.aload_n 2, 1) := by decide +kernel
theorem dX1_findFingering_23 : decode cX1_findFingering 23 = .ok (.iload_n 3, 1) := by decide +kernel
theorem dX1_findFingering_24 : decode cX1_findFingering 24 = .ok (.invokevirtual 72, 3) := by decide +kernel
theorem dX1_findFingering_27 : decode cX1_findFingering 27 = .ok (.pop, 1) := by decide +kernel
theorem dX1_findFingering_28 : decode cX1_findFingering 28 = .ok (.iconst 0, 1) := by decide +kernel
theorem dX1_findFingering_29 : decode cX1_findFingering 29 = .ok (.istore 4, 2) := by decide +kernel
theorem dX1_findFingering_31 : decode cX1_findFingering 31 = .ok (.iload 4, 2) := by decide +kernel
theorem dX1_findFingering_33 : decode cX1_findFingering 33 = .ok (.aload_n 0, 1) := by decide +kernel
theorem dX1_findFingering_34 : decode cX1_findFingering 34 = .ok (.getfield 16, 3) := by decide +kernel
theorem dX1_findFingering_37 : decode cX1_findFingering 37 = .ok (.iload_n 3, 1) := by decide +kernel
theorem dX1_findFingering_38 : decode cX1_findFingering 38 = .ok (.iaload, 1) := by decide +kernel
theorem dX1_findFingering_39 : decode cX1_findFingering 39 = .ok (.if_icmp .ge 33, 3) := by decide +kernel
theorem dX1_findFingering_42 : decode cX1_findFingering 42 = .ok (.aload_n 0, 1) := by decide +kernel
theorem dX1_findFingering_43 : decode cX1_findFingering 43 = .ok (.getfield 20, 3) := by decide +kernel
theorem dX1_findFingering_46 : decode cX1_findFingering 46 = .ok (.iload_n 3, 1) := by decide +kernel
theorem dX1_findFingering_47 : decode cX1_findFingering 47 = .ok (.aaload, 1) := by decide +kernel
theorem dX1_findFingering_48 : decode cX1_findFingering 48 = .ok (.iload 4, 2) := by decide +kernel
theorem dX1_findFingering_50 : decode cX1_findFingering 50 = .ok (.aload_n 0, 1) := by decide +kernel
theorem dX1_findFingering_51 : decode cX1_findFingering 51 = .ok (.aload_n 2, 1) := by decide +kernel
theorem dX1_findFingering_52 : decode cX1_findFingering 52 = .ok (.iload_n 3, 1) := by decide +kernel
theorem dX1_findFingering_53 : decode cX1_findFingering 53 = .ok (.aload_n 0, 1) := by decide +kernel
theorem dX1_findFingering_54 : decode cX1_findFingering 54 = .ok (.getfield 13, 3) := by decide +kernel
theorem dX1_findFingering_57 : decode cX1_findFingering 57 = .ok (.iload_n 3, 1) := by decide +kernel
theorem dX1_findFingering_58 : decode cX1_findFingering 58 = .ok (.aaload, 1) := by decide +kernel
theorem dX1_findFingering_59 : decode cX1_findFingering 59 = .ok (.iload 4, 2) := by decide +kernel
theorem dX1_findFingering_61 : decode cX1_findFingering 61 = .ok (.iaload, 1) := by decide +kernel
theorem dX1_findFingering_62 : decode cX1_findFingering 62 = .ok (.invokevirtual 76, 3) := by decide +kernel
theorem dX1_findFingering_65 : decode cX1_findFingering 65 = .ok (.iastore, 1) := by decide +kernel
theorem dX1_findFingering_66 : decode cX1_findFingering 66 = .ok (.iinc 4 1, 3) := by decide +kernel
theorem dX1_findFingering_69 : decode cX1_findFingering 69 = .ok (.goto (-38), 3) := by decide +kernel
theorem dX1_findFingering_72 : decode cX1_findFingering 72 = .ok (.iinc 3 (-1), 3) := by decide +kernel
theorem dX1_findFingering_75 : decode cX1_findFingering 75 = .ok (.goto (-59), 3) := by decide +kernel
theorem dX1_findFingering_78 : decode cX1_findFingering 78 = .ok (.aload_n 0, 1) := by decide +kernel
theorem dX1_findFingering_79 : decode cX1_findFingering 79 = .ok (.invokevirtual 80, 3) := by decide +kernel
theorem dX1_findFingering_82 : decode cX1_findFingering 82 = .ok (.istore_n 3, 1) := by decide +kernel
theorem dX1_findFingering_83 : decode cX1_findFingering 83 = .ok (.iload_n 3, 1) := by decide +kernel
theorem dX1_findFingering_84 : decode cX1_findFingering 84 = .ok (.ifCond .ge 6, 3) := by decide +kernel
theorem dX1_findFingering_87 : decode cX1_findFingering 87 = .ok (.ldc 84, 2) := by decide +kernel
theorem dX1_findFingering_89 : decode cX1_findFingering 89 = .ok (.ireturn, 1) := by decide +kernel
theorem dX1_findFingering_90 : decode cX1_findFingering 90 = .ok (.aload_n 2, 1) := by decide +kernel
theorem dX1_findFingering_91 : decode cX1_findFingering 91 = .ok (.getfield 85, 3) := by decide +kernel
theorem dX1_findFingering_94 : decode cX1_findFingering 94 = .ok (.iconst 0, 1) := by decide +kernel
theorem dX1_findFingering_95 : decode cX1_findFingering 95 = .ok (.aload_n 0, 1) := by decide +kernel
theorem dX1_findFingering_96 : decode cX1_findFingering 96 = .ok (.getfield 13, 3) := by decide +kernel
theorem dX1_findFingering_99 : decode cX1_findFingering 99 = .ok (.iconst 0, 1) := by decide +kernel
theorem dX1_findFingering_100 : decode cX1_findFingering 100 = .ok (.aaload, 1) := by decide +kernel
theorem dX1_findFingering_101 : decode cX1_findFingering 101 = .ok (.iload_n 3, 1) := by decide +kernel
theorem dX1_findFingering_102 : decode cX1_findFingering 102 = .ok (.iaload, 1) := by decide +kernel
theorem dX1_findFingering_103 : decode cX1_findFingering 103 = .ok (.iastore, 1) := by decide +kernel
theorem dX1_findFingering_104 : decode cX1_findFingering 104 = .ok (.iconst 1, 1) := by decide +kernel
theorem dX1_findFingering_105 : decode cX1_findFingering 105 = .ok (.istore 4, 2) := by decide +kernel
theorem dX1_findFingering_107 : decode cX1_findFingering 107 = .ok (.iload 4, 2) := by decide +kernel
theorem dX1_findFingering_109 : decode cX1_findFingering 109 = .ok (.aload_n 2, 1) := by decide +kernel
theorem dX1_findFingering_110 : decode cX1_findFingering 110 = .ok (.getfield 68, 3) := by decide +kernel
theorem dX1_findFingering_113 : decode cX1_findFingering 113 = .ok (.if_icmp .ge 32, 3) := by decide +kernel
theorem dX1_findFingering_116 : decode cX1_findFingering 116 = .ok (.aload_n 2, 1) := by decide +kernel
theorem dX1_findFingering_117 : decode cX1_findFingering 117 = .ok (.getfield 85, 3) := by decide +kernel
theorem dX1_findFingering_120 : decode cX1_findFingering 120 = .ok (.iload 4, 2) := by decide +kernel
theorem dX1_findFingering_122 : decode cX1_findFingering 122 = .ok (.aload_n 0, 1) := by decide +kernel
theorem dX1_findFingering_123 : decode cX1_findFingering 123 = .ok (.aload_n 2, 1) := by decide +kernel
theorem dX1_findFingering_124 : decode cX1_findFingering 124 = .ok (.iload 4, 2) := by decide +kernel
theorem dX1_findFingering_126 : decode cX1_findFingering 126 = .ok (.aload_n 2, 1) := by decide +kernel
theorem dX1_findFingering_127 : decode cX1_findFingering 127 = .ok (.getfield 85, 3) := by decide +kernel
theorem dX1_findFingering_130 : decode cX1_findFingering 130 = .ok (.iload 4, 2) := by decide +kernel
theorem dX1_findFingering_132 : decode cX1_findFingering 132 = .ok (.iconst 1, 1) := by decide +kernel
theorem dX1_findFingering_133 : decode cX1_findFingering 133 = .ok (.isub, 1) := by decide +kernel
theorem dX1_findFingering_134 : decode cX1_findFingering 134 = .ok (.iaload, 1) := by decide +kernel
theorem dX1_findFingering_135 : decode cX1_findFingering 135 = .ok (.invokevirtual 88, 3) := by decide +kernel
theorem dX1_findFingering_138 : decode cX1_findFingering 138 = .ok (.iastore, 1) := by decide +kernel
theorem dX1_findFingering_139 : decode cX1_findFingering 139 = .ok (.iinc 4 1, 3) := by decide +kernel
theorem dX1_findFingering_142 : decode cX1_findFingering 142 = .ok (.goto (-35), 3) := by decide +kernel
theorem dX1_findFingering_145 : decode cX1_findFingering 145 = .ok (.aload_n 0, 1) := by decide +kernel
theorem dX1_findFingering_146 : decode cX1_findFingering 146 = .ok (.getfield 20, 3) := by decide +kernel
theorem dX1_findFingering_149 : decode cX1_findFingering 149 = .ok (.iconst 0, 1) := by decide +kernel
theorem dX1_findFingering_150 : decode cX1_findFingering 150 = .ok (.aaload, 1) := by decide +kernel
theorem dX1_findFingering_151 : decode cX1_findFingering 151 = .ok (.iload_n 3, 1) := by decide +kernel
theorem dX1_findFingering_152 : decode cX1_findFingering 152 = .ok (.iaload, 1) := by decide +kernel
theorem dX1_findFingering_153 : decode cX1_findFingering 153 = .ok (.ireturn, 1) := by decide +kernel
theorem dX1_costFrom_0 : decode cX1_costFrom 0 = .ok (.iload_n 2, 1) := by decide +kernel
theorem dX1_costFrom_1 : decode cX1_costFrom 1 = .ok (.iconst 1, 1) := by decide +kernel
theorem dX1_costFrom_2 : decode cX1_costFrom 2 = .ok (.iadd, 1) := by decide +kernel
theorem dX1_costFrom_3 : decode cX1_costFrom 3 = .ok (.istore 4, 2) := by decide +kernel
theorem dX1_costFrom_5 : decode cX1_costFrom 5 = .ok (.iconst 0, 1) := by decide +kernel
theorem dX1_costFrom_6 : decode cX1_costFrom 6 = .ok (.istore 5, 2) := by decide +kernel
theorem dX1_costFrom_8 : decode cX1_costFrom 8 = .ok (.iload 4, 2) := by decide +kernel
theorem dX1_costFrom_10 : decode cX1_costFrom 10 = .ok (.aload_n 1, 1) := by decide +kernel
theorem dX1_costFrom_11 : decode cX1_costFrom 11 = .ok (.getfield 68, 3) := by decide +kernel
theorem dX1_costFrom_14 : decode cX1_costFrom 14 = .ok (.if_icmp .ge 67, 3) := by decide +kernel
theorem dX1_costFrom_17 : decode cX1_costFrom 17 = .ok (.ldc 84, 2) := by decide +kernel
theorem dX1_costFrom_19 : decode cX1_costFrom 19 = .ok (.istore 5, 2) := by decide +kernel
theorem dX1_costFrom_21 : decode cX1_costFrom 21 = .ok (.iconst 0, 1) := by decide +kernel
theorem dX1_costFrom_22 : decode cX1_costFrom 22 = .ok (.istore 6, 2) := by decide +kernel
theorem dX1_costFrom_24 : decode cX1_costFrom 24 = .ok (.iload 6, 2) := by decide +kernel
theorem dX1_costFrom_26 : decode cX1_costFrom 26 = .ok (.aload_n 0, 1) := by decide +kernel
theorem dX1_costFrom_27 : decode cX1_costFrom 27 = .ok (.getfield 16, 3) := by decide +kernel
theorem dX1_costFrom_30 : decode cX1_costFrom 30 = .ok (.iload 4, 2) := by decide +kernel
theorem dX1_costFrom_32 : decode cX1_costFrom 32 = .ok (.iaload, 1) := by decide +kernel
theorem dX1_costFrom_33 : decode cX1_costFrom 33 = .ok (.if_icmp .ge 48, 3) := by decide +kernel
theorem dX1_costFrom_36 : decode cX1_costFrom 36 = .ok (.iload 5, 2) := by decide +kernel
theorem dX1_costFrom_38 : decode cX1_costFrom 38 = .ok (.aload_n 0, 1) := by decide +kernel
theorem dX1_costFrom_39 : decode cX1_costFrom 39 = .ok (.getfield 20, 3) := by decide +kernel
theorem dX1_costFrom_42 : decode cX1_costFrom 42 = .ok (.iload 4, 2) := by decide +kernel
theorem dX1_costFrom_44 : decode cX1_costFrom 44 = .ok (.aaload, 1) := by decide +kernel
theorem dX1_costFrom_45 : decode cX1_costFrom 45 = .ok (.iload 6, 2) := by decide +kernel
theorem dX1_costFrom_47 : decode cX1_costFrom 47 = .ok (.iaload, 1) := by decide +kernel
theorem dX1_costFrom_48 : decode cX1_costFrom 48 = .ok (.iload_n 3, 1) := by decide +kernel
theorem dX1_costFrom_49 : decode cX1_costFrom 49 = .ok (.aload_n 0, 1) := by decide +kernel
theorem dX1_costFrom_50 : decode cX1_costFrom 50 = .ok (.getfield 13, 3) := by decide +kernel
theorem dX1_costFrom_53 : decode cX1_costFrom 53 = .ok (.iload 4, 2) := by decide +kernel
theorem dX1_costFrom_55 : decode cX1_costFrom 55 = .ok (.aaload, 1) := by decide +kernel
theorem dX1_costFrom_56 : decode cX1_costFrom 56 = .ok (.iload 6, 2) := by decide +kernel
theorem dX1_costFrom_58 : decode cX1_costFrom 58 = .ok (.iaload, 1) := by decide +kernel
theorem dX1_costFrom_59 : decode cX1_costFrom 59 = .ok (.aload_n 1, 1) := by decide +kernel
theorem dX1_costFrom_60 : decode cX1_costFrom 60 = .ok (.getfield 91, 3) := by decide +kernel
theorem dX1_costFrom_63 : decode cX1_costFrom 63 = .ok (.iload 4, 2) := by decide +kernel
theorem dX1_costFrom_65 : decode cX1_costFrom 65 = .ok (.iaload, 1) := by decide +kernel
theorem dX1_costFrom_66 : decode cX1_costFrom 66 = .ok (.invokestatic 94, 3) := by decide +kernel
theorem dX1_costFrom_69 : decode cX1_costFrom 69 = .ok (.iadd, 1) := by decide +kernel
theorem dX1_costFrom_70 : decode cX1_costFrom 70 = .ok (.invokestatic 98, 3) := by decide +kernel
theorem dX1_costFrom_73 : decode cX1_costFrom 73 = .ok (.istore 5, 2) := by decide +kernel
theorem dX1_costFrom_75 : decode cX1_costFrom 75 = .ok (.iinc 6 1, 3) := by decide +kernel
theorem dX1_costFrom_78 : decode cX1_costFrom 78 = .ok (.goto (-54), 3) := by decide +kernel
theorem dX1_costFrom_81 : decode cX1_costFrom 81 = .ok (.ldc 84, 2) := by decide +kernel
theorem dX1_costFrom_83 : decode cX1_costFrom 83 = .ok (.iload 5, 2) := by decide +kernel
theorem dX1_costFrom_85 : decode cX1_costFrom 85 = .ok (.iload_n 3, 1) := by decide +kernel
theorem dX1_costFrom_86 : decode cX1_costFrom 86 = .ok (.invokestatic 101, 3) := by decide +kernel
theorem dX1_costFrom_89 : decode cX1_costFrom 89 = .ok (.iadd, 1) := by decide +kernel
theorem dX1_costFrom_90 : decode cX1_costFrom 90 = .ok (.invokestatic 98, 3) := by decide +kernel
theorem dX1_costFrom_93 : decode cX1_costFrom 93 = .ok (.ireturn, 1) := by decide +kernel
theorem dX1_stepCost_0 : decode cX1_stepCost 0 = .ok (.iload_n 1, 1) := by decide +kernel
theorem dX1_stepCost_1 : decode cX1_stepCost 1 = .ok (.invokestatic 105, 3) := by decide +kernel
theorem dX1_stepCost_4 : decode cX1_stepCost 4 = .ok (.iload_n 0, 1) := by decide +kernel
theorem dX1_stepCost_5 : decode cX1_stepCost 5 = .ok (.invokestatic 105, 3) := by decide +kernel
theorem dX1_stepCost_8 : decode cX1_stepCost 8 = .ok (.isub, 1) := by decide +kernel
theorem dX1_stepCost_9 : decode cX1_stepCost 9 = .ok (.invokestatic 108, 3) := by decide +kernel
theorem dX1_stepCost_12 : decode cX1_stepCost 12 = .ok (.istore_n 3, 1) := by decide +kernel
theorem dX1_stepCost_13 : decode cX1_stepCost 13 = .ok (.iload_n 0, 1) := by decide +kernel
theorem dX1_stepCost_14 : decode cX1_stepCost 14 = .ok (.iload_n 1, 1) := by decide +kernel
theorem dX1_stepCost_15 : decode cX1_stepCost 15 = .ok (.invokestatic 111, 3) := by decide +kernel
theorem dX1_stepCost_18 : decode cX1_stepCost 18 = .ok (.istore 4, 2) := by decide +kernel
theorem dX1_stepCost_20 : decode cX1_stepCost 20 = .ok (.iload 4, 2) := by decide +kernel
theorem dX1_stepCost_22 : decode cX1_stepCost 22 = .ok (.ifCond .eq 10, 3) := by decide +kernel
theorem dX1_stepCost_25 : decode cX1_stepCost 25 = .ok (.iload_n 2, 1) := by decide +kernel
theorem dX1_stepCost_26 : decode cX1_stepCost 26 = .ok (.bipush 9, 2) := by decide +kernel
theorem dX1_stepCost_28 : decode cX1_stepCost 28 = .ok (.iand, 1) := by decide +kernel
theorem dX1_stepCost_29 : decode cX1_stepCost 29 = .ok (.ifCond .eq 5, 3) := by decide +kernel
theorem dX1_stepCost_32 : decode cX1_stepCost 32 = .ok (.iload_n 3, 1) := by decide +kernel
theorem dX1_stepCost_33 : decode cX1_stepCost 33 = .ok (.ireturn, 1) := by decide +kernel
theorem dX1_stepCost_34 : decode cX1_stepCost 34 = .ok (.iload_n 2, 1) := by decide +kernel
theorem dX1_stepCost_35 : decode cX1_stepCost 35 = .ok (.iconst 2, 1) := by decide +kernel
theorem dX1_stepCost_36 : decode cX1_stepCost 36 = .ok (.iand, 1) := by decide +kernel
theorem dX1_stepCost_37 : decode cX1_stepCost 37 = .ok (.ifCond .eq 8, 3) := by decide +kernel
theorem dX1_stepCost_40 : decode cX1_stepCost 40 = .ok (.ldc 84, 2) := by decide +kernel
theorem dX1_stepCost_42 : decode cX1_stepCost 42 = .ok (.goto 9, 3) := by decide +kernel
theorem dX1_stepCost_45 : decode cX1_stepCost 45 = .ok (.iload_n 3, 1) := by decide +kernel
theorem dX1_stepCost_46 : decode cX1_stepCost 46 = .ok (.iconst 2, 1) := by decide +kernel
theorem dX1_stepCost_47 : decode cX1_stepCost 47 = .ok (.iload 4, 2) := by decide +kernel
theorem dX1_stepCost_49 : decode cX1_stepCost 49 = .ok (.imul, 1) := by decide +kernel
theorem dX1_stepCost_50 : decode cX1_stepCost 50 = .ok (.iadd, 1) := by decide +kernel
theorem dX1_stepCost_51 : decode cX1_stepCost 51 = .ok (.ireturn, 1) := by decide +kernel
theorem dX1_leastFirst_0 : decode cX1_leastFirst 0 = .ok (.ldc 84, 2) := by decide +kernel
theorem dX1_leastFirst_2 : decode cX1_leastFirst 2 = .ok (.istore_n 1, 1) := by decide +kernel
theorem dX1_leastFirst_3 : decode cX1_leastFirst 3 = .ok (.iconst (-1), 1) := by decide +kernel
theorem dX1_leastFirst_4 : decode cX1_leastFirst 4 = .ok (.istore_n 2, 1) := by decide +kernel
theorem dX1_leastFirst_5 : decode cX1_leastFirst 5 = .ok (.iconst 0, 1) := by decide +kernel
theorem dX1_leastFirst_6 : decode cX1_leastFirst 6 = .ok (.istore_n 3, 1) := by decide +kernel
theorem dX1_leastFirst_7 : decode cX1_leastFirst 7 = .ok (.iload_n 3, 1) := by decide +kernel
theorem dX1_leastFirst_8 : decode cX1_leastFirst 8 = .ok (.aload_n 0, 1) := by decide +kernel
theorem dX1_leastFirst_9 : decode cX1_leastFirst 9 = .ok (.getfield 16, 3) := by decide +kernel
theorem dX1_leastFirst_12 : decode cX1_leastFirst 12 = .ok (.iconst 0, 1) := by decide +kernel
theorem dX1_leastFirst_13 : decode cX1_leastFirst 13 = .ok (.iaload, 1) := by decide +kernel
theorem dX1_leastFirst_14 : decode cX1_leastFirst 14 = .ok (.if_icmp .ge 32, 3) := by decide +kernel
theorem dX1_leastFirst_17 : decode cX1_leastFirst 17 = .ok (.aload_n 0, 1) := by decide +kernel
theorem dX1_leastFirst_18 : decode cX1_leastFirst 18 = .ok (.getfield 20, 3) := by decide +kernel
theorem dX1_leastFirst_21 : decode cX1_leastFirst 21 = .ok (.iconst 0, 1) := by decide +kernel
theorem dX1_leastFirst_22 : decode cX1_leastFirst 22 = .ok (.aaload, 1) := by decide +kernel
theorem dX1_leastFirst_23 : decode cX1_leastFirst 23 = .ok (.iload_n 3, 1) := by decide +kernel
theorem dX1_leastFirst_24 : decode cX1_leastFirst 24 = .ok (.iaload, 1) := by decide +kernel
theorem dX1_leastFirst_25 : decode cX1_leastFirst 25 = .ok (.iload_n 1, 1) := by decide +kernel
theorem dX1_leastFirst_26 : decode cX1_leastFirst 26 = .ok (.if_icmp .ge 14, 3) := by decide +kernel
theorem dX1_leastFirst_29 : decode cX1_leastFirst 29 = .ok (.aload_n 0, 1) := by decide +kernel
theorem dX1_leastFirst_30 : decode cX1_leastFirst 30 = .ok (.getfield 20, 3) := by decide +kernel
theorem dX1_leastFirst_33 : decode cX1_leastFirst 33 = .ok (.iconst 0, 1) := by decide +kernel
theorem dX1_leastFirst_34 : decode cX1_leastFirst 34 = .ok (.aaload, 1) := by decide +kernel
theorem dX1_leastFirst_35 : decode cX1_leastFirst 35 = .ok (.iload_n 3, 1) := by decide +kernel
theorem dX1_leastFirst_36 : decode cX1_leastFirst 36 = .ok (.iaload, 1) := by decide +kernel
theorem dX1_leastFirst_37 : decode cX1_leastFirst 37 = .ok (.istore_n 1, 1) := by decide +kernel
theorem dX1_leastFirst_38 : decode cX1_leastFirst 38 = .ok (.iload_n 3, 1) := by decide +kernel
theorem dX1_leastFirst_39 : decode cX1_leastFirst 39 = .ok (.istore_n 2, 1) := by decide +kernel
theorem dX1_leastFirst_40 : decode cX1_leastFirst 40 = .ok (.iinc 3 1, 3) := by decide +kernel
theorem dX1_leastFirst_43 : decode cX1_leastFirst 43 = .ok (.goto (-36), 3) := by decide +kernel
theorem dX1_leastFirst_46 : decode cX1_leastFirst 46 = .ok (.iload_n 2, 1) := by decide +kernel
theorem dX1_leastFirst_47 : decode cX1_leastFirst 47 = .ok (.ireturn, 1) := by decide +kernel
theorem dX1_leastNext_0 : decode cX1_leastNext 0 = .ok (.ldc 84, 2) := by decide +kernel
theorem dX1_leastNext_2 : decode cX1_leastNext 2 = .ok (.istore 4, 2) := by decide +kernel
theorem dX1_leastNext_4 : decode cX1_leastNext 4 = .ok (.iconst 0, 1) := by decide +kernel
theorem dX1_leastNext_5 : decode cX1_leastNext 5 = .ok (.istore 5, 2) := by decide +kernel
theorem dX1_leastNext_7 : decode cX1_leastNext 7 = .ok (.iconst 0, 1) := by decide +kernel
theorem dX1_leastNext_8 : decode cX1_leastNext 8 = .ok (.istore 6, 2) := by decide +kernel
theorem dX1_leastNext_10 : decode cX1_leastNext 10 = .ok (.iload 6, 2) := by decide +kernel
theorem dX1_leastNext_12 : decode cX1_leastNext 12 = .ok (.aload_n 0, 1) := by decide +kernel
theorem dX1_leastNext_13 : decode cX1_leastNext 13 = .ok (.getfield 16, 3) := by decide +kernel
theorem dX1_leastNext_16 : decode cX1_leastNext 16 = .ok (.iload_n 2, 1) := by decide +kernel
theorem dX1_leastNext_17 : decode cX1_leastNext 17 = .ok (.iaload, 1) := by decide +kernel
theorem dX1_leastNext_18 : decode cX1_leastNext 18 = .ok (.if_icmp .ge 62, 3) := by decide +kernel
theorem dX1_leastNext_21 : decode cX1_leastNext 21 = .ok (.aload_n 0, 1) := by decide +kernel
theorem dX1_leastNext_22 : decode cX1_leastNext 22 = .ok (.getfield 20, 3) := by decide +kernel
theorem dX1_leastNext_25 : decode cX1_leastNext 25 = .ok (.iload_n 2, 1) := by decide +kernel
theorem dX1_leastNext_26 : decode cX1_leastNext 26 = .ok (.aaload, 1) := by decide +kernel
theorem dX1_leastNext_27 : decode cX1_leastNext 27 = .ok (.iload 6, 2) := by decide +kernel
theorem dX1_leastNext_29 : decode cX1_leastNext 29 = .ok (.iaload, 1) := by decide +kernel
theorem dX1_leastNext_30 : decode cX1_leastNext 30 = .ok (.iload_n 3, 1) := by decide +kernel
theorem dX1_leastNext_31 : decode cX1_leastNext 31 = .ok (.aload_n 0, 1) := by decide +kernel
theorem dX1_leastNext_32 : decode cX1_leastNext 32 = .ok (.getfield 13, 3) := by decide +kernel
theorem dX1_leastNext_35 : decode cX1_leastNext 35 = .ok (.iload_n 2, 1) := by decide +kernel
theorem dX1_leastNext_36 : decode cX1_leastNext 36 = .ok (.aaload, 1) := by decide +kernel
theorem dX1_leastNext_37 : decode cX1_leastNext 37 = .ok (.iload 6, 2) := by decide +kernel
theorem dX1_leastNext_39 : decode cX1_leastNext 39 = .ok (.iaload, 1) := by decide +kernel
theorem dX1_leastNext_40 : decode cX1_leastNext 40 = .ok (.aload_n 1, 1) := by decide +kernel
theorem dX1_leastNext_41 : decode cX1_leastNext 41 = .ok (.getfield 91, 3) := by decide +kernel
theorem dX1_leastNext_44 : decode cX1_leastNext 44 = .ok (.iload_n 2, 1) := by decide +kernel
theorem dX1_leastNext_45 : decode cX1_leastNext 45 = .ok (.iaload, 1) := by decide +kernel
theorem dX1_leastNext_46 : decode cX1_leastNext 46 = .ok (.invokestatic 94, 3) := by decide +kernel
theorem dX1_leastNext_49 : decode cX1_leastNext 49 = .ok (.iadd, 1) := by decide +kernel
theorem dX1_leastNext_50 : decode cX1_leastNext 50 = .ok (.istore 7, 2) := by decide +kernel
theorem dX1_leastNext_52 : decode cX1_leastNext 52 = .ok (.iload 7, 2) := by decide +kernel
theorem dX1_leastNext_54 : decode cX1_leastNext 54 = .ok (.iload 4, 2) := by decide +kernel
theorem dX1_leastNext_56 : decode cX1_leastNext 56 = .ok (.if_icmp .ge 18, 3) := by decide +kernel
theorem dX1_leastNext_59 : decode cX1_leastNext 59 = .ok (.iload 7, 2) := by decide +kernel
theorem dX1_leastNext_61 : decode cX1_leastNext 61 = .ok (.istore 4, 2) := by decide +kernel
theorem dX1_leastNext_63 : decode cX1_leastNext 63 = .ok (.aload_n 0, 1) := by decide +kernel
theorem dX1_leastNext_64 : decode cX1_leastNext 64 = .ok (.getfield 13, 3) := by decide +kernel
theorem dX1_leastNext_67 : decode cX1_leastNext 67 = .ok (.iload_n 2, 1) := by decide +kernel
theorem dX1_leastNext_68 : decode cX1_leastNext 68 = .ok (.aaload, 1) := by decide +kernel
theorem dX1_leastNext_69 : decode cX1_leastNext 69 = .ok (.iload 6, 2) := by decide +kernel
theorem dX1_leastNext_71 : decode cX1_leastNext 71 = .ok (.iaload, 1) := by decide +kernel
theorem dX1_leastNext_72 : decode cX1_leastNext 72 = .ok (.istore 5, 2) := by decide +kernel
theorem dX1_leastNext_74 : decode cX1_leastNext 74 = .ok (.iinc 6 1, 3) := by decide +kernel
theorem dX1_leastNext_77 : decode cX1_leastNext 77 = .ok (.goto (-67), 3) := by decide +kernel
theorem dX1_leastNext_80 : decode cX1_leastNext 80 = .ok (.iload 5, 2) := by decide +kernel
theorem dX1_leastNext_82 : decode cX1_leastNext 82 = .ok (.ireturn, 1) := by decide +kernel
theorem dX2_make_0 : decode cX2_make 0 = .ok (.sipush 1000, 3) := by decide +kernel
theorem dX2_make_3 : decode cX2_make 3 = .ok (.iload_n 0, 1) := by decide +kernel
theorem dX2_make_4 : decode cX2_make 4 = .ok (.imul, 1) := by decide +kernel
theorem dX2_make_5 : decode cX2_make 5 = .ok (.bipush 10, 2) := by decide +kernel
theorem dX2_make_7 : decode cX2_make 7 = .ok (.iload_n 1, 1) := by decide +kernel
theorem dX2_make_8 : decode cX2_make 8 = .ok (.imul, 1) := by decide +kernel
theorem dX2_make_9 : decode cX2_make 9 = .ok (.iadd, 1) := by decide +kernel
theorem dX2_make_10 : decode cX2_make 10 = .ok (.iload_n 2, 1) := by decide +kernel
theorem dX2_make_11 : decode cX2_make 11 = .ok (.iadd, 1) := by decide +kernel
theorem dX2_make_12 : decode cX2_make 12 = .ok (.bipush 10, 2) := by decide +kernel
theorem dX2_make_14 : decode cX2_make 14 = .ok (.imul, 1) := by decide +kernel
theorem dX2_make_15 : decode cX2_make 15 = .ok (.iload_n 3, 1) := by decide +kernel
theorem dX2_make_16 : decode cX2_make 16 = .ok (.iadd, 1) := by decide +kernel
theorem dX2_make_17 : decode cX2_make 17 = .ok (.ireturn, 1) := by decide +kernel
theorem dX2_name_0 : decode cX2_name 0 = .ok (.iload_n 0, 1) := by decide +kernel
theorem dX2_name_1 : decode cX2_name 1 = .ok (.bipush 10, 2) := by decide +kernel
theorem dX2_name_3 : decode cX2_name 3 = .ok (.idiv, 1) := by decide +kernel
theorem dX2_name_4 : decode cX2_name 4 = .ok (.ireturn, 1) := by decide +kernel
theorem dX2_string_0 : decode cX2_string 0 = .ok (.iload_n 0, 1) := by decide +kernel
theorem dX2_string_1 : decode cX2_string 1 = .ok (.sipush 10000, 3) := by decide +kernel
theorem dX2_string_4 : decode cX2_string 4 = .ok (.idiv, 1) := by decide +kernel
theorem dX2_string_5 : decode cX2_string 5 = .ok (.ireturn, 1) := by decide +kernel
theorem dX2_hand_0 : decode cX2_hand 0 = .ok (.iload_n 0, 1) := by decide +kernel
theorem dX2_hand_1 : decode cX2_hand 1 = .ok (.bipush 100, 2) := by decide +kernel
theorem dX2_hand_3 : decode cX2_hand 3 = .ok (.idiv, 1) := by decide +kernel
theorem dX2_hand_4 : decode cX2_hand 4 = .ok (.bipush 100, 2) := by decide +kernel
theorem dX2_hand_6 : decode cX2_hand 6 = .ok (.irem, 1) := by decide +kernel
theorem dX2_hand_7 : decode cX2_hand 7 = .ok (.ireturn, 1) := by decide +kernel
theorem dX2_way_0 : decode cX2_way 0 = .ok (.iload_n 0, 1) := by decide +kernel
theorem dX2_way_1 : decode cX2_way 1 = .ok (.bipush 10, 2) := by decide +kernel
theorem dX2_way_3 : decode cX2_way 3 = .ok (.idiv, 1) := by decide +kernel
theorem dX2_way_4 : decode cX2_way 4 = .ok (.bipush 10, 2) := by decide +kernel
theorem dX2_way_6 : decode cX2_way 6 = .ok (.irem, 1) := by decide +kernel
theorem dX2_way_7 : decode cX2_way 7 = .ok (.ireturn, 1) := by decide +kernel
theorem dX2_greaterWay_0 : decode cX2_greaterWay 0 = .ok (.iload_n 0, 1) := by decide +kernel
theorem dX2_greaterWay_1 : decode cX2_greaterWay 1 = .ok (.bipush 10, 2) := by decide +kernel
theorem dX2_greaterWay_3 : decode cX2_greaterWay 3 = .ok (.irem, 1) := by decide +kernel
theorem dX2_greaterWay_4 : decode cX2_greaterWay 4 = .ok (.ireturn, 1) := by decide +kernel
theorem dX2_extensions_0 : decode cX2_extensions 0 = .ok (.iload_n 0, 1) := by decide +kernel
theorem dX2_extensions_1 : decode cX2_extensions 1 = .ok (.invokestatic 7, 3) := by decide +kernel
theorem dX2_extensions_4 : decode cX2_extensions 4 = .ok (.invokestatic 13, 3) := by decide +kernel
theorem dX2_extensions_7 : decode cX2_extensions 7 = .ok (.iload_n 0, 1) := by decide +kernel
theorem dX2_extensions_8 : decode cX2_extensions 8 = .ok (.invokestatic 18, 3) := by decide +kernel
theorem dX2_extensions_11 : decode cX2_extensions 11 = .ok (.invokestatic 13, 3) := by decide +kernel
theorem dX2_extensions_14 : decode cX2_extensions 14 = .ok (.iadd, 1) := by decide +kernel
theorem dX2_extensions_15 : decode cX2_extensions 15 = .ok (.ireturn, 1) := by decide +kernel
theorem dX2_shift_0 : decode cX2_shift 0 = .ok (.iload_n 0, 1) := by decide +kernel
theorem dX2_shift_1 : decode cX2_shift 1 = .ok (.bipush 100, 2) := by decide +kernel
theorem dX2_shift_3 : decode cX2_shift 3 = .ok (.idiv, 1) := by decide +kernel
theorem dX2_shift_4 : decode cX2_shift 4 = .ok (.bipush 100, 2) := by decide +kernel
theorem dX2_shift_6 : decode cX2_shift 6 = .ok (.irem, 1) := by decide +kernel
theorem dX2_shift_7 : decode cX2_shift 7 = .ok (.istore_n 2, 1) := by decide +kernel
theorem dX2_shift_8 : decode cX2_shift 8 = .ok (.iload_n 1, 1) := by decide +kernel
theorem dX2_shift_9 : decode cX2_shift 9 = .ok (.bipush 100, 2) := by decide +kernel
theorem dX2_shift_11 : decode cX2_shift 11 = .ok (.idiv, 1) := by decide +kernel
theorem dX2_shift_12 : decode cX2_shift 12 = .ok (.bipush 100, 2) := by decide +kernel
theorem dX2_shift_14 : decode cX2_shift 14 = .ok (.irem, 1) := by decide +kernel
theorem dX2_shift_15 : decode cX2_shift 15 = .ok (.istore_n 3, 1) := by decide +kernel
theorem dX2_shift_16 : decode cX2_shift 16 = .ok (.iload_n 2, 1) := by decide +kernel
theorem dX2_shift_17 : decode cX2_shift 17 = .ok (.ifCond .eq 7, 3) := by decide +kernel
theorem dX2_shift_20 : decode cX2_shift 20 = .ok (.iload_n 3, 1) := by decide +kernel
theorem dX2_shift_21 : decode cX2_shift 21 = .ok (.ifCond .ne 7, 3) := by decide +kernel
theorem dX2_shift_24 : decode cX2_shift 24 = .ok (.iconst 0, 1) := by decide +kernel
theorem dX2_shift_25 : decode cX2_shift 25 = .ok (.goto 9, 3) := by decide +kernel
theorem dX2_shift_28 : decode cX2_shift 28 = .ok (.iload_n 3, 1) := by decide +kernel
theorem dX2_shift_29 : decode cX2_shift 29 = .ok (.iload_n 2, 1) := by decide +kernel
theorem dX2_shift_30 : decode cX2_shift 30 = .ok (.isub, 1) := by decide +kernel
theorem dX2_shift_31 : decode cX2_shift 31 = .ok (.invokestatic 21, 3) := by decide +kernel
theorem dX2_shift_34 : decode cX2_shift 34 = .ok (.ireturn, 1) := by decide +kernel
theorem dX3_init_0 : decode cX3_init 0 = .ok (.aload_n 0, 1) := by decide +kernel
theorem dX3_init_1 : decode cX3_init 1 = .ok (.invokespecial 3, 3) := by decide +kernel
theorem dX3_init_4 : decode cX3_init 4 = .ok (.aload_n 0, 1) := by decide +kernel
theorem dX3_init_5 : decode cX3_init 5 = .ok (.bipush 12, 2) := by decide +kernel
theorem dX3_init_7 : decode cX3_init 7 = .ok (.newarray .int, 2) := by decide +kernel
theorem dX3_init_9 : decode cX3_init 9 = .ok (.putfield 9, 3) := by decide +kernel
theorem dX3_init_12 : decode cX3_init 12 = .ok (.aload_n 0, 1) := by decide +kernel
theorem dX3_init_13 : decode cX3_init 13 = .ok (.bipush 12, 2) := by decide +kernel
theorem dX3_init_15 : decode cX3_init 15 = .ok (.newarray .int, 2) := by decide +kernel
theorem dX3_init_17 : decode cX3_init 17 = .ok (.putfield 15, 3) := by decide +kernel
theorem dX3_init_20 : decode cX3_init 20 = .ok (.aload_n 0, 1) := by decide +kernel
theorem dX3_init_21 : decode cX3_init 21 = .ok (.bipush 12, 2) := by decide +kernel
theorem dX3_init_23 : decode cX3_init 23 = .ok (.newarray .int, 2) := by decide +kernel
theorem dX3_init_25 : decode cX3_init 25 = .ok (.putfield 18, 3) := by decide +kernel
theorem dX3_init_28 : decode cX3_init 28 = .ok (.aload_n 0, 1) := by decide +kernel
theorem dX3_init_29 : decode cX3_init 29 = .ok (.bipush 12, 2) := by decide +kernel
theorem dX3_init_31 : decode cX3_init 31 = .ok (.newarray .int, 2) := by decide +kernel
theorem dX3_init_33 : decode cX3_init 33 = .ok (.putfield 21, 3) := by decide +kernel
theorem dX3_init_36 : decode cX3_init 36 = .ok (.aload_n 0, 1) := by decide +kernel
theorem dX3_init_37 : decode cX3_init 37 = .ok (.bipush 12, 2) := by decide +kernel
theorem dX3_init_39 : decode cX3_init 39 = .ok (.newarray .int, 2) := by decide +kernel
theorem dX3_init_41 : decode cX3_init 41 = .ok (.putfield 24, 3) := by decide +kernel
theorem dX3_init_44 : decode cX3_init 44 = .ok (.aload_n 0, 1) := by decide +kernel
theorem dX3_init_45 : decode cX3_init 45 = .ok (.bipush 12, 2) := by decide +kernel
theorem dX3_init_47 : decode cX3_init 47 = .ok (.newarray .int, 2) := by decide +kernel
theorem dX3_init_49 : decode cX3_init 49 = .ok (.putfield 27, 3) := by decide +kernel
theorem dX3_init_52 : decode cX3_init 52 = .ok (.aload_n 0, 1) := by decide +kernel
theorem dX3_init_53 : decode cX3_init 53 = .ok (.new 30, 3) := by decide +kernel
theorem dX3_init_56 : decode cX3_init 56 = .ok (.dup, 1) := by decide +kernel
theorem dX3_init_57 : decode cX3_init 57 = .ok (.invokespecial 32, 3) := by decide +kernel
theorem dX3_init_60 : decode cX3_init 60 = .ok (.putfield 33, 3) := by decide +kernel
theorem dX3_init_63 : decode cX3_init 63 = .ok (.aload_n 0, 1) := by decide +kernel
theorem dX3_init_64 : decode cX3_init 64 = .ok (.new 30, 3) := by decide +kernel
theorem dX3_init_67 : decode cX3_init 67 = .ok (.dup, 1) := by decide +kernel
theorem dX3_init_68 : decode cX3_init 68 = .ok (.invokespecial 32, 3) := by decide +kernel
theorem dX3_init_71 : decode cX3_init 71 = .ok (.putfield 37, 3) := by decide +kernel
theorem dX3_init_74 : decode cX3_init 74 = .ok (.return_, 1) := by decide +kernel
theorem dX3_append_0 : decode cX3_append 0 = .ok (.aload_n 0, 1) := by decide +kernel
theorem dX3_append_1 : decode cX3_append 1 = .ok (.getfield 40, 3) := by decide +kernel
theorem dX3_append_4 : decode cX3_append 4 = .ok (.ifCond .lt 12, 3) := by decide +kernel
theorem dX3_append_7 : decode cX3_append 7 = .ok (.aload_n 0, 1) := by decide +kernel
theorem dX3_append_8 : decode cX3_append 8 = .ok (.getfield 40, 3) := by decide +kernel
theorem dX3_append_11 : decode cX3_append 11 = .ok (.bipush 12, 2) := by decide +kernel
theorem dX3_append_13 : decode cX3_append 13 = .ok (.if_icmp .lt 4, 3) := by decide +kernel
theorem dX3_append_16 : decode cX3_append 16 = .ok (.return_, 1) := by decide +kernel
theorem dX3_append_17 : decode cX3_append 17 = .ok (.aload_n 0, 1) := by decide +kernel
theorem dX3_append_18 : decode cX3_append 18 = .ok (.getfield 9, 3) := by decide +kernel
theorem dX3_append_21 : decode cX3_append 21 = .ok (.aload_n 0, 1) := by decide +kernel
theorem dX3_append_22 : decode cX3_append 22 = .ok (.getfield 40, 3) := by decide +kernel
theorem dX3_append_25 : decode cX3_append 25 = .ok (.iload_n 1, 1) := by decide +kernel
theorem dX3_append_26 : decode cX3_append 26 = .ok (.iastore, 1) := by decide +kernel
theorem dX3_append_27 : decode cX3_append 27 = .ok (.aload_n 0, 1) := by decide +kernel
theorem dX3_append_28 : decode cX3_append 28 = .ok (.getfield 15, 3) := by decide +kernel
theorem dX3_append_31 : decode cX3_append 31 = .ok (.aload_n 0, 1) := by decide +kernel
theorem dX3_append_32 : decode cX3_append 32 = .ok (.getfield 40, 3) := by decide +kernel
theorem dX3_append_35 : decode cX3_append 35 = .ok (.iconst (-1), 1) := by decide +kernel
theorem dX3_append_36 : decode cX3_append 36 = .ok (.iastore, 1) := by decide +kernel
theorem dX3_append_37 : decode cX3_append 37 = .ok (.aload_n 0, 1) := by decide +kernel
theorem dX3_append_38 : decode cX3_append 38 = .ok (.getfield 18, 3) := by decide +kernel
theorem dX3_append_41 : decode cX3_append 41 = .ok (.aload_n 0, 1) := by decide +kernel
theorem dX3_append_42 : decode cX3_append 42 = .ok (.getfield 40, 3) := by decide +kernel
theorem dX3_append_45 : decode cX3_append 45 = .ok (.iload_n 2, 1) := by decide +kernel
theorem dX3_append_46 : decode cX3_append 46 = .ok (.iastore, 1) := by decide +kernel
theorem dX3_append_47 : decode cX3_append 47 = .ok (.aload_n 0, 1) := by decide +kernel
theorem dX3_append_48 : decode cX3_append 48 = .ok (.getfield 21, 3) := by decide +kernel
theorem dX3_append_51 : decode cX3_append 51 = .ok (.aload_n 0, 1) := by decide +kernel
theorem dX3_append_52 : decode cX3_append 52 = .ok (.getfield 40, 3) := by decide +kernel
theorem dX3_append_55 : decode cX3_append 55 = .ok (.aload_n 0, 1) := by decide +kernel
theorem dX3_append_56 : decode cX3_append 56 = .ok (.getfield 40, 3) := by decide +kernel
theorem dX3_append_59 : decode cX3_append 59 = .ok (.ifCond .ne 7, 3) := by decide +kernel
theorem dX3_append_62 : decode cX3_append 62 = .ok (.iconst 0, 1) := by decide +kernel
theorem dX3_append_63 : decode cX3_append 63 = .ok (.goto 26, 3) := by decide +kernel
theorem dX3_append_66 : decode cX3_append 66 = .ok (.aload_n 0, 1) := by decide +kernel
theorem dX3_append_67 : decode cX3_append 67 = .ok (.getfield 21, 3) := by decide +kernel
theorem dX3_append_70 : decode cX3_append 70 = .ok (.aload_n 0, 1) := by decide +kernel
theorem dX3_append_71 : decode cX3_append 71 = .ok (.getfield 40, 3) := by decide +kernel
theorem dX3_append_74 : decode cX3_append 74 = .ok (.iconst 1, 1) := by decide +kernel
theorem dX3_append_75 : decode cX3_append 75 = .ok (.isub, 1) := by decide +kernel
theorem dX3_append_76 : decode cX3_append 76 = .ok (.iaload, 1) := by decide +kernel
theorem dX3_append_77 : decode cX3_append 77 = .ok (.aload_n 0, 1) := by decide +kernel
theorem dX3_append_78 : decode cX3_append 78 = .ok (.getfield 18, 3) := by decide +kernel
theorem dX3_append_81 : decode cX3_append 81 = .ok (.aload_n 0, 1) := by decide +kernel
theorem dX3_append_82 : decode cX3_append 82 = .ok (.getfield 40, 3) := by decide +kernel
theorem dX3_append_85 : decode cX3_append 85 = .ok (.iconst 1, 1) := by decide +kernel
theorem dX3_append_86 : decode cX3_append 86 = .ok (.isub, 1) := by decide +kernel
theorem dX3_append_87 : decode cX3_append 87 = .ok (.iaload, 1) := by decide +kernel
theorem dX3_append_88 : decode cX3_append 88 = .ok (.iadd, 1) := by decide +kernel
theorem dX3_append_89 : decode cX3_append 89 = .ok (.iastore, 1) := by decide +kernel
theorem dX3_append_90 : decode cX3_append 90 = .ok (.aload_n 0, 1) := by decide +kernel
theorem dX3_append_91 : decode cX3_append 91 = .ok (.getfield 24, 3) := by decide +kernel
theorem dX3_append_94 : decode cX3_append 94 = .ok (.aload_n 0, 1) := by decide +kernel
theorem dX3_append_95 : decode cX3_append 95 = .ok (.getfield 40, 3) := by decide +kernel
theorem dX3_append_98 : decode cX3_append 98 = .ok (.iload_n 3, 1) := by decide +kernel
theorem dX3_append_99 : decode cX3_append 99 = .ok (.iastore, 1) := by decide +kernel
theorem dX3_append_100 : decode cX3_append 100 = .ok (.aload_n 0, 1) := by decide +kernel
theorem dX3_append_101 : decode cX3_append 101 = .ok (.dup, 1) := by decide +kernel
theorem dX3_append_102 : decode cX3_append 102 = .ok (.getfield 40, 3) := by decide +kernel
theorem dX3_append_105 : decode cX3_append 105 = .ok (.iconst 1, 1) := by decide +kernel
theorem dX3_append_106 : decode cX3_append 106 = .ok (.iadd, 1) := by decide +kernel
theorem dX3_append_107 : decode cX3_append 107 = .ok (.putfield 40, 3) := by decide +kernel
theorem dX3_append_110 : decode cX3_append 110 = .ok (.aload_n 0, 1) := by decide +kernel
theorem dX3_append_111 : decode cX3_append 111 = .ok (.iconst 0, 1) := by decide +kernel
theorem dX3_append_112 : decode cX3_append 112 = .ok (.putfield 44, 3) := by decide +kernel
theorem dX3_append_115 : decode cX3_append 115 = .ok (.return_, 1) := by decide +kernel
theorem dX3_isDouble_0 : decode cX3_isDouble 0 = .ok (.aload_n 0, 1) := by decide +kernel
theorem dX3_isDouble_1 : decode cX3_isDouble 1 = .ok (.getfield 15, 3) := by decide +kernel
theorem dX3_isDouble_4 : decode cX3_isDouble 4 = .ok (.iload_n 1, 1) := by decide +kernel
theorem dX3_isDouble_5 : decode cX3_isDouble 5 = .ok (.iaload, 1) := by decide +kernel
theorem dX3_isDouble_6 : decode cX3_isDouble 6 = .ok (.iconst (-1), 1) := by decide +kernel
theorem dX3_isDouble_7 : decode cX3_isDouble 7 = .ok (.if_icmp .eq 7, 3) := by decide +kernel
theorem dX3_isDouble_10 : decode cX3_isDouble 10 = .ok (.iconst 1, 1) := by decide +kernel
theorem dX3_isDouble_11 : decode cX3_isDouble 11 = .ok (.goto 4, 3) := by decide +kernel
theorem dX3_isDouble_14 : decode cX3_isDouble 14 = .ok (.iconst 0, 1) := by decide +kernel
theorem dX3_isDouble_15 : decode cX3_isDouble 15 = .ok (.ireturn, 1) := by decide +kernel
theorem dX3_isMarked_0 : decode cX3_isMarked 0 = .ok (.aload_n 0, 1) := by decide +kernel
theorem dX3_isMarked_1 : decode cX3_isMarked 1 = .ok (.getfield 24, 3) := by decide +kernel
theorem dX3_isMarked_4 : decode cX3_isMarked 4 = .ok (.iload_n 1, 1) := by decide +kernel
theorem dX3_isMarked_5 : decode cX3_isMarked 5 = .ok (.iaload, 1) := by decide +kernel
theorem dX3_isMarked_6 : decode cX3_isMarked 6 = .ok (.iload_n 2, 1) := by decide +kernel
theorem dX3_isMarked_7 : decode cX3_isMarked 7 = .ok (.iand, 1) := by decide +kernel
theorem dX3_isMarked_8 : decode cX3_isMarked 8 = .ok (.ifCond .eq 7, 3) := by decide +kernel
theorem dX3_isMarked_11 : decode cX3_isMarked 11 = .ok (.iconst 1, 1) := by decide +kernel
theorem dX3_isMarked_12 : decode cX3_isMarked 12 = .ok (.goto 4, 3) := by decide +kernel
theorem dX3_isMarked_15 : decode cX3_isMarked 15 = .ok (.iconst 0, 1) := by decide +kernel
theorem dX3_isMarked_16 : decode cX3_isMarked 16 = .ok (.ireturn, 1) := by decide +kernel
theorem dX3_bowingFrom_0 : decode cX3_bowingFrom 0 = .ok (.iload_n 1, 1) := by decide +kernel
theorem dX3_bowingFrom_1 : decode cX3_bowingFrom 1 = .ok (.ifCond .ne 10, 3) := by decide +kernel
theorem dX3_bowingFrom_4 : decode cX3_bowingFrom 4 = .ok (.aload_n 0, 1) := by decide +kernel
theorem dX3_bowingFrom_5 : decode cX3_bowingFrom 5 = .ok (.getfield 33, 3) := by decide +kernel
theorem dX3_bowingFrom_8 : decode cX3_bowingFrom 8 = .ok (.goto 7, 3) := by decide +kernel
theorem dX3_bowingFrom_11 : decode cX3_bowingFrom 11 = .ok (.aload_n 0, 1) := by decide +kernel
theorem dX3_bowingFrom_12 : decode cX3_bowingFrom 12 = .ok (.getfield 37, 3) := by decide +kernel
theorem dX3_bowingFrom_15 : decode cX3_bowingFrom 15 = .ok (.areturn, 1) := by decide +kernel
theorem dX3_countSlurred_0 : decode cX3_countSlurred 0 = .ok (.iconst 0, 1) := by decide +kernel
theorem dX3_countSlurred_1 : decode cX3_countSlurred 1 = .ok (.istore_n 1, 1) := by decide +kernel
theorem dX3_countSlurred_2 : decode cX3_countSlurred 2 = .ok (.iconst 0, 1) := by decide +kernel
theorem dX3_countSlurred_3 : decode cX3_countSlurred 3 = .ok (.istore_n 2, 1) := by decide +kernel
theorem dX3_countSlurred_4 : decode cX3_countSlurred 4 = .ok (.iload_n 2, 1) := by decide +kernel
theorem dX3_countSlurred_5 : decode cX3_countSlurred 5 = .ok (.aload_n 0, 1) := by decide +kernel
theorem dX3_countSlurred_6 : decode cX3_countSlurred 6 = .ok (.getfield 40, 3) := by decide +kernel
theorem dX3_countSlurred_9 : decode cX3_countSlurred 9 = .ok (.if_icmp .ge 21, 3) := by decide +kernel
theorem dX3_countSlurred_12 : decode cX3_countSlurred 12 = .ok (.aload_n 0, 1) := by decide +kernel
theorem dX3_countSlurred_13 : decode cX3_countSlurred 13 = .ok (.iload_n 2, 1) := by decide +kernel
theorem dX3_countSlurred_14 : decode cX3_countSlurred 14 = .ok (.iconst 2, 1) := by decide +kernel
theorem dX3_countSlurred_15 : decode cX3_countSlurred 15 = .ok (.invokevirtual 48, 3) := by decide +kernel
theorem dX3_countSlurred_18 : decode cX3_countSlurred 18 = .ok (.ifCond .eq 6, 3) := by decide +kernel
theorem dX3_countSlurred_21 : decode cX3_countSlurred 21 = .ok (.iinc 1 1, 3) := by decide +kernel
theorem dX3_countSlurred_24 : decode cX3_countSlurred 24 = .ok (.iinc 2 1, 3) := by decide +kernel
theorem dX3_countSlurred_27 : decode cX3_countSlurred 27 = .ok (.goto (-23), 3) := by decide +kernel
theorem dX3_countSlurred_30 : decode cX3_countSlurred 30 = .ok (.iload_n 1, 1) := by decide +kernel
theorem dX3_countSlurred_31 : decode cX3_countSlurred 31 = .ok (.ireturn, 1) := by decide +kernel
theorem dX3_countDoubles_0 : decode cX3_countDoubles 0 = .ok (.iconst 0, 1) := by decide +kernel
theorem dX3_countDoubles_1 : decode cX3_countDoubles 1 = .ok (.istore_n 1, 1) := by decide +kernel
theorem dX3_countDoubles_2 : decode cX3_countDoubles 2 = .ok (.iconst 0, 1) := by decide +kernel
theorem dX3_countDoubles_3 : decode cX3_countDoubles 3 = .ok (.istore_n 2, 1) := by decide +kernel
theorem dX3_countDoubles_4 : decode cX3_countDoubles 4 = .ok (.iload_n 2, 1) := by decide +kernel
theorem dX3_countDoubles_5 : decode cX3_countDoubles 5 = .ok (.aload_n 0, 1) := by decide +kernel
theorem dX3_countDoubles_6 : decode cX3_countDoubles 6 = .ok (.getfield 40, 3) := by decide +kernel
theorem dX3_countDoubles_9 : decode cX3_countDoubles 9 = .ok (.if_icmp .ge 20, 3) := by decide +kernel
theorem dX3_countDoubles_12 : decode cX3_countDoubles 12 = .ok (.aload_n 0, 1) := by decide +kernel
theorem dX3_countDoubles_13 : decode cX3_countDoubles 13 = .ok (.iload_n 2, 1) := by decide +kernel
theorem dX3_countDoubles_14 : decode cX3_countDoubles 14 = .ok (.invokevirtual 52, 3) := by decide +kernel
theorem dX3_countDoubles_17 : decode cX3_countDoubles 17 = .ok (.ifCond .eq 6, 3) := by decide +kernel
theorem dX3_countDoubles_20 : decode cX3_countDoubles 20 = .ok (.iinc 1 1, 3) := by decide +kernel
theorem dX3_countDoubles_23 : decode cX3_countDoubles 23 = .ok (.iinc 2 1, 3) := by decide +kernel
theorem dX3_countDoubles_26 : decode cX3_countDoubles 26 = .ok (.goto (-22), 3) := by decide +kernel
theorem dX3_countDoubles_29 : decode cX3_countDoubles 29 = .ok (.iload_n 1, 1) := by decide +kernel
theorem dX3_countDoubles_30 : decode cX3_countDoubles 30 = .ok (.ireturn, 1) := by decide +kernel
theorem dX4_fingerOf_0 : decode cX4_fingerOf 0 = .ok (.iload_n 0, 1) := by decide +kernel
theorem dX4_fingerOf_1 : decode cX4_fingerOf 1 = .ok (.iconst 5, 1) := by decide +kernel
theorem dX4_fingerOf_2 : decode cX4_fingerOf 2 = .ok (.irem, 1) := by decide +kernel
theorem dX4_fingerOf_3 : decode cX4_fingerOf 3 = .ok (.ireturn, 1) := by decide +kernel
theorem dX4_extension_0 : decode cX4_extension 0 = .ok (.iload_n 0, 1) := by decide +kernel
theorem dX4_extension_1 : decode cX4_extension 1 = .ok (.iconst 5, 1) := by decide +kernel
theorem dX4_extension_2 : decode cX4_extension 2 = .ok (.idiv, 1) := by decide +kernel
theorem dX4_extension_3 : decode cX4_extension 3 = .ok (.ireturn, 1) := by decide +kernel
theorem dX4_hand_0 : decode cX4_hand 0 = .ok (.iload_n 0, 1) := by decide +kernel
theorem dX4_hand_1 : decode cX4_hand 1 = .ok (.ifCond .ne 13, 3) := by decide +kernel
theorem dX4_hand_4 : decode cX4_hand 4 = .ok (.iload_n 1, 1) := by decide +kernel
theorem dX4_hand_5 : decode cX4_hand 5 = .ok (.ifCond .ne 7, 3) := by decide +kernel
theorem dX4_hand_8 : decode cX4_hand 8 = .ok (.iconst 0, 1) := by decide +kernel
theorem dX4_hand_9 : decode cX4_hand 9 = .ok (.goto 4, 3) := by decide +kernel
theorem dX4_hand_12 : decode cX4_hand 12 = .ok (.iconst (-1), 1) := by decide +kernel
theorem dX4_hand_13 : decode cX4_hand 13 = .ok (.ireturn, 1) := by decide +kernel
theorem dX4_hand_14 : decode cX4_hand 14 = .ok (.iload_n 0, 1) := by decide +kernel
theorem dX4_hand_15 : decode cX4_hand 15 = .ok (.iconst 1, 1) := by decide +kernel
theorem dX4_hand_16 : decode cX4_hand 16 = .ok (.if_icmp .lt 14, 3) := by decide +kernel
theorem dX4_hand_19 : decode cX4_hand 19 = .ok (.iload_n 0, 1) := by decide +kernel
theorem dX4_hand_20 : decode cX4_hand 20 = .ok (.bipush 10, 2) := by decide +kernel
theorem dX4_hand_22 : decode cX4_hand 22 = .ok (.if_icmp .ge 8, 3) := by decide +kernel
theorem dX4_hand_25 : decode cX4_hand 25 = .ok (.iload_n 0, 1) := by decide +kernel
theorem dX4_hand_26 : decode cX4_hand 26 = .ok (.iconst 5, 1) := by decide +kernel
theorem dX4_hand_27 : decode cX4_hand 27 = .ok (.if_icmp .ne 5, 3) := by decide +kernel
theorem dX4_hand_30 : decode cX4_hand 30 = .ok (.iconst (-1), 1) := by decide +kernel
theorem dX4_hand_31 : decode cX4_hand 31 = .ok (.ireturn, 1) := by decide +kernel
theorem dX4_hand_32 : decode cX4_hand 32 = .ok (.iload_n 1, 1) := by decide +kernel
theorem dX4_hand_33 : decode cX4_hand 33 = .ok (.getstatic 9, 3) := by decide +kernel
theorem dX4_hand_36 : decode cX4_hand 36 = .ok (.iload_n 0, 1) := by decide +kernel
theorem dX4_hand_37 : decode cX4_hand 37 = .ok (.iaload, 1) := by decide +kernel
theorem dX4_hand_38 : decode cX4_hand 38 = .ok (.isub, 1) := by decide +kernel
theorem dX4_hand_39 : decode cX4_hand 39 = .ok (.istore_n 2, 1) := by decide +kernel
theorem dX4_hand_40 : decode cX4_hand 40 = .ok (.iload_n 2, 1) := by decide +kernel
theorem dX4_hand_41 : decode cX4_hand 41 = .ok (.iconst 1, 1) := by decide +kernel
theorem dX4_hand_42 : decode cX4_hand 42 = .ok (.if_icmp .lt 9, 3) := by decide +kernel
theorem dX4_hand_45 : decode cX4_hand 45 = .ok (.iload_n 2, 1) := by decide +kernel
theorem dX4_hand_46 : decode cX4_hand 46 = .ok (.bipush 12, 2) := by decide +kernel
theorem dX4_hand_48 : decode cX4_hand 48 = .ok (.if_icmp .le 7, 3) := by decide +kernel
theorem dX4_hand_51 : decode cX4_hand 51 = .ok (.iconst (-1), 1) := by decide +kernel
theorem dX4_hand_52 : decode cX4_hand 52 = .ok (.goto 4, 3) := by decide +kernel
theorem dX4_hand_55 : decode cX4_hand 55 = .ok (.iload_n 2, 1) := by decide +kernel
theorem dX4_hand_56 : decode cX4_hand 56 = .ok (.ireturn, 1) := by decide +kernel
theorem dX4_goTogether_0 : decode cX4_goTogether 0 = .ok (.iload_n 0, 1) := by decide +kernel
theorem dX4_goTogether_1 : decode cX4_goTogether 1 = .ok (.ifCond .eq 7, 3) := by decide +kernel
theorem dX4_goTogether_4 : decode cX4_goTogether 4 = .ok (.iload_n 2, 1) := by decide +kernel
theorem dX4_goTogether_5 : decode cX4_goTogether 5 = .ok (.ifCond .ne 5, 3) := by decide +kernel
theorem dX4_goTogether_8 : decode cX4_goTogether 8 = .ok (.iconst 1, 1) := by decide +kernel
theorem dX4_goTogether_9 : decode cX4_goTogether 9 = .ok (.ireturn, 1) := by decide +kernel
theorem dX4_goTogether_10 : decode cX4_goTogether 10 = .ok (.iload_n 1, 1) := by decide +kernel
theorem dX4_goTogether_11 : decode cX4_goTogether 11 = .ok (.iload_n 3, 1) := by decide +kernel
theorem dX4_goTogether_12 : decode cX4_goTogether 12 = .ok (.if_icmp .ne 21, 3) := by decide +kernel
theorem dX4_goTogether_15 : decode cX4_goTogether 15 = .ok (.iload_n 0, 1) := by decide +kernel
theorem dX4_goTogether_16 : decode cX4_goTogether 16 = .ok (.iload_n 2, 1) := by decide +kernel
theorem dX4_goTogether_17 : decode cX4_goTogether 17 = .ok (.if_icmp .eq 12, 3) := by decide +kernel
theorem dX4_goTogether_20 : decode cX4_goTogether 20 = .ok (.iload_n 0, 1) := by decide +kernel
theorem dX4_goTogether_21 : decode cX4_goTogether 21 = .ok (.iconst 5, 1) := by decide +kernel
theorem dX4_goTogether_22 : decode cX4_goTogether 22 = .ok (.irem, 1) := by decide +kernel
theorem dX4_goTogether_23 : decode cX4_goTogether 23 = .ok (.iload_n 2, 1) := by decide +kernel
theorem dX4_goTogether_24 : decode cX4_goTogether 24 = .ok (.iconst 5, 1) := by decide +kernel
theorem dX4_goTogether_25 : decode cX4_goTogether 25 = .ok (.irem, 1) := by decide +kernel
theorem dX4_goTogether_26 : decode cX4_goTogether 26 = .ok (.if_icmp .eq 7, 3) := by decide +kernel
theorem dX4_goTogether_29 : decode cX4_goTogether 29 = .ok (.iconst 1, 1) := by decide +kernel
theorem dX4_goTogether_30 : decode cX4_goTogether 30 = .ok (.goto 4, 3) := by decide +kernel
theorem dX4_goTogether_33 : decode cX4_goTogether 33 = .ok (.iconst 0, 1) := by decide +kernel
theorem dX4_goTogether_34 : decode cX4_goTogether 34 = .ok (.ireturn, 1) := by decide +kernel
