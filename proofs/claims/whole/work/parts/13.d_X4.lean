theorem dX4_init_0 : decode cX4_init 0 = .ok (.aload_n 0, 1) := by decide +kernel
theorem dX4_init_1 : decode cX4_init 1 = .ok (.invokespecial 1, 3) := by decide +kernel
theorem dX4_init_4 : decode cX4_init 4 = .ok (.aload_n 0, 1) := by decide +kernel
theorem dX4_init_5 : decode cX4_init 5 = .ok (.bipush 32, 2) := by decide +kernel
theorem dX4_init_7 : decode cX4_init 7 = .ok (.newarray .int, 2) := by decide +kernel
theorem dX4_init_9 : decode cX4_init 9 = .ok (.putfield 9, 3) := by decide +kernel
theorem dX4_init_12 : decode cX4_init 12 = .ok (.aload_n 0, 1) := by decide +kernel
theorem dX4_init_13 : decode cX4_init 13 = .ok (.bipush 32, 2) := by decide +kernel
theorem dX4_init_15 : decode cX4_init 15 = .ok (.newarray .int, 2) := by decide +kernel
theorem dX4_init_17 : decode cX4_init 17 = .ok (.putfield 13, 3) := by decide +kernel
theorem dX4_init_20 : decode cX4_init 20 = .ok (.return_, 1) := by decide +kernel
theorem dX4_add_0 : decode cX4_add 0 = .ok (.iload_n 1, 1) := by decide +kernel
theorem dX4_add_1 : decode cX4_add 1 = .ok (.ifCond .lt 34, 3) := by decide +kernel
theorem dX4_add_4 : decode cX4_add 4 = .ok (.aload_n 0, 1) := by decide +kernel
theorem dX4_add_5 : decode cX4_add 5 = .ok (.getfield 16, 3) := by decide +kernel
theorem dX4_add_8 : decode cX4_add 8 = .ok (.bipush 32, 2) := by decide +kernel
theorem dX4_add_10 : decode cX4_add 10 = .ok (.if_icmp .ge 25, 3) := by decide +kernel
theorem dX4_add_13 : decode cX4_add 13 = .ok (.aload_n 0, 1) := by decide +kernel
theorem dX4_add_14 : decode cX4_add 14 = .ok (.getfield 16, 3) := by decide +kernel
theorem dX4_add_17 : decode cX4_add 17 = .ok (.ifCond .le 20, 3) := by decide +kernel
theorem dX4_add_20 : decode cX4_add 20 = .ok (.iload_n 1, 1) := by decide +kernel
theorem dX4_add_21 : decode cX4_add 21 = .ok (.aload_n 0, 1) := by decide +kernel
theorem dX4_add_22 : decode cX4_add 22 = .ok (.getfield 9, 3) := by decide +kernel
theorem dX4_add_25 : decode cX4_add 25 = .ok (.aload_n 0, 1) := by decide +kernel
theorem dX4_add_26 : decode cX4_add 26 = .ok (.getfield 16, 3) := by decide +kernel
theorem dX4_add_29 : decode cX4_add 29 = .ok (.iconst 1, 1) := by decide +kernel
theorem dX4_add_30 : decode cX4_add 30 = .ok (.isub, 1) := by decide +kernel
theorem dX4_add_31 : decode cX4_add 31 = .ok (.iaload, 1) := by decide +kernel
theorem dX4_add_32 : decode cX4_add 32 = .ok (.if_icmp .gt 5, 3) := by decide +kernel
theorem dX4_add_35 : decode cX4_add 35 = .ok (.iconst 0, 1) := by decide +kernel
theorem dX4_add_36 : decode cX4_add 36 = .ok (.ireturn, 1) := by decide +kernel
theorem dX4_add_37 : decode cX4_add 37 = .ok (.aload_n 0, 1) := by decide +kernel
theorem dX4_add_38 : decode cX4_add 38 = .ok (.getfield 9, 3) := by decide +kernel
theorem dX4_add_41 : decode cX4_add 41 = .ok (.aload_n 0, 1) := by decide +kernel
theorem dX4_add_42 : decode cX4_add 42 = .ok (.getfield 16, 3) := by decide +kernel
theorem dX4_add_45 : decode cX4_add 45 = .ok (.iload_n 1, 1) := by decide +kernel
theorem dX4_add_46 : decode cX4_add 46 = .ok (.iastore, 1) := by decide +kernel
theorem dX4_add_47 : decode cX4_add 47 = .ok (.aload_n 0, 1) := by decide +kernel
theorem dX4_add_48 : decode cX4_add 48 = .ok (.getfield 13, 3) := by decide +kernel
theorem dX4_add_51 : decode cX4_add 51 = .ok (.aload_n 0, 1) := by decide +kernel
theorem dX4_add_52 : decode cX4_add 52 = .ok (.getfield 16, 3) := by decide +kernel
theorem dX4_add_55 : decode cX4_add 55 = .ok (.iload_n 2, 1) := by decide +kernel
theorem dX4_add_56 : decode cX4_add 56 = .ok (.iastore, 1) := by decide +kernel
theorem dX4_add_57 : decode cX4_add 57 = .ok (.aload_n 0, 1) := by decide +kernel
theorem dX4_add_58 : decode cX4_add 58 = .ok (.dup, 1) := by decide +kernel
theorem dX4_add_59 : decode cX4_add 59 = .ok (.getfield 16, 3) := by decide +kernel
theorem dX4_add_62 : decode cX4_add 62 = .ok (.iconst 1, 1) := by decide +kernel
theorem dX4_add_63 : decode cX4_add 63 = .ok (.iadd, 1) := by decide +kernel
theorem dX4_add_64 : decode cX4_add 64 = .ok (.putfield 16, 3) := by decide +kernel
theorem dX4_add_67 : decode cX4_add 67 = .ok (.iconst 1, 1) := by decide +kernel
theorem dX4_add_68 : decode cX4_add 68 = .ok (.ireturn, 1) := by decide +kernel
theorem dX4_at_0 : decode cX4_at 0 = .ok (.aload_n 0, 1) := by decide +kernel
theorem dX4_at_1 : decode cX4_at 1 = .ok (.getfield 20, 3) := by decide +kernel
theorem dX4_at_4 : decode cX4_at 4 = .ok (.aload_n 0, 1) := by decide +kernel
theorem dX4_at_5 : decode cX4_at 5 = .ok (.getfield 16, 3) := by decide +kernel
theorem dX4_at_8 : decode cX4_at 8 = .ok (.if_icmp .ge 29, 3) := by decide +kernel
theorem dX4_at_11 : decode cX4_at 11 = .ok (.aload_n 0, 1) := by decide +kernel
theorem dX4_at_12 : decode cX4_at 12 = .ok (.getfield 9, 3) := by decide +kernel
theorem dX4_at_15 : decode cX4_at 15 = .ok (.aload_n 0, 1) := by decide +kernel
theorem dX4_at_16 : decode cX4_at 16 = .ok (.getfield 20, 3) := by decide +kernel
theorem dX4_at_19 : decode cX4_at 19 = .ok (.iaload, 1) := by decide +kernel
theorem dX4_at_20 : decode cX4_at 20 = .ok (.iload_n 1, 1) := by decide +kernel
theorem dX4_at_21 : decode cX4_at 21 = .ok (.if_icmp .gt 16, 3) := by decide +kernel
theorem dX4_at_24 : decode cX4_at 24 = .ok (.aload_n 0, 1) := by decide +kernel
theorem dX4_at_25 : decode cX4_at 25 = .ok (.dup, 1) := by decide +kernel
theorem dX4_at_26 : decode cX4_at 26 = .ok (.getfield 20, 3) := by decide +kernel
theorem dX4_at_29 : decode cX4_at 29 = .ok (.iconst 1, 1) := by decide +kernel
theorem dX4_at_30 : decode cX4_at 30 = .ok (.iadd, 1) := by decide +kernel
theorem dX4_at_31 : decode cX4_at 31 = .ok (.putfield 20, 3) := by decide +kernel
theorem dX4_at_34 : decode cX4_at 34 = .ok (.goto (-34), 3) := by decide +kernel
theorem dX4_at_37 : decode cX4_at 37 = .ok (.aload_n 0, 1) := by decide +kernel
theorem dX4_at_38 : decode cX4_at 38 = .ok (.getfield 20, 3) := by decide +kernel
theorem dX4_at_41 : decode cX4_at 41 = .ok (.ifCond .ne 7, 3) := by decide +kernel
theorem dX4_at_44 : decode cX4_at 44 = .ok (.iconst 0, 1) := by decide +kernel
theorem dX4_at_45 : decode cX4_at 45 = .ok (.goto 14, 3) := by decide +kernel
theorem dX4_at_48 : decode cX4_at 48 = .ok (.aload_n 0, 1) := by decide +kernel
theorem dX4_at_49 : decode cX4_at 49 = .ok (.getfield 13, 3) := by decide +kernel
theorem dX4_at_52 : decode cX4_at 52 = .ok (.aload_n 0, 1) := by decide +kernel
theorem dX4_at_53 : decode cX4_at 53 = .ok (.getfield 20, 3) := by decide +kernel
theorem dX4_at_56 : decode cX4_at 56 = .ok (.iconst 1, 1) := by decide +kernel
theorem dX4_at_57 : decode cX4_at 57 = .ok (.isub, 1) := by decide +kernel
theorem dX4_at_58 : decode cX4_at 58 = .ok (.iaload, 1) := by decide +kernel
theorem dX4_at_59 : decode cX4_at 59 = .ok (.ireturn, 1) := by decide +kernel
theorem dX4_reset_0 : decode cX4_reset 0 = .ok (.aload_n 0, 1) := by decide +kernel
theorem dX4_reset_1 : decode cX4_reset 1 = .ok (.iconst 0, 1) := by decide +kernel
theorem dX4_reset_2 : decode cX4_reset 2 = .ok (.putfield 16, 3) := by decide +kernel
theorem dX4_reset_5 : decode cX4_reset 5 = .ok (.aload_n 0, 1) := by decide +kernel
theorem dX4_reset_6 : decode cX4_reset 6 = .ok (.iconst 0, 1) := by decide +kernel
theorem dX4_reset_7 : decode cX4_reset 7 = .ok (.putfield 20, 3) := by decide +kernel
theorem dX4_reset_10 : decode cX4_reset 10 = .ok (.return_, 1) := by decide +kernel
