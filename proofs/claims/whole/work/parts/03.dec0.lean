theorem dX0_init_0 : decode cX0_init 0 = .ok (.aload_n 0, 1) := by decide +kernel
theorem dX0_init_1 : decode cX0_init 1 = .ok (.invokespecial 3, 3) := by decide +kernel
theorem dX0_init_4 : decode cX0_init 4 = .ok (.aload_n 0, 1) := by decide +kernel
theorem dX0_init_5 : decode cX0_init 5 = .ok (.bipush 30, 2) := by decide +kernel
theorem dX0_init_7 : decode cX0_init 7 = .ok (.newarray .int, 2) := by decide +kernel
theorem dX0_init_9 : decode cX0_init 9 = .ok (.putfield 11, 3) := by decide +kernel
theorem dX0_init_12 : decode cX0_init 12 = .ok (.aload_n 0, 1) := by decide +kernel
theorem dX0_init_13 : decode cX0_init 13 = .ok (.bipush 9, 2) := by decide +kernel
theorem dX0_init_15 : decode cX0_init 15 = .ok (.newarray .int, 2) := by decide +kernel
theorem dX0_init_17 : decode cX0_init 17 = .ok (.putfield 15, 3) := by decide +kernel
theorem dX0_init_20 : decode cX0_init 20 = .ok (.aload_n 0, 1) := by decide +kernel
theorem dX0_init_21 : decode cX0_init 21 = .ok (.iconst 0, 1) := by decide +kernel
theorem dX0_init_22 : decode cX0_init 22 = .ok (.putfield 18, 3) := by decide +kernel
theorem dX0_init_25 : decode cX0_init 25 = .ok (.return_, 1) := by decide +kernel
theorem dX0_has_0 : decode cX0_has 0 = .ok (.iload_n 1, 1) := by decide +kernel
theorem dX0_has_1 : decode cX0_has 1 = .ok (.ifCond .lt 15, 3) := by decide +kernel
theorem dX0_has_4 : decode cX0_has 4 = .ok (.iload_n 1, 1) := by decide +kernel
theorem dX0_has_5 : decode cX0_has 5 = .ok (.aload_n 0, 1) := by decide +kernel
theorem dX0_has_6 : decode cX0_has 6 = .ok (.getfield 18, 3) := by decide +kernel
theorem dX0_has_9 : decode cX0_has 9 = .ok (.if_icmp .ge 7, 3) := by decide +kernel
theorem dX0_has_12 : decode cX0_has 12 = .ok (.iconst 1, 1) := by decide +kernel
theorem dX0_has_13 : decode cX0_has 13 = .ok (.goto 4, 3) := by decide +kernel
theorem dX0_has_16 : decode cX0_has 16 = .ok (.iconst 0, 1) := by decide +kernel
theorem dX0_has_17 : decode cX0_has 17 = .ok (.ireturn, 1) := by decide +kernel
theorem dX0_add_0 : decode cX0_add 0 = .ok (.aload_n 0, 1) := by decide +kernel
theorem dX0_add_1 : decode cX0_add 1 = .ok (.getfield 18, 3) := by decide +kernel
theorem dX0_add_4 : decode cX0_add 4 = .ok (.bipush 30, 2) := by decide +kernel
theorem dX0_add_6 : decode cX0_add 6 = .ok (.if_icmp .ge 11, 3) := by decide +kernel
theorem dX0_add_9 : decode cX0_add 9 = .ok (.aload_n 0, 1) := by decide +kernel
theorem dX0_add_10 : decode cX0_add 10 = .ok (.iload_n 1, 1) := by decide +kernel
theorem dX0_add_11 : decode cX0_add 11 = .ok (.invokevirtual 22, 3) := by decide +kernel
theorem dX0_add_14 : decode cX0_add 14 = .ok (.ifCond .eq 5, 3) := by decide +kernel
theorem dX0_add_17 : decode cX0_add 17 = .ok (.iconst (-1), 1) := by decide +kernel
theorem dX0_add_18 : decode cX0_add 18 = .ok (.ireturn, 1) := by decide +kernel
theorem dX0_add_19 : decode cX0_add 19 = .ok (.aload_n 0, 1) := by decide +kernel
theorem dX0_add_20 : decode cX0_add 20 = .ok (.getfield 11, 3) := by decide +kernel
theorem dX0_add_23 : decode cX0_add 23 = .ok (.aload_n 0, 1) := by decide +kernel
theorem dX0_add_24 : decode cX0_add 24 = .ok (.getfield 18, 3) := by decide +kernel
theorem dX0_add_27 : decode cX0_add 27 = .ok (.iload_n 1, 1) := by decide +kernel
theorem dX0_add_28 : decode cX0_add 28 = .ok (.iastore, 1) := by decide +kernel
theorem dX0_add_29 : decode cX0_add 29 = .ok (.aload_n 0, 1) := by decide +kernel
theorem dX0_add_30 : decode cX0_add 30 = .ok (.dup, 1) := by decide +kernel
theorem dX0_add_31 : decode cX0_add 31 = .ok (.getfield 18, 3) := by decide +kernel
theorem dX0_add_34 : decode cX0_add 34 = .ok (.iconst 1, 1) := by decide +kernel
theorem dX0_add_35 : decode cX0_add 35 = .ok (.iadd, 1) := by decide +kernel
theorem dX0_add_36 : decode cX0_add 36 = .ok (.putfield 18, 3) := by decide +kernel
theorem dX0_add_39 : decode cX0_add 39 = .ok (.aload_n 0, 1) := by decide +kernel
theorem dX0_add_40 : decode cX0_add 40 = .ok (.getfield 18, 3) := by decide +kernel
theorem dX0_add_43 : decode cX0_add 43 = .ok (.iconst 1, 1) := by decide +kernel
theorem dX0_add_44 : decode cX0_add 44 = .ok (.isub, 1) := by decide +kernel
theorem dX0_add_45 : decode cX0_add 45 = .ok (.ireturn, 1) := by decide +kernel
theorem dX0_isClaimed_0 : decode cX0_isClaimed 0 = .ok (.iconst 0, 1) := by decide +kernel
theorem dX0_isClaimed_1 : decode cX0_isClaimed 1 = .ok (.istore_n 2, 1) := by decide +kernel
theorem dX0_isClaimed_2 : decode cX0_isClaimed 2 = .ok (.iload_n 2, 1) := by decide +kernel
theorem dX0_isClaimed_3 : decode cX0_isClaimed 3 = .ok (.aload_n 0, 1) := by decide +kernel
theorem dX0_isClaimed_4 : decode cX0_isClaimed 4 = .ok (.getfield 18, 3) := by decide +kernel
theorem dX0_isClaimed_7 : decode cX0_isClaimed 7 = .ok (.if_icmp .ge 21, 3) := by decide +kernel
theorem dX0_isClaimed_10 : decode cX0_isClaimed 10 = .ok (.aload_n 0, 1) := by decide +kernel
theorem dX0_isClaimed_11 : decode cX0_isClaimed 11 = .ok (.getfield 11, 3) := by decide +kernel
theorem dX0_isClaimed_14 : decode cX0_isClaimed 14 = .ok (.iload_n 2, 1) := by decide +kernel
theorem dX0_isClaimed_15 : decode cX0_isClaimed 15 = .ok (.iaload, 1) := by decide +kernel
theorem dX0_isClaimed_16 : decode cX0_isClaimed 16 = .ok (.iload_n 1, 1) := by decide +kernel
theorem dX0_isClaimed_17 : decode cX0_isClaimed 17 = .ok (.if_icmp .ne 5, 3) := by decide +kernel
theorem dX0_isClaimed_20 : decode cX0_isClaimed 20 = .ok (.iconst 1, 1) := by decide +kernel
theorem dX0_isClaimed_21 : decode cX0_isClaimed 21 = .ok (.ireturn, 1) := by decide +kernel
theorem dX0_isClaimed_22 : decode cX0_isClaimed 22 = .ok (.iinc 2 1, 3) := by decide +kernel
theorem dX0_isClaimed_25 : decode cX0_isClaimed 25 = .ok (.goto (-23), 3) := by decide +kernel
theorem dX0_isClaimed_28 : decode cX0_isClaimed 28 = .ok (.iconst 0, 1) := by decide +kernel
theorem dX0_isClaimed_29 : decode cX0_isClaimed 29 = .ok (.ireturn, 1) := by decide +kernel
theorem dX1_init_0 : decode cX1_init 0 = .ok (.aload_n 0, 1) := by decide +kernel
theorem dX1_init_1 : decode cX1_init 1 = .ok (.invokespecial 3, 3) := by decide +kernel
theorem dX1_init_4 : decode cX1_init 4 = .ok (.aload_n 0, 1) := by decide +kernel
theorem dX1_init_5 : decode cX1_init 5 = .ok (.bipush 8, 2) := by decide +kernel
theorem dX1_init_7 : decode cX1_init 7 = .ok (.newarray .int, 2) := by decide +kernel
theorem dX1_init_9 : decode cX1_init 9 = .ok (.putfield 11, 3) := by decide +kernel
theorem dX1_init_12 : decode cX1_init 12 = .ok (.aload_n 0, 1) := by decide +kernel
theorem dX1_init_13 : decode cX1_init 13 = .ok (.bipush 8, 2) := by decide +kernel
theorem dX1_init_15 : decode cX1_init 15 = .ok (.newarray .int, 2) := by decide +kernel
theorem dX1_init_17 : decode cX1_init 17 = .ok (.putfield 15, 3) := by decide +kernel
theorem dX1_init_20 : decode cX1_init 20 = .ok (.aload_n 0, 1) := by decide +kernel
theorem dX1_init_21 : decode cX1_init 21 = .ok (.iconst 0, 1) := by decide +kernel
theorem dX1_init_22 : decode cX1_init 22 = .ok (.putfield 18, 3) := by decide +kernel
theorem dX1_init_25 : decode cX1_init 25 = .ok (.return_, 1) := by decide +kernel
theorem dX1_has_0 : decode cX1_has 0 = .ok (.iload_n 1, 1) := by decide +kernel
theorem dX1_has_1 : decode cX1_has 1 = .ok (.ifCond .lt 15, 3) := by decide +kernel
theorem dX1_has_4 : decode cX1_has 4 = .ok (.iload_n 1, 1) := by decide +kernel
theorem dX1_has_5 : decode cX1_has 5 = .ok (.aload_n 0, 1) := by decide +kernel
theorem dX1_has_6 : decode cX1_has 6 = .ok (.getfield 18, 3) := by decide +kernel
theorem dX1_has_9 : decode cX1_has 9 = .ok (.if_icmp .ge 7, 3) := by decide +kernel
theorem dX1_has_12 : decode cX1_has 12 = .ok (.iconst 1, 1) := by decide +kernel
theorem dX1_has_13 : decode cX1_has 13 = .ok (.goto 4, 3) := by decide +kernel
theorem dX1_has_16 : decode cX1_has 16 = .ok (.iconst 0, 1) := by decide +kernel
theorem dX1_has_17 : decode cX1_has 17 = .ok (.ireturn, 1) := by decide +kernel
theorem dX1_add_0 : decode cX1_add 0 = .ok (.aload_n 0, 1) := by decide +kernel
theorem dX1_add_1 : decode cX1_add 1 = .ok (.getfield 18, 3) := by decide +kernel
theorem dX1_add_4 : decode cX1_add 4 = .ok (.bipush 8, 2) := by decide +kernel
theorem dX1_add_6 : decode cX1_add 6 = .ok (.if_icmp .lt 5, 3) := by decide +kernel
theorem dX1_add_9 : decode cX1_add 9 = .ok (.iconst (-1), 1) := by decide +kernel
theorem dX1_add_10 : decode cX1_add 10 = .ok (.ireturn, 1) := by decide +kernel
theorem dX1_add_11 : decode cX1_add 11 = .ok (.aload_n 0, 1) := by decide +kernel
theorem dX1_add_12 : decode cX1_add 12 = .ok (.getfield 11, 3) := by decide +kernel
theorem dX1_add_15 : decode cX1_add 15 = .ok (.aload_n 0, 1) := by decide +kernel
theorem dX1_add_16 : decode cX1_add 16 = .ok (.getfield 18, 3) := by decide +kernel
theorem dX1_add_19 : decode cX1_add 19 = .ok (.iload_n 1, 1) := by decide +kernel
theorem dX1_add_20 : decode cX1_add 20 = .ok (.iastore, 1) := by decide +kernel
theorem dX1_add_21 : decode cX1_add 21 = .ok (.aload_n 0, 1) := by decide +kernel
theorem dX1_add_22 : decode cX1_add 22 = .ok (.getfield 15, 3) := by decide +kernel
theorem dX1_add_25 : decode cX1_add 25 = .ok (.aload_n 0, 1) := by decide +kernel
theorem dX1_add_26 : decode cX1_add 26 = .ok (.getfield 18, 3) := by decide +kernel
theorem dX1_add_29 : decode cX1_add 29 = .ok (.iload_n 2, 1) := by decide +kernel
theorem dX1_add_30 : decode cX1_add 30 = .ok (.iastore, 1) := by decide +kernel
theorem dX1_add_31 : decode cX1_add 31 = .ok (.aload_n 0, 1) := by decide +kernel
theorem dX1_add_32 : decode cX1_add 32 = .ok (.dup, 1) := by decide +kernel
theorem dX1_add_33 : decode cX1_add 33 = .ok (.getfield 18, 3) := by decide +kernel
theorem dX1_add_36 : decode cX1_add 36 = .ok (.iconst 1, 1) := by decide +kernel
theorem dX1_add_37 : decode cX1_add 37 = .ok (.iadd, 1) := by decide +kernel
theorem dX1_add_38 : decode cX1_add 38 = .ok (.putfield 18, 3) := by decide +kernel
theorem dX1_add_41 : decode cX1_add 41 = .ok (.aload_n 0, 1) := by decide +kernel
theorem dX1_add_42 : decode cX1_add 42 = .ok (.getfield 18, 3) := by decide +kernel
theorem dX1_add_45 : decode cX1_add 45 = .ok (.iconst 1, 1) := by decide +kernel
theorem dX1_add_46 : decode cX1_add 46 = .ok (.isub, 1) := by decide +kernel
theorem dX1_add_47 : decode cX1_add 47 = .ok (.ireturn, 1) := by decide +kernel
theorem dX2_init_0 : decode cX2_init 0 = .ok (.aload_n 0, 1) := by decide +kernel
theorem dX2_init_1 : decode cX2_init 1 = .ok (.invokespecial 3, 3) := by decide +kernel
theorem dX2_init_4 : decode cX2_init 4 = .ok (.aload_n 0, 1) := by decide +kernel
theorem dX2_init_5 : decode cX2_init 5 = .ok (.sipush 600, 3) := by decide +kernel
theorem dX2_init_8 : decode cX2_init 8 = .ok (.newarray .int, 2) := by decide +kernel
theorem dX2_init_10 : decode cX2_init 10 = .ok (.putfield 11, 3) := by decide +kernel
theorem dX2_init_13 : decode cX2_init 13 = .ok (.aload_n 0, 1) := by decide +kernel
theorem dX2_init_14 : decode cX2_init 14 = .ok (.bipush 16, 2) := by decide +kernel
theorem dX2_init_16 : decode cX2_init 16 = .ok (.newarray .int, 2) := by decide +kernel
theorem dX2_init_18 : decode cX2_init 18 = .ok (.putfield 17, 3) := by decide +kernel
theorem dX2_init_21 : decode cX2_init 21 = .ok (.aload_n 0, 1) := by decide +kernel
theorem dX2_init_22 : decode cX2_init 22 = .ok (.bipush 16, 2) := by decide +kernel
theorem dX2_init_24 : decode cX2_init 24 = .ok (.newarray .int, 2) := by decide +kernel
theorem dX2_init_26 : decode cX2_init 26 = .ok (.putfield 20, 3) := by decide +kernel
theorem dX2_init_29 : decode cX2_init 29 = .ok (.aload_n 0, 1) := by decide +kernel
theorem dX2_init_30 : decode cX2_init 30 = .ok (.bipush 16, 2) := by decide +kernel
theorem dX2_init_32 : decode cX2_init 32 = .ok (.newarray .int, 2) := by decide +kernel
theorem dX2_init_34 : decode cX2_init 34 = .ok (.putfield 23, 3) := by decide +kernel
theorem dX2_init_37 : decode cX2_init 37 = .ok (.aload_n 0, 1) := by decide +kernel
theorem dX2_init_38 : decode cX2_init 38 = .ok (.bipush 32, 2) := by decide +kernel
theorem dX2_init_40 : decode cX2_init 40 = .ok (.newarray .int, 2) := by decide +kernel
theorem dX2_init_42 : decode cX2_init 42 = .ok (.putfield 26, 3) := by decide +kernel
theorem dX2_init_45 : decode cX2_init 45 = .ok (.aload_n 0, 1) := by decide +kernel
theorem dX2_init_46 : decode cX2_init 46 = .ok (.iconst 0, 1) := by decide +kernel
theorem dX2_init_47 : decode cX2_init 47 = .ok (.putfield 29, 3) := by decide +kernel
theorem dX2_init_50 : decode cX2_init 50 = .ok (.aload_n 0, 1) := by decide +kernel
theorem dX2_init_51 : decode cX2_init 51 = .ok (.iconst 0, 1) := by decide +kernel
theorem dX2_init_52 : decode cX2_init 52 = .ok (.putfield 33, 3) := by decide +kernel
theorem dX2_init_55 : decode cX2_init 55 = .ok (.return_, 1) := by decide +kernel
theorem dX2_clear_0 : decode cX2_clear 0 = .ok (.aload_n 0, 1) := by decide +kernel
theorem dX2_clear_1 : decode cX2_clear 1 = .ok (.iconst 0, 1) := by decide +kernel
theorem dX2_clear_2 : decode cX2_clear 2 = .ok (.putfield 29, 3) := by decide +kernel
theorem dX2_clear_5 : decode cX2_clear 5 = .ok (.aload_n 0, 1) := by decide +kernel
theorem dX2_clear_6 : decode cX2_clear 6 = .ok (.iconst 0, 1) := by decide +kernel
theorem dX2_clear_7 : decode cX2_clear 7 = .ok (.putfield 33, 3) := by decide +kernel
theorem dX2_clear_10 : decode cX2_clear 10 = .ok (.return_, 1) := by decide +kernel
theorem dX2_write_0 : decode cX2_write 0 = .ok (.aload_n 0, 1) := by decide +kernel
theorem dX2_write_1 : decode cX2_write 1 = .ok (.getfield 29, 3) := by decide +kernel
theorem dX2_write_4 : decode cX2_write 4 = .ok (.aload_n 0, 1) := by decide +kernel
theorem dX2_write_5 : decode cX2_write 5 = .ok (.getfield 11, 3) := by decide +kernel
theorem dX2_write_8 : decode cX2_write 8 = .ok (.arraylength, 1) := by decide +kernel
theorem dX2_write_9 : decode cX2_write 9 = .ok (.if_icmp .ge 28, 3) := by decide +kernel
theorem dX2_write_12 : decode cX2_write 12 = .ok (.aload_n 0, 1) := by decide +kernel
theorem dX2_write_13 : decode cX2_write 13 = .ok (.getfield 11, 3) := by decide +kernel
theorem dX2_write_16 : decode cX2_write 16 = .ok (.aload_n 0, 1) := by decide +kernel
theorem dX2_write_17 : decode cX2_write 17 = .ok (.getfield 29, 3) := by decide +kernel
theorem dX2_write_20 : decode cX2_write 20 = .ok (.iload_n 2, 1) := by decide +kernel
theorem dX2_write_21 : decode cX2_write 21 = .ok (.bipush 16, 2) := by decide +kernel
theorem dX2_write_23 : decode cX2_write 23 = .ok (.imul, 1) := by decide +kernel
theorem dX2_write_24 : decode cX2_write 24 = .ok (.iload_n 1, 1) := by decide +kernel
theorem dX2_write_25 : decode cX2_write 25 = .ok (.iadd, 1) := by decide +kernel
theorem dX2_write_26 : decode cX2_write 26 = .ok (.iastore, 1) := by decide +kernel
theorem dX2_write_27 : decode cX2_write 27 = .ok (.aload_n 0, 1) := by decide +kernel
theorem dX2_write_28 : decode cX2_write 28 = .ok (.dup, 1) := by decide +kernel
theorem dX2_write_29 : decode cX2_write 29 = .ok (.getfield 29, 3) := by decide +kernel
theorem dX2_write_32 : decode cX2_write 32 = .ok (.iconst 1, 1) := by decide +kernel
theorem dX2_write_33 : decode cX2_write 33 = .ok (.iadd, 1) := by decide +kernel
theorem dX2_write_34 : decode cX2_write 34 = .ok (.putfield 29, 3) := by decide +kernel
theorem dX2_write_37 : decode cX2_write 37 = .ok (.return_, 1) := by decide +kernel
theorem dX2_closeLine_0 : decode cX2_closeLine 0 = .ok (.aload_n 0, 1) := by decide +kernel
theorem dX2_closeLine_1 : decode cX2_closeLine 1 = .ok (.getfield 33, 3) := by decide +kernel
theorem dX2_closeLine_4 : decode cX2_closeLine 4 = .ok (.bipush 16, 2) := by decide +kernel
theorem dX2_closeLine_6 : decode cX2_closeLine 6 = .ok (.if_icmp .ge 46, 3) := by decide +kernel
theorem dX2_closeLine_9 : decode cX2_closeLine 9 = .ok (.aload_n 0, 1) := by decide +kernel
theorem dX2_closeLine_10 : decode cX2_closeLine 10 = .ok (.getfield 20, 3) := by decide +kernel
theorem dX2_closeLine_13 : decode cX2_closeLine 13 = .ok (.aload_n 0, 1) := by decide +kernel
theorem dX2_closeLine_14 : decode cX2_closeLine 14 = .ok (.getfield 33, 3) := by decide +kernel
theorem dX2_closeLine_17 : decode cX2_closeLine 17 = .ok (.iload_n 1, 1) := by decide +kernel
theorem dX2_closeLine_18 : decode cX2_closeLine 18 = .ok (.iastore, 1) := by decide +kernel
theorem dX2_closeLine_19 : decode cX2_closeLine 19 = .ok (.aload_n 0, 1) := by decide +kernel
theorem dX2_closeLine_20 : decode cX2_closeLine 20 = .ok (.getfield 23, 3) := by decide +kernel
theorem dX2_closeLine_23 : decode cX2_closeLine 23 = .ok (.aload_n 0, 1) := by decide +kernel
theorem dX2_closeLine_24 : decode cX2_closeLine 24 = .ok (.getfield 33, 3) := by decide +kernel
theorem dX2_closeLine_27 : decode cX2_closeLine 27 = .ok (.iload_n 2, 1) := by decide +kernel
theorem dX2_closeLine_28 : decode cX2_closeLine 28 = .ok (.iastore, 1) := by decide +kernel
theorem dX2_closeLine_29 : decode cX2_closeLine 29 = .ok (.aload_n 0, 1) := by decide +kernel
theorem dX2_closeLine_30 : decode cX2_closeLine 30 = .ok (.getfield 17, 3) := by decide +kernel
theorem dX2_closeLine_33 : decode cX2_closeLine 33 = .ok (.aload_n 0, 1) := by decide +kernel
theorem dX2_closeLine_34 : decode cX2_closeLine 34 = .ok (.getfield 33, 3) := by decide +kernel
theorem dX2_closeLine_37 : decode cX2_closeLine 37 = .ok (.aload_n 0, 1) := by decide +kernel
theorem dX2_closeLine_38 : decode cX2_closeLine 38 = .ok (.getfield 29, 3) := by decide +kernel
theorem dX2_closeLine_41 : decode cX2_closeLine 41 = .ok (.iastore, 1) := by decide +kernel
theorem dX2_closeLine_42 : decode cX2_closeLine 42 = .ok (.aload_n 0, 1) := by decide +kernel
theorem dX2_closeLine_43 : decode cX2_closeLine 43 = .ok (.dup, 1) := by decide +kernel
theorem dX2_closeLine_44 : decode cX2_closeLine 44 = .ok (.getfield 33, 3) := by decide +kernel
theorem dX2_closeLine_47 : decode cX2_closeLine 47 = .ok (.iconst 1, 1) := by decide +kernel
theorem dX2_closeLine_48 : decode cX2_closeLine 48 = .ok (.iadd, 1) := by decide +kernel
theorem dX2_closeLine_49 : decode cX2_closeLine 49 = .ok (.putfield 33, 3) := by decide +kernel
theorem dX2_closeLine_52 : decode cX2_closeLine 52 = .ok (.return_, 1) := by decide +kernel
theorem dX2_firstLineThatHolds_0 : decode cX2_firstLineThatHolds 0 = .ok (.iconst 0, 1) := by decide +kernel
theorem dX2_firstLineThatHolds_1 : decode cX2_firstLineThatHolds 1 = .ok (.istore_n 2, 1) := by decide +kernel
theorem dX2_firstLineThatHolds_2 : decode cX2_firstLineThatHolds 2 = .ok (.iconst 0, 1) := by decide +kernel
theorem dX2_firstLineThatHolds_3 : decode cX2_firstLineThatHolds 3 = .ok (.istore_n 3, 1) := by decide +kernel
theorem dX2_firstLineThatHolds_4 : decode cX2_firstLineThatHolds 4 = .ok (.iload_n 3, 1) := by decide +kernel
theorem dX2_firstLineThatHolds_5 : decode cX2_firstLineThatHolds 5 = .ok (.aload_n 0, 1) := by decide +kernel
theorem dX2_firstLineThatHolds_6 : decode cX2_firstLineThatHolds 6 = .ok (.getfield 33, 3) := by decide +kernel
theorem dX2_firstLineThatHolds_9 : decode cX2_firstLineThatHolds 9 = .ok (.if_icmp .ge 33, 3) := by decide +kernel
theorem dX2_firstLineThatHolds_12 : decode cX2_firstLineThatHolds 12 = .ok (.aload_n 0, 1) := by decide +kernel
theorem dX2_firstLineThatHolds_13 : decode cX2_firstLineThatHolds 13 = .ok (.iload_n 2, 1) := by decide +kernel
theorem dX2_firstLineThatHolds_14 : decode cX2_firstLineThatHolds 14 = .ok (.aload_n 0, 1) := by decide +kernel
theorem dX2_firstLineThatHolds_15 : decode cX2_firstLineThatHolds 15 = .ok (.getfield 17, 3) := by decide +kernel
theorem dX2_firstLineThatHolds_18 : decode cX2_firstLineThatHolds 18 = .ok (.iload_n 3, 1) := by decide +kernel
theorem dX2_firstLineThatHolds_19 : decode cX2_firstLineThatHolds 19 = .ok (.iaload, 1) := by decide +kernel
theorem dX2_firstLineThatHolds_20 : decode cX2_firstLineThatHolds 20 = .ok (.aload_n 1, 1) := by decide +kernel
theorem dX2_firstLineThatHolds_21 : decode cX2_firstLineThatHolds 21 = .ok (.invokevirtual 36, 3) := by decide +kernel
theorem dX2_firstLineThatHolds_24 : decode cX2_firstLineThatHolds 24 = .ok (.ifCond .eq 5, 3) := by decide +kernel
theorem dX2_firstLineThatHolds_27 : decode cX2_firstLineThatHolds 27 = .ok (.iload_n 3, 1) := by decide +kernel
theorem dX2_firstLineThatHolds_28 : decode cX2_firstLineThatHolds 28 = .ok (.ireturn, 1) := by decide +kernel
theorem dX2_firstLineThatHolds_29 : decode cX2_firstLineThatHolds 29 = .ok (.aload_n 0, 1) := by decide +kernel
theorem dX2_firstLineThatHolds_30 : decode cX2_firstLineThatHolds 30 = .ok (.getfield 17, 3) := by decide +kernel
theorem dX2_firstLineThatHolds_33 : decode cX2_firstLineThatHolds 33 = .ok (.iload_n 3, 1) := by decide +kernel
theorem dX2_firstLineThatHolds_34 : decode cX2_firstLineThatHolds 34 = .ok (.iaload, 1) := by decide +kernel
theorem dX2_firstLineThatHolds_35 : decode cX2_firstLineThatHolds 35 = .ok (.istore_n 2, 1) := by decide +kernel
theorem dX2_firstLineThatHolds_36 : decode cX2_firstLineThatHolds 36 = .ok (.iinc 3 1, 3) := by decide +kernel
theorem dX2_firstLineThatHolds_39 : decode cX2_firstLineThatHolds 39 = .ok (.goto (-35), 3) := by decide +kernel
theorem dX2_firstLineThatHolds_42 : decode cX2_firstLineThatHolds 42 = .ok (.iconst (-1), 1) := by decide +kernel
theorem dX2_firstLineThatHolds_43 : decode cX2_firstLineThatHolds 43 = .ok (.ireturn, 1) := by decide +kernel
theorem dX2_valueOf_0 : decode cX2_valueOf 0 = .ok (.iconst (-1), 1) := by decide +kernel
theorem dX2_valueOf_1 : decode cX2_valueOf 1 = .ok (.istore 4, 2) := by decide +kernel
theorem dX2_valueOf_3 : decode cX2_valueOf 3 = .ok (.iload_n 1, 1) := by decide +kernel
theorem dX2_valueOf_4 : decode cX2_valueOf 4 = .ok (.istore 5, 2) := by decide +kernel
theorem dX2_valueOf_6 : decode cX2_valueOf 6 = .ok (.iload 5, 2) := by decide +kernel
theorem dX2_valueOf_8 : decode cX2_valueOf 8 = .ok (.iload_n 2, 1) := by decide +kernel
theorem dX2_valueOf_9 : decode cX2_valueOf 9 = .ok (.if_icmp .ge 170, 3) := by decide +kernel
theorem dX2_valueOf_12 : decode cX2_valueOf 12 = .ok (.aload_n 0, 1) := by decide +kernel
theorem dX2_valueOf_13 : decode cX2_valueOf 13 = .ok (.getfield 11, 3) := by decide +kernel
theorem dX2_valueOf_16 : decode cX2_valueOf 16 = .ok (.iload 5, 2) := by decide +kernel
theorem dX2_valueOf_18 : decode cX2_valueOf 18 = .ok (.iaload, 1) := by decide +kernel
theorem dX2_valueOf_19 : decode cX2_valueOf 19 = .ok (.bipush 16, 2) := by decide +kernel
theorem dX2_valueOf_21 : decode cX2_valueOf 21 = .ok (.irem, 1) := by decide +kernel
theorem dX2_valueOf_22 : decode cX2_valueOf 22 = .ok (.istore 6, 2) := by decide +kernel
theorem dX2_valueOf_24 : decode cX2_valueOf 24 = .ok (.aload_n 0, 1) := by decide +kernel
theorem dX2_valueOf_25 : decode cX2_valueOf 25 = .ok (.getfield 11, 3) := by decide +kernel
theorem dX2_valueOf_28 : decode cX2_valueOf 28 = .ok (.iload 5, 2) := by decide +kernel
theorem dX2_valueOf_30 : decode cX2_valueOf 30 = .ok (.iaload, 1) := by decide +kernel
theorem dX2_valueOf_31 : decode cX2_valueOf 31 = .ok (.bipush 16, 2) := by decide +kernel
theorem dX2_valueOf_33 : decode cX2_valueOf 33 = .ok (.idiv, 1) := by decide +kernel
theorem dX2_valueOf_34 : decode cX2_valueOf 34 = .ok (.istore 7, 2) := by decide +kernel
theorem dX2_valueOf_36 : decode cX2_valueOf 36 = .ok (.iload 6, 2) := by decide +kernel
theorem dX2_valueOf_38 : decode cX2_valueOf 38 = .ok (.ifCond .eq 9, 3) := by decide +kernel
theorem dX2_valueOf_41 : decode cX2_valueOf 41 = .ok (.iload 6, 2) := by decide +kernel
theorem dX2_valueOf_43 : decode cX2_valueOf 43 = .ok (.iconst 1, 1) := by decide +kernel
theorem dX2_valueOf_44 : decode cX2_valueOf 44 = .ok (.if_icmp .ne 53, 3) := by decide +kernel
theorem dX2_valueOf_47 : decode cX2_valueOf 47 = .ok (.iinc 4 1, 3) := by decide +kernel
theorem dX2_valueOf_50 : decode cX2_valueOf 50 = .ok (.iload 4, 2) := by decide +kernel
theorem dX2_valueOf_52 : decode cX2_valueOf 52 = .ok (.bipush 32, 2) := by decide +kernel
theorem dX2_valueOf_54 : decode cX2_valueOf 54 = .ok (.if_icmp .ge 16, 3) := by decide +kernel
theorem dX2_valueOf_57 : decode cX2_valueOf 57 = .ok (.iload 6, 2) := by decide +kernel
theorem dX2_valueOf_59 : decode cX2_valueOf 59 = .ok (.iconst 1, 1) := by decide +kernel
theorem dX2_valueOf_60 : decode cX2_valueOf 60 = .ok (.if_icmp .ne 12, 3) := by decide +kernel
theorem dX2_valueOf_63 : decode cX2_valueOf 63 = .ok (.iload 7, 2) := by decide +kernel
theorem dX2_valueOf_65 : decode cX2_valueOf 65 = .ok (.aload_n 3, 1) := by decide +kernel
theorem dX2_valueOf_66 : decode cX2_valueOf 66 = .ok (.arraylength, 1) := by decide +kernel
theorem dX2_valueOf_67 : decode cX2_valueOf 67 = .ok (.if_icmp .lt 5, 3) := by decide +kernel
theorem dX2_valueOf_70 : decode cX2_valueOf 70 = .ok (.iconst 0, 1) := by decide +kernel
theorem dX2_valueOf_71 : decode cX2_valueOf 71 = .ok (.ireturn, 1) := by decide +kernel
theorem dX2_valueOf_72 : decode cX2_valueOf 72 = .ok (.aload_n 0, 1) := by decide +kernel
theorem dX2_valueOf_73 : decode cX2_valueOf 73 = .ok (.getfield 26, 3) := by decide +kernel
theorem dX2_valueOf_76 : decode cX2_valueOf 76 = .ok (.iload 4, 2) := by decide +kernel
theorem dX2_valueOf_78 : decode cX2_valueOf 78 = .ok (.iload 6, 2) := by decide +kernel
theorem dX2_valueOf_80 : decode cX2_valueOf 80 = .ok (.iconst 1, 1) := by decide +kernel
theorem dX2_valueOf_81 : decode cX2_valueOf 81 = .ok (.if_icmp .ne 10, 3) := by decide +kernel
theorem dX2_valueOf_84 : decode cX2_valueOf 84 = .ok (.aload_n 3, 1) := by decide +kernel
theorem dX2_valueOf_85 : decode cX2_valueOf 85 = .ok (.iload 7, 2) := by decide +kernel
theorem dX2_valueOf_87 : decode cX2_valueOf 87 = .ok (.iaload, 1) := by decide +kernel
theorem dX2_valueOf_88 : decode cX2_valueOf 88 = .ok (.goto 5, 3) := by decide +kernel
theorem dX2_valueOf_91 : decode cX2_valueOf 91 = .ok (.iload 7, 2) := by decide +kernel
theorem dX2_valueOf_93 : decode cX2_valueOf 93 = .ok (.iastore, 1) := by decide +kernel
theorem dX2_valueOf_94 : decode cX2_valueOf 94 = .ok (.goto 79, 3) := by decide +kernel
theorem dX2_valueOf_97 : decode cX2_valueOf 97 = .ok (.iload 6, 2) := by decide +kernel
theorem dX2_valueOf_99 : decode cX2_valueOf 99 = .ok (.iconst 2, 1) := by decide +kernel
theorem dX2_valueOf_100 : decode cX2_valueOf 100 = .ok (.if_icmp .ne 36, 3) := by decide +kernel
theorem dX2_valueOf_103 : decode cX2_valueOf 103 = .ok (.iload 4, 2) := by decide +kernel
theorem dX2_valueOf_105 : decode cX2_valueOf 105 = .ok (.ifCond .lt 31, 3) := by decide +kernel
theorem dX2_valueOf_108 : decode cX2_valueOf 108 = .ok (.aload_n 0, 1) := by decide +kernel
theorem dX2_valueOf_109 : decode cX2_valueOf 109 = .ok (.getfield 26, 3) := by decide +kernel
theorem dX2_valueOf_112 : decode cX2_valueOf 112 = .ok (.iload 4, 2) := by decide +kernel
theorem dX2_valueOf_114 : decode cX2_valueOf 114 = .ok (.aload_n 0, 1) := by decide +kernel
theorem dX2_valueOf_115 : decode cX2_valueOf 115 = .ok (.getfield 26, 3) := by decide +kernel
theorem dX2_valueOf_118 : decode cX2_valueOf 118 = .ok (.iload 4, 2) := by decide +kernel
theorem dX2_valueOf_120 : decode cX2_valueOf 120 = .ok (.iaload, 1) := by decide +kernel
theorem dX2_valueOf_121 : decode cX2_valueOf 121 = .ok (.ifCond .ne 7, 3) := by decide +kernel
theorem dX2_valueOf_124 : decode cX2_valueOf 124 = .ok (.iconst 1, 1) := by decide +kernel
theorem dX2_valueOf_125 : decode cX2_valueOf 125 = .ok (.goto 4, 3) := by decide +kernel
theorem dX2_valueOf_128 : decode cX2_valueOf 128 = .ok (.iconst 0, 1) := by decide +kernel
theorem dX2_valueOf_129 : decode cX2_valueOf 129 = .ok (.invokestatic 40, 3) := by decide +kernel
theorem dX2_valueOf_132 : decode cX2_valueOf 132 = .ok (.iastore, 1) := by decide +kernel
theorem dX2_valueOf_133 : decode cX2_valueOf 133 = .ok (.goto 40, 3) := by decide +kernel
theorem dX2_valueOf_136 : decode cX2_valueOf 136 = .ok (.iload 4, 2) := by decide +kernel
theorem dX2_valueOf_138 : decode cX2_valueOf 138 = .ok (.iconst 1, 1) := by decide +kernel
theorem dX2_valueOf_139 : decode cX2_valueOf 139 = .ok (.if_icmp .lt 34, 3) := by decide +kernel
theorem dX2_valueOf_142 : decode cX2_valueOf 142 = .ok (.iinc 4 (-1), 3) := by decide +kernel
theorem dX2_valueOf_145 : decode cX2_valueOf 145 = .ok (.aload_n 0, 1) := by decide +kernel
theorem dX2_valueOf_146 : decode cX2_valueOf 146 = .ok (.getfield 26, 3) := by decide +kernel
theorem dX2_valueOf_149 : decode cX2_valueOf 149 = .ok (.iload 4, 2) := by decide +kernel
theorem dX2_valueOf_151 : decode cX2_valueOf 151 = .ok (.iload 6, 2) := by decide +kernel
theorem dX2_valueOf_153 : decode cX2_valueOf 153 = .ok (.aload_n 0, 1) := by decide +kernel
theorem dX2_valueOf_154 : decode cX2_valueOf 154 = .ok (.getfield 26, 3) := by decide +kernel
theorem dX2_valueOf_157 : decode cX2_valueOf 157 = .ok (.iload 4, 2) := by decide +kernel
theorem dX2_valueOf_159 : decode cX2_valueOf 159 = .ok (.iaload, 1) := by decide +kernel
theorem dX2_valueOf_160 : decode cX2_valueOf 160 = .ok (.aload_n 0, 1) := by decide +kernel
theorem dX2_valueOf_161 : decode cX2_valueOf 161 = .ok (.getfield 26, 3) := by decide +kernel
theorem dX2_valueOf_164 : decode cX2_valueOf 164 = .ok (.iload 4, 2) := by decide +kernel
theorem dX2_valueOf_166 : decode cX2_valueOf 166 = .ok (.iconst 1, 1) := by decide +kernel
theorem dX2_valueOf_167 : decode cX2_valueOf 167 = .ok (.iadd, 1) := by decide +kernel
theorem dX2_valueOf_168 : decode cX2_valueOf 168 = .ok (.iaload, 1) := by decide +kernel
theorem dX2_valueOf_169 : decode cX2_valueOf 169 = .ok (.invokestatic 44, 3) := by decide +kernel
theorem dX2_valueOf_172 : decode cX2_valueOf 172 = .ok (.iastore, 1) := by decide +kernel
theorem dX2_valueOf_173 : decode cX2_valueOf 173 = .ok (.iinc 5 1, 3) := by decide +kernel
theorem dX2_valueOf_176 : decode cX2_valueOf 176 = .ok (.goto (-170), 3) := by decide +kernel
theorem dX2_valueOf_179 : decode cX2_valueOf 179 = .ok (.iload 4, 2) := by decide +kernel
theorem dX2_valueOf_181 : decode cX2_valueOf 181 = .ok (.ifCond .lt 13, 3) := by decide +kernel
theorem dX2_valueOf_184 : decode cX2_valueOf 184 = .ok (.aload_n 0, 1) := by decide +kernel
theorem dX2_valueOf_185 : decode cX2_valueOf 185 = .ok (.getfield 26, 3) := by decide +kernel
theorem dX2_valueOf_188 : decode cX2_valueOf 188 = .ok (.iload 4, 2) := by decide +kernel
theorem dX2_valueOf_190 : decode cX2_valueOf 190 = .ok (.iaload, 1) := by decide +kernel
theorem dX2_valueOf_191 : decode cX2_valueOf 191 = .ok (.goto 4, 3) := by decide +kernel
theorem dX2_valueOf_194 : decode cX2_valueOf 194 = .ok (.iconst 0, 1) := by decide +kernel
theorem dX2_valueOf_195 : decode cX2_valueOf 195 = .ok (.ireturn, 1) := by decide +kernel
theorem dX2_join_0 : decode cX2_join 0 = .ok (.iload_n 0, 1) := by decide +kernel
theorem dX2_join_1 : decode cX2_join 1 = .ok (.tableswitch 119 3 8 #[39, 56, 73, 87, 101, 115], 39) := by decide +kernel
theorem dX2_join_40 : decode cX2_join 40 = .ok (.iload_n 1, 1) := by decide +kernel
theorem dX2_join_41 : decode cX2_join 41 = .ok (.ifCond .eq 11, 3) := by decide +kernel
theorem dX2_join_44 : decode cX2_join 44 = .ok (.iload_n 2, 1) := by decide +kernel
theorem dX2_join_45 : decode cX2_join 45 = .ok (.ifCond .eq 7, 3) := by decide +kernel
theorem dX2_join_48 : decode cX2_join 48 = .ok (.iconst 1, 1) := by decide +kernel
theorem dX2_join_49 : decode cX2_join 49 = .ok (.goto 4, 3) := by decide +kernel
theorem dX2_join_52 : decode cX2_join 52 = .ok (.iconst 0, 1) := by decide +kernel
theorem dX2_join_53 : decode cX2_join 53 = .ok (.invokestatic 40, 3) := by decide +kernel
theorem dX2_join_56 : decode cX2_join 56 = .ok (.ireturn, 1) := by decide +kernel
theorem dX2_join_57 : decode cX2_join 57 = .ok (.iload_n 1, 1) := by decide +kernel
theorem dX2_join_58 : decode cX2_join 58 = .ok (.ifCond .ne 7, 3) := by decide +kernel
theorem dX2_join_61 : decode cX2_join 61 = .ok (.iload_n 2, 1) := by decide +kernel
theorem dX2_join_62 : decode cX2_join 62 = .ok (.ifCond .eq 7, 3) := by decide +kernel
theorem dX2_join_65 : decode cX2_join 65 = .ok (.iconst 1, 1) := by decide +kernel
theorem dX2_join_66 : decode cX2_join 66 = .ok (.goto 4, 3) := by decide +kernel
theorem dX2_join_69 : decode cX2_join 69 = .ok (.iconst 0, 1) := by decide +kernel
theorem dX2_join_70 : decode cX2_join 70 = .ok (.invokestatic 40, 3) := by decide +kernel
theorem dX2_join_73 : decode cX2_join 73 = .ok (.ireturn, 1) := by decide +kernel
theorem dX2_join_74 : decode cX2_join 74 = .ok (.iload_n 1, 1) := by decide +kernel
theorem dX2_join_75 : decode cX2_join 75 = .ok (.iload_n 2, 1) := by decide +kernel
theorem dX2_join_76 : decode cX2_join 76 = .ok (.if_icmp .ge 7, 3) := by decide +kernel
theorem dX2_join_79 : decode cX2_join 79 = .ok (.iconst 1, 1) := by decide +kernel
theorem dX2_join_80 : decode cX2_join 80 = .ok (.goto 4, 3) := by decide +kernel
theorem dX2_join_83 : decode cX2_join 83 = .ok (.iconst 0, 1) := by decide +kernel
theorem dX2_join_84 : decode cX2_join 84 = .ok (.invokestatic 40, 3) := by decide +kernel
theorem dX2_join_87 : decode cX2_join 87 = .ok (.ireturn, 1) := by decide +kernel
theorem dX2_join_88 : decode cX2_join 88 = .ok (.iload_n 1, 1) := by decide +kernel
theorem dX2_join_89 : decode cX2_join 89 = .ok (.iload_n 2, 1) := by decide +kernel
theorem dX2_join_90 : decode cX2_join 90 = .ok (.if_icmp .le 7, 3) := by decide +kernel
theorem dX2_join_93 : decode cX2_join 93 = .ok (.iconst 1, 1) := by decide +kernel
theorem dX2_join_94 : decode cX2_join 94 = .ok (.goto 4, 3) := by decide +kernel
theorem dX2_join_97 : decode cX2_join 97 = .ok (.iconst 0, 1) := by decide +kernel
theorem dX2_join_98 : decode cX2_join 98 = .ok (.invokestatic 40, 3) := by decide +kernel
theorem dX2_join_101 : decode cX2_join 101 = .ok (.ireturn, 1) := by decide +kernel
theorem dX2_join_102 : decode cX2_join 102 = .ok (.iload_n 1, 1) := by decide +kernel
theorem dX2_join_103 : decode cX2_join 103 = .ok (.iload_n 2, 1) := by decide +kernel
theorem dX2_join_104 : decode cX2_join 104 = .ok (.if_icmp .ne 7, 3) := by decide +kernel
theorem dX2_join_107 : decode cX2_join 107 = .ok (.iconst 1, 1) := by decide +kernel
theorem dX2_join_108 : decode cX2_join 108 = .ok (.goto 4, 3) := by decide +kernel
theorem dX2_join_111 : decode cX2_join 111 = .ok (.iconst 0, 1) := by decide +kernel
theorem dX2_join_112 : decode cX2_join 112 = .ok (.invokestatic 40, 3) := by decide +kernel
theorem dX2_join_115 : decode cX2_join 115 = .ok (.ireturn, 1) := by decide +kernel
theorem dX2_join_116 : decode cX2_join 116 = .ok (.iload_n 1, 1) := by decide +kernel
theorem dX2_join_117 : decode cX2_join 117 = .ok (.iload_n 2, 1) := by decide +kernel
theorem dX2_join_118 : decode cX2_join 118 = .ok (.iadd, 1) := by decide +kernel
theorem dX2_join_119 : decode cX2_join 119 = .ok (.ireturn, 1) := by decide +kernel
theorem dX2_join_120 : decode cX2_join 120 = .ok (.iload_n 1, 1) := by decide +kernel
theorem dX2_join_121 : decode cX2_join 121 = .ok (.iload_n 2, 1) := by decide +kernel
theorem dX2_join_122 : decode cX2_join 122 = .ok (.isub, 1) := by decide +kernel
theorem dX2_join_123 : decode cX2_join 123 = .ok (.ireturn, 1) := by decide +kernel
theorem dX3_init_0 : decode cX3_init 0 = .ok (.aload_n 0, 1) := by decide +kernel
theorem dX3_init_1 : decode cX3_init 1 = .ok (.invokespecial 3, 3) := by decide +kernel
theorem dX3_init_4 : decode cX3_init 4 = .ok (.aload_n 0, 1) := by decide +kernel
theorem dX3_init_5 : decode cX3_init 5 = .ok (.bipush 60, 2) := by decide +kernel
theorem dX3_init_7 : decode cX3_init 7 = .ok (.newarray .int, 2) := by decide +kernel
theorem dX3_init_9 : decode cX3_init 9 = .ok (.putfield 11, 3) := by decide +kernel
theorem dX3_init_12 : decode cX3_init 12 = .ok (.aload_n 0, 1) := by decide +kernel
theorem dX3_init_13 : decode cX3_init 13 = .ok (.bipush 60, 2) := by decide +kernel
theorem dX3_init_15 : decode cX3_init 15 = .ok (.newarray .int, 2) := by decide +kernel
theorem dX3_init_17 : decode cX3_init 17 = .ok (.putfield 15, 3) := by decide +kernel
theorem dX3_init_20 : decode cX3_init 20 = .ok (.aload_n 0, 1) := by decide +kernel
theorem dX3_init_21 : decode cX3_init 21 = .ok (.bipush 60, 2) := by decide +kernel
theorem dX3_init_23 : decode cX3_init 23 = .ok (.newarray .int, 2) := by decide +kernel
theorem dX3_init_25 : decode cX3_init 25 = .ok (.putfield 18, 3) := by decide +kernel
theorem dX3_init_28 : decode cX3_init 28 = .ok (.aload_n 0, 1) := by decide +kernel
theorem dX3_init_29 : decode cX3_init 29 = .ok (.bipush 60, 2) := by decide +kernel
theorem dX3_init_31 : decode cX3_init 31 = .ok (.newarray .int, 2) := by decide +kernel
theorem dX3_init_33 : decode cX3_init 33 = .ok (.putfield 21, 3) := by decide +kernel
theorem dX3_init_36 : decode cX3_init 36 = .ok (.aload_n 0, 1) := by decide +kernel
theorem dX3_init_37 : decode cX3_init 37 = .ok (.bipush 60, 2) := by decide +kernel
theorem dX3_init_39 : decode cX3_init 39 = .ok (.newarray .int, 2) := by decide +kernel
theorem dX3_init_41 : decode cX3_init 41 = .ok (.putfield 24, 3) := by decide +kernel
theorem dX3_init_44 : decode cX3_init 44 = .ok (.aload_n 0, 1) := by decide +kernel
theorem dX3_init_45 : decode cX3_init 45 = .ok (.bipush 60, 2) := by decide +kernel
theorem dX3_init_47 : decode cX3_init 47 = .ok (.newarray .int, 2) := by decide +kernel
theorem dX3_init_49 : decode cX3_init 49 = .ok (.putfield 27, 3) := by decide +kernel
theorem dX3_init_52 : decode cX3_init 52 = .ok (.aload_n 0, 1) := by decide +kernel
theorem dX3_init_53 : decode cX3_init 53 = .ok (.bipush 60, 2) := by decide +kernel
theorem dX3_init_55 : decode cX3_init 55 = .ok (.newarray .int, 2) := by decide +kernel
theorem dX3_init_57 : decode cX3_init 57 = .ok (.putfield 30, 3) := by decide +kernel
theorem dX3_init_60 : decode cX3_init 60 = .ok (.aload_n 0, 1) := by decide +kernel
theorem dX3_init_61 : decode cX3_init 61 = .ok (.bipush 60, 2) := by decide +kernel
theorem dX3_init_63 : decode cX3_init 63 = .ok (.newarray .int, 2) := by decide +kernel
theorem dX3_init_65 : decode cX3_init 65 = .ok (.putfield 33, 3) := by decide +kernel
theorem dX3_init_68 : decode cX3_init 68 = .ok (.aload_n 0, 1) := by decide +kernel
theorem dX3_init_69 : decode cX3_init 69 = .ok (.bipush 60, 2) := by decide +kernel
theorem dX3_init_71 : decode cX3_init 71 = .ok (.newarray .int, 2) := by decide +kernel
theorem dX3_init_73 : decode cX3_init 73 = .ok (.putfield 36, 3) := by decide +kernel
theorem dX3_init_76 : decode cX3_init 76 = .ok (.aload_n 0, 1) := by decide +kernel
theorem dX3_init_77 : decode cX3_init 77 = .ok (.iconst 0, 1) := by decide +kernel
theorem dX3_init_78 : decode cX3_init 78 = .ok (.putfield 39, 3) := by decide +kernel
theorem dX3_init_81 : decode cX3_init 81 = .ok (.return_, 1) := by decide +kernel
theorem dX3_has_0 : decode cX3_has 0 = .ok (.iload_n 1, 1) := by decide +kernel
theorem dX3_has_1 : decode cX3_has 1 = .ok (.ifCond .lt 15, 3) := by decide +kernel
theorem dX3_has_4 : decode cX3_has 4 = .ok (.iload_n 1, 1) := by decide +kernel
theorem dX3_has_5 : decode cX3_has 5 = .ok (.aload_n 0, 1) := by decide +kernel
theorem dX3_has_6 : decode cX3_has 6 = .ok (.getfield 39, 3) := by decide +kernel
theorem dX3_has_9 : decode cX3_has 9 = .ok (.if_icmp .ge 7, 3) := by decide +kernel
theorem dX3_has_12 : decode cX3_has 12 = .ok (.iconst 1, 1) := by decide +kernel
theorem dX3_has_13 : decode cX3_has 13 = .ok (.goto 4, 3) := by decide +kernel
theorem dX3_has_16 : decode cX3_has 16 = .ok (.iconst 0, 1) := by decide +kernel
theorem dX3_has_17 : decode cX3_has 17 = .ok (.ireturn, 1) := by decide +kernel
theorem dX3_add_0 : decode cX3_add 0 = .ok (.aload_n 0, 1) := by decide +kernel
theorem dX3_add_1 : decode cX3_add 1 = .ok (.getfield 39, 3) := by decide +kernel
theorem dX3_add_4 : decode cX3_add 4 = .ok (.bipush 60, 2) := by decide +kernel
theorem dX3_add_6 : decode cX3_add 6 = .ok (.if_icmp .lt 5, 3) := by decide +kernel
theorem dX3_add_9 : decode cX3_add 9 = .ok (.iconst (-1), 1) := by decide +kernel
theorem dX3_add_10 : decode cX3_add 10 = .ok (.ireturn, 1) := by decide +kernel
theorem dX3_add_11 : decode cX3_add 11 = .ok (.aload_n 0, 1) := by decide +kernel
theorem dX3_add_12 : decode cX3_add 12 = .ok (.getfield 39, 3) := by decide +kernel
theorem dX3_add_15 : decode cX3_add 15 = .ok (.istore 5, 2) := by decide +kernel
theorem dX3_add_17 : decode cX3_add 17 = .ok (.aload_n 0, 1) := by decide +kernel
theorem dX3_add_18 : decode cX3_add 18 = .ok (.getfield 11, 3) := by decide +kernel
theorem dX3_add_21 : decode cX3_add 21 = .ok (.iload 5, 2) := by decide +kernel
theorem dX3_add_23 : decode cX3_add 23 = .ok (.iload_n 1, 1) := by decide +kernel
theorem dX3_add_24 : decode cX3_add 24 = .ok (.iastore, 1) := by decide +kernel
theorem dX3_add_25 : decode cX3_add 25 = .ok (.aload_n 0, 1) := by decide +kernel
theorem dX3_add_26 : decode cX3_add 26 = .ok (.getfield 15, 3) := by decide +kernel
theorem dX3_add_29 : decode cX3_add 29 = .ok (.iload 5, 2) := by decide +kernel
theorem dX3_add_31 : decode cX3_add 31 = .ok (.iload_n 2, 1) := by decide +kernel
theorem dX3_add_32 : decode cX3_add 32 = .ok (.iastore, 1) := by decide +kernel
theorem dX3_add_33 : decode cX3_add 33 = .ok (.aload_n 0, 1) := by decide +kernel
theorem dX3_add_34 : decode cX3_add 34 = .ok (.getfield 18, 3) := by decide +kernel
theorem dX3_add_37 : decode cX3_add 37 = .ok (.iload 5, 2) := by decide +kernel
theorem dX3_add_39 : decode cX3_add 39 = .ok (.iload_n 3, 1) := by decide +kernel
theorem dX3_add_40 : decode cX3_add 40 = .ok (.iastore, 1) := by decide +kernel
theorem dX3_add_41 : decode cX3_add 41 = .ok (.aload_n 0, 1) := by decide +kernel
theorem dX3_add_42 : decode cX3_add 42 = .ok (.getfield 21, 3) := by decide +kernel
theorem dX3_add_45 : decode cX3_add 45 = .ok (.iload 5, 2) := by decide +kernel
theorem dX3_add_47 : decode cX3_add 47 = .ok (.iload 4, 2) := by decide +kernel
theorem dX3_add_49 : decode cX3_add 49 = .ok (.iastore, 1) := by decide +kernel
theorem dX3_add_50 : decode cX3_add 50 = .ok (.aload_n 0, 1) := by decide +kernel
theorem dX3_add_51 : decode cX3_add 51 = .ok (.getfield 33, 3) := by decide +kernel
theorem dX3_add_54 : decode cX3_add 54 = .ok (.iload 5, 2) := by decide +kernel
theorem dX3_add_56 : decode cX3_add 56 = .ok (.iconst (-1), 1) := by decide +kernel
theorem dX3_add_57 : decode cX3_add 57 = .ok (.iastore, 1) := by decide +kernel
theorem dX3_add_58 : decode cX3_add 58 = .ok (.aload_n 0, 1) := by decide +kernel
theorem dX3_add_59 : decode cX3_add 59 = .ok (.iload 5, 2) := by decide +kernel
theorem dX3_add_61 : decode cX3_add 61 = .ok (.invokevirtual 43, 3) := by decide +kernel
theorem dX3_add_64 : decode cX3_add 64 = .ok (.aload_n 0, 1) := by decide +kernel
theorem dX3_add_65 : decode cX3_add 65 = .ok (.dup, 1) := by decide +kernel
theorem dX3_add_66 : decode cX3_add 66 = .ok (.getfield 39, 3) := by decide +kernel
theorem dX3_add_69 : decode cX3_add 69 = .ok (.iconst 1, 1) := by decide +kernel
theorem dX3_add_70 : decode cX3_add 70 = .ok (.iadd, 1) := by decide +kernel
theorem dX3_add_71 : decode cX3_add 71 = .ok (.putfield 39, 3) := by decide +kernel
theorem dX3_add_74 : decode cX3_add 74 = .ok (.iload 5, 2) := by decide +kernel
theorem dX3_add_76 : decode cX3_add 76 = .ok (.ireturn, 1) := by decide +kernel
theorem dX3_putInOrder_0 : decode cX3_putInOrder 0 = .ok (.iload_n 1, 1) := by decide +kernel
theorem dX3_putInOrder_1 : decode cX3_putInOrder 1 = .ok (.istore_n 2, 1) := by decide +kernel
theorem dX3_putInOrder_2 : decode cX3_putInOrder 2 = .ok (.iload_n 1, 1) := by decide +kernel
theorem dX3_putInOrder_3 : decode cX3_putInOrder 3 = .ok (.istore_n 3, 1) := by decide +kernel
theorem dX3_putInOrder_4 : decode cX3_putInOrder 4 = .ok (.iload_n 3, 1) := by decide +kernel
theorem dX3_putInOrder_5 : decode cX3_putInOrder 5 = .ok (.ifCond .le 49, 3) := by decide +kernel
theorem dX3_putInOrder_8 : decode cX3_putInOrder 8 = .ok (.aload_n 0, 1) := by decide +kernel
theorem dX3_putInOrder_9 : decode cX3_putInOrder 9 = .ok (.getfield 21, 3) := by decide +kernel
theorem dX3_putInOrder_12 : decode cX3_putInOrder 12 = .ok (.aload_n 0, 1) := by decide +kernel
theorem dX3_putInOrder_13 : decode cX3_putInOrder 13 = .ok (.getfield 36, 3) := by decide +kernel
theorem dX3_putInOrder_16 : decode cX3_putInOrder 16 = .ok (.iload_n 3, 1) := by decide +kernel
theorem dX3_putInOrder_17 : decode cX3_putInOrder 17 = .ok (.iconst 1, 1) := by decide +kernel
theorem dX3_putInOrder_18 : decode cX3_putInOrder 18 = .ok (.isub, 1) := by decide +kernel
theorem dX3_putInOrder_19 : decode cX3_putInOrder 19 = .ok (.iaload, 1) := by decide +kernel
theorem dX3_putInOrder_20 : decode cX3_putInOrder 20 = .ok (.iaload, 1) := by decide +kernel
theorem dX3_putInOrder_21 : decode cX3_putInOrder 21 = .ok (.aload_n 0, 1) := by decide +kernel
theorem dX3_putInOrder_22 : decode cX3_putInOrder 22 = .ok (.getfield 21, 3) := by decide +kernel
theorem dX3_putInOrder_25 : decode cX3_putInOrder 25 = .ok (.iload_n 1, 1) := by decide +kernel
theorem dX3_putInOrder_26 : decode cX3_putInOrder 26 = .ok (.iaload, 1) := by decide +kernel
theorem dX3_putInOrder_27 : decode cX3_putInOrder 27 = .ok (.if_icmp .le 27, 3) := by decide +kernel
theorem dX3_putInOrder_30 : decode cX3_putInOrder 30 = .ok (.aload_n 0, 1) := by decide +kernel
theorem dX3_putInOrder_31 : decode cX3_putInOrder 31 = .ok (.getfield 36, 3) := by decide +kernel
theorem dX3_putInOrder_34 : decode cX3_putInOrder 34 = .ok (.iload_n 3, 1) := by decide +kernel
theorem dX3_putInOrder_35 : decode cX3_putInOrder 35 = .ok (.aload_n 0, 1) := by decide +kernel
theorem dX3_putInOrder_36 : decode cX3_putInOrder 36 = .ok (.getfield 36, 3) := by decide +kernel
theorem dX3_putInOrder_39 : decode cX3_putInOrder 39 = .ok (.iload_n 3, 1) := by decide +kernel
theorem dX3_putInOrder_40 : decode cX3_putInOrder 40 = .ok (.iconst 1, 1) := by decide +kernel
theorem dX3_putInOrder_41 : decode cX3_putInOrder 41 = .ok (.isub, 1) := by decide +kernel
theorem dX3_putInOrder_42 : decode cX3_putInOrder 42 = .ok (.iaload, 1) := by decide +kernel
theorem dX3_putInOrder_43 : decode cX3_putInOrder 43 = .ok (.iastore, 1) := by decide +kernel
theorem dX3_putInOrder_44 : decode cX3_putInOrder 44 = .ok (.iload_n 3, 1) := by decide +kernel
theorem dX3_putInOrder_45 : decode cX3_putInOrder 45 = .ok (.iconst 1, 1) := by decide +kernel
theorem dX3_putInOrder_46 : decode cX3_putInOrder 46 = .ok (.isub, 1) := by decide +kernel
theorem dX3_putInOrder_47 : decode cX3_putInOrder 47 = .ok (.istore_n 2, 1) := by decide +kernel
theorem dX3_putInOrder_48 : decode cX3_putInOrder 48 = .ok (.iinc 3 (-1), 3) := by decide +kernel
theorem dX3_putInOrder_51 : decode cX3_putInOrder 51 = .ok (.goto (-47), 3) := by decide +kernel
theorem dX3_putInOrder_54 : decode cX3_putInOrder 54 = .ok (.aload_n 0, 1) := by decide +kernel
theorem dX3_putInOrder_55 : decode cX3_putInOrder 55 = .ok (.getfield 36, 3) := by decide +kernel
theorem dX3_putInOrder_58 : decode cX3_putInOrder 58 = .ok (.iload_n 2, 1) := by decide +kernel
theorem dX3_putInOrder_59 : decode cX3_putInOrder 59 = .ok (.iload_n 1, 1) := by decide +kernel
theorem dX3_putInOrder_60 : decode cX3_putInOrder 60 = .ok (.iastore, 1) := by decide +kernel
theorem dX3_putInOrder_61 : decode cX3_putInOrder 61 = .ok (.return_, 1) := by decide +kernel
theorem dX3_describe_0 : decode cX3_describe 0 = .ok (.aload_n 0, 1) := by decide +kernel
theorem dX3_describe_1 : decode cX3_describe 1 = .ok (.iload_n 1, 1) := by decide +kernel
theorem dX3_describe_2 : decode cX3_describe 2 = .ok (.invokevirtual 47, 3) := by decide +kernel
theorem dX3_describe_5 : decode cX3_describe 5 = .ok (.ifCond .eq 25, 3) := by decide +kernel
theorem dX3_describe_8 : decode cX3_describe 8 = .ok (.aload_n 0, 1) := by decide +kernel
theorem dX3_describe_9 : decode cX3_describe 9 = .ok (.getfield 24, 3) := by decide +kernel
theorem dX3_describe_12 : decode cX3_describe 12 = .ok (.iload_n 1, 1) := by decide +kernel
theorem dX3_describe_13 : decode cX3_describe 13 = .ok (.iload_n 2, 1) := by decide +kernel
theorem dX3_describe_14 : decode cX3_describe 14 = .ok (.iastore, 1) := by decide +kernel
theorem dX3_describe_15 : decode cX3_describe 15 = .ok (.aload_n 0, 1) := by decide +kernel
theorem dX3_describe_16 : decode cX3_describe 16 = .ok (.getfield 27, 3) := by decide +kernel
theorem dX3_describe_19 : decode cX3_describe 19 = .ok (.iload_n 1, 1) := by decide +kernel
theorem dX3_describe_20 : decode cX3_describe 20 = .ok (.iload_n 3, 1) := by decide +kernel
theorem dX3_describe_21 : decode cX3_describe 21 = .ok (.iastore, 1) := by decide +kernel
theorem dX3_describe_22 : decode cX3_describe 22 = .ok (.aload_n 0, 1) := by decide +kernel
theorem dX3_describe_23 : decode cX3_describe 23 = .ok (.getfield 30, 3) := by decide +kernel
theorem dX3_describe_26 : decode cX3_describe 26 = .ok (.iload_n 1, 1) := by decide +kernel
theorem dX3_describe_27 : decode cX3_describe 27 = .ok (.iload 4, 2) := by decide +kernel
theorem dX3_describe_29 : decode cX3_describe 29 = .ok (.iastore, 1) := by decide +kernel
theorem dX3_describe_30 : decode cX3_describe 30 = .ok (.return_, 1) := by decide +kernel
theorem dX3_revoke_0 : decode cX3_revoke 0 = .ok (.aload_n 0, 1) := by decide +kernel
theorem dX3_revoke_1 : decode cX3_revoke 1 = .ok (.iload_n 1, 1) := by decide +kernel
theorem dX3_revoke_2 : decode cX3_revoke 2 = .ok (.invokevirtual 47, 3) := by decide +kernel
theorem dX3_revoke_5 : decode cX3_revoke 5 = .ok (.ifCond .eq 13, 3) := by decide +kernel
theorem dX3_revoke_8 : decode cX3_revoke 8 = .ok (.aload_n 0, 1) := by decide +kernel
theorem dX3_revoke_9 : decode cX3_revoke 9 = .ok (.getfield 33, 3) := by decide +kernel
theorem dX3_revoke_12 : decode cX3_revoke 12 = .ok (.iload_n 1, 1) := by decide +kernel
theorem dX3_revoke_13 : decode cX3_revoke 13 = .ok (.iaload, 1) := by decide +kernel
theorem dX3_revoke_14 : decode cX3_revoke 14 = .ok (.iconst (-1), 1) := by decide +kernel
theorem dX3_revoke_15 : decode cX3_revoke 15 = .ok (.if_icmp .eq 5, 3) := by decide +kernel
theorem dX3_revoke_18 : decode cX3_revoke 18 = .ok (.iconst 0, 1) := by decide +kernel
theorem dX3_revoke_19 : decode cX3_revoke 19 = .ok (.ireturn, 1) := by decide +kernel
theorem dX3_revoke_20 : decode cX3_revoke 20 = .ok (.aload_n 0, 1) := by decide +kernel
theorem dX3_revoke_21 : decode cX3_revoke 21 = .ok (.getfield 33, 3) := by decide +kernel
theorem dX3_revoke_24 : decode cX3_revoke 24 = .ok (.iload_n 1, 1) := by decide +kernel
theorem dX3_revoke_25 : decode cX3_revoke 25 = .ok (.iload_n 2, 1) := by decide +kernel
theorem dX3_revoke_26 : decode cX3_revoke 26 = .ok (.iastore, 1) := by decide +kernel
theorem dX3_revoke_27 : decode cX3_revoke 27 = .ok (.iconst 1, 1) := by decide +kernel
theorem dX3_revoke_28 : decode cX3_revoke 28 = .ok (.ireturn, 1) := by decide +kernel
theorem dX3_countsOn_0 : decode cX3_countsOn 0 = .ok (.aload_n 0, 1) := by decide +kernel
theorem dX3_countsOn_1 : decode cX3_countsOn 1 = .ok (.iload_n 1, 1) := by decide +kernel
theorem dX3_countsOn_2 : decode cX3_countsOn 2 = .ok (.invokevirtual 47, 3) := by decide +kernel
theorem dX3_countsOn_5 : decode cX3_countsOn 5 = .ok (.ifCond .eq 37, 3) := by decide +kernel
theorem dX3_countsOn_8 : decode cX3_countsOn 8 = .ok (.aload_n 0, 1) := by decide +kernel
theorem dX3_countsOn_9 : decode cX3_countsOn 9 = .ok (.getfield 30, 3) := by decide +kernel
theorem dX3_countsOn_12 : decode cX3_countsOn 12 = .ok (.iload_n 1, 1) := by decide +kernel
theorem dX3_countsOn_13 : decode cX3_countsOn 13 = .ok (.iaload, 1) := by decide +kernel
theorem dX3_countsOn_14 : decode cX3_countsOn 14 = .ok (.iload_n 2, 1) := by decide +kernel
theorem dX3_countsOn_15 : decode cX3_countsOn 15 = .ok (.if_icmp .gt 27, 3) := by decide +kernel
theorem dX3_countsOn_18 : decode cX3_countsOn 18 = .ok (.aload_n 0, 1) := by decide +kernel
theorem dX3_countsOn_19 : decode cX3_countsOn 19 = .ok (.getfield 33, 3) := by decide +kernel
theorem dX3_countsOn_22 : decode cX3_countsOn 22 = .ok (.iload_n 1, 1) := by decide +kernel
theorem dX3_countsOn_23 : decode cX3_countsOn 23 = .ok (.iaload, 1) := by decide +kernel
theorem dX3_countsOn_24 : decode cX3_countsOn 24 = .ok (.iconst (-1), 1) := by decide +kernel
theorem dX3_countsOn_25 : decode cX3_countsOn 25 = .ok (.if_icmp .eq 13, 3) := by decide +kernel
theorem dX3_countsOn_28 : decode cX3_countsOn 28 = .ok (.aload_n 0, 1) := by decide +kernel
theorem dX3_countsOn_29 : decode cX3_countsOn 29 = .ok (.getfield 33, 3) := by decide +kernel
theorem dX3_countsOn_32 : decode cX3_countsOn 32 = .ok (.iload_n 1, 1) := by decide +kernel
theorem dX3_countsOn_33 : decode cX3_countsOn 33 = .ok (.iaload, 1) := by decide +kernel
theorem dX3_countsOn_34 : decode cX3_countsOn 34 = .ok (.iload_n 2, 1) := by decide +kernel
theorem dX3_countsOn_35 : decode cX3_countsOn 35 = .ok (.if_icmp .le 7, 3) := by decide +kernel
theorem dX3_countsOn_38 : decode cX3_countsOn 38 = .ok (.iconst 1, 1) := by decide +kernel
theorem dX3_countsOn_39 : decode cX3_countsOn 39 = .ok (.goto 4, 3) := by decide +kernel
theorem dX3_countsOn_42 : decode cX3_countsOn 42 = .ok (.iconst 0, 1) := by decide +kernel
theorem dX3_countsOn_43 : decode cX3_countsOn 43 = .ok (.ireturn, 1) := by decide +kernel
theorem dX4_init_0 : decode cX4_init 0 = .ok (.aload_n 0, 1) := by decide +kernel
theorem dX4_init_1 : decode cX4_init 1 = .ok (.invokespecial 3, 3) := by decide +kernel
theorem dX4_init_4 : decode cX4_init 4 = .ok (.aload_n 0, 1) := by decide +kernel
theorem dX4_init_5 : decode cX4_init 5 = .ok (.new 9, 3) := by decide +kernel
theorem dX4_init_8 : decode cX4_init 8 = .ok (.dup, 1) := by decide +kernel
theorem dX4_init_9 : decode cX4_init 9 = .ok (.invokespecial 11, 3) := by decide +kernel
theorem dX4_init_12 : decode cX4_init 12 = .ok (.putfield 12, 3) := by decide +kernel
theorem dX4_init_15 : decode cX4_init 15 = .ok (.aload_n 0, 1) := by decide +kernel
theorem dX4_init_16 : decode cX4_init 16 = .ok (.iconst 0, 1) := by decide +kernel
theorem dX4_init_17 : decode cX4_init 17 = .ok (.putfield 18, 3) := by decide +kernel
theorem dX4_init_20 : decode cX4_init 20 = .ok (.aload_n 0, 1) := by decide +kernel
theorem dX4_init_21 : decode cX4_init 21 = .ok (.iconst (-1), 1) := by decide +kernel
theorem dX4_init_22 : decode cX4_init 22 = .ok (.putfield 22, 3) := by decide +kernel
theorem dX4_init_25 : decode cX4_init 25 = .ok (.aload_n 0, 1) := by decide +kernel
theorem dX4_init_26 : decode cX4_init 26 = .ok (.iconst 0, 1) := by decide +kernel
theorem dX4_init_27 : decode cX4_init 27 = .ok (.putfield 25, 3) := by decide +kernel
theorem dX4_init_30 : decode cX4_init 30 = .ok (.aload_n 0, 1) := by decide +kernel
theorem dX4_init_31 : decode cX4_init 31 = .ok (.bipush 20, 2) := by decide +kernel
theorem dX4_init_33 : decode cX4_init 33 = .ok (.putfield 30, 3) := by decide +kernel
theorem dX4_init_36 : decode cX4_init 36 = .ok (.aload_n 0, 1) := by decide +kernel
theorem dX4_init_37 : decode cX4_init 37 = .ok (.iconst 0, 1) := by decide +kernel
theorem dX4_init_38 : decode cX4_init 38 = .ok (.putfield 33, 3) := by decide +kernel
theorem dX4_init_41 : decode cX4_init 41 = .ok (.aload_n 0, 1) := by decide +kernel
theorem dX4_init_42 : decode cX4_init 42 = .ok (.iconst 0, 1) := by decide +kernel
theorem dX4_init_43 : decode cX4_init 43 = .ok (.putfield 36, 3) := by decide +kernel
theorem dX4_init_46 : decode cX4_init 46 = .ok (.aload_n 0, 1) := by decide +kernel
theorem dX4_init_47 : decode cX4_init 47 = .ok (.aload_n 1, 1) := by decide +kernel
theorem dX4_init_48 : decode cX4_init 48 = .ok (.putfield 39, 3) := by decide +kernel
theorem dX4_init_51 : decode cX4_init 51 = .ok (.return_, 1) := by decide +kernel
theorem dX4_parse_0 : decode cX4_parse 0 = .ok (.aload_n 0, 1) := by decide +kernel
theorem dX4_parse_1 : decode cX4_parse 1 = .ok (.getfield 12, 3) := by decide +kernel
theorem dX4_parse_4 : decode cX4_parse 4 = .ok (.invokevirtual 43, 3) := by decide +kernel
theorem dX4_parse_7 : decode cX4_parse 7 = .ok (.aload_n 0, 1) := by decide +kernel
theorem dX4_parse_8 : decode cX4_parse 8 = .ok (.iconst 0, 1) := by decide +kernel
theorem dX4_parse_9 : decode cX4_parse 9 = .ok (.putfield 18, 3) := by decide +kernel
theorem dX4_parse_12 : decode cX4_parse 12 = .ok (.aload_n 0, 1) := by decide +kernel
theorem dX4_parse_13 : decode cX4_parse 13 = .ok (.iconst (-1), 1) := by decide +kernel
theorem dX4_parse_14 : decode cX4_parse 14 = .ok (.putfield 22, 3) := by decide +kernel
theorem dX4_parse_17 : decode cX4_parse 17 = .ok (.aload_n 0, 1) := by decide +kernel
theorem dX4_parse_18 : decode cX4_parse 18 = .ok (.iconst 0, 1) := by decide +kernel
theorem dX4_parse_19 : decode cX4_parse 19 = .ok (.putfield 36, 3) := by decide +kernel
theorem dX4_parse_22 : decode cX4_parse 22 = .ok (.aload_n 0, 1) := by decide +kernel
theorem dX4_parse_23 : decode cX4_parse 23 = .ok (.iconst 0, 1) := by decide +kernel
theorem dX4_parse_24 : decode cX4_parse 24 = .ok (.invokevirtual 46, 3) := by decide +kernel
theorem dX4_parse_27 : decode cX4_parse 27 = .ok (.iconst 0, 1) := by decide +kernel
theorem dX4_parse_28 : decode cX4_parse 28 = .ok (.istore_n 1, 1) := by decide +kernel
theorem dX4_parse_29 : decode cX4_parse 29 = .ok (.iload_n 1, 1) := by decide +kernel
theorem dX4_parse_30 : decode cX4_parse 30 = .ok (.bipush 16, 2) := by decide +kernel
theorem dX4_parse_32 : decode cX4_parse 32 = .ok (.if_icmp .ge 27, 3) := by decide +kernel
theorem dX4_parse_35 : decode cX4_parse 35 = .ok (.aload_n 0, 1) := by decide +kernel
theorem dX4_parse_36 : decode cX4_parse 36 = .ok (.getfield 30, 3) := by decide +kernel
theorem dX4_parse_39 : decode cX4_parse 39 = .ok (.bipush 9, 2) := by decide +kernel
theorem dX4_parse_41 : decode cX4_parse 41 = .ok (.if_icmp .ne 18, 3) := by decide +kernel
theorem dX4_parse_44 : decode cX4_parse 44 = .ok (.aload_n 0, 1) := by decide +kernel
theorem dX4_parse_45 : decode cX4_parse 45 = .ok (.invokevirtual 50, 3) := by decide +kernel
theorem dX4_parse_48 : decode cX4_parse 48 = .ok (.ifCond .ne 5, 3) := by decide +kernel
theorem dX4_parse_51 : decode cX4_parse 51 = .ok (.iconst 0, 1) := by decide +kernel
theorem dX4_parse_52 : decode cX4_parse 52 = .ok (.ireturn, 1) := by decide +kernel
theorem dX4_parse_53 : decode cX4_parse 53 = .ok (.iinc 1 1, 3) := by decide +kernel
theorem dX4_parse_56 : decode cX4_parse 56 = .ok (.goto (-27), 3) := by decide +kernel
theorem dX4_parse_59 : decode cX4_parse 59 = .ok (.aload_n 0, 1) := by decide +kernel
theorem dX4_parse_60 : decode cX4_parse 60 = .ok (.getfield 30, 3) := by decide +kernel
theorem dX4_parse_63 : decode cX4_parse 63 = .ok (.bipush 20, 2) := by decide +kernel
theorem dX4_parse_65 : decode cX4_parse 65 = .ok (.if_icmp .eq 10, 3) := by decide +kernel
theorem dX4_parse_68 : decode cX4_parse 68 = .ok (.aload_n 0, 1) := by decide +kernel
theorem dX4_parse_69 : decode cX4_parse 69 = .ok (.invokevirtual 54, 3) := by decide +kernel
theorem dX4_parse_72 : decode cX4_parse 72 = .ok (.ifCond .eq 7, 3) := by decide +kernel
theorem dX4_parse_75 : decode cX4_parse 75 = .ok (.iconst 1, 1) := by decide +kernel
theorem dX4_parse_76 : decode cX4_parse 76 = .ok (.goto 4, 3) := by decide +kernel
theorem dX4_parse_79 : decode cX4_parse 79 = .ok (.iconst 0, 1) := by decide +kernel
theorem dX4_parse_80 : decode cX4_parse 80 = .ok (.ireturn, 1) := by decide +kernel
theorem dX4_moveTo_0 : decode cX4_moveTo 0 = .ok (.iload_n 1, 1) := by decide +kernel
theorem dX4_moveTo_1 : decode cX4_moveTo 1 = .ok (.aload_n 0, 1) := by decide +kernel
theorem dX4_moveTo_2 : decode cX4_moveTo 2 = .ok (.getfield 39, 3) := by decide +kernel
theorem dX4_moveTo_5 : decode cX4_moveTo 5 = .ok (.getfield 57, 3) := by decide +kernel
theorem dX4_moveTo_8 : decode cX4_moveTo 8 = .ok (.if_icmp .ge 7, 3) := by decide +kernel
theorem dX4_moveTo_11 : decode cX4_moveTo 11 = .ok (.iconst 1, 1) := by decide +kernel
theorem dX4_moveTo_12 : decode cX4_moveTo 12 = .ok (.goto 4, 3) := by decide +kernel
theorem dX4_moveTo_15 : decode cX4_moveTo 15 = .ok (.iconst 0, 1) := by decide +kernel
theorem dX4_moveTo_16 : decode cX4_moveTo 16 = .ok (.istore_n 2, 1) := by decide +kernel
theorem dX4_moveTo_17 : decode cX4_moveTo 17 = .ok (.aload_n 0, 1) := by decide +kernel
theorem dX4_moveTo_18 : decode cX4_moveTo 18 = .ok (.iload_n 1, 1) := by decide +kernel
theorem dX4_moveTo_19 : decode cX4_moveTo 19 = .ok (.putfield 25, 3) := by decide +kernel
theorem dX4_moveTo_22 : decode cX4_moveTo 22 = .ok (.aload_n 0, 1) := by decide +kernel
theorem dX4_moveTo_23 : decode cX4_moveTo 23 = .ok (.iload_n 2, 1) := by decide +kernel
theorem dX4_moveTo_24 : decode cX4_moveTo 24 = .ok (.ifCond .eq 15, 3) := by decide +kernel
theorem dX4_moveTo_27 : decode cX4_moveTo 27 = .ok (.aload_n 0, 1) := by decide +kernel
theorem dX4_moveTo_28 : decode cX4_moveTo 28 = .ok (.getfield 39, 3) := by decide +kernel
theorem dX4_moveTo_31 : decode cX4_moveTo 31 = .ok (.getfield 60, 3) := by decide +kernel
theorem dX4_moveTo_34 : decode cX4_moveTo 34 = .ok (.iload_n 1, 1) := by decide +kernel
theorem dX4_moveTo_35 : decode cX4_moveTo 35 = .ok (.baload, 1) := by decide +kernel
theorem dX4_moveTo_36 : decode cX4_moveTo 36 = .ok (.goto 5, 3) := by decide +kernel
theorem dX4_moveTo_39 : decode cX4_moveTo 39 = .ok (.bipush 20, 2) := by decide +kernel
theorem dX4_moveTo_41 : decode cX4_moveTo 41 = .ok (.putfield 30, 3) := by decide +kernel
theorem dX4_moveTo_44 : decode cX4_moveTo 44 = .ok (.aload_n 0, 1) := by decide +kernel
theorem dX4_moveTo_45 : decode cX4_moveTo 45 = .ok (.iload_n 2, 1) := by decide +kernel
theorem dX4_moveTo_46 : decode cX4_moveTo 46 = .ok (.ifCond .eq 15, 3) := by decide +kernel
theorem dX4_moveTo_49 : decode cX4_moveTo 49 = .ok (.aload_n 0, 1) := by decide +kernel
theorem dX4_moveTo_50 : decode cX4_moveTo 50 = .ok (.getfield 39, 3) := by decide +kernel
theorem dX4_moveTo_53 : decode cX4_moveTo 53 = .ok (.getfield 64, 3) := by decide +kernel
theorem dX4_moveTo_56 : decode cX4_moveTo 56 = .ok (.iload_n 1, 1) := by decide +kernel
theorem dX4_moveTo_57 : decode cX4_moveTo 57 = .ok (.iaload, 1) := by decide +kernel
theorem dX4_moveTo_58 : decode cX4_moveTo 58 = .ok (.goto 4, 3) := by decide +kernel
theorem dX4_moveTo_61 : decode cX4_moveTo 61 = .ok (.iconst 0, 1) := by decide +kernel
theorem dX4_moveTo_62 : decode cX4_moveTo 62 = .ok (.putfield 33, 3) := by decide +kernel
theorem dX4_moveTo_65 : decode cX4_moveTo 65 = .ok (.return_, 1) := by decide +kernel
theorem dX4_take_0 : decode cX4_take 0 = .ok (.aload_n 0, 1) := by decide +kernel
theorem dX4_take_1 : decode cX4_take 1 = .ok (.getfield 30, 3) := by decide +kernel
theorem dX4_take_4 : decode cX4_take 4 = .ok (.iload_n 1, 1) := by decide +kernel
theorem dX4_take_5 : decode cX4_take 5 = .ok (.if_icmp .eq 8, 3) := by decide +kernel
theorem dX4_take_8 : decode cX4_take 8 = .ok (.aload_n 0, 1) := by decide +kernel
theorem dX4_take_9 : decode cX4_take 9 = .ok (.invokevirtual 54, 3) := by decide +kernel
theorem dX4_take_12 : decode cX4_take 12 = .ok (.ireturn, 1) := by decide +kernel
theorem dX4_take_13 : decode cX4_take 13 = .ok (.aload_n 0, 1) := by decide +kernel
theorem dX4_take_14 : decode cX4_take 14 = .ok (.aload_n 0, 1) := by decide +kernel
theorem dX4_take_15 : decode cX4_take 15 = .ok (.getfield 25, 3) := by decide +kernel
theorem dX4_take_18 : decode cX4_take 18 = .ok (.iconst 1, 1) := by decide +kernel
theorem dX4_take_19 : decode cX4_take 19 = .ok (.iadd, 1) := by decide +kernel
theorem dX4_take_20 : decode cX4_take 20 = .ok (.invokevirtual 46, 3) := by decide +kernel
theorem dX4_take_23 : decode cX4_take 23 = .ok (.iconst 1, 1) := by decide +kernel
theorem dX4_take_24 : decode cX4_take 24 = .ok (.ireturn, 1) := by decide +kernel
theorem dX4_refuse_0 : decode cX4_refuse 0 = .ok (.aload_n 0, 1) := by decide +kernel
theorem dX4_refuse_1 : decode cX4_refuse 1 = .ok (.aload_n 0, 1) := by decide +kernel
theorem dX4_refuse_2 : decode cX4_refuse 2 = .ok (.getfield 30, 3) := by decide +kernel
theorem dX4_refuse_5 : decode cX4_refuse 5 = .ok (.bipush 21, 2) := by decide +kernel
theorem dX4_refuse_7 : decode cX4_refuse 7 = .ok (.if_icmp .ne 7, 3) := by decide +kernel
theorem dX4_refuse_10 : decode cX4_refuse 10 = .ok (.iconst 1, 1) := by decide +kernel
theorem dX4_refuse_11 : decode cX4_refuse 11 = .ok (.goto 4, 3) := by decide +kernel
theorem dX4_refuse_14 : decode cX4_refuse 14 = .ok (.iconst 2, 1) := by decide +kernel
theorem dX4_refuse_15 : decode cX4_refuse 15 = .ok (.putfield 18, 3) := by decide +kernel
theorem dX4_refuse_18 : decode cX4_refuse 18 = .ok (.aload_n 0, 1) := by decide +kernel
theorem dX4_refuse_19 : decode cX4_refuse 19 = .ok (.aload_n 0, 1) := by decide +kernel
theorem dX4_refuse_20 : decode cX4_refuse 20 = .ok (.getfield 25, 3) := by decide +kernel
theorem dX4_refuse_23 : decode cX4_refuse 23 = .ok (.aload_n 0, 1) := by decide +kernel
theorem dX4_refuse_24 : decode cX4_refuse 24 = .ok (.getfield 39, 3) := by decide +kernel
theorem dX4_refuse_27 : decode cX4_refuse 27 = .ok (.getfield 57, 3) := by decide +kernel
theorem dX4_refuse_30 : decode cX4_refuse 30 = .ok (.if_icmp .ge 18, 3) := by decide +kernel
theorem dX4_refuse_33 : decode cX4_refuse 33 = .ok (.aload_n 0, 1) := by decide +kernel
theorem dX4_refuse_34 : decode cX4_refuse 34 = .ok (.getfield 39, 3) := by decide +kernel
theorem dX4_refuse_37 : decode cX4_refuse 37 = .ok (.getfield 68, 3) := by decide +kernel
theorem dX4_refuse_40 : decode cX4_refuse 40 = .ok (.aload_n 0, 1) := by decide +kernel
theorem dX4_refuse_41 : decode cX4_refuse 41 = .ok (.getfield 25, 3) := by decide +kernel
theorem dX4_refuse_44 : decode cX4_refuse 44 = .ok (.saload, 1) := by decide +kernel
theorem dX4_refuse_45 : decode cX4_refuse 45 = .ok (.goto 4, 3) := by decide +kernel
theorem dX4_refuse_48 : decode cX4_refuse 48 = .ok (.iconst (-1), 1) := by decide +kernel
theorem dX4_refuse_49 : decode cX4_refuse 49 = .ok (.putfield 22, 3) := by decide +kernel
theorem dX4_refuse_52 : decode cX4_refuse 52 = .ok (.iconst 0, 1) := by decide +kernel
theorem dX4_refuse_53 : decode cX4_refuse 53 = .ok (.ireturn, 1) := by decide +kernel
theorem dX4_parseLine_0 : decode cX4_parseLine 0 = .ok (.aload_n 0, 1) := by decide +kernel
theorem dX4_parseLine_1 : decode cX4_parseLine 1 = .ok (.bipush 9, 2) := by decide +kernel
theorem dX4_parseLine_3 : decode cX4_parseLine 3 = .ok (.invokevirtual 72, 3) := by decide +kernel
theorem dX4_parseLine_6 : decode cX4_parseLine 6 = .ok (.ifCond .eq 40, 3) := by decide +kernel
theorem dX4_parseLine_9 : decode cX4_parseLine 9 = .ok (.aload_n 0, 1) := by decide +kernel
theorem dX4_parseLine_10 : decode cX4_parseLine 10 = .ok (.iconst 0, 1) := by decide +kernel
theorem dX4_parseLine_11 : decode cX4_parseLine 11 = .ok (.invokevirtual 76, 3) := by decide +kernel
theorem dX4_parseLine_14 : decode cX4_parseLine 14 = .ok (.ifCond .eq 32, 3) := by decide +kernel
theorem dX4_parseLine_17 : decode cX4_parseLine 17 = .ok (.aload_n 0, 1) := by decide +kernel
theorem dX4_parseLine_18 : decode cX4_parseLine 18 = .ok (.bipush 10, 2) := by decide +kernel
theorem dX4_parseLine_20 : decode cX4_parseLine 20 = .ok (.invokevirtual 72, 3) := by decide +kernel
theorem dX4_parseLine_23 : decode cX4_parseLine 23 = .ok (.ifCond .eq 23, 3) := by decide +kernel
theorem dX4_parseLine_26 : decode cX4_parseLine 26 = .ok (.aload_n 0, 1) := by decide +kernel
theorem dX4_parseLine_27 : decode cX4_parseLine 27 = .ok (.invokevirtual 79, 3) := by decide +kernel
theorem dX4_parseLine_30 : decode cX4_parseLine 30 = .ok (.ifCond .eq 16, 3) := by decide +kernel
theorem dX4_parseLine_33 : decode cX4_parseLine 33 = .ok (.aload_n 0, 1) := by decide +kernel
theorem dX4_parseLine_34 : decode cX4_parseLine 34 = .ok (.bipush 22, 2) := by decide +kernel
theorem dX4_parseLine_36 : decode cX4_parseLine 36 = .ok (.invokevirtual 72, 3) := by decide +kernel
theorem dX4_parseLine_39 : decode cX4_parseLine 39 = .ok (.ifCond .eq 7, 3) := by decide +kernel
theorem dX4_parseLine_42 : decode cX4_parseLine 42 = .ok (.iconst 1, 1) := by decide +kernel
theorem dX4_parseLine_43 : decode cX4_parseLine 43 = .ok (.goto 4, 3) := by decide +kernel
theorem dX4_parseLine_46 : decode cX4_parseLine 46 = .ok (.iconst 0, 1) := by decide +kernel
theorem dX4_parseLine_47 : decode cX4_parseLine 47 = .ok (.ireturn, 1) := by decide +kernel
theorem dX4_parseRuling_0 : decode cX4_parseRuling 0 = .ok (.aload_n 0, 1) := by decide +kernel
theorem dX4_parseRuling_1 : decode cX4_parseRuling 1 = .ok (.getfield 30, 3) := by decide +kernel
theorem dX4_parseRuling_4 : decode cX4_parseRuling 4 = .ok (.bipush 11, 2) := by decide +kernel
theorem dX4_parseRuling_6 : decode cX4_parseRuling 6 = .ok (.if_icmp .lt 12, 3) := by decide +kernel
theorem dX4_parseRuling_9 : decode cX4_parseRuling 9 = .ok (.aload_n 0, 1) := by decide +kernel
theorem dX4_parseRuling_10 : decode cX4_parseRuling 10 = .ok (.getfield 30, 3) := by decide +kernel
theorem dX4_parseRuling_13 : decode cX4_parseRuling 13 = .ok (.bipush 14, 2) := by decide +kernel
theorem dX4_parseRuling_15 : decode cX4_parseRuling 15 = .ok (.if_icmp .le 8, 3) := by decide +kernel
theorem dX4_parseRuling_18 : decode cX4_parseRuling 18 = .ok (.aload_n 0, 1) := by decide +kernel
theorem dX4_parseRuling_19 : decode cX4_parseRuling 19 = .ok (.invokevirtual 54, 3) := by decide +kernel
theorem dX4_parseRuling_22 : decode cX4_parseRuling 22 = .ok (.ireturn, 1) := by decide +kernel
theorem dX4_parseRuling_23 : decode cX4_parseRuling 23 = .ok (.aload_n 0, 1) := by decide +kernel
theorem dX4_parseRuling_24 : decode cX4_parseRuling 24 = .ok (.getfield 30, 3) := by decide +kernel
theorem dX4_parseRuling_27 : decode cX4_parseRuling 27 = .ok (.bipush 11, 2) := by decide +kernel
theorem dX4_parseRuling_29 : decode cX4_parseRuling 29 = .ok (.isub, 1) := by decide +kernel
theorem dX4_parseRuling_30 : decode cX4_parseRuling 30 = .ok (.iconst 1, 1) := by decide +kernel
theorem dX4_parseRuling_31 : decode cX4_parseRuling 31 = .ok (.iadd, 1) := by decide +kernel
theorem dX4_parseRuling_32 : decode cX4_parseRuling 32 = .ok (.istore_n 1, 1) := by decide +kernel
theorem dX4_parseRuling_33 : decode cX4_parseRuling 33 = .ok (.aload_n 0, 1) := by decide +kernel
theorem dX4_parseRuling_34 : decode cX4_parseRuling 34 = .ok (.aload_n 0, 1) := by decide +kernel
theorem dX4_parseRuling_35 : decode cX4_parseRuling 35 = .ok (.getfield 25, 3) := by decide +kernel
theorem dX4_parseRuling_38 : decode cX4_parseRuling 38 = .ok (.iconst 1, 1) := by decide +kernel
theorem dX4_parseRuling_39 : decode cX4_parseRuling 39 = .ok (.iadd, 1) := by decide +kernel
theorem dX4_parseRuling_40 : decode cX4_parseRuling 40 = .ok (.invokevirtual 46, 3) := by decide +kernel
theorem dX4_parseRuling_43 : decode cX4_parseRuling 43 = .ok (.iload_n 1, 1) := by decide +kernel
theorem dX4_parseRuling_44 : decode cX4_parseRuling 44 = .ok (.iconst 3, 1) := by decide +kernel
theorem dX4_parseRuling_45 : decode cX4_parseRuling 45 = .ok (.if_icmp .eq 14, 3) := by decide +kernel
theorem dX4_parseRuling_48 : decode cX4_parseRuling 48 = .ok (.aload_n 0, 1) := by decide +kernel
theorem dX4_parseRuling_49 : decode cX4_parseRuling 49 = .ok (.getfield 12, 3) := by decide +kernel
theorem dX4_parseRuling_52 : decode cX4_parseRuling 52 = .ok (.iload_n 1, 1) := by decide +kernel
theorem dX4_parseRuling_53 : decode cX4_parseRuling 53 = .ok (.iconst 0, 1) := by decide +kernel
theorem dX4_parseRuling_54 : decode cX4_parseRuling 54 = .ok (.invokevirtual 82, 3) := by decide +kernel
theorem dX4_parseRuling_57 : decode cX4_parseRuling 57 = .ok (.iconst 1, 1) := by decide +kernel
theorem dX4_parseRuling_58 : decode cX4_parseRuling 58 = .ok (.ireturn, 1) := by decide +kernel
theorem dX4_parseRuling_59 : decode cX4_parseRuling 59 = .ok (.aload_n 0, 1) := by decide +kernel
theorem dX4_parseRuling_60 : decode cX4_parseRuling 60 = .ok (.getfield 30, 3) := by decide +kernel
theorem dX4_parseRuling_63 : decode cX4_parseRuling 63 = .ok (.bipush 19, 2) := by decide +kernel
theorem dX4_parseRuling_65 : decode cX4_parseRuling 65 = .ok (.if_icmp .ne 24, 3) := by decide +kernel
theorem dX4_parseRuling_68 : decode cX4_parseRuling 68 = .ok (.aload_n 0, 1) := by decide +kernel
theorem dX4_parseRuling_69 : decode cX4_parseRuling 69 = .ok (.getfield 33, 3) := by decide +kernel
theorem dX4_parseRuling_72 : decode cX4_parseRuling 72 = .ok (.bipush 100, 2) := by decide +kernel
theorem dX4_parseRuling_74 : decode cX4_parseRuling 74 = .ok (.if_icmp .le 15, 3) := by decide +kernel
theorem dX4_parseRuling_77 : decode cX4_parseRuling 77 = .ok (.aload_n 0, 1) := by decide +kernel
theorem dX4_parseRuling_78 : decode cX4_parseRuling 78 = .ok (.invokevirtual 54, 3) := by decide +kernel
theorem dX4_parseRuling_81 : decode cX4_parseRuling 81 = .ok (.pop, 1) := by decide +kernel
theorem dX4_parseRuling_82 : decode cX4_parseRuling 82 = .ok (.aload_n 0, 1) := by decide +kernel
theorem dX4_parseRuling_83 : decode cX4_parseRuling 83 = .ok (.iconst 3, 1) := by decide +kernel
theorem dX4_parseRuling_84 : decode cX4_parseRuling 84 = .ok (.putfield 18, 3) := by decide +kernel
theorem dX4_parseRuling_87 : decode cX4_parseRuling 87 = .ok (.iconst 0, 1) := by decide +kernel
theorem dX4_parseRuling_88 : decode cX4_parseRuling 88 = .ok (.ireturn, 1) := by decide +kernel
theorem dX4_parseRuling_89 : decode cX4_parseRuling 89 = .ok (.aload_n 0, 1) := by decide +kernel
theorem dX4_parseRuling_90 : decode cX4_parseRuling 90 = .ok (.getfield 12, 3) := by decide +kernel
theorem dX4_parseRuling_93 : decode cX4_parseRuling 93 = .ok (.iload_n 1, 1) := by decide +kernel
theorem dX4_parseRuling_94 : decode cX4_parseRuling 94 = .ok (.aload_n 0, 1) := by decide +kernel
theorem dX4_parseRuling_95 : decode cX4_parseRuling 95 = .ok (.getfield 33, 3) := by decide +kernel
theorem dX4_parseRuling_98 : decode cX4_parseRuling 98 = .ok (.invokevirtual 82, 3) := by decide +kernel
theorem dX4_parseRuling_101 : decode cX4_parseRuling 101 = .ok (.aload_n 0, 1) := by decide +kernel
theorem dX4_parseRuling_102 : decode cX4_parseRuling 102 = .ok (.bipush 19, 2) := by decide +kernel
theorem dX4_parseRuling_104 : decode cX4_parseRuling 104 = .ok (.invokevirtual 72, 3) := by decide +kernel
theorem dX4_parseRuling_107 : decode cX4_parseRuling 107 = .ok (.ireturn, 1) := by decide +kernel
theorem dX4_parseEither_0 : decode cX4_parseEither 0 = .ok (.aload_n 0, 1) := by decide +kernel
theorem dX4_parseEither_1 : decode cX4_parseEither 1 = .ok (.iload_n 1, 1) := by decide +kernel
theorem dX4_parseEither_2 : decode cX4_parseEither 2 = .ok (.invokevirtual 86, 3) := by decide +kernel
theorem dX4_parseEither_5 : decode cX4_parseEither 5 = .ok (.ifCond .ne 5, 3) := by decide +kernel
theorem dX4_parseEither_8 : decode cX4_parseEither 8 = .ok (.iconst 0, 1) := by decide +kernel
theorem dX4_parseEither_9 : decode cX4_parseEither 9 = .ok (.ireturn, 1) := by decide +kernel
theorem dX4_parseEither_10 : decode cX4_parseEither 10 = .ok (.iconst 0, 1) := by decide +kernel
theorem dX4_parseEither_11 : decode cX4_parseEither 11 = .ok (.istore_n 2, 1) := by decide +kernel
theorem dX4_parseEither_12 : decode cX4_parseEither 12 = .ok (.iload_n 2, 1) := by decide +kernel
theorem dX4_parseEither_13 : decode cX4_parseEither 13 = .ok (.bipush 80, 2) := by decide +kernel
theorem dX4_parseEither_15 : decode cX4_parseEither 15 = .ok (.if_icmp .ge 47, 3) := by decide +kernel
theorem dX4_parseEither_18 : decode cX4_parseEither 18 = .ok (.aload_n 0, 1) := by decide +kernel
theorem dX4_parseEither_19 : decode cX4_parseEither 19 = .ok (.getfield 30, 3) := by decide +kernel
theorem dX4_parseEither_22 : decode cX4_parseEither 22 = .ok (.bipush 15, 2) := by decide +kernel
theorem dX4_parseEither_24 : decode cX4_parseEither 24 = .ok (.if_icmp .ne 38, 3) := by decide +kernel
theorem dX4_parseEither_27 : decode cX4_parseEither 27 = .ok (.aload_n 0, 1) := by decide +kernel
theorem dX4_parseEither_28 : decode cX4_parseEither 28 = .ok (.aload_n 0, 1) := by decide +kernel
theorem dX4_parseEither_29 : decode cX4_parseEither 29 = .ok (.getfield 25, 3) := by decide +kernel
theorem dX4_parseEither_32 : decode cX4_parseEither 32 = .ok (.iconst 1, 1) := by decide +kernel
theorem dX4_parseEither_33 : decode cX4_parseEither 33 = .ok (.iadd, 1) := by decide +kernel
theorem dX4_parseEither_34 : decode cX4_parseEither 34 = .ok (.invokevirtual 46, 3) := by decide +kernel
theorem dX4_parseEither_37 : decode cX4_parseEither 37 = .ok (.aload_n 0, 1) := by decide +kernel
theorem dX4_parseEither_38 : decode cX4_parseEither 38 = .ok (.iload_n 1, 1) := by decide +kernel
theorem dX4_parseEither_39 : decode cX4_parseEither 39 = .ok (.invokevirtual 86, 3) := by decide +kernel
theorem dX4_parseEither_42 : decode cX4_parseEither 42 = .ok (.ifCond .ne 5, 3) := by decide +kernel
theorem dX4_parseEither_45 : decode cX4_parseEither 45 = .ok (.iconst 0, 1) := by decide +kernel
theorem dX4_parseEither_46 : decode cX4_parseEither 46 = .ok (.ireturn, 1) := by decide +kernel
theorem dX4_parseEither_47 : decode cX4_parseEither 47 = .ok (.aload_n 0, 1) := by decide +kernel
theorem dX4_parseEither_48 : decode cX4_parseEither 48 = .ok (.getfield 12, 3) := by decide +kernel
theorem dX4_parseEither_51 : decode cX4_parseEither 51 = .ok (.iconst 4, 1) := by decide +kernel
theorem dX4_parseEither_52 : decode cX4_parseEither 52 = .ok (.iconst 0, 1) := by decide +kernel
theorem dX4_parseEither_53 : decode cX4_parseEither 53 = .ok (.invokevirtual 89, 3) := by decide +kernel
theorem dX4_parseEither_56 : decode cX4_parseEither 56 = .ok (.iinc 2 1, 3) := by decide +kernel
theorem dX4_parseEither_59 : decode cX4_parseEither 59 = .ok (.goto (-47), 3) := by decide +kernel
theorem dX4_parseEither_62 : decode cX4_parseEither 62 = .ok (.iconst 1, 1) := by decide +kernel
theorem dX4_parseEither_63 : decode cX4_parseEither 63 = .ok (.ireturn, 1) := by decide +kernel
theorem dX4_parseBoth_0 : decode cX4_parseBoth 0 = .ok (.aload_n 0, 1) := by decide +kernel
theorem dX4_parseBoth_1 : decode cX4_parseBoth 1 = .ok (.iload_n 1, 1) := by decide +kernel
theorem dX4_parseBoth_2 : decode cX4_parseBoth 2 = .ok (.invokevirtual 92, 3) := by decide +kernel
theorem dX4_parseBoth_5 : decode cX4_parseBoth 5 = .ok (.ifCond .ne 5, 3) := by decide +kernel
theorem dX4_parseBoth_8 : decode cX4_parseBoth 8 = .ok (.iconst 0, 1) := by decide +kernel
theorem dX4_parseBoth_9 : decode cX4_parseBoth 9 = .ok (.ireturn, 1) := by decide +kernel
theorem dX4_parseBoth_10 : decode cX4_parseBoth 10 = .ok (.iconst 0, 1) := by decide +kernel
theorem dX4_parseBoth_11 : decode cX4_parseBoth 11 = .ok (.istore_n 2, 1) := by decide +kernel
theorem dX4_parseBoth_12 : decode cX4_parseBoth 12 = .ok (.iload_n 2, 1) := by decide +kernel
theorem dX4_parseBoth_13 : decode cX4_parseBoth 13 = .ok (.bipush 80, 2) := by decide +kernel
theorem dX4_parseBoth_15 : decode cX4_parseBoth 15 = .ok (.if_icmp .ge 47, 3) := by decide +kernel
theorem dX4_parseBoth_18 : decode cX4_parseBoth 18 = .ok (.aload_n 0, 1) := by decide +kernel
theorem dX4_parseBoth_19 : decode cX4_parseBoth 19 = .ok (.getfield 30, 3) := by decide +kernel
theorem dX4_parseBoth_22 : decode cX4_parseBoth 22 = .ok (.bipush 16, 2) := by decide +kernel
theorem dX4_parseBoth_24 : decode cX4_parseBoth 24 = .ok (.if_icmp .ne 38, 3) := by decide +kernel
theorem dX4_parseBoth_27 : decode cX4_parseBoth 27 = .ok (.aload_n 0, 1) := by decide +kernel
theorem dX4_parseBoth_28 : decode cX4_parseBoth 28 = .ok (.aload_n 0, 1) := by decide +kernel
theorem dX4_parseBoth_29 : decode cX4_parseBoth 29 = .ok (.getfield 25, 3) := by decide +kernel
theorem dX4_parseBoth_32 : decode cX4_parseBoth 32 = .ok (.iconst 1, 1) := by decide +kernel
theorem dX4_parseBoth_33 : decode cX4_parseBoth 33 = .ok (.iadd, 1) := by decide +kernel
theorem dX4_parseBoth_34 : decode cX4_parseBoth 34 = .ok (.invokevirtual 46, 3) := by decide +kernel
theorem dX4_parseBoth_37 : decode cX4_parseBoth 37 = .ok (.aload_n 0, 1) := by decide +kernel
theorem dX4_parseBoth_38 : decode cX4_parseBoth 38 = .ok (.iload_n 1, 1) := by decide +kernel
theorem dX4_parseBoth_39 : decode cX4_parseBoth 39 = .ok (.invokevirtual 92, 3) := by decide +kernel
theorem dX4_parseBoth_42 : decode cX4_parseBoth 42 = .ok (.ifCond .ne 5, 3) := by decide +kernel
theorem dX4_parseBoth_45 : decode cX4_parseBoth 45 = .ok (.iconst 0, 1) := by decide +kernel
theorem dX4_parseBoth_46 : decode cX4_parseBoth 46 = .ok (.ireturn, 1) := by decide +kernel
theorem dX4_parseBoth_47 : decode cX4_parseBoth 47 = .ok (.aload_n 0, 1) := by decide +kernel
theorem dX4_parseBoth_48 : decode cX4_parseBoth 48 = .ok (.getfield 12, 3) := by decide +kernel
theorem dX4_parseBoth_51 : decode cX4_parseBoth 51 = .ok (.iconst 3, 1) := by decide +kernel
theorem dX4_parseBoth_52 : decode cX4_parseBoth 52 = .ok (.iconst 0, 1) := by decide +kernel
theorem dX4_parseBoth_53 : decode cX4_parseBoth 53 = .ok (.invokevirtual 89, 3) := by decide +kernel
theorem dX4_parseBoth_56 : decode cX4_parseBoth 56 = .ok (.iinc 2 1, 3) := by decide +kernel
theorem dX4_parseBoth_59 : decode cX4_parseBoth 59 = .ok (.goto (-47), 3) := by decide +kernel
theorem dX4_parseBoth_62 : decode cX4_parseBoth 62 = .ok (.iconst 1, 1) := by decide +kernel
theorem dX4_parseBoth_63 : decode cX4_parseBoth 63 = .ok (.ireturn, 1) := by decide +kernel
theorem dX4_parseOne_0 : decode cX4_parseOne 0 = .ok (.iload_n 1, 1) := by decide +kernel
theorem dX4_parseOne_1 : decode cX4_parseOne 1 = .ok (.bipush 6, 2) := by decide +kernel
theorem dX4_parseOne_3 : decode cX4_parseOne 3 = .ok (.if_icmp .lt 8, 3) := by decide +kernel
theorem dX4_parseOne_6 : decode cX4_parseOne 6 = .ok (.aload_n 0, 1) := by decide +kernel
theorem dX4_parseOne_7 : decode cX4_parseOne 7 = .ok (.invokevirtual 54, 3) := by decide +kernel
theorem dX4_parseOne_10 : decode cX4_parseOne 10 = .ok (.ireturn, 1) := by decide +kernel
theorem dX4_parseOne_11 : decode cX4_parseOne 11 = .ok (.aload_n 0, 1) := by decide +kernel
theorem dX4_parseOne_12 : decode cX4_parseOne 12 = .ok (.getfield 30, 3) := by decide +kernel
theorem dX4_parseOne_15 : decode cX4_parseOne 15 = .ok (.bipush 23, 2) := by decide +kernel
theorem dX4_parseOne_17 : decode cX4_parseOne 17 = .ok (.if_icmp .ne 38, 3) := by decide +kernel
theorem dX4_parseOne_20 : decode cX4_parseOne 20 = .ok (.aload_n 0, 1) := by decide +kernel
theorem dX4_parseOne_21 : decode cX4_parseOne 21 = .ok (.aload_n 0, 1) := by decide +kernel
theorem dX4_parseOne_22 : decode cX4_parseOne 22 = .ok (.getfield 25, 3) := by decide +kernel
theorem dX4_parseOne_25 : decode cX4_parseOne 25 = .ok (.iconst 1, 1) := by decide +kernel
theorem dX4_parseOne_26 : decode cX4_parseOne 26 = .ok (.iadd, 1) := by decide +kernel
theorem dX4_parseOne_27 : decode cX4_parseOne 27 = .ok (.invokevirtual 46, 3) := by decide +kernel
theorem dX4_parseOne_30 : decode cX4_parseOne 30 = .ok (.aload_n 0, 1) := by decide +kernel
theorem dX4_parseOne_31 : decode cX4_parseOne 31 = .ok (.iload_n 1, 1) := by decide +kernel
theorem dX4_parseOne_32 : decode cX4_parseOne 32 = .ok (.iconst 1, 1) := by decide +kernel
theorem dX4_parseOne_33 : decode cX4_parseOne 33 = .ok (.iadd, 1) := by decide +kernel
theorem dX4_parseOne_34 : decode cX4_parseOne 34 = .ok (.invokevirtual 76, 3) := by decide +kernel
theorem dX4_parseOne_37 : decode cX4_parseOne 37 = .ok (.ifCond .eq 16, 3) := by decide +kernel
theorem dX4_parseOne_40 : decode cX4_parseOne 40 = .ok (.aload_n 0, 1) := by decide +kernel
theorem dX4_parseOne_41 : decode cX4_parseOne 41 = .ok (.bipush 24, 2) := by decide +kernel
theorem dX4_parseOne_43 : decode cX4_parseOne 43 = .ok (.invokevirtual 72, 3) := by decide +kernel
theorem dX4_parseOne_46 : decode cX4_parseOne 46 = .ok (.ifCond .eq 7, 3) := by decide +kernel
theorem dX4_parseOne_49 : decode cX4_parseOne 49 = .ok (.iconst 1, 1) := by decide +kernel
theorem dX4_parseOne_50 : decode cX4_parseOne 50 = .ok (.goto 4, 3) := by decide +kernel
theorem dX4_parseOne_53 : decode cX4_parseOne 53 = .ok (.iconst 0, 1) := by decide +kernel
theorem dX4_parseOne_54 : decode cX4_parseOne 54 = .ok (.ireturn, 1) := by decide +kernel
theorem dX4_parseOne_55 : decode cX4_parseOne 55 = .ok (.aload_n 0, 1) := by decide +kernel
theorem dX4_parseOne_56 : decode cX4_parseOne 56 = .ok (.getfield 30, 3) := by decide +kernel
theorem dX4_parseOne_59 : decode cX4_parseOne 59 = .ok (.bipush 17, 2) := by decide +kernel
theorem dX4_parseOne_61 : decode cX4_parseOne 61 = .ok (.if_icmp .ne 32, 3) := by decide +kernel
theorem dX4_parseOne_64 : decode cX4_parseOne 64 = .ok (.aload_n 0, 1) := by decide +kernel
theorem dX4_parseOne_65 : decode cX4_parseOne 65 = .ok (.aload_n 0, 1) := by decide +kernel
theorem dX4_parseOne_66 : decode cX4_parseOne 66 = .ok (.getfield 25, 3) := by decide +kernel
theorem dX4_parseOne_69 : decode cX4_parseOne 69 = .ok (.iconst 1, 1) := by decide +kernel
theorem dX4_parseOne_70 : decode cX4_parseOne 70 = .ok (.iadd, 1) := by decide +kernel
theorem dX4_parseOne_71 : decode cX4_parseOne 71 = .ok (.invokevirtual 46, 3) := by decide +kernel
theorem dX4_parseOne_74 : decode cX4_parseOne 74 = .ok (.aload_n 0, 1) := by decide +kernel
theorem dX4_parseOne_75 : decode cX4_parseOne 75 = .ok (.iload_n 1, 1) := by decide +kernel
theorem dX4_parseOne_76 : decode cX4_parseOne 76 = .ok (.iconst 1, 1) := by decide +kernel
theorem dX4_parseOne_77 : decode cX4_parseOne 77 = .ok (.iadd, 1) := by decide +kernel
theorem dX4_parseOne_78 : decode cX4_parseOne 78 = .ok (.invokevirtual 92, 3) := by decide +kernel
theorem dX4_parseOne_81 : decode cX4_parseOne 81 = .ok (.istore_n 2, 1) := by decide +kernel
theorem dX4_parseOne_82 : decode cX4_parseOne 82 = .ok (.aload_n 0, 1) := by decide +kernel
theorem dX4_parseOne_83 : decode cX4_parseOne 83 = .ok (.getfield 12, 3) := by decide +kernel
theorem dX4_parseOne_86 : decode cX4_parseOne 86 = .ok (.iconst 2, 1) := by decide +kernel
theorem dX4_parseOne_87 : decode cX4_parseOne 87 = .ok (.iconst 0, 1) := by decide +kernel
theorem dX4_parseOne_88 : decode cX4_parseOne 88 = .ok (.invokevirtual 89, 3) := by decide +kernel
theorem dX4_parseOne_91 : decode cX4_parseOne 91 = .ok (.iload_n 2, 1) := by decide +kernel
theorem dX4_parseOne_92 : decode cX4_parseOne 92 = .ok (.ireturn, 1) := by decide +kernel
theorem dX4_parseOne_93 : decode cX4_parseOne 93 = .ok (.aload_n 0, 1) := by decide +kernel
theorem dX4_parseOne_94 : decode cX4_parseOne 94 = .ok (.invokevirtual 95, 3) := by decide +kernel
theorem dX4_parseOne_97 : decode cX4_parseOne 97 = .ok (.ifCond .ne 5, 3) := by decide +kernel
theorem dX4_parseOne_100 : decode cX4_parseOne 100 = .ok (.iconst 0, 1) := by decide +kernel
theorem dX4_parseOne_101 : decode cX4_parseOne 101 = .ok (.ireturn, 1) := by decide +kernel
theorem dX4_parseOne_102 : decode cX4_parseOne 102 = .ok (.aload_n 0, 1) := by decide +kernel
theorem dX4_parseOne_103 : decode cX4_parseOne 103 = .ok (.getfield 30, 3) := by decide +kernel
theorem dX4_parseOne_106 : decode cX4_parseOne 106 = .ok (.bipush 25, 2) := by decide +kernel
theorem dX4_parseOne_108 : decode cX4_parseOne 108 = .ok (.if_icmp .lt 12, 3) := by decide +kernel
theorem dX4_parseOne_111 : decode cX4_parseOne 111 = .ok (.aload_n 0, 1) := by decide +kernel
theorem dX4_parseOne_112 : decode cX4_parseOne 112 = .ok (.getfield 30, 3) := by decide +kernel
theorem dX4_parseOne_115 : decode cX4_parseOne 115 = .ok (.bipush 27, 2) := by decide +kernel
theorem dX4_parseOne_117 : decode cX4_parseOne 117 = .ok (.if_icmp .le 5, 3) := by decide +kernel
theorem dX4_parseOne_120 : decode cX4_parseOne 120 = .ok (.iconst 1, 1) := by decide +kernel
theorem dX4_parseOne_121 : decode cX4_parseOne 121 = .ok (.ireturn, 1) := by decide +kernel
theorem dX4_parseOne_122 : decode cX4_parseOne 122 = .ok (.iconst 5, 1) := by decide +kernel
theorem dX4_parseOne_123 : decode cX4_parseOne 123 = .ok (.aload_n 0, 1) := by decide +kernel
theorem dX4_parseOne_124 : decode cX4_parseOne 124 = .ok (.getfield 30, 3) := by decide +kernel
theorem dX4_parseOne_127 : decode cX4_parseOne 127 = .ok (.iadd, 1) := by decide +kernel
theorem dX4_parseOne_128 : decode cX4_parseOne 128 = .ok (.bipush 25, 2) := by decide +kernel
theorem dX4_parseOne_130 : decode cX4_parseOne 130 = .ok (.isub, 1) := by decide +kernel
theorem dX4_parseOne_131 : decode cX4_parseOne 131 = .ok (.istore_n 2, 1) := by decide +kernel
theorem dX4_parseOne_132 : decode cX4_parseOne 132 = .ok (.aload_n 0, 1) := by decide +kernel
theorem dX4_parseOne_133 : decode cX4_parseOne 133 = .ok (.aload_n 0, 1) := by decide +kernel
theorem dX4_parseOne_134 : decode cX4_parseOne 134 = .ok (.getfield 25, 3) := by decide +kernel
theorem dX4_parseOne_137 : decode cX4_parseOne 137 = .ok (.iconst 1, 1) := by decide +kernel
theorem dX4_parseOne_138 : decode cX4_parseOne 138 = .ok (.iadd, 1) := by decide +kernel
theorem dX4_parseOne_139 : decode cX4_parseOne 139 = .ok (.invokevirtual 46, 3) := by decide +kernel
theorem dX4_parseOne_142 : decode cX4_parseOne 142 = .ok (.aload_n 0, 1) := by decide +kernel
theorem dX4_parseOne_143 : decode cX4_parseOne 143 = .ok (.invokevirtual 95, 3) := by decide +kernel
theorem dX4_parseOne_146 : decode cX4_parseOne 146 = .ok (.istore_n 3, 1) := by decide +kernel
theorem dX4_parseOne_147 : decode cX4_parseOne 147 = .ok (.aload_n 0, 1) := by decide +kernel
theorem dX4_parseOne_148 : decode cX4_parseOne 148 = .ok (.getfield 12, 3) := by decide +kernel
theorem dX4_parseOne_151 : decode cX4_parseOne 151 = .ok (.iload_n 2, 1) := by decide +kernel
theorem dX4_parseOne_152 : decode cX4_parseOne 152 = .ok (.iconst 0, 1) := by decide +kernel
theorem dX4_parseOne_153 : decode cX4_parseOne 153 = .ok (.invokevirtual 89, 3) := by decide +kernel
theorem dX4_parseOne_156 : decode cX4_parseOne 156 = .ok (.iload_n 3, 1) := by decide +kernel
theorem dX4_parseOne_157 : decode cX4_parseOne 157 = .ok (.ireturn, 1) := by decide +kernel
theorem dX4_parseSum_0 : decode cX4_parseSum 0 = .ok (.bipush 8, 2) := by decide +kernel
theorem dX4_parseSum_2 : decode cX4_parseSum 2 = .ok (.istore_n 1, 1) := by decide +kernel
theorem dX4_parseSum_3 : decode cX4_parseSum 3 = .ok (.iconst 0, 1) := by decide +kernel
theorem dX4_parseSum_4 : decode cX4_parseSum 4 = .ok (.istore_n 2, 1) := by decide +kernel
theorem dX4_parseSum_5 : decode cX4_parseSum 5 = .ok (.iload_n 2, 1) := by decide +kernel
theorem dX4_parseSum_6 : decode cX4_parseSum 6 = .ok (.bipush 80, 2) := by decide +kernel
theorem dX4_parseSum_8 : decode cX4_parseSum 8 = .ok (.if_icmp .gt 181, 3) := by decide +kernel
theorem dX4_parseSum_11 : decode cX4_parseSum 11 = .ok (.aload_n 0, 1) := by decide +kernel
theorem dX4_parseSum_12 : decode cX4_parseSum 12 = .ok (.getfield 30, 3) := by decide +kernel
theorem dX4_parseSum_15 : decode cX4_parseSum 15 = .ok (.bipush 19, 2) := by decide +kernel
theorem dX4_parseSum_17 : decode cX4_parseSum 17 = .ok (.if_icmp .ne 7, 3) := by decide +kernel
theorem dX4_parseSum_20 : decode cX4_parseSum 20 = .ok (.iconst 1, 1) := by decide +kernel
theorem dX4_parseSum_21 : decode cX4_parseSum 21 = .ok (.goto 4, 3) := by decide +kernel
theorem dX4_parseSum_24 : decode cX4_parseSum 24 = .ok (.iconst 0, 1) := by decide +kernel
theorem dX4_parseSum_25 : decode cX4_parseSum 25 = .ok (.istore_n 3, 1) := by decide +kernel
theorem dX4_parseSum_26 : decode cX4_parseSum 26 = .ok (.iload_n 3, 1) := by decide +kernel
theorem dX4_parseSum_27 : decode cX4_parseSum 27 = .ok (.ifCond .ne 19, 3) := by decide +kernel
theorem dX4_parseSum_30 : decode cX4_parseSum 30 = .ok (.aload_n 0, 1) := by decide +kernel
theorem dX4_parseSum_31 : decode cX4_parseSum 31 = .ok (.getfield 30, 3) := by decide +kernel
theorem dX4_parseSum_34 : decode cX4_parseSum 34 = .ok (.ifCond .lt 16, 3) := by decide +kernel
theorem dX4_parseSum_37 : decode cX4_parseSum 37 = .ok (.aload_n 0, 1) := by decide +kernel
theorem dX4_parseSum_38 : decode cX4_parseSum 38 = .ok (.getfield 30, 3) := by decide +kernel
theorem dX4_parseSum_41 : decode cX4_parseSum 41 = .ok (.bipush 9, 2) := by decide +kernel
theorem dX4_parseSum_43 : decode cX4_parseSum 43 = .ok (.if_icmp .ge 7, 3) := by decide +kernel
theorem dX4_parseSum_46 : decode cX4_parseSum 46 = .ok (.iconst 1, 1) := by decide +kernel
theorem dX4_parseSum_47 : decode cX4_parseSum 47 = .ok (.goto 4, 3) := by decide +kernel
theorem dX4_parseSum_50 : decode cX4_parseSum 50 = .ok (.iconst 0, 1) := by decide +kernel
theorem dX4_parseSum_51 : decode cX4_parseSum 51 = .ok (.istore 4, 2) := by decide +kernel
theorem dX4_parseSum_53 : decode cX4_parseSum 53 = .ok (.iload 4, 2) := by decide +kernel
theorem dX4_parseSum_55 : decode cX4_parseSum 55 = .ok (.ifCond .eq 12, 3) := by decide +kernel
theorem dX4_parseSum_58 : decode cX4_parseSum 58 = .ok (.aload_n 0, 1) := by decide +kernel
theorem dX4_parseSum_59 : decode cX4_parseSum 59 = .ok (.getfield 36, 3) := by decide +kernel
theorem dX4_parseSum_62 : decode cX4_parseSum 62 = .ok (.bipush 80, 2) := by decide +kernel
theorem dX4_parseSum_64 : decode cX4_parseSum 64 = .ok (.if_icmp .lt 8, 3) := by decide +kernel
theorem dX4_parseSum_67 : decode cX4_parseSum 67 = .ok (.aload_n 0, 1) := by decide +kernel
theorem dX4_parseSum_68 : decode cX4_parseSum 68 = .ok (.invokevirtual 54, 3) := by decide +kernel
theorem dX4_parseSum_71 : decode cX4_parseSum 71 = .ok (.ireturn, 1) := by decide +kernel
theorem dX4_parseSum_72 : decode cX4_parseSum 72 = .ok (.aload_n 0, 1) := by decide +kernel
theorem dX4_parseSum_73 : decode cX4_parseSum 73 = .ok (.dup, 1) := by decide +kernel
theorem dX4_parseSum_74 : decode cX4_parseSum 74 = .ok (.getfield 36, 3) := by decide +kernel
theorem dX4_parseSum_77 : decode cX4_parseSum 77 = .ok (.iconst 1, 1) := by decide +kernel
theorem dX4_parseSum_78 : decode cX4_parseSum 78 = .ok (.iadd, 1) := by decide +kernel
theorem dX4_parseSum_79 : decode cX4_parseSum 79 = .ok (.putfield 36, 3) := by decide +kernel
theorem dX4_parseSum_82 : decode cX4_parseSum 82 = .ok (.aload_n 0, 1) := by decide +kernel
theorem dX4_parseSum_83 : decode cX4_parseSum 83 = .ok (.getfield 12, 3) := by decide +kernel
theorem dX4_parseSum_86 : decode cX4_parseSum 86 = .ok (.iload_n 3, 1) := by decide +kernel
theorem dX4_parseSum_87 : decode cX4_parseSum 87 = .ok (.ifCond .eq 7, 3) := by decide +kernel
theorem dX4_parseSum_90 : decode cX4_parseSum 90 = .ok (.iconst 0, 1) := by decide +kernel
theorem dX4_parseSum_91 : decode cX4_parseSum 91 = .ok (.goto 4, 3) := by decide +kernel
theorem dX4_parseSum_94 : decode cX4_parseSum 94 = .ok (.iconst 1, 1) := by decide +kernel
theorem dX4_parseSum_95 : decode cX4_parseSum 95 = .ok (.iload_n 3, 1) := by decide +kernel
theorem dX4_parseSum_96 : decode cX4_parseSum 96 = .ok (.ifCond .eq 10, 3) := by decide +kernel
theorem dX4_parseSum_99 : decode cX4_parseSum 99 = .ok (.aload_n 0, 1) := by decide +kernel
theorem dX4_parseSum_100 : decode cX4_parseSum 100 = .ok (.getfield 33, 3) := by decide +kernel
theorem dX4_parseSum_103 : decode cX4_parseSum 103 = .ok (.goto 7, 3) := by decide +kernel
theorem dX4_parseSum_106 : decode cX4_parseSum 106 = .ok (.aload_n 0, 1) := by decide +kernel
theorem dX4_parseSum_107 : decode cX4_parseSum 107 = .ok (.getfield 30, 3) := by decide +kernel
theorem dX4_parseSum_110 : decode cX4_parseSum 110 = .ok (.invokevirtual 89, 3) := by decide +kernel
theorem dX4_parseSum_113 : decode cX4_parseSum 113 = .ok (.iload_n 2, 1) := by decide +kernel
theorem dX4_parseSum_114 : decode cX4_parseSum 114 = .ok (.ifCond .le 12, 3) := by decide +kernel
theorem dX4_parseSum_117 : decode cX4_parseSum 117 = .ok (.aload_n 0, 1) := by decide +kernel
theorem dX4_parseSum_118 : decode cX4_parseSum 118 = .ok (.getfield 12, 3) := by decide +kernel
theorem dX4_parseSum_121 : decode cX4_parseSum 121 = .ok (.iload_n 1, 1) := by decide +kernel
theorem dX4_parseSum_122 : decode cX4_parseSum 122 = .ok (.iconst 0, 1) := by decide +kernel
theorem dX4_parseSum_123 : decode cX4_parseSum 123 = .ok (.invokevirtual 89, 3) := by decide +kernel
theorem dX4_parseSum_126 : decode cX4_parseSum 126 = .ok (.aload_n 0, 1) := by decide +kernel
theorem dX4_parseSum_127 : decode cX4_parseSum 127 = .ok (.aload_n 0, 1) := by decide +kernel
theorem dX4_parseSum_128 : decode cX4_parseSum 128 = .ok (.getfield 25, 3) := by decide +kernel
theorem dX4_parseSum_131 : decode cX4_parseSum 131 = .ok (.iconst 1, 1) := by decide +kernel
theorem dX4_parseSum_132 : decode cX4_parseSum 132 = .ok (.iadd, 1) := by decide +kernel
theorem dX4_parseSum_133 : decode cX4_parseSum 133 = .ok (.invokevirtual 46, 3) := by decide +kernel
theorem dX4_parseSum_136 : decode cX4_parseSum 136 = .ok (.aload_n 0, 1) := by decide +kernel
theorem dX4_parseSum_137 : decode cX4_parseSum 137 = .ok (.getfield 30, 3) := by decide +kernel
theorem dX4_parseSum_140 : decode cX4_parseSum 140 = .ok (.bipush 28, 2) := by decide +kernel
theorem dX4_parseSum_142 : decode cX4_parseSum 142 = .ok (.if_icmp .eq 14, 3) := by decide +kernel
theorem dX4_parseSum_145 : decode cX4_parseSum 145 = .ok (.aload_n 0, 1) := by decide +kernel
theorem dX4_parseSum_146 : decode cX4_parseSum 146 = .ok (.getfield 30, 3) := by decide +kernel
theorem dX4_parseSum_149 : decode cX4_parseSum 149 = .ok (.bipush 29, 2) := by decide +kernel
theorem dX4_parseSum_151 : decode cX4_parseSum 151 = .ok (.if_icmp .eq 5, 3) := by decide +kernel
theorem dX4_parseSum_154 : decode cX4_parseSum 154 = .ok (.iconst 1, 1) := by decide +kernel
theorem dX4_parseSum_155 : decode cX4_parseSum 155 = .ok (.ireturn, 1) := by decide +kernel
theorem dX4_parseSum_156 : decode cX4_parseSum 156 = .ok (.aload_n 0, 1) := by decide +kernel
theorem dX4_parseSum_157 : decode cX4_parseSum 157 = .ok (.getfield 30, 3) := by decide +kernel
theorem dX4_parseSum_160 : decode cX4_parseSum 160 = .ok (.bipush 28, 2) := by decide +kernel
theorem dX4_parseSum_162 : decode cX4_parseSum 162 = .ok (.if_icmp .ne 8, 3) := by decide +kernel
theorem dX4_parseSum_165 : decode cX4_parseSum 165 = .ok (.bipush 8, 2) := by decide +kernel
theorem dX4_parseSum_167 : decode cX4_parseSum 167 = .ok (.goto 5, 3) := by decide +kernel
theorem dX4_parseSum_170 : decode cX4_parseSum 170 = .ok (.bipush 9, 2) := by decide +kernel
theorem dX4_parseSum_172 : decode cX4_parseSum 172 = .ok (.istore_n 1, 1) := by decide +kernel
theorem dX4_parseSum_173 : decode cX4_parseSum 173 = .ok (.aload_n 0, 1) := by decide +kernel
theorem dX4_parseSum_174 : decode cX4_parseSum 174 = .ok (.aload_n 0, 1) := by decide +kernel
theorem dX4_parseSum_175 : decode cX4_parseSum 175 = .ok (.getfield 25, 3) := by decide +kernel
theorem dX4_parseSum_178 : decode cX4_parseSum 178 = .ok (.iconst 1, 1) := by decide +kernel
theorem dX4_parseSum_179 : decode cX4_parseSum 179 = .ok (.iadd, 1) := by decide +kernel
theorem dX4_parseSum_180 : decode cX4_parseSum 180 = .ok (.invokevirtual 46, 3) := by decide +kernel
theorem dX4_parseSum_183 : decode cX4_parseSum 183 = .ok (.iinc 2 1, 3) := by decide +kernel
theorem dX4_parseSum_186 : decode cX4_parseSum 186 = .ok (.goto (-181), 3) := by decide +kernel
theorem dX4_parseSum_189 : decode cX4_parseSum 189 = .ok (.aload_n 0, 1) := by decide +kernel
theorem dX4_parseSum_190 : decode cX4_parseSum 190 = .ok (.invokevirtual 54, 3) := by decide +kernel
theorem dX4_parseSum_193 : decode cX4_parseSum 193 = .ok (.ireturn, 1) := by decide +kernel
theorem dX5_init_0 : decode cX5_init 0 = .ok (.aload_n 0, 1) := by decide +kernel
theorem dX5_init_1 : decode cX5_init 1 = .ok (.invokespecial 3, 3) := by decide +kernel
theorem dX5_init_4 : decode cX5_init 4 = .ok (.aload_n 0, 1) := by decide +kernel
theorem dX5_init_5 : decode cX5_init 5 = .ok (.bipush 24, 2) := by decide +kernel
theorem dX5_init_7 : decode cX5_init 7 = .ok (.newarray .int, 2) := by decide +kernel
theorem dX5_init_9 : decode cX5_init 9 = .ok (.putfield 11, 3) := by decide +kernel
theorem dX5_init_12 : decode cX5_init 12 = .ok (.aload_n 0, 1) := by decide +kernel
theorem dX5_init_13 : decode cX5_init 13 = .ok (.bipush 24, 2) := by decide +kernel
theorem dX5_init_15 : decode cX5_init 15 = .ok (.newarray .int, 2) := by decide +kernel
theorem dX5_init_17 : decode cX5_init 17 = .ok (.putfield 15, 3) := by decide +kernel
theorem dX5_init_20 : decode cX5_init 20 = .ok (.aload_n 0, 1) := by decide +kernel
theorem dX5_init_21 : decode cX5_init 21 = .ok (.bipush 24, 2) := by decide +kernel
theorem dX5_init_23 : decode cX5_init 23 = .ok (.newarray .int, 2) := by decide +kernel
theorem dX5_init_25 : decode cX5_init 25 = .ok (.putfield 18, 3) := by decide +kernel
theorem dX5_init_28 : decode cX5_init 28 = .ok (.aload_n 0, 1) := by decide +kernel
theorem dX5_init_29 : decode cX5_init 29 = .ok (.iconst 0, 1) := by decide +kernel
theorem dX5_init_30 : decode cX5_init 30 = .ok (.putfield 21, 3) := by decide +kernel
theorem dX5_init_33 : decode cX5_init 33 = .ok (.return_, 1) := by decide +kernel
theorem dX5_has_0 : decode cX5_has 0 = .ok (.iload_n 1, 1) := by decide +kernel
theorem dX5_has_1 : decode cX5_has 1 = .ok (.ifCond .lt 15, 3) := by decide +kernel
theorem dX5_has_4 : decode cX5_has 4 = .ok (.iload_n 1, 1) := by decide +kernel
theorem dX5_has_5 : decode cX5_has 5 = .ok (.aload_n 0, 1) := by decide +kernel
theorem dX5_has_6 : decode cX5_has 6 = .ok (.getfield 21, 3) := by decide +kernel
theorem dX5_has_9 : decode cX5_has 9 = .ok (.if_icmp .ge 7, 3) := by decide +kernel
theorem dX5_has_12 : decode cX5_has 12 = .ok (.iconst 1, 1) := by decide +kernel
theorem dX5_has_13 : decode cX5_has 13 = .ok (.goto 4, 3) := by decide +kernel
theorem dX5_has_16 : decode cX5_has 16 = .ok (.iconst 0, 1) := by decide +kernel
theorem dX5_has_17 : decode cX5_has 17 = .ok (.ireturn, 1) := by decide +kernel
theorem dX5_add_0 : decode cX5_add 0 = .ok (.aload_n 0, 1) := by decide +kernel
theorem dX5_add_1 : decode cX5_add 1 = .ok (.getfield 21, 3) := by decide +kernel
theorem dX5_add_4 : decode cX5_add 4 = .ok (.bipush 24, 2) := by decide +kernel
theorem dX5_add_6 : decode cX5_add 6 = .ok (.if_icmp .ge 19, 3) := by decide +kernel
theorem dX5_add_9 : decode cX5_add 9 = .ok (.aload_n 0, 1) := by decide +kernel
theorem dX5_add_10 : decode cX5_add 10 = .ok (.iload_n 1, 1) := by decide +kernel
theorem dX5_add_11 : decode cX5_add 11 = .ok (.invokevirtual 25, 3) := by decide +kernel
theorem dX5_add_14 : decode cX5_add 14 = .ok (.ifCond .eq 11, 3) := by decide +kernel
theorem dX5_add_17 : decode cX5_add 17 = .ok (.aload_n 0, 1) := by decide +kernel
theorem dX5_add_18 : decode cX5_add 18 = .ok (.iload_n 2, 1) := by decide +kernel
theorem dX5_add_19 : decode cX5_add 19 = .ok (.invokevirtual 25, 3) := by decide +kernel
theorem dX5_add_22 : decode cX5_add 22 = .ok (.ifCond .ne 5, 3) := by decide +kernel
theorem dX5_add_25 : decode cX5_add 25 = .ok (.iconst (-1), 1) := by decide +kernel
theorem dX5_add_26 : decode cX5_add 26 = .ok (.ireturn, 1) := by decide +kernel
theorem dX5_add_27 : decode cX5_add 27 = .ok (.aload_n 0, 1) := by decide +kernel
theorem dX5_add_28 : decode cX5_add 28 = .ok (.getfield 11, 3) := by decide +kernel
theorem dX5_add_31 : decode cX5_add 31 = .ok (.aload_n 0, 1) := by decide +kernel
theorem dX5_add_32 : decode cX5_add 32 = .ok (.getfield 21, 3) := by decide +kernel
theorem dX5_add_35 : decode cX5_add 35 = .ok (.iload_n 1, 1) := by decide +kernel
theorem dX5_add_36 : decode cX5_add 36 = .ok (.iastore, 1) := by decide +kernel
theorem dX5_add_37 : decode cX5_add 37 = .ok (.aload_n 0, 1) := by decide +kernel
theorem dX5_add_38 : decode cX5_add 38 = .ok (.getfield 15, 3) := by decide +kernel
theorem dX5_add_41 : decode cX5_add 41 = .ok (.aload_n 0, 1) := by decide +kernel
theorem dX5_add_42 : decode cX5_add 42 = .ok (.getfield 21, 3) := by decide +kernel
theorem dX5_add_45 : decode cX5_add 45 = .ok (.iload_n 2, 1) := by decide +kernel
theorem dX5_add_46 : decode cX5_add 46 = .ok (.iastore, 1) := by decide +kernel
theorem dX5_add_47 : decode cX5_add 47 = .ok (.aload_n 0, 1) := by decide +kernel
theorem dX5_add_48 : decode cX5_add 48 = .ok (.getfield 18, 3) := by decide +kernel
theorem dX5_add_51 : decode cX5_add 51 = .ok (.aload_n 0, 1) := by decide +kernel
theorem dX5_add_52 : decode cX5_add 52 = .ok (.getfield 21, 3) := by decide +kernel
theorem dX5_add_55 : decode cX5_add 55 = .ok (.iconst (-1), 1) := by decide +kernel
theorem dX5_add_56 : decode cX5_add 56 = .ok (.iastore, 1) := by decide +kernel
theorem dX5_add_57 : decode cX5_add 57 = .ok (.aload_n 0, 1) := by decide +kernel
theorem dX5_add_58 : decode cX5_add 58 = .ok (.dup, 1) := by decide +kernel
theorem dX5_add_59 : decode cX5_add 59 = .ok (.getfield 21, 3) := by decide +kernel
theorem dX5_add_62 : decode cX5_add 62 = .ok (.iconst 1, 1) := by decide +kernel
theorem dX5_add_63 : decode cX5_add 63 = .ok (.iadd, 1) := by decide +kernel
theorem dX5_add_64 : decode cX5_add 64 = .ok (.putfield 21, 3) := by decide +kernel
theorem dX5_add_67 : decode cX5_add 67 = .ok (.aload_n 0, 1) := by decide +kernel
theorem dX5_add_68 : decode cX5_add 68 = .ok (.getfield 21, 3) := by decide +kernel
theorem dX5_add_71 : decode cX5_add 71 = .ok (.iconst 1, 1) := by decide +kernel
theorem dX5_add_72 : decode cX5_add 72 = .ok (.isub, 1) := by decide +kernel
theorem dX5_add_73 : decode cX5_add 73 = .ok (.ireturn, 1) := by decide +kernel
theorem dX5_canBeParent_0 : decode cX5_canBeParent 0 = .ok (.iload_n 1, 1) := by decide +kernel
theorem dX5_canBeParent_1 : decode cX5_canBeParent 1 = .ok (.iconst (-1), 1) := by decide +kernel
theorem dX5_canBeParent_2 : decode cX5_canBeParent 2 = .ok (.if_icmp .eq 11, 3) := by decide +kernel
theorem dX5_canBeParent_5 : decode cX5_canBeParent 5 = .ok (.aload_n 0, 1) := by decide +kernel
theorem dX5_canBeParent_6 : decode cX5_canBeParent 6 = .ok (.iload_n 1, 1) := by decide +kernel
theorem dX5_canBeParent_7 : decode cX5_canBeParent 7 = .ok (.invokevirtual 29, 3) := by decide +kernel
theorem dX5_canBeParent_10 : decode cX5_canBeParent 10 = .ok (.ifCond .eq 7, 3) := by decide +kernel
theorem dX5_canBeParent_13 : decode cX5_canBeParent 13 = .ok (.iconst 1, 1) := by decide +kernel
theorem dX5_canBeParent_14 : decode cX5_canBeParent 14 = .ok (.goto 4, 3) := by decide +kernel
theorem dX5_canBeParent_17 : decode cX5_canBeParent 17 = .ok (.iconst 0, 1) := by decide +kernel
theorem dX5_canBeParent_18 : decode cX5_canBeParent 18 = .ok (.ireturn, 1) := by decide +kernel
theorem dX5_tellDeath_0 : decode cX5_tellDeath 0 = .ok (.aload_n 0, 1) := by decide +kernel
theorem dX5_tellDeath_1 : decode cX5_tellDeath 1 = .ok (.iload_n 1, 1) := by decide +kernel
theorem dX5_tellDeath_2 : decode cX5_tellDeath 2 = .ok (.invokevirtual 29, 3) := by decide +kernel
theorem dX5_tellDeath_5 : decode cX5_tellDeath 5 = .ok (.ifCond .eq 13, 3) := by decide +kernel
theorem dX5_tellDeath_8 : decode cX5_tellDeath 8 = .ok (.aload_n 0, 1) := by decide +kernel
theorem dX5_tellDeath_9 : decode cX5_tellDeath 9 = .ok (.getfield 18, 3) := by decide +kernel
theorem dX5_tellDeath_12 : decode cX5_tellDeath 12 = .ok (.iload_n 1, 1) := by decide +kernel
theorem dX5_tellDeath_13 : decode cX5_tellDeath 13 = .ok (.iaload, 1) := by decide +kernel
theorem dX5_tellDeath_14 : decode cX5_tellDeath 14 = .ok (.iconst (-1), 1) := by decide +kernel
theorem dX5_tellDeath_15 : decode cX5_tellDeath 15 = .ok (.if_icmp .eq 5, 3) := by decide +kernel
theorem dX5_tellDeath_18 : decode cX5_tellDeath 18 = .ok (.iconst 0, 1) := by decide +kernel
theorem dX5_tellDeath_19 : decode cX5_tellDeath 19 = .ok (.ireturn, 1) := by decide +kernel
theorem dX5_tellDeath_20 : decode cX5_tellDeath 20 = .ok (.aload_n 0, 1) := by decide +kernel
theorem dX5_tellDeath_21 : decode cX5_tellDeath 21 = .ok (.getfield 18, 3) := by decide +kernel
theorem dX5_tellDeath_24 : decode cX5_tellDeath 24 = .ok (.iload_n 1, 1) := by decide +kernel
theorem dX5_tellDeath_25 : decode cX5_tellDeath 25 = .ok (.iload_n 2, 1) := by decide +kernel
theorem dX5_tellDeath_26 : decode cX5_tellDeath 26 = .ok (.iastore, 1) := by decide +kernel
theorem dX5_tellDeath_27 : decode cX5_tellDeath 27 = .ok (.iconst 1, 1) := by decide +kernel
theorem dX5_tellDeath_28 : decode cX5_tellDeath 28 = .ok (.ireturn, 1) := by decide +kernel
theorem dX5_isDeadOn_0 : decode cX5_isDeadOn 0 = .ok (.aload_n 0, 1) := by decide +kernel
theorem dX5_isDeadOn_1 : decode cX5_isDeadOn 1 = .ok (.iload_n 1, 1) := by decide +kernel
theorem dX5_isDeadOn_2 : decode cX5_isDeadOn 2 = .ok (.invokevirtual 29, 3) := by decide +kernel
theorem dX5_isDeadOn_5 : decode cX5_isDeadOn 5 = .ok (.ifCond .eq 27, 3) := by decide +kernel
theorem dX5_isDeadOn_8 : decode cX5_isDeadOn 8 = .ok (.aload_n 0, 1) := by decide +kernel
theorem dX5_isDeadOn_9 : decode cX5_isDeadOn 9 = .ok (.getfield 18, 3) := by decide +kernel
theorem dX5_isDeadOn_12 : decode cX5_isDeadOn 12 = .ok (.iload_n 1, 1) := by decide +kernel
theorem dX5_isDeadOn_13 : decode cX5_isDeadOn 13 = .ok (.iaload, 1) := by decide +kernel
theorem dX5_isDeadOn_14 : decode cX5_isDeadOn 14 = .ok (.iconst (-1), 1) := by decide +kernel
theorem dX5_isDeadOn_15 : decode cX5_isDeadOn 15 = .ok (.if_icmp .eq 17, 3) := by decide +kernel
theorem dX5_isDeadOn_18 : decode cX5_isDeadOn 18 = .ok (.aload_n 0, 1) := by decide +kernel
theorem dX5_isDeadOn_19 : decode cX5_isDeadOn 19 = .ok (.getfield 18, 3) := by decide +kernel
theorem dX5_isDeadOn_22 : decode cX5_isDeadOn 22 = .ok (.iload_n 1, 1) := by decide +kernel
theorem dX5_isDeadOn_23 : decode cX5_isDeadOn 23 = .ok (.iaload, 1) := by decide +kernel
theorem dX5_isDeadOn_24 : decode cX5_isDeadOn 24 = .ok (.iload_n 2, 1) := by decide +kernel
theorem dX5_isDeadOn_25 : decode cX5_isDeadOn 25 = .ok (.if_icmp .gt 7, 3) := by decide +kernel
theorem dX5_isDeadOn_28 : decode cX5_isDeadOn 28 = .ok (.iconst 1, 1) := by decide +kernel
theorem dX5_isDeadOn_29 : decode cX5_isDeadOn 29 = .ok (.goto 4, 3) := by decide +kernel
theorem dX5_isDeadOn_32 : decode cX5_isDeadOn 32 = .ok (.iconst 0, 1) := by decide +kernel
theorem dX5_isDeadOn_33 : decode cX5_isDeadOn 33 = .ok (.ireturn, 1) := by decide +kernel
theorem dX5_isChildOf_0 : decode cX5_isChildOf 0 = .ok (.aload_n 0, 1) := by decide +kernel
theorem dX5_isChildOf_1 : decode cX5_isChildOf 1 = .ok (.iload_n 1, 1) := by decide +kernel
theorem dX5_isChildOf_2 : decode cX5_isChildOf 2 = .ok (.invokevirtual 29, 3) := by decide +kernel
theorem dX5_isChildOf_5 : decode cX5_isChildOf 5 = .ok (.ifCond .eq 27, 3) := by decide +kernel
theorem dX5_isChildOf_8 : decode cX5_isChildOf 8 = .ok (.aload_n 0, 1) := by decide +kernel
theorem dX5_isChildOf_9 : decode cX5_isChildOf 9 = .ok (.getfield 11, 3) := by decide +kernel
theorem dX5_isChildOf_12 : decode cX5_isChildOf 12 = .ok (.iload_n 1, 1) := by decide +kernel
theorem dX5_isChildOf_13 : decode cX5_isChildOf 13 = .ok (.iaload, 1) := by decide +kernel
theorem dX5_isChildOf_14 : decode cX5_isChildOf 14 = .ok (.iload_n 2, 1) := by decide +kernel
theorem dX5_isChildOf_15 : decode cX5_isChildOf 15 = .ok (.if_icmp .eq 13, 3) := by decide +kernel
theorem dX5_isChildOf_18 : decode cX5_isChildOf 18 = .ok (.aload_n 0, 1) := by decide +kernel
theorem dX5_isChildOf_19 : decode cX5_isChildOf 19 = .ok (.getfield 15, 3) := by decide +kernel
theorem dX5_isChildOf_22 : decode cX5_isChildOf 22 = .ok (.iload_n 1, 1) := by decide +kernel
theorem dX5_isChildOf_23 : decode cX5_isChildOf 23 = .ok (.iaload, 1) := by decide +kernel
theorem dX5_isChildOf_24 : decode cX5_isChildOf 24 = .ok (.iload_n 2, 1) := by decide +kernel
theorem dX5_isChildOf_25 : decode cX5_isChildOf 25 = .ok (.if_icmp .ne 7, 3) := by decide +kernel
theorem dX5_isChildOf_28 : decode cX5_isChildOf 28 = .ok (.iconst 1, 1) := by decide +kernel
theorem dX5_isChildOf_29 : decode cX5_isChildOf 29 = .ok (.goto 4, 3) := by decide +kernel
theorem dX5_isChildOf_32 : decode cX5_isChildOf 32 = .ok (.iconst 0, 1) := by decide +kernel
theorem dX5_isChildOf_33 : decode cX5_isChildOf 33 = .ok (.ireturn, 1) := by decide +kernel
theorem dX6_init_0 : decode cX6_init 0 = .ok (.aload_n 0, 1) := by decide +kernel
theorem dX6_init_1 : decode cX6_init 1 = .ok (.invokespecial 1, 3) := by decide +kernel
theorem dX6_init_4 : decode cX6_init 4 = .ok (.aload_n 0, 1) := by decide +kernel
theorem dX6_init_5 : decode cX6_init 5 = .ok (.bipush 24, 2) := by decide +kernel
theorem dX6_init_7 : decode cX6_init 7 = .ok (.newarray .int, 2) := by decide +kernel
theorem dX6_init_9 : decode cX6_init 9 = .ok (.putfield 9, 3) := by decide +kernel
theorem dX6_init_12 : decode cX6_init 12 = .ok (.aload_n 0, 1) := by decide +kernel
theorem dX6_init_13 : decode cX6_init 13 = .ok (.bipush 24, 2) := by decide +kernel
theorem dX6_init_15 : decode cX6_init 15 = .ok (.newarray .boolean, 2) := by decide +kernel
theorem dX6_init_17 : decode cX6_init 17 = .ok (.putfield 15, 3) := by decide +kernel
theorem dX6_init_20 : decode cX6_init 20 = .ok (.aload_n 0, 1) := by decide +kernel
theorem dX6_init_21 : decode cX6_init 21 = .ok (.bipush 24, 2) := by decide +kernel
theorem dX6_init_23 : decode cX6_init 23 = .ok (.newarray .long, 2) := by decide +kernel
theorem dX6_init_25 : decode cX6_init 25 = .ok (.putfield 19, 3) := by decide +kernel
theorem dX6_init_28 : decode cX6_init 28 = .ok (.aload_n 0, 1) := by decide +kernel
theorem dX6_init_29 : decode cX6_init 29 = .ok (.lconst 1, 1) := by decide +kernel
theorem dX6_init_30 : decode cX6_init 30 = .ok (.putfield 23, 3) := by decide +kernel
theorem dX6_init_33 : decode cX6_init 33 = .ok (.aload_n 0, 1) := by decide +kernel
theorem dX6_init_34 : decode cX6_init 34 = .ok (.aload_n 1, 1) := by decide +kernel
theorem dX6_init_35 : decode cX6_init 35 = .ok (.putfield 27, 3) := by decide +kernel
theorem dX6_init_38 : decode cX6_init 38 = .ok (.return_, 1) := by decide +kernel
theorem dX6_divide_0 : decode cX6_divide 0 = .ok (.aload_n 0, 1) := by decide +kernel
theorem dX6_divide_1 : decode cX6_divide 1 = .ok (.iload_n 2, 1) := by decide +kernel
theorem dX6_divide_2 : decode cX6_divide 2 = .ok (.invokevirtual 31, 3) := by decide +kernel
theorem dX6_divide_5 : decode cX6_divide 5 = .ok (.iconst 0, 1) := by decide +kernel
theorem dX6_divide_6 : decode cX6_divide 6 = .ok (.istore_n 3, 1) := by decide +kernel
theorem dX6_divide_7 : decode cX6_divide 7 = .ok (.iload_n 3, 1) := by decide +kernel
theorem dX6_divide_8 : decode cX6_divide 8 = .ok (.aload_n 0, 1) := by decide +kernel
theorem dX6_divide_9 : decode cX6_divide 9 = .ok (.getfield 27, 3) := by decide +kernel
theorem dX6_divide_12 : decode cX6_divide 12 = .ok (.getfield 35, 3) := by decide +kernel
theorem dX6_divide_15 : decode cX6_divide 15 = .ok (.if_icmp .ge 28, 3) := by decide +kernel
theorem dX6_divide_18 : decode cX6_divide 18 = .ok (.aload_n 0, 1) := by decide +kernel
theorem dX6_divide_19 : decode cX6_divide 19 = .ok (.getfield 19, 3) := by decide +kernel
theorem dX6_divide_22 : decode cX6_divide 22 = .ok (.iload_n 3, 1) := by decide +kernel
theorem dX6_divide_23 : decode cX6_divide 23 = .ok (.iload_n 3, 1) := by decide +kernel
theorem dX6_divide_24 : decode cX6_divide 24 = .ok (.iload_n 1, 1) := by decide +kernel
theorem dX6_divide_25 : decode cX6_divide 25 = .ok (.if_icmp .ne 10, 3) := by decide +kernel
theorem dX6_divide_28 : decode cX6_divide 28 = .ok (.aload_n 0, 1) := by decide +kernel
theorem dX6_divide_29 : decode cX6_divide 29 = .ok (.getfield 23, 3) := by decide +kernel
theorem dX6_divide_32 : decode cX6_divide 32 = .ok (.goto 4, 3) := by decide +kernel
theorem dX6_divide_35 : decode cX6_divide 35 = .ok (.lconst 0, 1) := by decide +kernel
theorem dX6_divide_36 : decode cX6_divide 36 = .ok (.lastore, 1) := by decide +kernel
theorem dX6_divide_37 : decode cX6_divide 37 = .ok (.iinc 3 1, 3) := by decide +kernel
theorem dX6_divide_40 : decode cX6_divide 40 = .ok (.goto (-33), 3) := by decide +kernel
theorem dX6_divide_43 : decode cX6_divide 43 = .ok (.iconst 0, 1) := by decide +kernel
theorem dX6_divide_44 : decode cX6_divide 44 = .ok (.istore_n 3, 1) := by decide +kernel
theorem dX6_divide_45 : decode cX6_divide 45 = .ok (.iload_n 3, 1) := by decide +kernel
theorem dX6_divide_46 : decode cX6_divide 46 = .ok (.aload_n 0, 1) := by decide +kernel
theorem dX6_divide_47 : decode cX6_divide 47 = .ok (.getfield 27, 3) := by decide +kernel
theorem dX6_divide_50 : decode cX6_divide 50 = .ok (.getfield 35, 3) := by decide +kernel
theorem dX6_divide_53 : decode cX6_divide 53 = .ok (.if_icmp .ge 37, 3) := by decide +kernel
theorem dX6_divide_56 : decode cX6_divide 56 = .ok (.aload_n 0, 1) := by decide +kernel
theorem dX6_divide_57 : decode cX6_divide 57 = .ok (.getfield 19, 3) := by decide +kernel
theorem dX6_divide_60 : decode cX6_divide 60 = .ok (.iload_n 3, 1) := by decide +kernel
theorem dX6_divide_61 : decode cX6_divide 61 = .ok (.laload, 1) := by decide +kernel
theorem dX6_divide_62 : decode cX6_divide 62 = .ok (.lconst 0, 1) := by decide +kernel
theorem dX6_divide_63 : decode cX6_divide 63 = .ok (.lcmp, 1) := by decide +kernel
theorem dX6_divide_64 : decode cX6_divide 64 = .ok (.ifCond .le 20, 3) := by decide +kernel
theorem dX6_divide_67 : decode cX6_divide 67 = .ok (.aload_n 0, 1) := by decide +kernel
theorem dX6_divide_68 : decode cX6_divide 68 = .ok (.getfield 27, 3) := by decide +kernel
theorem dX6_divide_71 : decode cX6_divide 71 = .ok (.iload_n 3, 1) := by decide +kernel
theorem dX6_divide_72 : decode cX6_divide 72 = .ok (.iload_n 2, 1) := by decide +kernel
theorem dX6_divide_73 : decode cX6_divide 73 = .ok (.invokevirtual 39, 3) := by decide +kernel
theorem dX6_divide_76 : decode cX6_divide 76 = .ok (.ifCond .eq 8, 3) := by decide +kernel
theorem dX6_divide_79 : decode cX6_divide 79 = .ok (.aload_n 0, 1) := by decide +kernel
theorem dX6_divide_80 : decode cX6_divide 80 = .ok (.iload_n 3, 1) := by decide +kernel
theorem dX6_divide_81 : decode cX6_divide 81 = .ok (.invokevirtual 43, 3) := by decide +kernel
theorem dX6_divide_84 : decode cX6_divide 84 = .ok (.iinc 3 1, 3) := by decide +kernel
theorem dX6_divide_87 : decode cX6_divide 87 = .ok (.goto (-42), 3) := by decide +kernel
theorem dX6_divide_90 : decode cX6_divide 90 = .ok (.return_, 1) := by decide +kernel
theorem dX6_findHeirs_0 : decode cX6_findHeirs 0 = .ok (.aload_n 0, 1) := by decide +kernel
theorem dX6_findHeirs_1 : decode cX6_findHeirs 1 = .ok (.lconst 1, 1) := by decide +kernel
theorem dX6_findHeirs_2 : decode cX6_findHeirs 2 = .ok (.putfield 23, 3) := by decide +kernel
theorem dX6_findHeirs_5 : decode cX6_findHeirs 5 = .ok (.aload_n 0, 1) := by decide +kernel
theorem dX6_findHeirs_6 : decode cX6_findHeirs 6 = .ok (.getfield 27, 3) := by decide +kernel
theorem dX6_findHeirs_9 : decode cX6_findHeirs 9 = .ok (.getfield 35, 3) := by decide +kernel
theorem dX6_findHeirs_12 : decode cX6_findHeirs 12 = .ok (.iconst 1, 1) := by decide +kernel
theorem dX6_findHeirs_13 : decode cX6_findHeirs 13 = .ok (.isub, 1) := by decide +kernel
theorem dX6_findHeirs_14 : decode cX6_findHeirs 14 = .ok (.istore_n 2, 1) := by decide +kernel
theorem dX6_findHeirs_15 : decode cX6_findHeirs 15 = .ok (.iload_n 2, 1) := by decide +kernel
theorem dX6_findHeirs_16 : decode cX6_findHeirs 16 = .ok (.ifCond .lt 119, 3) := by decide +kernel
theorem dX6_findHeirs_19 : decode cX6_findHeirs 19 = .ok (.aload_n 0, 1) := by decide +kernel
theorem dX6_findHeirs_20 : decode cX6_findHeirs 20 = .ok (.getfield 9, 3) := by decide +kernel
theorem dX6_findHeirs_23 : decode cX6_findHeirs 23 = .ok (.iload_n 2, 1) := by decide +kernel
theorem dX6_findHeirs_24 : decode cX6_findHeirs 24 = .ok (.iconst 0, 1) := by decide +kernel
theorem dX6_findHeirs_25 : decode cX6_findHeirs 25 = .ok (.iastore, 1) := by decide +kernel
theorem dX6_findHeirs_26 : decode cX6_findHeirs 26 = .ok (.iload_n 2, 1) := by decide +kernel
theorem dX6_findHeirs_27 : decode cX6_findHeirs 27 = .ok (.iconst 1, 1) := by decide +kernel
theorem dX6_findHeirs_28 : decode cX6_findHeirs 28 = .ok (.iadd, 1) := by decide +kernel
theorem dX6_findHeirs_29 : decode cX6_findHeirs 29 = .ok (.istore_n 3, 1) := by decide +kernel
theorem dX6_findHeirs_30 : decode cX6_findHeirs 30 = .ok (.iload_n 3, 1) := by decide +kernel
theorem dX6_findHeirs_31 : decode cX6_findHeirs 31 = .ok (.aload_n 0, 1) := by decide +kernel
theorem dX6_findHeirs_32 : decode cX6_findHeirs 32 = .ok (.getfield 27, 3) := by decide +kernel
theorem dX6_findHeirs_35 : decode cX6_findHeirs 35 = .ok (.getfield 35, 3) := by decide +kernel
theorem dX6_findHeirs_38 : decode cX6_findHeirs 38 = .ok (.if_icmp .ge 28, 3) := by decide +kernel
theorem dX6_findHeirs_41 : decode cX6_findHeirs 41 = .ok (.aload_n 0, 1) := by decide +kernel
theorem dX6_findHeirs_42 : decode cX6_findHeirs 42 = .ok (.iload_n 3, 1) := by decide +kernel
theorem dX6_findHeirs_43 : decode cX6_findHeirs 43 = .ok (.iload_n 2, 1) := by decide +kernel
theorem dX6_findHeirs_44 : decode cX6_findHeirs 44 = .ok (.invokevirtual 46, 3) := by decide +kernel
theorem dX6_findHeirs_47 : decode cX6_findHeirs 47 = .ok (.ifCond .eq 13, 3) := by decide +kernel
theorem dX6_findHeirs_50 : decode cX6_findHeirs 50 = .ok (.aload_n 0, 1) := by decide +kernel
theorem dX6_findHeirs_51 : decode cX6_findHeirs 51 = .ok (.getfield 9, 3) := by decide +kernel
theorem dX6_findHeirs_54 : decode cX6_findHeirs 54 = .ok (.iload_n 2, 1) := by decide +kernel
theorem dX6_findHeirs_55 : decode cX6_findHeirs 55 = .ok (.dup2, 1) := by decide +kernel
theorem dX6_findHeirs_56 : decode cX6_findHeirs 56 = .ok (.iaload, 1) := by decide +kernel
theorem dX6_findHeirs_57 : decode cX6_findHeirs 57 = .ok (.iconst 1, 1) := by decide +kernel
theorem dX6_findHeirs_58 : decode cX6_findHeirs 58 = .ok (.iadd, 1) := by decide +kernel
theorem dX6_findHeirs_59 : decode cX6_findHeirs 59 = .ok (.iastore, 1) := by decide +kernel
theorem dX6_findHeirs_60 : decode cX6_findHeirs 60 = .ok (.iinc 3 1, 3) := by decide +kernel
theorem dX6_findHeirs_63 : decode cX6_findHeirs 63 = .ok (.goto (-33), 3) := by decide +kernel
theorem dX6_findHeirs_66 : decode cX6_findHeirs 66 = .ok (.aload_n 0, 1) := by decide +kernel
theorem dX6_findHeirs_67 : decode cX6_findHeirs 67 = .ok (.getfield 27, 3) := by decide +kernel
theorem dX6_findHeirs_70 : decode cX6_findHeirs 70 = .ok (.iload_n 2, 1) := by decide +kernel
theorem dX6_findHeirs_71 : decode cX6_findHeirs 71 = .ok (.iload_n 1, 1) := by decide +kernel
theorem dX6_findHeirs_72 : decode cX6_findHeirs 72 = .ok (.invokevirtual 39, 3) := by decide +kernel
theorem dX6_findHeirs_75 : decode cX6_findHeirs 75 = .ok (.istore_n 3, 1) := by decide +kernel
theorem dX6_findHeirs_76 : decode cX6_findHeirs 76 = .ok (.aload_n 0, 1) := by decide +kernel
theorem dX6_findHeirs_77 : decode cX6_findHeirs 77 = .ok (.getfield 15, 3) := by decide +kernel
theorem dX6_findHeirs_80 : decode cX6_findHeirs 80 = .ok (.iload_n 2, 1) := by decide +kernel
theorem dX6_findHeirs_81 : decode cX6_findHeirs 81 = .ok (.iload_n 3, 1) := by decide +kernel
theorem dX6_findHeirs_82 : decode cX6_findHeirs 82 = .ok (.ifCond .eq 12, 3) := by decide +kernel
theorem dX6_findHeirs_85 : decode cX6_findHeirs 85 = .ok (.aload_n 0, 1) := by decide +kernel
theorem dX6_findHeirs_86 : decode cX6_findHeirs 86 = .ok (.getfield 9, 3) := by decide +kernel
theorem dX6_findHeirs_89 : decode cX6_findHeirs 89 = .ok (.iload_n 2, 1) := by decide +kernel
theorem dX6_findHeirs_90 : decode cX6_findHeirs 90 = .ok (.iaload, 1) := by decide +kernel
theorem dX6_findHeirs_91 : decode cX6_findHeirs 91 = .ok (.ifCond .le 7, 3) := by decide +kernel
theorem dX6_findHeirs_94 : decode cX6_findHeirs 94 = .ok (.iconst 1, 1) := by decide +kernel
theorem dX6_findHeirs_95 : decode cX6_findHeirs 95 = .ok (.goto 4, 3) := by decide +kernel
theorem dX6_findHeirs_98 : decode cX6_findHeirs 98 = .ok (.iconst 0, 1) := by decide +kernel
theorem dX6_findHeirs_99 : decode cX6_findHeirs 99 = .ok (.bastore, 1) := by decide +kernel
theorem dX6_findHeirs_100 : decode cX6_findHeirs 100 = .ok (.iload_n 3, 1) := by decide +kernel
theorem dX6_findHeirs_101 : decode cX6_findHeirs 101 = .ok (.ifCond .eq 28, 3) := by decide +kernel
theorem dX6_findHeirs_104 : decode cX6_findHeirs 104 = .ok (.aload_n 0, 1) := by decide +kernel
theorem dX6_findHeirs_105 : decode cX6_findHeirs 105 = .ok (.getfield 9, 3) := by decide +kernel
theorem dX6_findHeirs_108 : decode cX6_findHeirs 108 = .ok (.iload_n 2, 1) := by decide +kernel
theorem dX6_findHeirs_109 : decode cX6_findHeirs 109 = .ok (.iaload, 1) := by decide +kernel
theorem dX6_findHeirs_110 : decode cX6_findHeirs 110 = .ok (.ifCond .le 19, 3) := by decide +kernel
theorem dX6_findHeirs_113 : decode cX6_findHeirs 113 = .ok (.aload_n 0, 1) := by decide +kernel
theorem dX6_findHeirs_114 : decode cX6_findHeirs 114 = .ok (.dup, 1) := by decide +kernel
theorem dX6_findHeirs_115 : decode cX6_findHeirs 115 = .ok (.getfield 23, 3) := by decide +kernel
theorem dX6_findHeirs_118 : decode cX6_findHeirs 118 = .ok (.aload_n 0, 1) := by decide +kernel
theorem dX6_findHeirs_119 : decode cX6_findHeirs 119 = .ok (.getfield 9, 3) := by decide +kernel
theorem dX6_findHeirs_122 : decode cX6_findHeirs 122 = .ok (.iload_n 2, 1) := by decide +kernel
theorem dX6_findHeirs_123 : decode cX6_findHeirs 123 = .ok (.iaload, 1) := by decide +kernel
theorem dX6_findHeirs_124 : decode cX6_findHeirs 124 = .ok (.i2l, 1) := by decide +kernel
theorem dX6_findHeirs_125 : decode cX6_findHeirs 125 = .ok (.lmul, 1) := by decide +kernel
theorem dX6_findHeirs_126 : decode cX6_findHeirs 126 = .ok (.putfield 23, 3) := by decide +kernel
theorem dX6_findHeirs_129 : decode cX6_findHeirs 129 = .ok (.iinc 2 (-1), 3) := by decide +kernel
theorem dX6_findHeirs_132 : decode cX6_findHeirs 132 = .ok (.goto (-117), 3) := by decide +kernel
theorem dX6_findHeirs_135 : decode cX6_findHeirs 135 = .ok (.return_, 1) := by decide +kernel
theorem dX6_isHeir_0 : decode cX6_isHeir 0 = .ok (.aload_n 0, 1) := by decide +kernel
theorem dX6_isHeir_1 : decode cX6_isHeir 1 = .ok (.getfield 15, 3) := by decide +kernel
theorem dX6_isHeir_4 : decode cX6_isHeir 4 = .ok (.iload_n 1, 1) := by decide +kernel
theorem dX6_isHeir_5 : decode cX6_isHeir 5 = .ok (.baload, 1) := by decide +kernel
theorem dX6_isHeir_6 : decode cX6_isHeir 6 = .ok (.ifCond .eq 19, 3) := by decide +kernel
theorem dX6_isHeir_9 : decode cX6_isHeir 9 = .ok (.aload_n 0, 1) := by decide +kernel
theorem dX6_isHeir_10 : decode cX6_isHeir 10 = .ok (.getfield 27, 3) := by decide +kernel
theorem dX6_isHeir_13 : decode cX6_isHeir 13 = .ok (.iload_n 1, 1) := by decide +kernel
theorem dX6_isHeir_14 : decode cX6_isHeir 14 = .ok (.iload_n 2, 1) := by decide +kernel
theorem dX6_isHeir_15 : decode cX6_isHeir 15 = .ok (.invokevirtual 49, 3) := by decide +kernel
theorem dX6_isHeir_18 : decode cX6_isHeir 18 = .ok (.ifCond .eq 7, 3) := by decide +kernel
theorem dX6_isHeir_21 : decode cX6_isHeir 21 = .ok (.iconst 1, 1) := by decide +kernel
theorem dX6_isHeir_22 : decode cX6_isHeir 22 = .ok (.goto 4, 3) := by decide +kernel
theorem dX6_isHeir_25 : decode cX6_isHeir 25 = .ok (.iconst 0, 1) := by decide +kernel
theorem dX6_isHeir_26 : decode cX6_isHeir 26 = .ok (.ireturn, 1) := by decide +kernel
theorem dX6_handOn_0 : decode cX6_handOn 0 = .ok (.aload_n 0, 1) := by decide +kernel
theorem dX6_handOn_1 : decode cX6_handOn 1 = .ok (.getfield 9, 3) := by decide +kernel
theorem dX6_handOn_4 : decode cX6_handOn 4 = .ok (.iload_n 1, 1) := by decide +kernel
theorem dX6_handOn_5 : decode cX6_handOn 5 = .ok (.iaload, 1) := by decide +kernel
theorem dX6_handOn_6 : decode cX6_handOn 6 = .ok (.ifCond .le 62, 3) := by decide +kernel
theorem dX6_handOn_9 : decode cX6_handOn 9 = .ok (.aload_n 0, 1) := by decide +kernel
theorem dX6_handOn_10 : decode cX6_handOn 10 = .ok (.getfield 19, 3) := by decide +kernel
theorem dX6_handOn_13 : decode cX6_handOn 13 = .ok (.iload_n 1, 1) := by decide +kernel
theorem dX6_handOn_14 : decode cX6_handOn 14 = .ok (.laload, 1) := by decide +kernel
theorem dX6_handOn_15 : decode cX6_handOn 15 = .ok (.aload_n 0, 1) := by decide +kernel
theorem dX6_handOn_16 : decode cX6_handOn 16 = .ok (.getfield 9, 3) := by decide +kernel
theorem dX6_handOn_19 : decode cX6_handOn 19 = .ok (.iload_n 1, 1) := by decide +kernel
theorem dX6_handOn_20 : decode cX6_handOn 20 = .ok (.iaload, 1) := by decide +kernel
theorem dX6_handOn_21 : decode cX6_handOn 21 = .ok (.i2l, 1) := by decide +kernel
theorem dX6_handOn_22 : decode cX6_handOn 22 = .ok (.ldiv, 1) := by decide +kernel
theorem dX6_handOn_23 : decode cX6_handOn 23 = .ok (.lstore_n 2, 1) := by decide +kernel
theorem dX6_handOn_24 : decode cX6_handOn 24 = .ok (.iload_n 1, 1) := by decide +kernel
theorem dX6_handOn_25 : decode cX6_handOn 25 = .ok (.iconst 1, 1) := by decide +kernel
theorem dX6_handOn_26 : decode cX6_handOn 26 = .ok (.iadd, 1) := by decide +kernel
theorem dX6_handOn_27 : decode cX6_handOn 27 = .ok (.istore 4, 2) := by decide +kernel
theorem dX6_handOn_29 : decode cX6_handOn 29 = .ok (.iload 4, 2) := by decide +kernel
theorem dX6_handOn_31 : decode cX6_handOn 31 = .ok (.aload_n 0, 1) := by decide +kernel
theorem dX6_handOn_32 : decode cX6_handOn 32 = .ok (.getfield 27, 3) := by decide +kernel
theorem dX6_handOn_35 : decode cX6_handOn 35 = .ok (.getfield 35, 3) := by decide +kernel
theorem dX6_handOn_38 : decode cX6_handOn 38 = .ok (.if_icmp .ge 30, 3) := by decide +kernel
theorem dX6_handOn_41 : decode cX6_handOn 41 = .ok (.aload_n 0, 1) := by decide +kernel
theorem dX6_handOn_42 : decode cX6_handOn 42 = .ok (.iload 4, 2) := by decide +kernel
theorem dX6_handOn_44 : decode cX6_handOn 44 = .ok (.iload_n 1, 1) := by decide +kernel
theorem dX6_handOn_45 : decode cX6_handOn 45 = .ok (.invokevirtual 46, 3) := by decide +kernel
theorem dX6_handOn_48 : decode cX6_handOn 48 = .ok (.ifCond .eq 14, 3) := by decide +kernel
theorem dX6_handOn_51 : decode cX6_handOn 51 = .ok (.aload_n 0, 1) := by decide +kernel
theorem dX6_handOn_52 : decode cX6_handOn 52 = .ok (.getfield 19, 3) := by decide +kernel
theorem dX6_handOn_55 : decode cX6_handOn 55 = .ok (.iload 4, 2) := by decide +kernel
theorem dX6_handOn_57 : decode cX6_handOn 57 = .ok (.dup2, 1) := by decide +kernel
theorem dX6_handOn_58 : decode cX6_handOn 58 = .ok (.laload, 1) := by decide +kernel
theorem dX6_handOn_59 : decode cX6_handOn 59 = .ok (.lload_n 2, 1) := by decide +kernel
theorem dX6_handOn_60 : decode cX6_handOn 60 = .ok (.ladd, 1) := by decide +kernel
theorem dX6_handOn_61 : decode cX6_handOn 61 = .ok (.lastore, 1) := by decide +kernel
theorem dX6_handOn_62 : decode cX6_handOn 62 = .ok (.iinc 4 1, 3) := by decide +kernel
theorem dX6_handOn_65 : decode cX6_handOn 65 = .ok (.goto (-36), 3) := by decide +kernel
theorem dX6_handOn_68 : decode cX6_handOn 68 = .ok (.aload_n 0, 1) := by decide +kernel
theorem dX6_handOn_69 : decode cX6_handOn 69 = .ok (.getfield 19, 3) := by decide +kernel
theorem dX6_handOn_72 : decode cX6_handOn 72 = .ok (.iload_n 1, 1) := by decide +kernel
theorem dX6_handOn_73 : decode cX6_handOn 73 = .ok (.lconst 0, 1) := by decide +kernel
theorem dX6_handOn_74 : decode cX6_handOn 74 = .ok (.lastore, 1) := by decide +kernel
theorem dX6_handOn_75 : decode cX6_handOn 75 = .ok (.return_, 1) := by decide +kernel
theorem dX6_numerator_0 : decode cX6_numerator 0 = .ok (.aload_n 0, 1) := by decide +kernel
theorem dX6_numerator_1 : decode cX6_numerator 1 = .ok (.getfield 19, 3) := by decide +kernel
theorem dX6_numerator_4 : decode cX6_numerator 4 = .ok (.iload_n 1, 1) := by decide +kernel
theorem dX6_numerator_5 : decode cX6_numerator 5 = .ok (.laload, 1) := by decide +kernel
theorem dX6_numerator_6 : decode cX6_numerator 6 = .ok (.aload_n 0, 1) := by decide +kernel
theorem dX6_numerator_7 : decode cX6_numerator 7 = .ok (.getfield 23, 3) := by decide +kernel
theorem dX6_numerator_10 : decode cX6_numerator 10 = .ok (.invokestatic 52, 3) := by decide +kernel
theorem dX6_numerator_13 : decode cX6_numerator 13 = .ok (.lstore_n 2, 1) := by decide +kernel
theorem dX6_numerator_14 : decode cX6_numerator 14 = .ok (.lload_n 2, 1) := by decide +kernel
theorem dX6_numerator_15 : decode cX6_numerator 15 = .ok (.lconst 0, 1) := by decide +kernel
theorem dX6_numerator_16 : decode cX6_numerator 16 = .ok (.lcmp, 1) := by decide +kernel
theorem dX6_numerator_17 : decode cX6_numerator 17 = .ok (.ifCond .le 14, 3) := by decide +kernel
theorem dX6_numerator_20 : decode cX6_numerator 20 = .ok (.aload_n 0, 1) := by decide +kernel
theorem dX6_numerator_21 : decode cX6_numerator 21 = .ok (.getfield 19, 3) := by decide +kernel
theorem dX6_numerator_24 : decode cX6_numerator 24 = .ok (.iload_n 1, 1) := by decide +kernel
theorem dX6_numerator_25 : decode cX6_numerator 25 = .ok (.laload, 1) := by decide +kernel
theorem dX6_numerator_26 : decode cX6_numerator 26 = .ok (.lload_n 2, 1) := by decide +kernel
theorem dX6_numerator_27 : decode cX6_numerator 27 = .ok (.ldiv, 1) := by decide +kernel
theorem dX6_numerator_28 : decode cX6_numerator 28 = .ok (.goto 4, 3) := by decide +kernel
theorem dX6_numerator_31 : decode cX6_numerator 31 = .ok (.lconst 0, 1) := by decide +kernel
theorem dX6_numerator_32 : decode cX6_numerator 32 = .ok (.lreturn, 1) := by decide +kernel
theorem dX6_denominator_0 : decode cX6_denominator 0 = .ok (.aload_n 0, 1) := by decide +kernel
theorem dX6_denominator_1 : decode cX6_denominator 1 = .ok (.getfield 19, 3) := by decide +kernel
theorem dX6_denominator_4 : decode cX6_denominator 4 = .ok (.iload_n 1, 1) := by decide +kernel
theorem dX6_denominator_5 : decode cX6_denominator 5 = .ok (.laload, 1) := by decide +kernel
theorem dX6_denominator_6 : decode cX6_denominator 6 = .ok (.aload_n 0, 1) := by decide +kernel
theorem dX6_denominator_7 : decode cX6_denominator 7 = .ok (.getfield 23, 3) := by decide +kernel
theorem dX6_denominator_10 : decode cX6_denominator 10 = .ok (.invokestatic 52, 3) := by decide +kernel
theorem dX6_denominator_13 : decode cX6_denominator 13 = .ok (.lstore_n 2, 1) := by decide +kernel
theorem dX6_denominator_14 : decode cX6_denominator 14 = .ok (.lload_n 2, 1) := by decide +kernel
theorem dX6_denominator_15 : decode cX6_denominator 15 = .ok (.lconst 0, 1) := by decide +kernel
theorem dX6_denominator_16 : decode cX6_denominator 16 = .ok (.lcmp, 1) := by decide +kernel
theorem dX6_denominator_17 : decode cX6_denominator 17 = .ok (.ifCond .le 12, 3) := by decide +kernel
theorem dX6_denominator_20 : decode cX6_denominator 20 = .ok (.aload_n 0, 1) := by decide +kernel
theorem dX6_denominator_21 : decode cX6_denominator 21 = .ok (.getfield 23, 3) := by decide +kernel
theorem dX6_denominator_24 : decode cX6_denominator 24 = .ok (.lload_n 2, 1) := by decide +kernel
theorem dX6_denominator_25 : decode cX6_denominator 25 = .ok (.ldiv, 1) := by decide +kernel
theorem dX6_denominator_26 : decode cX6_denominator 26 = .ok (.goto 4, 3) := by decide +kernel
theorem dX6_denominator_29 : decode cX6_denominator 29 = .ok (.lconst 1, 1) := by decide +kernel
theorem dX6_denominator_30 : decode cX6_denominator 30 = .ok (.lreturn, 1) := by decide +kernel
theorem dX6_commonDivisor_0 : decode cX6_commonDivisor 0 = .ok (.lload_n 0, 1) := by decide +kernel
theorem dX6_commonDivisor_1 : decode cX6_commonDivisor 1 = .ok (.lstore 4, 2) := by decide +kernel
theorem dX6_commonDivisor_3 : decode cX6_commonDivisor 3 = .ok (.lload_n 2, 1) := by decide +kernel
theorem dX6_commonDivisor_4 : decode cX6_commonDivisor 4 = .ok (.lstore 6, 2) := by decide +kernel
theorem dX6_commonDivisor_6 : decode cX6_commonDivisor 6 = .ok (.iconst 0, 1) := by decide +kernel
theorem dX6_commonDivisor_7 : decode cX6_commonDivisor 7 = .ok (.istore 8, 2) := by decide +kernel
theorem dX6_commonDivisor_9 : decode cX6_commonDivisor 9 = .ok (.iload 8, 2) := by decide +kernel
theorem dX6_commonDivisor_11 : decode cX6_commonDivisor 11 = .ok (.bipush 100, 2) := by decide +kernel
theorem dX6_commonDivisor_13 : decode cX6_commonDivisor 13 = .ok (.if_icmp .ge 31, 3) := by decide +kernel
theorem dX6_commonDivisor_16 : decode cX6_commonDivisor 16 = .ok (.lload 6, 2) := by decide +kernel
theorem dX6_commonDivisor_18 : decode cX6_commonDivisor 18 = .ok (.lconst 0, 1) := by decide +kernel
theorem dX6_commonDivisor_19 : decode cX6_commonDivisor 19 = .ok (.lcmp, 1) := by decide +kernel
theorem dX6_commonDivisor_20 : decode cX6_commonDivisor 20 = .ok (.ifCond .eq 24, 3) := by decide +kernel
theorem dX6_commonDivisor_23 : decode cX6_commonDivisor 23 = .ok (.lload 4, 2) := by decide +kernel
theorem dX6_commonDivisor_25 : decode cX6_commonDivisor 25 = .ok (.lload 6, 2) := by decide +kernel
theorem dX6_commonDivisor_27 : decode cX6_commonDivisor 27 = .ok (.lrem, 1) := by decide +kernel
theorem dX6_commonDivisor_28 : decode cX6_commonDivisor 28 = .ok (.lstore 9, 2) := by decide +kernel
theorem dX6_commonDivisor_30 : decode cX6_commonDivisor 30 = .ok (.lload 6, 2) := by decide +kernel
theorem dX6_commonDivisor_32 : decode cX6_commonDivisor 32 = .ok (.lstore 4, 2) := by decide +kernel
theorem dX6_commonDivisor_34 : decode cX6_commonDivisor 34 = .ok (.lload 9, 2) := by decide +kernel
theorem dX6_commonDivisor_36 : decode cX6_commonDivisor 36 = .ok (.lstore 6, 2) := by decide +kernel
theorem dX6_commonDivisor_38 : decode cX6_commonDivisor 38 = .ok (.iinc 8 1, 3) := by decide +kernel
theorem dX6_commonDivisor_41 : decode cX6_commonDivisor 41 = .ok (.goto (-32), 3) := by decide +kernel
theorem dX6_commonDivisor_44 : decode cX6_commonDivisor 44 = .ok (.lload 4, 2) := by decide +kernel
theorem dX6_commonDivisor_46 : decode cX6_commonDivisor 46 = .ok (.lreturn, 1) := by decide +kernel
theorem dX7_init_0 : decode cX7_init 0 = .ok (.aload_n 0, 1) := by decide +kernel
theorem dX7_init_1 : decode cX7_init 1 = .ok (.invokespecial 3, 3) := by decide +kernel
theorem dX7_init_4 : decode cX7_init 4 = .ok (.aload_n 0, 1) := by decide +kernel
theorem dX7_init_5 : decode cX7_init 5 = .ok (.bipush 64, 2) := by decide +kernel
theorem dX7_init_7 : decode cX7_init 7 = .ok (.newarray .int, 2) := by decide +kernel
theorem dX7_init_9 : decode cX7_init 9 = .ok (.putfield 11, 3) := by decide +kernel
theorem dX7_init_12 : decode cX7_init 12 = .ok (.aload_n 0, 1) := by decide +kernel
theorem dX7_init_13 : decode cX7_init 13 = .ok (.bipush 8, 2) := by decide +kernel
theorem dX7_init_15 : decode cX7_init 15 = .ok (.newarray .int, 2) := by decide +kernel
theorem dX7_init_17 : decode cX7_init 17 = .ok (.putfield 17, 3) := by decide +kernel
theorem dX7_init_20 : decode cX7_init 20 = .ok (.aload_n 0, 1) := by decide +kernel
theorem dX7_init_21 : decode cX7_init 21 = .ok (.sipush 256, 3) := by decide +kernel
theorem dX7_init_24 : decode cX7_init 24 = .ok (.newarray .int, 2) := by decide +kernel
theorem dX7_init_26 : decode cX7_init 26 = .ok (.putfield 20, 3) := by decide +kernel
theorem dX7_init_29 : decode cX7_init 29 = .ok (.aload_n 0, 1) := by decide +kernel
theorem dX7_init_30 : decode cX7_init 30 = .ok (.iconst 0, 1) := by decide +kernel
theorem dX7_init_31 : decode cX7_init 31 = .ok (.putfield 23, 3) := by decide +kernel
theorem dX7_init_34 : decode cX7_init 34 = .ok (.aload_n 0, 1) := by decide +kernel
theorem dX7_init_35 : decode cX7_init 35 = .ok (.iconst 0, 1) := by decide +kernel
theorem dX7_init_36 : decode cX7_init 36 = .ok (.putfield 27, 3) := by decide +kernel
theorem dX7_init_39 : decode cX7_init 39 = .ok (.aload_n 0, 1) := by decide +kernel
theorem dX7_init_40 : decode cX7_init 40 = .ok (.iconst 1, 1) := by decide +kernel
theorem dX7_init_41 : decode cX7_init 41 = .ok (.putfield 30, 3) := by decide +kernel
theorem dX7_init_44 : decode cX7_init 44 = .ok (.return_, 1) := by decide +kernel
theorem dX7_reachTo_0 : decode cX7_reachTo 0 = .ok (.iload_n 1, 1) := by decide +kernel
theorem dX7_reachTo_1 : decode cX7_reachTo 1 = .ok (.ifCond .lt 19, 3) := by decide +kernel
theorem dX7_reachTo_4 : decode cX7_reachTo 4 = .ok (.iload_n 1, 1) := by decide +kernel
theorem dX7_reachTo_5 : decode cX7_reachTo 5 = .ok (.bipush 8, 2) := by decide +kernel
theorem dX7_reachTo_7 : decode cX7_reachTo 7 = .ok (.if_icmp .gt 13, 3) := by decide +kernel
theorem dX7_reachTo_10 : decode cX7_reachTo 10 = .ok (.aload_n 0, 1) := by decide +kernel
theorem dX7_reachTo_11 : decode cX7_reachTo 11 = .ok (.iload_n 1, 1) := by decide +kernel
theorem dX7_reachTo_12 : decode cX7_reachTo 12 = .ok (.putfield 23, 3) := by decide +kernel
theorem dX7_reachTo_15 : decode cX7_reachTo 15 = .ok (.aload_n 0, 1) := by decide +kernel
theorem dX7_reachTo_16 : decode cX7_reachTo 16 = .ok (.iconst 0, 1) := by decide +kernel
theorem dX7_reachTo_17 : decode cX7_reachTo 17 = .ok (.putfield 30, 3) := by decide +kernel
theorem dX7_reachTo_20 : decode cX7_reachTo 20 = .ok (.return_, 1) := by decide +kernel
theorem dX7_tell_0 : decode cX7_tell 0 = .ok (.aload_n 0, 1) := by decide +kernel
theorem dX7_tell_1 : decode cX7_tell 1 = .ok (.getfield 27, 3) := by decide +kernel
theorem dX7_tell_4 : decode cX7_tell 4 = .ok (.bipush 40, 2) := by decide +kernel
theorem dX7_tell_6 : decode cX7_tell 6 = .ok (.if_icmp .ge 19, 3) := by decide +kernel
theorem dX7_tell_9 : decode cX7_tell 9 = .ok (.iload_n 1, 1) := by decide +kernel
theorem dX7_tell_10 : decode cX7_tell 10 = .ok (.iload_n 2, 1) := by decide +kernel
theorem dX7_tell_11 : decode cX7_tell 11 = .ok (.if_icmp .eq 14, 3) := by decide +kernel
theorem dX7_tell_14 : decode cX7_tell 14 = .ok (.iload_n 3, 1) := by decide +kernel
theorem dX7_tell_15 : decode cX7_tell 15 = .ok (.ifCond .lt 10, 3) := by decide +kernel
theorem dX7_tell_18 : decode cX7_tell 18 = .ok (.iload_n 3, 1) := by decide +kernel
theorem dX7_tell_19 : decode cX7_tell 19 = .ok (.sipush 1000, 3) := by decide +kernel
theorem dX7_tell_22 : decode cX7_tell 22 = .ok (.if_icmp .le 5, 3) := by decide +kernel
theorem dX7_tell_25 : decode cX7_tell 25 = .ok (.iconst (-1), 1) := by decide +kernel
theorem dX7_tell_26 : decode cX7_tell 26 = .ok (.ireturn, 1) := by decide +kernel
theorem dX7_tell_27 : decode cX7_tell 27 = .ok (.aload_n 0, 1) := by decide +kernel
theorem dX7_tell_28 : decode cX7_tell 28 = .ok (.getfield 11, 3) := by decide +kernel
theorem dX7_tell_31 : decode cX7_tell 31 = .ok (.iload_n 1, 1) := by decide +kernel
theorem dX7_tell_32 : decode cX7_tell 32 = .ok (.bipush 8, 2) := by decide +kernel
theorem dX7_tell_34 : decode cX7_tell 34 = .ok (.imul, 1) := by decide +kernel
theorem dX7_tell_35 : decode cX7_tell 35 = .ok (.iload_n 2, 1) := by decide +kernel
theorem dX7_tell_36 : decode cX7_tell 36 = .ok (.iadd, 1) := by decide +kernel
theorem dX7_tell_37 : decode cX7_tell 37 = .ok (.iload_n 3, 1) := by decide +kernel
theorem dX7_tell_38 : decode cX7_tell 38 = .ok (.iastore, 1) := by decide +kernel
theorem dX7_tell_39 : decode cX7_tell 39 = .ok (.aload_n 0, 1) := by decide +kernel
theorem dX7_tell_40 : decode cX7_tell 40 = .ok (.dup, 1) := by decide +kernel
theorem dX7_tell_41 : decode cX7_tell 41 = .ok (.getfield 27, 3) := by decide +kernel
theorem dX7_tell_44 : decode cX7_tell 44 = .ok (.iconst 1, 1) := by decide +kernel
theorem dX7_tell_45 : decode cX7_tell 45 = .ok (.iadd, 1) := by decide +kernel
theorem dX7_tell_46 : decode cX7_tell 46 = .ok (.putfield 27, 3) := by decide +kernel
theorem dX7_tell_49 : decode cX7_tell 49 = .ok (.aload_n 0, 1) := by decide +kernel
theorem dX7_tell_50 : decode cX7_tell 50 = .ok (.iconst 0, 1) := by decide +kernel
theorem dX7_tell_51 : decode cX7_tell 51 = .ok (.putfield 30, 3) := by decide +kernel
theorem dX7_tell_54 : decode cX7_tell 54 = .ok (.aload_n 0, 1) := by decide +kernel
theorem dX7_tell_55 : decode cX7_tell 55 = .ok (.getfield 27, 3) := by decide +kernel
theorem dX7_tell_58 : decode cX7_tell 58 = .ok (.ireturn, 1) := by decide +kernel
theorem dX7_settle_0 : decode cX7_settle 0 = .ok (.aload_n 0, 1) := by decide +kernel
theorem dX7_settle_1 : decode cX7_settle 1 = .ok (.getfield 30, 3) := by decide +kernel
theorem dX7_settle_4 : decode cX7_settle 4 = .ok (.ifCond .eq 4, 3) := by decide +kernel
theorem dX7_settle_7 : decode cX7_settle 7 = .ok (.return_, 1) := by decide +kernel
theorem dX7_settle_8 : decode cX7_settle 8 = .ok (.iconst 1, 1) := by decide +kernel
theorem dX7_settle_9 : decode cX7_settle 9 = .ok (.aload_n 0, 1) := by decide +kernel
theorem dX7_settle_10 : decode cX7_settle 10 = .ok (.getfield 23, 3) := by decide +kernel
theorem dX7_settle_13 : decode cX7_settle 13 = .ok (.ishl, 1) := by decide +kernel
theorem dX7_settle_14 : decode cX7_settle 14 = .ok (.iconst 1, 1) := by decide +kernel
theorem dX7_settle_15 : decode cX7_settle 15 = .ok (.isub, 1) := by decide +kernel
theorem dX7_settle_16 : decode cX7_settle 16 = .ok (.istore_n 1, 1) := by decide +kernel
theorem dX7_settle_17 : decode cX7_settle 17 = .ok (.aload_n 0, 1) := by decide +kernel
theorem dX7_settle_18 : decode cX7_settle 18 = .ok (.getfield 20, 3) := by decide +kernel
theorem dX7_settle_21 : decode cX7_settle 21 = .ok (.iload_n 1, 1) := by decide +kernel
theorem dX7_settle_22 : decode cX7_settle 22 = .ok (.iconst 0, 1) := by decide +kernel
theorem dX7_settle_23 : decode cX7_settle 23 = .ok (.iastore, 1) := by decide +kernel
theorem dX7_settle_24 : decode cX7_settle 24 = .ok (.iload_n 1, 1) := by decide +kernel
theorem dX7_settle_25 : decode cX7_settle 25 = .ok (.iconst 1, 1) := by decide +kernel
theorem dX7_settle_26 : decode cX7_settle 26 = .ok (.isub, 1) := by decide +kernel
theorem dX7_settle_27 : decode cX7_settle 27 = .ok (.istore_n 2, 1) := by decide +kernel
theorem dX7_settle_28 : decode cX7_settle 28 = .ok (.iload_n 2, 1) := by decide +kernel
theorem dX7_settle_29 : decode cX7_settle 29 = .ok (.ifCond .lt 20, 3) := by decide +kernel
theorem dX7_settle_32 : decode cX7_settle 32 = .ok (.aload_n 0, 1) := by decide +kernel
theorem dX7_settle_33 : decode cX7_settle 33 = .ok (.getfield 20, 3) := by decide +kernel
theorem dX7_settle_36 : decode cX7_settle 36 = .ok (.iload_n 2, 1) := by decide +kernel
theorem dX7_settle_37 : decode cX7_settle 37 = .ok (.aload_n 0, 1) := by decide +kernel
theorem dX7_settle_38 : decode cX7_settle 38 = .ok (.iload_n 2, 1) := by decide +kernel
theorem dX7_settle_39 : decode cX7_settle 39 = .ok (.invokevirtual 34, 3) := by decide +kernel
theorem dX7_settle_42 : decode cX7_settle 42 = .ok (.iastore, 1) := by decide +kernel
theorem dX7_settle_43 : decode cX7_settle 43 = .ok (.iinc 2 (-1), 3) := by decide +kernel
theorem dX7_settle_46 : decode cX7_settle 46 = .ok (.goto (-18), 3) := by decide +kernel
theorem dX7_settle_49 : decode cX7_settle 49 = .ok (.aload_n 0, 1) := by decide +kernel
theorem dX7_settle_50 : decode cX7_settle 50 = .ok (.invokevirtual 38, 3) := by decide +kernel
theorem dX7_settle_53 : decode cX7_settle 53 = .ok (.aload_n 0, 1) := by decide +kernel
theorem dX7_settle_54 : decode cX7_settle 54 = .ok (.iconst 1, 1) := by decide +kernel
theorem dX7_settle_55 : decode cX7_settle 55 = .ok (.putfield 30, 3) := by decide +kernel
theorem dX7_settle_58 : decode cX7_settle 58 = .ok (.return_, 1) := by decide +kernel
theorem dX7_greatestBehind_0 : decode cX7_greatestBehind 0 = .ok (.iconst (-1), 1) := by decide +kernel
theorem dX7_greatestBehind_1 : decode cX7_greatestBehind 1 = .ok (.istore_n 2, 1) := by decide +kernel
theorem dX7_greatestBehind_2 : decode cX7_greatestBehind 2 = .ok (.iconst 0, 1) := by decide +kernel
theorem dX7_greatestBehind_3 : decode cX7_greatestBehind 3 = .ok (.istore_n 3, 1) := by decide +kernel
theorem dX7_greatestBehind_4 : decode cX7_greatestBehind 4 = .ok (.iload_n 3, 1) := by decide +kernel
theorem dX7_greatestBehind_5 : decode cX7_greatestBehind 5 = .ok (.aload_n 0, 1) := by decide +kernel
theorem dX7_greatestBehind_6 : decode cX7_greatestBehind 6 = .ok (.getfield 23, 3) := by decide +kernel
theorem dX7_greatestBehind_9 : decode cX7_greatestBehind 9 = .ok (.if_icmp .ge 20, 3) := by decide +kernel
theorem dX7_greatestBehind_12 : decode cX7_greatestBehind 12 = .ok (.iload_n 2, 1) := by decide +kernel
theorem dX7_greatestBehind_13 : decode cX7_greatestBehind 13 = .ok (.aload_n 0, 1) := by decide +kernel
theorem dX7_greatestBehind_14 : decode cX7_greatestBehind 14 = .ok (.iload_n 1, 1) := by decide +kernel
theorem dX7_greatestBehind_15 : decode cX7_greatestBehind 15 = .ok (.iload_n 3, 1) := by decide +kernel
theorem dX7_greatestBehind_16 : decode cX7_greatestBehind 16 = .ok (.invokevirtual 41, 3) := by decide +kernel
theorem dX7_greatestBehind_19 : decode cX7_greatestBehind 19 = .ok (.invokestatic 45, 3) := by decide +kernel
theorem dX7_greatestBehind_22 : decode cX7_greatestBehind 22 = .ok (.istore_n 2, 1) := by decide +kernel
theorem dX7_greatestBehind_23 : decode cX7_greatestBehind 23 = .ok (.iinc 3 1, 3) := by decide +kernel
theorem dX7_greatestBehind_26 : decode cX7_greatestBehind 26 = .ok (.goto (-22), 3) := by decide +kernel
theorem dX7_greatestBehind_29 : decode cX7_greatestBehind 29 = .ok (.iload_n 2, 1) := by decide +kernel
theorem dX7_greatestBehind_30 : decode cX7_greatestBehind 30 = .ok (.ireturn, 1) := by decide +kernel
theorem dX7_joyWith_0 : decode cX7_joyWith 0 = .ok (.iload_n 1, 1) := by decide +kernel
theorem dX7_joyWith_1 : decode cX7_joyWith 1 = .ok (.invokestatic 50, 3) := by decide +kernel
theorem dX7_joyWith_4 : decode cX7_joyWith 4 = .ok (.istore_n 3, 1) := by decide +kernel
theorem dX7_joyWith_5 : decode cX7_joyWith 5 = .ok (.iconst 1, 1) := by decide +kernel
theorem dX7_joyWith_6 : decode cX7_joyWith 6 = .ok (.iload_n 2, 1) := by decide +kernel
theorem dX7_joyWith_7 : decode cX7_joyWith 7 = .ok (.ishl, 1) := by decide +kernel
theorem dX7_joyWith_8 : decode cX7_joyWith 8 = .ok (.istore 4, 2) := by decide +kernel
theorem dX7_joyWith_10 : decode cX7_joyWith 10 = .ok (.iload_n 3, 1) := by decide +kernel
theorem dX7_joyWith_11 : decode cX7_joyWith 11 = .ok (.aload_n 0, 1) := by decide +kernel
theorem dX7_joyWith_12 : decode cX7_joyWith 12 = .ok (.getfield 23, 3) := by decide +kernel
theorem dX7_joyWith_15 : decode cX7_joyWith 15 = .ok (.if_icmp .ge 23, 3) := by decide +kernel
theorem dX7_joyWith_18 : decode cX7_joyWith 18 = .ok (.iload_n 1, 1) := by decide +kernel
theorem dX7_joyWith_19 : decode cX7_joyWith 19 = .ok (.iload 4, 2) := by decide +kernel
theorem dX7_joyWith_21 : decode cX7_joyWith 21 = .ok (.iand, 1) := by decide +kernel
theorem dX7_joyWith_22 : decode cX7_joyWith 22 = .ok (.ifCond .ne 16, 3) := by decide +kernel
theorem dX7_joyWith_25 : decode cX7_joyWith 25 = .ok (.aload_n 0, 1) := by decide +kernel
theorem dX7_joyWith_26 : decode cX7_joyWith 26 = .ok (.getfield 20, 3) := by decide +kernel
theorem dX7_joyWith_29 : decode cX7_joyWith 29 = .ok (.iload_n 1, 1) := by decide +kernel
theorem dX7_joyWith_30 : decode cX7_joyWith 30 = .ok (.iload 4, 2) := by decide +kernel
theorem dX7_joyWith_32 : decode cX7_joyWith 32 = .ok (.ior, 1) := by decide +kernel
theorem dX7_joyWith_33 : decode cX7_joyWith 33 = .ok (.iaload, 1) := by decide +kernel
theorem dX7_joyWith_34 : decode cX7_joyWith 34 = .ok (.iconst (-1), 1) := by decide +kernel
theorem dX7_joyWith_35 : decode cX7_joyWith 35 = .ok (.if_icmp .ne 5, 3) := by decide +kernel
theorem dX7_joyWith_38 : decode cX7_joyWith 38 = .ok (.iconst (-1), 1) := by decide +kernel
theorem dX7_joyWith_39 : decode cX7_joyWith 39 = .ok (.ireturn, 1) := by decide +kernel
theorem dX7_joyWith_40 : decode cX7_joyWith 40 = .ok (.aload_n 0, 1) := by decide +kernel
theorem dX7_joyWith_41 : decode cX7_joyWith 41 = .ok (.getfield 11, 3) := by decide +kernel
theorem dX7_joyWith_44 : decode cX7_joyWith 44 = .ok (.iload_n 3, 1) := by decide +kernel
theorem dX7_joyWith_45 : decode cX7_joyWith 45 = .ok (.bipush 8, 2) := by decide +kernel
theorem dX7_joyWith_47 : decode cX7_joyWith 47 = .ok (.imul, 1) := by decide +kernel
theorem dX7_joyWith_48 : decode cX7_joyWith 48 = .ok (.iload_n 2, 1) := by decide +kernel
theorem dX7_joyWith_49 : decode cX7_joyWith 49 = .ok (.iadd, 1) := by decide +kernel
theorem dX7_joyWith_50 : decode cX7_joyWith 50 = .ok (.iaload, 1) := by decide +kernel
theorem dX7_joyWith_51 : decode cX7_joyWith 51 = .ok (.istore 5, 2) := by decide +kernel
theorem dX7_joyWith_53 : decode cX7_joyWith 53 = .ok (.iload_n 3, 1) := by decide +kernel
theorem dX7_joyWith_54 : decode cX7_joyWith 54 = .ok (.iload_n 2, 1) := by decide +kernel
theorem dX7_joyWith_55 : decode cX7_joyWith 55 = .ok (.if_icmp .eq 10, 3) := by decide +kernel
theorem dX7_joyWith_58 : decode cX7_joyWith 58 = .ok (.iload 5, 2) := by decide +kernel
theorem dX7_joyWith_60 : decode cX7_joyWith 60 = .ok (.ifCond .ne 5, 3) := by decide +kernel
theorem dX7_joyWith_63 : decode cX7_joyWith 63 = .ok (.iconst (-1), 1) := by decide +kernel
theorem dX7_joyWith_64 : decode cX7_joyWith 64 = .ok (.ireturn, 1) := by decide +kernel
theorem dX7_joyWith_65 : decode cX7_joyWith 65 = .ok (.iload 5, 2) := by decide +kernel
theorem dX7_joyWith_67 : decode cX7_joyWith 67 = .ok (.aload_n 0, 1) := by decide +kernel
theorem dX7_joyWith_68 : decode cX7_joyWith 68 = .ok (.getfield 20, 3) := by decide +kernel
theorem dX7_joyWith_71 : decode cX7_joyWith 71 = .ok (.iload_n 1, 1) := by decide +kernel
theorem dX7_joyWith_72 : decode cX7_joyWith 72 = .ok (.iload 4, 2) := by decide +kernel
theorem dX7_joyWith_74 : decode cX7_joyWith 74 = .ok (.ior, 1) := by decide +kernel
theorem dX7_joyWith_75 : decode cX7_joyWith 75 = .ok (.iaload, 1) := by decide +kernel
theorem dX7_joyWith_76 : decode cX7_joyWith 76 = .ok (.iadd, 1) := by decide +kernel
theorem dX7_joyWith_77 : decode cX7_joyWith 77 = .ok (.ireturn, 1) := by decide +kernel
theorem dX7_choose_0 : decode cX7_choose 0 = .ok (.iconst 0, 1) := by decide +kernel
theorem dX7_choose_1 : decode cX7_choose 1 = .ok (.istore_n 1, 1) := by decide +kernel
theorem dX7_choose_2 : decode cX7_choose 2 = .ok (.iconst 0, 1) := by decide +kernel
theorem dX7_choose_3 : decode cX7_choose 3 = .ok (.istore_n 2, 1) := by decide +kernel
theorem dX7_choose_4 : decode cX7_choose 4 = .ok (.iload_n 2, 1) := by decide +kernel
theorem dX7_choose_5 : decode cX7_choose 5 = .ok (.aload_n 0, 1) := by decide +kernel
theorem dX7_choose_6 : decode cX7_choose 6 = .ok (.getfield 23, 3) := by decide +kernel
theorem dX7_choose_9 : decode cX7_choose 9 = .ok (.if_icmp .ge 66, 3) := by decide +kernel
theorem dX7_choose_12 : decode cX7_choose 12 = .ok (.aload_n 0, 1) := by decide +kernel
theorem dX7_choose_13 : decode cX7_choose 13 = .ok (.getfield 17, 3) := by decide +kernel
theorem dX7_choose_16 : decode cX7_choose 16 = .ok (.iload_n 2, 1) := by decide +kernel
theorem dX7_choose_17 : decode cX7_choose 17 = .ok (.iload_n 2, 1) := by decide +kernel
theorem dX7_choose_18 : decode cX7_choose 18 = .ok (.iastore, 1) := by decide +kernel
theorem dX7_choose_19 : decode cX7_choose 19 = .ok (.aload_n 0, 1) := by decide +kernel
theorem dX7_choose_20 : decode cX7_choose 20 = .ok (.getfield 23, 3) := by decide +kernel
theorem dX7_choose_23 : decode cX7_choose 23 = .ok (.iconst 1, 1) := by decide +kernel
theorem dX7_choose_24 : decode cX7_choose 24 = .ok (.isub, 1) := by decide +kernel
theorem dX7_choose_25 : decode cX7_choose 25 = .ok (.istore_n 3, 1) := by decide +kernel
theorem dX7_choose_26 : decode cX7_choose 26 = .ok (.iload_n 3, 1) := by decide +kernel
theorem dX7_choose_27 : decode cX7_choose 27 = .ok (.ifCond .lt 31, 3) := by decide +kernel
theorem dX7_choose_30 : decode cX7_choose 30 = .ok (.aload_n 0, 1) := by decide +kernel
theorem dX7_choose_31 : decode cX7_choose 31 = .ok (.iload_n 1, 1) := by decide +kernel
theorem dX7_choose_32 : decode cX7_choose 32 = .ok (.iload_n 3, 1) := by decide +kernel
theorem dX7_choose_33 : decode cX7_choose 33 = .ok (.invokevirtual 41, 3) := by decide +kernel
theorem dX7_choose_36 : decode cX7_choose 36 = .ok (.aload_n 0, 1) := by decide +kernel
theorem dX7_choose_37 : decode cX7_choose 37 = .ok (.getfield 20, 3) := by decide +kernel
theorem dX7_choose_40 : decode cX7_choose 40 = .ok (.iload_n 1, 1) := by decide +kernel
theorem dX7_choose_41 : decode cX7_choose 41 = .ok (.iaload, 1) := by decide +kernel
theorem dX7_choose_42 : decode cX7_choose 42 = .ok (.if_icmp .ne 10, 3) := by decide +kernel
theorem dX7_choose_45 : decode cX7_choose 45 = .ok (.aload_n 0, 1) := by decide +kernel
theorem dX7_choose_46 : decode cX7_choose 46 = .ok (.getfield 17, 3) := by decide +kernel
theorem dX7_choose_49 : decode cX7_choose 49 = .ok (.iload_n 2, 1) := by decide +kernel
theorem dX7_choose_50 : decode cX7_choose 50 = .ok (.iload_n 3, 1) := by decide +kernel
theorem dX7_choose_51 : decode cX7_choose 51 = .ok (.iastore, 1) := by decide +kernel
theorem dX7_choose_52 : decode cX7_choose 52 = .ok (.iinc 3 (-1), 3) := by decide +kernel
theorem dX7_choose_55 : decode cX7_choose 55 = .ok (.goto (-29), 3) := by decide +kernel
theorem dX7_choose_58 : decode cX7_choose 58 = .ok (.iload_n 1, 1) := by decide +kernel
theorem dX7_choose_59 : decode cX7_choose 59 = .ok (.iconst 1, 1) := by decide +kernel
theorem dX7_choose_60 : decode cX7_choose 60 = .ok (.aload_n 0, 1) := by decide +kernel
theorem dX7_choose_61 : decode cX7_choose 61 = .ok (.getfield 17, 3) := by decide +kernel
theorem dX7_choose_64 : decode cX7_choose 64 = .ok (.iload_n 2, 1) := by decide +kernel
theorem dX7_choose_65 : decode cX7_choose 65 = .ok (.iaload, 1) := by decide +kernel
theorem dX7_choose_66 : decode cX7_choose 66 = .ok (.ishl, 1) := by decide +kernel
theorem dX7_choose_67 : decode cX7_choose 67 = .ok (.ior, 1) := by decide +kernel
theorem dX7_choose_68 : decode cX7_choose 68 = .ok (.istore_n 1, 1) := by decide +kernel
theorem dX7_choose_69 : decode cX7_choose 69 = .ok (.iinc 2 1, 3) := by decide +kernel
theorem dX7_choose_72 : decode cX7_choose 72 = .ok (.goto (-68), 3) := by decide +kernel
theorem dX7_choose_75 : decode cX7_choose 75 = .ok (.return_, 1) := by decide +kernel
theorem dX8_init_0 : decode cX8_init 0 = .ok (.aload_n 0, 1) := by decide +kernel
theorem dX8_init_1 : decode cX8_init 1 = .ok (.invokespecial 1, 3) := by decide +kernel
theorem dX8_init_4 : decode cX8_init 4 = .ok (.aload_n 0, 1) := by decide +kernel
theorem dX8_init_5 : decode cX8_init 5 = .ok (.sipush 600, 3) := by decide +kernel
theorem dX8_init_8 : decode cX8_init 8 = .ok (.newarray .byte, 2) := by decide +kernel
theorem dX8_init_10 : decode cX8_init 10 = .ok (.putfield 9, 3) := by decide +kernel
theorem dX8_init_13 : decode cX8_init 13 = .ok (.aload_n 0, 1) := by decide +kernel
theorem dX8_init_14 : decode cX8_init 14 = .ok (.iconst 0, 1) := by decide +kernel
theorem dX8_init_15 : decode cX8_init 15 = .ok (.putfield 13, 3) := by decide +kernel
theorem dX8_init_18 : decode cX8_init 18 = .ok (.return_, 1) := by decide +kernel
theorem dX8_hasRoomFor_0 : decode cX8_hasRoomFor 0 = .ok (.aload_n 0, 1) := by decide +kernel
theorem dX8_hasRoomFor_1 : decode cX8_hasRoomFor 1 = .ok (.getfield 13, 3) := by decide +kernel
theorem dX8_hasRoomFor_4 : decode cX8_hasRoomFor 4 = .ok (.iconst 4, 1) := by decide +kernel
theorem dX8_hasRoomFor_5 : decode cX8_hasRoomFor 5 = .ok (.iload_n 1, 1) := by decide +kernel
theorem dX8_hasRoomFor_6 : decode cX8_hasRoomFor 6 = .ok (.imul, 1) := by decide +kernel
theorem dX8_hasRoomFor_7 : decode cX8_hasRoomFor 7 = .ok (.iadd, 1) := by decide +kernel
theorem dX8_hasRoomFor_8 : decode cX8_hasRoomFor 8 = .ok (.sipush 600, 3) := by decide +kernel
theorem dX8_hasRoomFor_11 : decode cX8_hasRoomFor 11 = .ok (.if_icmp .gt 7, 3) := by decide +kernel
theorem dX8_hasRoomFor_14 : decode cX8_hasRoomFor 14 = .ok (.iconst 1, 1) := by decide +kernel
theorem dX8_hasRoomFor_15 : decode cX8_hasRoomFor 15 = .ok (.goto 4, 3) := by decide +kernel
theorem dX8_hasRoomFor_18 : decode cX8_hasRoomFor 18 = .ok (.iconst 0, 1) := by decide +kernel
theorem dX8_hasRoomFor_19 : decode cX8_hasRoomFor 19 = .ok (.ireturn, 1) := by decide +kernel
theorem dX8_put_0 : decode cX8_put 0 = .ok (.aload_n 0, 1) := by decide +kernel
theorem dX8_put_1 : decode cX8_put 1 = .ok (.iconst 1, 1) := by decide +kernel
theorem dX8_put_2 : decode cX8_put 2 = .ok (.invokevirtual 17, 3) := by decide +kernel
theorem dX8_put_5 : decode cX8_put 5 = .ok (.ifCond .eq 72, 3) := by decide +kernel
theorem dX8_put_8 : decode cX8_put 8 = .ok (.aload_n 0, 1) := by decide +kernel
theorem dX8_put_9 : decode cX8_put 9 = .ok (.getfield 9, 3) := by decide +kernel
theorem dX8_put_12 : decode cX8_put 12 = .ok (.aload_n 0, 1) := by decide +kernel
theorem dX8_put_13 : decode cX8_put 13 = .ok (.getfield 13, 3) := by decide +kernel
theorem dX8_put_16 : decode cX8_put 16 = .ok (.iload_n 1, 1) := by decide +kernel
theorem dX8_put_17 : decode cX8_put 17 = .ok (.bipush 24, 2) := by decide +kernel
theorem dX8_put_19 : decode cX8_put 19 = .ok (.ishr, 1) := by decide +kernel
theorem dX8_put_20 : decode cX8_put 20 = .ok (.i2b, 1) := by decide +kernel
theorem dX8_put_21 : decode cX8_put 21 = .ok (.bastore, 1) := by decide +kernel
theorem dX8_put_22 : decode cX8_put 22 = .ok (.aload_n 0, 1) := by decide +kernel
theorem dX8_put_23 : decode cX8_put 23 = .ok (.getfield 9, 3) := by decide +kernel
theorem dX8_put_26 : decode cX8_put 26 = .ok (.aload_n 0, 1) := by decide +kernel
theorem dX8_put_27 : decode cX8_put 27 = .ok (.getfield 13, 3) := by decide +kernel
theorem dX8_put_30 : decode cX8_put 30 = .ok (.iconst 1, 1) := by decide +kernel
theorem dX8_put_31 : decode cX8_put 31 = .ok (.iadd, 1) := by decide +kernel
theorem dX8_put_32 : decode cX8_put 32 = .ok (.iload_n 1, 1) := by decide +kernel
theorem dX8_put_33 : decode cX8_put 33 = .ok (.bipush 16, 2) := by decide +kernel
theorem dX8_put_35 : decode cX8_put 35 = .ok (.ishr, 1) := by decide +kernel
theorem dX8_put_36 : decode cX8_put 36 = .ok (.i2b, 1) := by decide +kernel
theorem dX8_put_37 : decode cX8_put 37 = .ok (.bastore, 1) := by decide +kernel
theorem dX8_put_38 : decode cX8_put 38 = .ok (.aload_n 0, 1) := by decide +kernel
theorem dX8_put_39 : decode cX8_put 39 = .ok (.getfield 9, 3) := by decide +kernel
theorem dX8_put_42 : decode cX8_put 42 = .ok (.aload_n 0, 1) := by decide +kernel
theorem dX8_put_43 : decode cX8_put 43 = .ok (.getfield 13, 3) := by decide +kernel
theorem dX8_put_46 : decode cX8_put 46 = .ok (.iconst 2, 1) := by decide +kernel
theorem dX8_put_47 : decode cX8_put 47 = .ok (.iadd, 1) := by decide +kernel
theorem dX8_put_48 : decode cX8_put 48 = .ok (.iload_n 1, 1) := by decide +kernel
theorem dX8_put_49 : decode cX8_put 49 = .ok (.bipush 8, 2) := by decide +kernel
theorem dX8_put_51 : decode cX8_put 51 = .ok (.ishr, 1) := by decide +kernel
theorem dX8_put_52 : decode cX8_put 52 = .ok (.i2b, 1) := by decide +kernel
theorem dX8_put_53 : decode cX8_put 53 = .ok (.bastore, 1) := by decide +kernel
theorem dX8_put_54 : decode cX8_put 54 = .ok (.aload_n 0, 1) := by decide +kernel
theorem dX8_put_55 : decode cX8_put 55 = .ok (.getfield 9, 3) := by decide +kernel
theorem dX8_put_58 : decode cX8_put 58 = .ok (.aload_n 0, 1) := by decide +kernel
theorem dX8_put_59 : decode cX8_put 59 = .ok (.getfield 13, 3) := by decide +kernel
theorem dX8_put_62 : decode cX8_put 62 = .ok (.iconst 3, 1) := by decide +kernel
theorem dX8_put_63 : decode cX8_put 63 = .ok (.iadd, 1) := by decide +kernel
theorem dX8_put_64 : decode cX8_put 64 = .ok (.iload_n 1, 1) := by decide +kernel
theorem dX8_put_65 : decode cX8_put 65 = .ok (.i2b, 1) := by decide +kernel
theorem dX8_put_66 : decode cX8_put 66 = .ok (.bastore, 1) := by decide +kernel
theorem dX8_put_67 : decode cX8_put 67 = .ok (.aload_n 0, 1) := by decide +kernel
theorem dX8_put_68 : decode cX8_put 68 = .ok (.dup, 1) := by decide +kernel
theorem dX8_put_69 : decode cX8_put 69 = .ok (.getfield 13, 3) := by decide +kernel
theorem dX8_put_72 : decode cX8_put 72 = .ok (.iconst 4, 1) := by decide +kernel
theorem dX8_put_73 : decode cX8_put 73 = .ok (.iadd, 1) := by decide +kernel
theorem dX8_put_74 : decode cX8_put 74 = .ok (.putfield 13, 3) := by decide +kernel
theorem dX8_put_77 : decode cX8_put 77 = .ok (.return_, 1) := by decide +kernel
theorem dX8_cut_0 : decode cX8_cut 0 = .ok (.iload_n 1, 1) := by decide +kernel
theorem dX8_cut_1 : decode cX8_cut 1 = .ok (.ifCond .lt 11, 3) := by decide +kernel
theorem dX8_cut_4 : decode cX8_cut 4 = .ok (.iload_n 1, 1) := by decide +kernel
theorem dX8_cut_5 : decode cX8_cut 5 = .ok (.aload_n 0, 1) := by decide +kernel
theorem dX8_cut_6 : decode cX8_cut 6 = .ok (.getfield 13, 3) := by decide +kernel
theorem dX8_cut_9 : decode cX8_cut 9 = .ok (.if_icmp .le 5, 3) := by decide +kernel
theorem dX8_cut_12 : decode cX8_cut 12 = .ok (.iconst 0, 1) := by decide +kernel
theorem dX8_cut_13 : decode cX8_cut 13 = .ok (.ireturn, 1) := by decide +kernel
theorem dX8_cut_14 : decode cX8_cut 14 = .ok (.aload_n 0, 1) := by decide +kernel
theorem dX8_cut_15 : decode cX8_cut 15 = .ok (.iload_n 1, 1) := by decide +kernel
theorem dX8_cut_16 : decode cX8_cut 16 = .ok (.putfield 13, 3) := by decide +kernel
theorem dX8_cut_19 : decode cX8_cut 19 = .ok (.iconst 1, 1) := by decide +kernel
theorem dX8_cut_20 : decode cX8_cut 20 = .ok (.ireturn, 1) := by decide +kernel
theorem dX9_init_0 : decode cX9_init 0 = .ok (.aload_n 0, 1) := by decide +kernel
theorem dX9_init_1 : decode cX9_init 1 = .ok (.invokespecial 3, 3) := by decide +kernel
theorem dX9_init_4 : decode cX9_init 4 = .ok (.aload_n 0, 1) := by decide +kernel
theorem dX9_init_5 : decode cX9_init 5 = .ok (.sipush 601, 3) := by decide +kernel
theorem dX9_init_8 : decode cX9_init 8 = .ok (.newarray .byte, 2) := by decide +kernel
theorem dX9_init_10 : decode cX9_init 10 = .ok (.putfield 11, 3) := by decide +kernel
theorem dX9_init_13 : decode cX9_init 13 = .ok (.aload_n 0, 1) := by decide +kernel
theorem dX9_init_14 : decode cX9_init 14 = .ok (.sipush 601, 3) := by decide +kernel
theorem dX9_init_17 : decode cX9_init 17 = .ok (.newarray .short, 2) := by decide +kernel
theorem dX9_init_19 : decode cX9_init 19 = .ok (.putfield 17, 3) := by decide +kernel
theorem dX9_init_22 : decode cX9_init 22 = .ok (.aload_n 0, 1) := by decide +kernel
theorem dX9_init_23 : decode cX9_init 23 = .ok (.sipush 601, 3) := by decide +kernel
theorem dX9_init_26 : decode cX9_init 26 = .ok (.newarray .int, 2) := by decide +kernel
theorem dX9_init_28 : decode cX9_init 28 = .ok (.putfield 21, 3) := by decide +kernel
theorem dX9_init_31 : decode cX9_init 31 = .ok (.aload_n 0, 1) := by decide +kernel
theorem dX9_init_32 : decode cX9_init 32 = .ok (.iconst 0, 1) := by decide +kernel
theorem dX9_init_33 : decode cX9_init 33 = .ok (.putfield 25, 3) := by decide +kernel
theorem dX9_init_36 : decode cX9_init 36 = .ok (.return_, 1) := by decide +kernel
theorem dX9_scan_0 : decode cX9_scan 0 = .ok (.aload_n 0, 1) := by decide +kernel
theorem dX9_scan_1 : decode cX9_scan 1 = .ok (.iconst 0, 1) := by decide +kernel
theorem dX9_scan_2 : decode cX9_scan 2 = .ok (.putfield 25, 3) := by decide +kernel
theorem dX9_scan_5 : decode cX9_scan 5 = .ok (.iconst 0, 1) := by decide +kernel
theorem dX9_scan_6 : decode cX9_scan 6 = .ok (.istore_n 3, 1) := by decide +kernel
theorem dX9_scan_7 : decode cX9_scan 7 = .ok (.iconst 0, 1) := by decide +kernel
theorem dX9_scan_8 : decode cX9_scan 8 = .ok (.istore 4, 2) := by decide +kernel
theorem dX9_scan_10 : decode cX9_scan 10 = .ok (.iload 4, 2) := by decide +kernel
theorem dX9_scan_12 : decode cX9_scan 12 = .ok (.aload_n 1, 1) := by decide +kernel
theorem dX9_scan_13 : decode cX9_scan 13 = .ok (.arraylength, 1) := by decide +kernel
theorem dX9_scan_14 : decode cX9_scan 14 = .ok (.if_icmp .ge 56, 3) := by decide +kernel
theorem dX9_scan_17 : decode cX9_scan 17 = .ok (.iload_n 3, 1) := by decide +kernel
theorem dX9_scan_18 : decode cX9_scan 18 = .ok (.iload_n 2, 1) := by decide +kernel
theorem dX9_scan_19 : decode cX9_scan 19 = .ok (.if_icmp .ge 51, 3) := by decide +kernel
theorem dX9_scan_22 : decode cX9_scan 22 = .ok (.aload_n 1, 1) := by decide +kernel
theorem dX9_scan_23 : decode cX9_scan 23 = .ok (.iload_n 3, 1) := by decide +kernel
theorem dX9_scan_24 : decode cX9_scan 24 = .ok (.baload, 1) := by decide +kernel
theorem dX9_scan_25 : decode cX9_scan 25 = .ok (.invokestatic 29, 3) := by decide +kernel
theorem dX9_scan_28 : decode cX9_scan 28 = .ok (.ifCond .eq 9, 3) := by decide +kernel
theorem dX9_scan_31 : decode cX9_scan 31 = .ok (.iload_n 3, 1) := by decide +kernel
theorem dX9_scan_32 : decode cX9_scan 32 = .ok (.iconst 1, 1) := by decide +kernel
theorem dX9_scan_33 : decode cX9_scan 33 = .ok (.iadd, 1) := by decide +kernel
theorem dX9_scan_34 : decode cX9_scan 34 = .ok (.goto 10, 3) := by decide +kernel
theorem dX9_scan_37 : decode cX9_scan 37 = .ok (.aload_n 0, 1) := by decide +kernel
theorem dX9_scan_38 : decode cX9_scan 38 = .ok (.aload_n 1, 1) := by decide +kernel
theorem dX9_scan_39 : decode cX9_scan 39 = .ok (.iload_n 2, 1) := by decide +kernel
theorem dX9_scan_40 : decode cX9_scan 40 = .ok (.iload_n 3, 1) := by decide +kernel
theorem dX9_scan_41 : decode cX9_scan 41 = .ok (.invokevirtual 33, 3) := by decide +kernel
theorem dX9_scan_44 : decode cX9_scan 44 = .ok (.istore 5, 2) := by decide +kernel
theorem dX9_scan_46 : decode cX9_scan 46 = .ok (.iload 5, 2) := by decide +kernel
theorem dX9_scan_48 : decode cX9_scan 48 = .ok (.iconst (-1), 1) := by decide +kernel
theorem dX9_scan_49 : decode cX9_scan 49 = .ok (.if_icmp .ne 12, 3) := by decide +kernel
theorem dX9_scan_52 : decode cX9_scan 52 = .ok (.aload_n 0, 1) := by decide +kernel
theorem dX9_scan_53 : decode cX9_scan 53 = .ok (.bipush 21, 2) := by decide +kernel
theorem dX9_scan_55 : decode cX9_scan 55 = .ok (.iload_n 3, 1) := by decide +kernel
theorem dX9_scan_56 : decode cX9_scan 56 = .ok (.iconst 0, 1) := by decide +kernel
theorem dX9_scan_57 : decode cX9_scan 57 = .ok (.invokevirtual 37, 3) := by decide +kernel
theorem dX9_scan_60 : decode cX9_scan 60 = .ok (.return_, 1) := by decide +kernel
theorem dX9_scan_61 : decode cX9_scan 61 = .ok (.iload 5, 2) := by decide +kernel
theorem dX9_scan_63 : decode cX9_scan 63 = .ok (.istore_n 3, 1) := by decide +kernel
theorem dX9_scan_64 : decode cX9_scan 64 = .ok (.iinc 4 1, 3) := by decide +kernel
theorem dX9_scan_67 : decode cX9_scan 67 = .ok (.goto (-57), 3) := by decide +kernel
theorem dX9_scan_70 : decode cX9_scan 70 = .ok (.aload_n 0, 1) := by decide +kernel
theorem dX9_scan_71 : decode cX9_scan 71 = .ok (.bipush 20, 2) := by decide +kernel
theorem dX9_scan_73 : decode cX9_scan 73 = .ok (.iload_n 2, 1) := by decide +kernel
theorem dX9_scan_74 : decode cX9_scan 74 = .ok (.iconst 0, 1) := by decide +kernel
theorem dX9_scan_75 : decode cX9_scan 75 = .ok (.invokevirtual 37, 3) := by decide +kernel
theorem dX9_scan_78 : decode cX9_scan 78 = .ok (.return_, 1) := by decide +kernel
theorem dX9_scanToken_0 : decode cX9_scanToken 0 = .ok (.aload_n 1, 1) := by decide +kernel
theorem dX9_scanToken_1 : decode cX9_scanToken 1 = .ok (.iload_n 3, 1) := by decide +kernel
theorem dX9_scanToken_2 : decode cX9_scanToken 2 = .ok (.baload, 1) := by decide +kernel
theorem dX9_scanToken_3 : decode cX9_scanToken 3 = .ok (.invokestatic 41, 3) := by decide +kernel
theorem dX9_scanToken_6 : decode cX9_scanToken 6 = .ok (.ifCond .eq 11, 3) := by decide +kernel
theorem dX9_scanToken_9 : decode cX9_scanToken 9 = .ok (.aload_n 0, 1) := by decide +kernel
theorem dX9_scanToken_10 : decode cX9_scanToken 10 = .ok (.aload_n 1, 1) := by decide +kernel
theorem dX9_scanToken_11 : decode cX9_scanToken 11 = .ok (.iload_n 2, 1) := by decide +kernel
theorem dX9_scanToken_12 : decode cX9_scanToken 12 = .ok (.iload_n 3, 1) := by decide +kernel
theorem dX9_scanToken_13 : decode cX9_scanToken 13 = .ok (.invokevirtual 44, 3) := by decide +kernel
theorem dX9_scanToken_16 : decode cX9_scanToken 16 = .ok (.ireturn, 1) := by decide +kernel
theorem dX9_scanToken_17 : decode cX9_scanToken 17 = .ok (.aload_n 1, 1) := by decide +kernel
theorem dX9_scanToken_18 : decode cX9_scanToken 18 = .ok (.iload_n 3, 1) := by decide +kernel
theorem dX9_scanToken_19 : decode cX9_scanToken 19 = .ok (.baload, 1) := by decide +kernel
theorem dX9_scanToken_20 : decode cX9_scanToken 20 = .ok (.invokestatic 47, 3) := by decide +kernel
theorem dX9_scanToken_23 : decode cX9_scanToken 23 = .ok (.ifCond .eq 11, 3) := by decide +kernel
theorem dX9_scanToken_26 : decode cX9_scanToken 26 = .ok (.aload_n 0, 1) := by decide +kernel
theorem dX9_scanToken_27 : decode cX9_scanToken 27 = .ok (.aload_n 1, 1) := by decide +kernel
theorem dX9_scanToken_28 : decode cX9_scanToken 28 = .ok (.iload_n 2, 1) := by decide +kernel
theorem dX9_scanToken_29 : decode cX9_scanToken 29 = .ok (.iload_n 3, 1) := by decide +kernel
theorem dX9_scanToken_30 : decode cX9_scanToken 30 = .ok (.invokevirtual 50, 3) := by decide +kernel
theorem dX9_scanToken_33 : decode cX9_scanToken 33 = .ok (.ireturn, 1) := by decide +kernel
theorem dX9_scanToken_34 : decode cX9_scanToken 34 = .ok (.aload_n 1, 1) := by decide +kernel
theorem dX9_scanToken_35 : decode cX9_scanToken 35 = .ok (.iload_n 3, 1) := by decide +kernel
theorem dX9_scanToken_36 : decode cX9_scanToken 36 = .ok (.baload, 1) := by decide +kernel
theorem dX9_scanToken_37 : decode cX9_scanToken 37 = .ok (.ifCond .lt 15, 3) := by decide +kernel
theorem dX9_scanToken_40 : decode cX9_scanToken 40 = .ok (.ldc 53, 2) := by decide +kernel
theorem dX9_scanToken_42 : decode cX9_scanToken 42 = .ok (.aload_n 1, 1) := by decide +kernel
theorem dX9_scanToken_43 : decode cX9_scanToken 43 = .ok (.iload_n 3, 1) := by decide +kernel
theorem dX9_scanToken_44 : decode cX9_scanToken 44 = .ok (.baload, 1) := by decide +kernel
theorem dX9_scanToken_45 : decode cX9_scanToken 45 = .ok (.i2c, 1) := by decide +kernel
theorem dX9_scanToken_46 : decode cX9_scanToken 46 = .ok (.invokevirtual 55, 3) := by decide +kernel
theorem dX9_scanToken_49 : decode cX9_scanToken 49 = .ok (.goto 4, 3) := by decide +kernel
theorem dX9_scanToken_52 : decode cX9_scanToken 52 = .ok (.iconst (-1), 1) := by decide +kernel
theorem dX9_scanToken_53 : decode cX9_scanToken 53 = .ok (.istore 4, 2) := by decide +kernel
theorem dX9_scanToken_55 : decode cX9_scanToken 55 = .ok (.iload 4, 2) := by decide +kernel
theorem dX9_scanToken_57 : decode cX9_scanToken 57 = .ok (.ifCond .ge 5, 3) := by decide +kernel
theorem dX9_scanToken_60 : decode cX9_scanToken 60 = .ok (.iconst (-1), 1) := by decide +kernel
theorem dX9_scanToken_61 : decode cX9_scanToken 61 = .ok (.ireturn, 1) := by decide +kernel
theorem dX9_scanToken_62 : decode cX9_scanToken 62 = .ok (.aload_n 0, 1) := by decide +kernel
theorem dX9_scanToken_63 : decode cX9_scanToken 63 = .ok (.bipush 22, 2) := by decide +kernel
theorem dX9_scanToken_65 : decode cX9_scanToken 65 = .ok (.iload 4, 2) := by decide +kernel
theorem dX9_scanToken_67 : decode cX9_scanToken 67 = .ok (.iadd, 1) := by decide +kernel
theorem dX9_scanToken_68 : decode cX9_scanToken 68 = .ok (.iload_n 3, 1) := by decide +kernel
theorem dX9_scanToken_69 : decode cX9_scanToken 69 = .ok (.iconst 0, 1) := by decide +kernel
theorem dX9_scanToken_70 : decode cX9_scanToken 70 = .ok (.invokevirtual 37, 3) := by decide +kernel
theorem dX9_scanToken_73 : decode cX9_scanToken 73 = .ok (.iload_n 3, 1) := by decide +kernel
theorem dX9_scanToken_74 : decode cX9_scanToken 74 = .ok (.iconst 1, 1) := by decide +kernel
theorem dX9_scanToken_75 : decode cX9_scanToken 75 = .ok (.iadd, 1) := by decide +kernel
theorem dX9_scanToken_76 : decode cX9_scanToken 76 = .ok (.ireturn, 1) := by decide +kernel
theorem dX9_scanWord_0 : decode cX9_scanWord 0 = .ok (.iload_n 3, 1) := by decide +kernel
theorem dX9_scanWord_1 : decode cX9_scanWord 1 = .ok (.istore 4, 2) := by decide +kernel
theorem dX9_scanWord_3 : decode cX9_scanWord 3 = .ok (.iload 4, 2) := by decide +kernel
theorem dX9_scanWord_5 : decode cX9_scanWord 5 = .ok (.iload_n 2, 1) := by decide +kernel
theorem dX9_scanWord_6 : decode cX9_scanWord 6 = .ok (.if_icmp .ge 19, 3) := by decide +kernel
theorem dX9_scanWord_9 : decode cX9_scanWord 9 = .ok (.aload_n 1, 1) := by decide +kernel
theorem dX9_scanWord_10 : decode cX9_scanWord 10 = .ok (.iload 4, 2) := by decide +kernel
theorem dX9_scanWord_12 : decode cX9_scanWord 12 = .ok (.baload, 1) := by decide +kernel
theorem dX9_scanWord_13 : decode cX9_scanWord 13 = .ok (.invokestatic 41, 3) := by decide +kernel
theorem dX9_scanWord_16 : decode cX9_scanWord 16 = .ok (.ifCond .eq 9, 3) := by decide +kernel
theorem dX9_scanWord_19 : decode cX9_scanWord 19 = .ok (.iinc 4 1, 3) := by decide +kernel
theorem dX9_scanWord_22 : decode cX9_scanWord 22 = .ok (.goto (-19), 3) := by decide +kernel
theorem dX9_scanWord_25 : decode cX9_scanWord 25 = .ok (.iload 4, 2) := by decide +kernel
theorem dX9_scanWord_27 : decode cX9_scanWord 27 = .ok (.iload_n 3, 1) := by decide +kernel
theorem dX9_scanWord_28 : decode cX9_scanWord 28 = .ok (.isub, 1) := by decide +kernel
theorem dX9_scanWord_29 : decode cX9_scanWord 29 = .ok (.bipush 8, 2) := by decide +kernel
theorem dX9_scanWord_31 : decode cX9_scanWord 31 = .ok (.if_icmp .le 5, 3) := by decide +kernel
theorem dX9_scanWord_34 : decode cX9_scanWord 34 = .ok (.iconst (-1), 1) := by decide +kernel
theorem dX9_scanWord_35 : decode cX9_scanWord 35 = .ok (.ireturn, 1) := by decide +kernel
theorem dX9_scanWord_36 : decode cX9_scanWord 36 = .ok (.ldc 61, 2) := by decide +kernel
theorem dX9_scanWord_38 : decode cX9_scanWord 38 = .ok (.aload_n 1, 1) := by decide +kernel
theorem dX9_scanWord_39 : decode cX9_scanWord 39 = .ok (.iload_n 3, 1) := by decide +kernel
theorem dX9_scanWord_40 : decode cX9_scanWord 40 = .ok (.iload 4, 2) := by decide +kernel
theorem dX9_scanWord_42 : decode cX9_scanWord 42 = .ok (.invokestatic 63, 3) := by decide +kernel
theorem dX9_scanWord_45 : decode cX9_scanWord 45 = .ok (.istore 5, 2) := by decide +kernel
theorem dX9_scanWord_47 : decode cX9_scanWord 47 = .ok (.ldc 67, 2) := by decide +kernel
theorem dX9_scanWord_49 : decode cX9_scanWord 49 = .ok (.aload_n 1, 1) := by decide +kernel
theorem dX9_scanWord_50 : decode cX9_scanWord 50 = .ok (.iload_n 3, 1) := by decide +kernel
theorem dX9_scanWord_51 : decode cX9_scanWord 51 = .ok (.iload 4, 2) := by decide +kernel
theorem dX9_scanWord_53 : decode cX9_scanWord 53 = .ok (.invokestatic 63, 3) := by decide +kernel
theorem dX9_scanWord_56 : decode cX9_scanWord 56 = .ok (.istore 6, 2) := by decide +kernel
theorem dX9_scanWord_58 : decode cX9_scanWord 58 = .ok (.iload 6, 2) := by decide +kernel
theorem dX9_scanWord_60 : decode cX9_scanWord 60 = .ok (.iconst (-1), 1) := by decide +kernel
theorem dX9_scanWord_61 : decode cX9_scanWord 61 = .ok (.if_icmp .ne 8, 3) := by decide +kernel
theorem dX9_scanWord_64 : decode cX9_scanWord 64 = .ok (.bipush 18, 2) := by decide +kernel
theorem dX9_scanWord_66 : decode cX9_scanWord 66 = .ok (.goto 8, 3) := by decide +kernel
theorem dX9_scanWord_69 : decode cX9_scanWord 69 = .ok (.bipush 9, 2) := by decide +kernel
theorem dX9_scanWord_71 : decode cX9_scanWord 71 = .ok (.iload 6, 2) := by decide +kernel
theorem dX9_scanWord_73 : decode cX9_scanWord 73 = .ok (.iadd, 1) := by decide +kernel
theorem dX9_scanWord_74 : decode cX9_scanWord 74 = .ok (.istore 7, 2) := by decide +kernel
theorem dX9_scanWord_76 : decode cX9_scanWord 76 = .ok (.aload_n 0, 1) := by decide +kernel
theorem dX9_scanWord_77 : decode cX9_scanWord 77 = .ok (.iload 5, 2) := by decide +kernel
theorem dX9_scanWord_79 : decode cX9_scanWord 79 = .ok (.iconst (-1), 1) := by decide +kernel
theorem dX9_scanWord_80 : decode cX9_scanWord 80 = .ok (.if_icmp .ne 8, 3) := by decide +kernel
theorem dX9_scanWord_83 : decode cX9_scanWord 83 = .ok (.iload 7, 2) := by decide +kernel
theorem dX9_scanWord_85 : decode cX9_scanWord 85 = .ok (.goto 5, 3) := by decide +kernel
theorem dX9_scanWord_88 : decode cX9_scanWord 88 = .ok (.iload 5, 2) := by decide +kernel
theorem dX9_scanWord_90 : decode cX9_scanWord 90 = .ok (.iload_n 3, 1) := by decide +kernel
theorem dX9_scanWord_91 : decode cX9_scanWord 91 = .ok (.iconst 0, 1) := by decide +kernel
theorem dX9_scanWord_92 : decode cX9_scanWord 92 = .ok (.invokevirtual 37, 3) := by decide +kernel
theorem dX9_scanWord_95 : decode cX9_scanWord 95 = .ok (.iload 4, 2) := by decide +kernel
theorem dX9_scanWord_97 : decode cX9_scanWord 97 = .ok (.ireturn, 1) := by decide +kernel
theorem dX9_scanNumber_0 : decode cX9_scanNumber 0 = .ok (.iload_n 3, 1) := by decide +kernel
theorem dX9_scanNumber_1 : decode cX9_scanNumber 1 = .ok (.istore 4, 2) := by decide +kernel
theorem dX9_scanNumber_3 : decode cX9_scanNumber 3 = .ok (.iconst 0, 1) := by decide +kernel
theorem dX9_scanNumber_4 : decode cX9_scanNumber 4 = .ok (.istore 5, 2) := by decide +kernel
theorem dX9_scanNumber_6 : decode cX9_scanNumber 6 = .ok (.iload 4, 2) := by decide +kernel
theorem dX9_scanNumber_8 : decode cX9_scanNumber 8 = .ok (.iload_n 2, 1) := by decide +kernel
theorem dX9_scanNumber_9 : decode cX9_scanNumber 9 = .ok (.if_icmp .ge 34, 3) := by decide +kernel
theorem dX9_scanNumber_12 : decode cX9_scanNumber 12 = .ok (.aload_n 1, 1) := by decide +kernel
theorem dX9_scanNumber_13 : decode cX9_scanNumber 13 = .ok (.iload 4, 2) := by decide +kernel
theorem dX9_scanNumber_15 : decode cX9_scanNumber 15 = .ok (.baload, 1) := by decide +kernel
theorem dX9_scanNumber_16 : decode cX9_scanNumber 16 = .ok (.invokestatic 47, 3) := by decide +kernel
theorem dX9_scanNumber_19 : decode cX9_scanNumber 19 = .ok (.ifCond .eq 24, 3) := by decide +kernel
theorem dX9_scanNumber_22 : decode cX9_scanNumber 22 = .ok (.iload 5, 2) := by decide +kernel
theorem dX9_scanNumber_24 : decode cX9_scanNumber 24 = .ok (.bipush 10, 2) := by decide +kernel
theorem dX9_scanNumber_26 : decode cX9_scanNumber 26 = .ok (.imul, 1) := by decide +kernel
theorem dX9_scanNumber_27 : decode cX9_scanNumber 27 = .ok (.aload_n 1, 1) := by decide +kernel
theorem dX9_scanNumber_28 : decode cX9_scanNumber 28 = .ok (.iload 4, 2) := by decide +kernel
theorem dX9_scanNumber_30 : decode cX9_scanNumber 30 = .ok (.baload, 1) := by decide +kernel
theorem dX9_scanNumber_31 : decode cX9_scanNumber 31 = .ok (.bipush 48, 2) := by decide +kernel
theorem dX9_scanNumber_33 : decode cX9_scanNumber 33 = .ok (.isub, 1) := by decide +kernel
theorem dX9_scanNumber_34 : decode cX9_scanNumber 34 = .ok (.iadd, 1) := by decide +kernel
theorem dX9_scanNumber_35 : decode cX9_scanNumber 35 = .ok (.istore 5, 2) := by decide +kernel
theorem dX9_scanNumber_37 : decode cX9_scanNumber 37 = .ok (.iinc 4 1, 3) := by decide +kernel
theorem dX9_scanNumber_40 : decode cX9_scanNumber 40 = .ok (.goto (-34), 3) := by decide +kernel
theorem dX9_scanNumber_43 : decode cX9_scanNumber 43 = .ok (.iload 4, 2) := by decide +kernel
theorem dX9_scanNumber_45 : decode cX9_scanNumber 45 = .ok (.iload_n 2, 1) := by decide +kernel
theorem dX9_scanNumber_46 : decode cX9_scanNumber 46 = .ok (.if_icmp .ge 17, 3) := by decide +kernel
theorem dX9_scanNumber_49 : decode cX9_scanNumber 49 = .ok (.aload_n 1, 1) := by decide +kernel
theorem dX9_scanNumber_50 : decode cX9_scanNumber 50 = .ok (.iload 4, 2) := by decide +kernel
theorem dX9_scanNumber_52 : decode cX9_scanNumber 52 = .ok (.baload, 1) := by decide +kernel
theorem dX9_scanNumber_53 : decode cX9_scanNumber 53 = .ok (.invokestatic 41, 3) := by decide +kernel
theorem dX9_scanNumber_56 : decode cX9_scanNumber 56 = .ok (.ifCond .eq 7, 3) := by decide +kernel
theorem dX9_scanNumber_59 : decode cX9_scanNumber 59 = .ok (.iconst 1, 1) := by decide +kernel
theorem dX9_scanNumber_60 : decode cX9_scanNumber 60 = .ok (.goto 4, 3) := by decide +kernel
theorem dX9_scanNumber_63 : decode cX9_scanNumber 63 = .ok (.iconst 0, 1) := by decide +kernel
theorem dX9_scanNumber_64 : decode cX9_scanNumber 64 = .ok (.istore 6, 2) := by decide +kernel
theorem dX9_scanNumber_66 : decode cX9_scanNumber 66 = .ok (.iload 4, 2) := by decide +kernel
theorem dX9_scanNumber_68 : decode cX9_scanNumber 68 = .ok (.iload_n 3, 1) := by decide +kernel
theorem dX9_scanNumber_69 : decode cX9_scanNumber 69 = .ok (.isub, 1) := by decide +kernel
theorem dX9_scanNumber_70 : decode cX9_scanNumber 70 = .ok (.bipush 7, 2) := by decide +kernel
theorem dX9_scanNumber_72 : decode cX9_scanNumber 72 = .ok (.if_icmp .gt 8, 3) := by decide +kernel
theorem dX9_scanNumber_75 : decode cX9_scanNumber 75 = .ok (.iload 6, 2) := by decide +kernel
theorem dX9_scanNumber_77 : decode cX9_scanNumber 77 = .ok (.ifCond .eq 5, 3) := by decide +kernel
theorem dX9_scanNumber_80 : decode cX9_scanNumber 80 = .ok (.iconst (-1), 1) := by decide +kernel
theorem dX9_scanNumber_81 : decode cX9_scanNumber 81 = .ok (.ireturn, 1) := by decide +kernel
theorem dX9_scanNumber_82 : decode cX9_scanNumber 82 = .ok (.aload_n 0, 1) := by decide +kernel
theorem dX9_scanNumber_83 : decode cX9_scanNumber 83 = .ok (.bipush 19, 2) := by decide +kernel
theorem dX9_scanNumber_85 : decode cX9_scanNumber 85 = .ok (.iload_n 3, 1) := by decide +kernel
theorem dX9_scanNumber_86 : decode cX9_scanNumber 86 = .ok (.iload 5, 2) := by decide +kernel
theorem dX9_scanNumber_88 : decode cX9_scanNumber 88 = .ok (.invokevirtual 37, 3) := by decide +kernel
theorem dX9_scanNumber_91 : decode cX9_scanNumber 91 = .ok (.iload 4, 2) := by decide +kernel
theorem dX9_scanNumber_93 : decode cX9_scanNumber 93 = .ok (.ireturn, 1) := by decide +kernel
theorem dX9_rowOf_0 : decode cX9_rowOf 0 = .ok (.iconst 0, 1) := by decide +kernel
theorem dX9_rowOf_1 : decode cX9_rowOf 1 = .ok (.istore 4, 2) := by decide +kernel
theorem dX9_rowOf_3 : decode cX9_rowOf 3 = .ok (.iload 4, 2) := by decide +kernel
theorem dX9_rowOf_5 : decode cX9_rowOf 5 = .ok (.aload_n 0, 1) := by decide +kernel
theorem dX9_rowOf_6 : decode cX9_rowOf 6 = .ok (.invokevirtual 69, 3) := by decide +kernel
theorem dX9_rowOf_9 : decode cX9_rowOf 9 = .ok (.bipush 8, 2) := by decide +kernel
theorem dX9_rowOf_11 : decode cX9_rowOf 11 = .ok (.idiv, 1) := by decide +kernel
theorem dX9_rowOf_12 : decode cX9_rowOf 12 = .ok (.if_icmp .ge 27, 3) := by decide +kernel
theorem dX9_rowOf_15 : decode cX9_rowOf 15 = .ok (.aload_n 0, 1) := by decide +kernel
theorem dX9_rowOf_16 : decode cX9_rowOf 16 = .ok (.iload 4, 2) := by decide +kernel
theorem dX9_rowOf_18 : decode cX9_rowOf 18 = .ok (.bipush 8, 2) := by decide +kernel
theorem dX9_rowOf_20 : decode cX9_rowOf 20 = .ok (.imul, 1) := by decide +kernel
theorem dX9_rowOf_21 : decode cX9_rowOf 21 = .ok (.aload_n 1, 1) := by decide +kernel
theorem dX9_rowOf_22 : decode cX9_rowOf 22 = .ok (.iload_n 2, 1) := by decide +kernel
theorem dX9_rowOf_23 : decode cX9_rowOf 23 = .ok (.iload_n 3, 1) := by decide +kernel
theorem dX9_rowOf_24 : decode cX9_rowOf 24 = .ok (.invokestatic 73, 3) := by decide +kernel
theorem dX9_rowOf_27 : decode cX9_rowOf 27 = .ok (.ifCond .eq 6, 3) := by decide +kernel
theorem dX9_rowOf_30 : decode cX9_rowOf 30 = .ok (.iload 4, 2) := by decide +kernel
theorem dX9_rowOf_32 : decode cX9_rowOf 32 = .ok (.ireturn, 1) := by decide +kernel
theorem dX9_rowOf_33 : decode cX9_rowOf 33 = .ok (.iinc 4 1, 3) := by decide +kernel
theorem dX9_rowOf_36 : decode cX9_rowOf 36 = .ok (.goto (-33), 3) := by decide +kernel
theorem dX9_rowOf_39 : decode cX9_rowOf 39 = .ok (.iconst (-1), 1) := by decide +kernel
theorem dX9_rowOf_40 : decode cX9_rowOf 40 = .ok (.ireturn, 1) := by decide +kernel
theorem dX9_isWord_0 : decode cX9_isWord 0 = .ok (.iconst 0, 1) := by decide +kernel
theorem dX9_isWord_1 : decode cX9_isWord 1 = .ok (.istore 5, 2) := by decide +kernel
theorem dX9_isWord_3 : decode cX9_isWord 3 = .ok (.iload 5, 2) := by decide +kernel
theorem dX9_isWord_5 : decode cX9_isWord 5 = .ok (.bipush 8, 2) := by decide +kernel
theorem dX9_isWord_7 : decode cX9_isWord 7 = .ok (.if_icmp .ge 46, 3) := by decide +kernel
theorem dX9_isWord_10 : decode cX9_isWord 10 = .ok (.iload_n 3, 1) := by decide +kernel
theorem dX9_isWord_11 : decode cX9_isWord 11 = .ok (.iload 5, 2) := by decide +kernel
theorem dX9_isWord_13 : decode cX9_isWord 13 = .ok (.iadd, 1) := by decide +kernel
theorem dX9_isWord_14 : decode cX9_isWord 14 = .ok (.iload 4, 2) := by decide +kernel
theorem dX9_isWord_16 : decode cX9_isWord 16 = .ok (.if_icmp .ge 12, 3) := by decide +kernel
theorem dX9_isWord_19 : decode cX9_isWord 19 = .ok (.aload_n 2, 1) := by decide +kernel
theorem dX9_isWord_20 : decode cX9_isWord 20 = .ok (.iload_n 3, 1) := by decide +kernel
theorem dX9_isWord_21 : decode cX9_isWord 21 = .ok (.iload 5, 2) := by decide +kernel
theorem dX9_isWord_23 : decode cX9_isWord 23 = .ok (.iadd, 1) := by decide +kernel
theorem dX9_isWord_24 : decode cX9_isWord 24 = .ok (.baload, 1) := by decide +kernel
theorem dX9_isWord_25 : decode cX9_isWord 25 = .ok (.goto 5, 3) := by decide +kernel
theorem dX9_isWord_28 : decode cX9_isWord 28 = .ok (.bipush 32, 2) := by decide +kernel
theorem dX9_isWord_30 : decode cX9_isWord 30 = .ok (.istore 6, 2) := by decide +kernel
theorem dX9_isWord_32 : decode cX9_isWord 32 = .ok (.iload 6, 2) := by decide +kernel
theorem dX9_isWord_34 : decode cX9_isWord 34 = .ok (.aload_n 0, 1) := by decide +kernel
theorem dX9_isWord_35 : decode cX9_isWord 35 = .ok (.iload_n 1, 1) := by decide +kernel
theorem dX9_isWord_36 : decode cX9_isWord 36 = .ok (.iload 5, 2) := by decide +kernel
theorem dX9_isWord_38 : decode cX9_isWord 38 = .ok (.iadd, 1) := by decide +kernel
theorem dX9_isWord_39 : decode cX9_isWord 39 = .ok (.invokevirtual 77, 3) := by decide +kernel
theorem dX9_isWord_42 : decode cX9_isWord 42 = .ok (.if_icmp .eq 5, 3) := by decide +kernel
theorem dX9_isWord_45 : decode cX9_isWord 45 = .ok (.iconst 0, 1) := by decide +kernel
theorem dX9_isWord_46 : decode cX9_isWord 46 = .ok (.ireturn, 1) := by decide +kernel
theorem dX9_isWord_47 : decode cX9_isWord 47 = .ok (.iinc 5 1, 3) := by decide +kernel
theorem dX9_isWord_50 : decode cX9_isWord 50 = .ok (.goto (-47), 3) := by decide +kernel
theorem dX9_isWord_53 : decode cX9_isWord 53 = .ok (.iconst 1, 1) := by decide +kernel
theorem dX9_isWord_54 : decode cX9_isWord 54 = .ok (.ireturn, 1) := by decide +kernel
theorem dX9_add_0 : decode cX9_add 0 = .ok (.aload_n 0, 1) := by decide +kernel
theorem dX9_add_1 : decode cX9_add 1 = .ok (.getfield 25, 3) := by decide +kernel
theorem dX9_add_4 : decode cX9_add 4 = .ok (.aload_n 0, 1) := by decide +kernel
theorem dX9_add_5 : decode cX9_add 5 = .ok (.getfield 11, 3) := by decide +kernel
theorem dX9_add_8 : decode cX9_add 8 = .ok (.arraylength, 1) := by decide +kernel
theorem dX9_add_9 : decode cX9_add 9 = .ok (.if_icmp .ge 45, 3) := by decide +kernel
theorem dX9_add_12 : decode cX9_add 12 = .ok (.aload_n 0, 1) := by decide +kernel
theorem dX9_add_13 : decode cX9_add 13 = .ok (.getfield 11, 3) := by decide +kernel
theorem dX9_add_16 : decode cX9_add 16 = .ok (.aload_n 0, 1) := by decide +kernel
theorem dX9_add_17 : decode cX9_add 17 = .ok (.getfield 25, 3) := by decide +kernel
theorem dX9_add_20 : decode cX9_add 20 = .ok (.iload_n 1, 1) := by decide +kernel
theorem dX9_add_21 : decode cX9_add 21 = .ok (.i2b, 1) := by decide +kernel
theorem dX9_add_22 : decode cX9_add 22 = .ok (.bastore, 1) := by decide +kernel
theorem dX9_add_23 : decode cX9_add 23 = .ok (.aload_n 0, 1) := by decide +kernel
theorem dX9_add_24 : decode cX9_add 24 = .ok (.getfield 17, 3) := by decide +kernel
theorem dX9_add_27 : decode cX9_add 27 = .ok (.aload_n 0, 1) := by decide +kernel
theorem dX9_add_28 : decode cX9_add 28 = .ok (.getfield 25, 3) := by decide +kernel
theorem dX9_add_31 : decode cX9_add 31 = .ok (.iload_n 2, 1) := by decide +kernel
theorem dX9_add_32 : decode cX9_add 32 = .ok (.i2s, 1) := by decide +kernel
theorem dX9_add_33 : decode cX9_add 33 = .ok (.sastore, 1) := by decide +kernel
theorem dX9_add_34 : decode cX9_add 34 = .ok (.aload_n 0, 1) := by decide +kernel
theorem dX9_add_35 : decode cX9_add 35 = .ok (.getfield 21, 3) := by decide +kernel
theorem dX9_add_38 : decode cX9_add 38 = .ok (.aload_n 0, 1) := by decide +kernel
theorem dX9_add_39 : decode cX9_add 39 = .ok (.getfield 25, 3) := by decide +kernel
theorem dX9_add_42 : decode cX9_add 42 = .ok (.iload_n 3, 1) := by decide +kernel
theorem dX9_add_43 : decode cX9_add 43 = .ok (.iastore, 1) := by decide +kernel
theorem dX9_add_44 : decode cX9_add 44 = .ok (.aload_n 0, 1) := by decide +kernel
theorem dX9_add_45 : decode cX9_add 45 = .ok (.dup, 1) := by decide +kernel
theorem dX9_add_46 : decode cX9_add 46 = .ok (.getfield 25, 3) := by decide +kernel
theorem dX9_add_49 : decode cX9_add 49 = .ok (.iconst 1, 1) := by decide +kernel
theorem dX9_add_50 : decode cX9_add 50 = .ok (.iadd, 1) := by decide +kernel
theorem dX9_add_51 : decode cX9_add 51 = .ok (.putfield 25, 3) := by decide +kernel
theorem dX9_add_54 : decode cX9_add 54 = .ok (.return_, 1) := by decide +kernel
theorem dX9_isBlank_0 : decode cX9_isBlank 0 = .ok (.iload_n 0, 1) := by decide +kernel
theorem dX9_isBlank_1 : decode cX9_isBlank 1 = .ok (.bipush 32, 2) := by decide +kernel
theorem dX9_isBlank_3 : decode cX9_isBlank 3 = .ok (.if_icmp .eq 9, 3) := by decide +kernel
theorem dX9_isBlank_6 : decode cX9_isBlank 6 = .ok (.iload_n 0, 1) := by decide +kernel
theorem dX9_isBlank_7 : decode cX9_isBlank 7 = .ok (.bipush 10, 2) := by decide +kernel
theorem dX9_isBlank_9 : decode cX9_isBlank 9 = .ok (.if_icmp .ne 7, 3) := by decide +kernel
theorem dX9_isBlank_12 : decode cX9_isBlank 12 = .ok (.iconst 1, 1) := by decide +kernel
theorem dX9_isBlank_13 : decode cX9_isBlank 13 = .ok (.goto 4, 3) := by decide +kernel
theorem dX9_isBlank_16 : decode cX9_isBlank 16 = .ok (.iconst 0, 1) := by decide +kernel
theorem dX9_isBlank_17 : decode cX9_isBlank 17 = .ok (.ireturn, 1) := by decide +kernel
theorem dX9_isLetter_0 : decode cX9_isLetter 0 = .ok (.iload_n 0, 1) := by decide +kernel
theorem dX9_isLetter_1 : decode cX9_isLetter 1 = .ok (.bipush 97, 2) := by decide +kernel
theorem dX9_isLetter_3 : decode cX9_isLetter 3 = .ok (.if_icmp .lt 13, 3) := by decide +kernel
theorem dX9_isLetter_6 : decode cX9_isLetter 6 = .ok (.iload_n 0, 1) := by decide +kernel
theorem dX9_isLetter_7 : decode cX9_isLetter 7 = .ok (.bipush 122, 2) := by decide +kernel
theorem dX9_isLetter_9 : decode cX9_isLetter 9 = .ok (.if_icmp .gt 7, 3) := by decide +kernel
theorem dX9_isLetter_12 : decode cX9_isLetter 12 = .ok (.iconst 1, 1) := by decide +kernel
theorem dX9_isLetter_13 : decode cX9_isLetter 13 = .ok (.goto 4, 3) := by decide +kernel
theorem dX9_isLetter_16 : decode cX9_isLetter 16 = .ok (.iconst 0, 1) := by decide +kernel
theorem dX9_isLetter_17 : decode cX9_isLetter 17 = .ok (.ireturn, 1) := by decide +kernel
theorem dX9_isDigit_0 : decode cX9_isDigit 0 = .ok (.iload_n 0, 1) := by decide +kernel
theorem dX9_isDigit_1 : decode cX9_isDigit 1 = .ok (.bipush 48, 2) := by decide +kernel
theorem dX9_isDigit_3 : decode cX9_isDigit 3 = .ok (.if_icmp .lt 13, 3) := by decide +kernel
theorem dX9_isDigit_6 : decode cX9_isDigit 6 = .ok (.iload_n 0, 1) := by decide +kernel
theorem dX9_isDigit_7 : decode cX9_isDigit 7 = .ok (.bipush 57, 2) := by decide +kernel
theorem dX9_isDigit_9 : decode cX9_isDigit 9 = .ok (.if_icmp .gt 7, 3) := by decide +kernel
theorem dX9_isDigit_12 : decode cX9_isDigit 12 = .ok (.iconst 1, 1) := by decide +kernel
theorem dX9_isDigit_13 : decode cX9_isDigit 13 = .ok (.goto 4, 3) := by decide +kernel
theorem dX9_isDigit_16 : decode cX9_isDigit 16 = .ok (.iconst 0, 1) := by decide +kernel
theorem dX9_isDigit_17 : decode cX9_isDigit 17 = .ok (.ireturn, 1) := by decide +kernel
theorem dX10_init_0 : decode cX10_init 0 = .ok (.aload_n 0, 1) := by decide +kernel
theorem dX10_init_1 : decode cX10_init 1 = .ok (.invokespecial 3, 3) := by decide +kernel
theorem dX10_init_4 : decode cX10_init 4 = .ok (.aload_n 0, 1) := by decide +kernel
theorem dX10_init_5 : decode cX10_init 5 = .ok (.iconst (-1), 1) := by decide +kernel
theorem dX10_init_6 : decode cX10_init 6 = .ok (.putfield 9, 3) := by decide +kernel
theorem dX10_init_9 : decode cX10_init 9 = .ok (.aload_n 0, 1) := by decide +kernel
theorem dX10_init_10 : decode cX10_init 10 = .ok (.iconst 0, 1) := by decide +kernel
theorem dX10_init_11 : decode cX10_init 11 = .ok (.putfield 15, 3) := by decide +kernel
theorem dX10_init_14 : decode cX10_init 14 = .ok (.aload_n 0, 1) := by decide +kernel
theorem dX10_init_15 : decode cX10_init 15 = .ok (.iconst 0, 1) := by decide +kernel
theorem dX10_init_16 : decode cX10_init 16 = .ok (.putfield 19, 3) := by decide +kernel
theorem dX10_init_19 : decode cX10_init 19 = .ok (.aload_n 0, 1) := by decide +kernel
theorem dX10_init_20 : decode cX10_init 20 = .ok (.iconst 0, 1) := by decide +kernel
theorem dX10_init_21 : decode cX10_init 21 = .ok (.putfield 22, 3) := by decide +kernel
theorem dX10_init_24 : decode cX10_init 24 = .ok (.aload_n 0, 1) := by decide +kernel
theorem dX10_init_25 : decode cX10_init 25 = .ok (.aload_n 1, 1) := by decide +kernel
theorem dX10_init_26 : decode cX10_init 26 = .ok (.putfield 25, 3) := by decide +kernel
theorem dX10_init_29 : decode cX10_init 29 = .ok (.aload_n 0, 1) := by decide +kernel
theorem dX10_init_30 : decode cX10_init 30 = .ok (.aload_n 2, 1) := by decide +kernel
theorem dX10_init_31 : decode cX10_init 31 = .ok (.putfield 29, 3) := by decide +kernel
theorem dX10_init_34 : decode cX10_init 34 = .ok (.return_, 1) := by decide +kernel
theorem dX10_follow_0 : decode cX10_follow 0 = .ok (.aload_n 0, 1) := by decide +kernel
theorem dX10_follow_1 : decode cX10_follow 1 = .ok (.aload_n 0, 1) := by decide +kernel
theorem dX10_follow_2 : decode cX10_follow 2 = .ok (.getfield 25, 3) := by decide +kernel
theorem dX10_follow_5 : decode cX10_follow 5 = .ok (.iload_n 1, 1) := by decide +kernel
theorem dX10_follow_6 : decode cX10_follow 6 = .ok (.invokevirtual 33, 3) := by decide +kernel
theorem dX10_follow_9 : decode cX10_follow 9 = .ok (.ifCond .eq 15, 3) := by decide +kernel
theorem dX10_follow_12 : decode cX10_follow 12 = .ok (.aload_n 0, 1) := by decide +kernel
theorem dX10_follow_13 : decode cX10_follow 13 = .ok (.getfield 25, 3) := by decide +kernel
theorem dX10_follow_16 : decode cX10_follow 16 = .ok (.getfield 39, 3) := by decide +kernel
theorem dX10_follow_19 : decode cX10_follow 19 = .ok (.iload_n 1, 1) := by decide +kernel
theorem dX10_follow_20 : decode cX10_follow 20 = .ok (.iaload, 1) := by decide +kernel
theorem dX10_follow_21 : decode cX10_follow 21 = .ok (.goto 4, 3) := by decide +kernel
theorem dX10_follow_24 : decode cX10_follow 24 = .ok (.iconst (-1), 1) := by decide +kernel
theorem dX10_follow_25 : decode cX10_follow 25 = .ok (.putfield 9, 3) := by decide +kernel
theorem dX10_follow_28 : decode cX10_follow 28 = .ok (.aload_n 0, 1) := by decide +kernel
theorem dX10_follow_29 : decode cX10_follow 29 = .ok (.iconst 0, 1) := by decide +kernel
theorem dX10_follow_30 : decode cX10_follow 30 = .ok (.putfield 15, 3) := by decide +kernel
theorem dX10_follow_33 : decode cX10_follow 33 = .ok (.aload_n 0, 1) := by decide +kernel
theorem dX10_follow_34 : decode cX10_follow 34 = .ok (.iconst 0, 1) := by decide +kernel
theorem dX10_follow_35 : decode cX10_follow 35 = .ok (.putfield 19, 3) := by decide +kernel
theorem dX10_follow_38 : decode cX10_follow 38 = .ok (.aload_n 0, 1) := by decide +kernel
theorem dX10_follow_39 : decode cX10_follow 39 = .ok (.iconst 0, 1) := by decide +kernel
theorem dX10_follow_40 : decode cX10_follow 40 = .ok (.putfield 22, 3) := by decide +kernel
theorem dX10_follow_43 : decode cX10_follow 43 = .ok (.iconst 0, 1) := by decide +kernel
theorem dX10_follow_44 : decode cX10_follow 44 = .ok (.istore 5, 2) := by decide +kernel
theorem dX10_follow_46 : decode cX10_follow 46 = .ok (.iconst 0, 1) := by decide +kernel
theorem dX10_follow_47 : decode cX10_follow 47 = .ok (.istore 6, 2) := by decide +kernel
theorem dX10_follow_49 : decode cX10_follow 49 = .ok (.iload 6, 2) := by decide +kernel
theorem dX10_follow_51 : decode cX10_follow 51 = .ok (.aload_n 0, 1) := by decide +kernel
theorem dX10_follow_52 : decode cX10_follow 52 = .ok (.getfield 29, 3) := by decide +kernel
theorem dX10_follow_55 : decode cX10_follow 55 = .ok (.getfield 43, 3) := by decide +kernel
theorem dX10_follow_58 : decode cX10_follow 58 = .ok (.if_icmp .ge 123, 3) := by decide +kernel
theorem dX10_follow_61 : decode cX10_follow 61 = .ok (.aload_n 0, 1) := by decide +kernel
theorem dX10_follow_62 : decode cX10_follow 62 = .ok (.getfield 29, 3) := by decide +kernel
theorem dX10_follow_65 : decode cX10_follow 65 = .ok (.getfield 48, 3) := by decide +kernel
theorem dX10_follow_68 : decode cX10_follow 68 = .ok (.iload 6, 2) := by decide +kernel
theorem dX10_follow_70 : decode cX10_follow 70 = .ok (.iaload, 1) := by decide +kernel
theorem dX10_follow_71 : decode cX10_follow 71 = .ok (.istore 7, 2) := by decide +kernel
theorem dX10_follow_73 : decode cX10_follow 73 = .ok (.aload_n 0, 1) := by decide +kernel
theorem dX10_follow_74 : decode cX10_follow 74 = .ok (.getfield 29, 3) := by decide +kernel
theorem dX10_follow_77 : decode cX10_follow 77 = .ok (.getfield 51, 3) := by decide +kernel
theorem dX10_follow_80 : decode cX10_follow 80 = .ok (.iload 7, 2) := by decide +kernel
theorem dX10_follow_82 : decode cX10_follow 82 = .ok (.iaload, 1) := by decide +kernel
theorem dX10_follow_83 : decode cX10_follow 83 = .ok (.iload_n 1, 1) := by decide +kernel
theorem dX10_follow_84 : decode cX10_follow 84 = .ok (.if_icmp .ne 91, 3) := by decide +kernel
theorem dX10_follow_87 : decode cX10_follow 87 = .ok (.aload_n 0, 1) := by decide +kernel
theorem dX10_follow_88 : decode cX10_follow 88 = .ok (.getfield 29, 3) := by decide +kernel
theorem dX10_follow_91 : decode cX10_follow 91 = .ok (.getfield 53, 3) := by decide +kernel
theorem dX10_follow_94 : decode cX10_follow 94 = .ok (.iload 7, 2) := by decide +kernel
theorem dX10_follow_96 : decode cX10_follow 96 = .ok (.iaload, 1) := by decide +kernel
theorem dX10_follow_97 : decode cX10_follow 97 = .ok (.iload_n 2, 1) := by decide +kernel
theorem dX10_follow_98 : decode cX10_follow 98 = .ok (.if_icmp .gt 77, 3) := by decide +kernel
theorem dX10_follow_101 : decode cX10_follow 101 = .ok (.aload_n 0, 1) := by decide +kernel
theorem dX10_follow_102 : decode cX10_follow 102 = .ok (.iload 7, 2) := by decide +kernel
theorem dX10_follow_104 : decode cX10_follow 104 = .ok (.iload_n 3, 1) := by decide +kernel
theorem dX10_follow_105 : decode cX10_follow 105 = .ok (.invokevirtual 56, 3) := by decide +kernel
theorem dX10_follow_108 : decode cX10_follow 108 = .ok (.ifCond .eq 67, 3) := by decide +kernel
theorem dX10_follow_111 : decode cX10_follow 111 = .ok (.iload 7, 2) := by decide +kernel
theorem dX10_follow_113 : decode cX10_follow 113 = .ok (.iload 4, 2) := by decide +kernel
theorem dX10_follow_115 : decode cX10_follow 115 = .ok (.if_icmp .ne 17, 3) := by decide +kernel
theorem dX10_follow_118 : decode cX10_follow 118 = .ok (.aload_n 0, 1) := by decide +kernel
theorem dX10_follow_119 : decode cX10_follow 119 = .ok (.iconst 1, 1) := by decide +kernel
theorem dX10_follow_120 : decode cX10_follow 120 = .ok (.putfield 15, 3) := by decide +kernel
theorem dX10_follow_123 : decode cX10_follow 123 = .ok (.aload_n 0, 1) := by decide +kernel
theorem dX10_follow_124 : decode cX10_follow 124 = .ok (.iload 5, 2) := by decide +kernel
theorem dX10_follow_126 : decode cX10_follow 126 = .ok (.putfield 19, 3) := by decide +kernel
theorem dX10_follow_129 : decode cX10_follow 129 = .ok (.goto 20, 3) := by decide +kernel
theorem dX10_follow_132 : decode cX10_follow 132 = .ok (.aload_n 0, 1) := by decide +kernel
theorem dX10_follow_133 : decode cX10_follow 133 = .ok (.getfield 15, 3) := by decide +kernel
theorem dX10_follow_136 : decode cX10_follow 136 = .ok (.ifCond .eq 13, 3) := by decide +kernel
theorem dX10_follow_139 : decode cX10_follow 139 = .ok (.aload_n 0, 1) := by decide +kernel
theorem dX10_follow_140 : decode cX10_follow 140 = .ok (.dup, 1) := by decide +kernel
theorem dX10_follow_141 : decode cX10_follow 141 = .ok (.getfield 22, 3) := by decide +kernel
theorem dX10_follow_144 : decode cX10_follow 144 = .ok (.iconst 1, 1) := by decide +kernel
theorem dX10_follow_145 : decode cX10_follow 145 = .ok (.iadd, 1) := by decide +kernel
theorem dX10_follow_146 : decode cX10_follow 146 = .ok (.putfield 22, 3) := by decide +kernel
theorem dX10_follow_149 : decode cX10_follow 149 = .ok (.aload_n 0, 1) := by decide +kernel
theorem dX10_follow_150 : decode cX10_follow 150 = .ok (.aload_n 0, 1) := by decide +kernel
theorem dX10_follow_151 : decode cX10_follow 151 = .ok (.getfield 29, 3) := by decide +kernel
theorem dX10_follow_154 : decode cX10_follow 154 = .ok (.getfield 60, 3) := by decide +kernel
theorem dX10_follow_157 : decode cX10_follow 157 = .ok (.iload 7, 2) := by decide +kernel
theorem dX10_follow_159 : decode cX10_follow 159 = .ok (.iaload, 1) := by decide +kernel
theorem dX10_follow_160 : decode cX10_follow 160 = .ok (.putfield 9, 3) := by decide +kernel
theorem dX10_follow_163 : decode cX10_follow 163 = .ok (.aload_n 0, 1) := by decide +kernel
theorem dX10_follow_164 : decode cX10_follow 164 = .ok (.getfield 29, 3) := by decide +kernel
theorem dX10_follow_167 : decode cX10_follow 167 = .ok (.getfield 53, 3) := by decide +kernel
theorem dX10_follow_170 : decode cX10_follow 170 = .ok (.iload 7, 2) := by decide +kernel
theorem dX10_follow_172 : decode cX10_follow 172 = .ok (.iaload, 1) := by decide +kernel
theorem dX10_follow_173 : decode cX10_follow 173 = .ok (.istore 5, 2) := by decide +kernel
theorem dX10_follow_175 : decode cX10_follow 175 = .ok (.iinc 6 1, 3) := by decide +kernel
theorem dX10_follow_178 : decode cX10_follow 178 = .ok (.goto (-129), 3) := by decide +kernel
theorem dX10_follow_181 : decode cX10_follow 181 = .ok (.return_, 1) := by decide +kernel
theorem dX10_movesHouse_0 : decode cX10_movesHouse 0 = .ok (.aload_n 0, 1) := by decide +kernel
theorem dX10_movesHouse_1 : decode cX10_movesHouse 1 = .ok (.getfield 29, 3) := by decide +kernel
theorem dX10_movesHouse_4 : decode cX10_movesHouse 4 = .ok (.iload_n 1, 1) := by decide +kernel
theorem dX10_movesHouse_5 : decode cX10_movesHouse 5 = .ok (.iload_n 2, 1) := by decide +kernel
theorem dX10_movesHouse_6 : decode cX10_movesHouse 6 = .ok (.invokevirtual 63, 3) := by decide +kernel
theorem dX10_movesHouse_9 : decode cX10_movesHouse 9 = .ok (.ifCond .eq 23, 3) := by decide +kernel
theorem dX10_movesHouse_12 : decode cX10_movesHouse 12 = .ok (.aload_n 0, 1) := by decide +kernel
theorem dX10_movesHouse_13 : decode cX10_movesHouse 13 = .ok (.getfield 29, 3) := by decide +kernel
theorem dX10_movesHouse_16 : decode cX10_movesHouse 16 = .ok (.getfield 66, 3) := by decide +kernel
theorem dX10_movesHouse_19 : decode cX10_movesHouse 19 = .ok (.iload_n 1, 1) := by decide +kernel
theorem dX10_movesHouse_20 : decode cX10_movesHouse 20 = .ok (.iaload, 1) := by decide +kernel
theorem dX10_movesHouse_21 : decode cX10_movesHouse 21 = .ok (.aload_n 0, 1) := by decide +kernel
theorem dX10_movesHouse_22 : decode cX10_movesHouse 22 = .ok (.getfield 9, 3) := by decide +kernel
theorem dX10_movesHouse_25 : decode cX10_movesHouse 25 = .ok (.if_icmp .ne 7, 3) := by decide +kernel
theorem dX10_movesHouse_28 : decode cX10_movesHouse 28 = .ok (.iconst 1, 1) := by decide +kernel
theorem dX10_movesHouse_29 : decode cX10_movesHouse 29 = .ok (.goto 4, 3) := by decide +kernel
theorem dX10_movesHouse_32 : decode cX10_movesHouse 32 = .ok (.iconst 0, 1) := by decide +kernel
theorem dX10_movesHouse_33 : decode cX10_movesHouse 33 = .ok (.ireturn, 1) := by decide +kernel
theorem dX11_init_0 : decode cX11_init 0 = .ok (.aload_n 0, 1) := by decide +kernel
theorem dX11_init_1 : decode cX11_init 1 = .ok (.invokespecial 1, 3) := by decide +kernel
theorem dX11_init_4 : decode cX11_init 4 = .ok (.aload_n 0, 1) := by decide +kernel
theorem dX11_init_5 : decode cX11_init 5 = .ok (.new 7, 3) := by decide +kernel
theorem dX11_init_8 : decode cX11_init 8 = .ok (.dup, 1) := by decide +kernel
theorem dX11_init_9 : decode cX11_init 9 = .ok (.invokespecial 9, 3) := by decide +kernel
theorem dX11_init_12 : decode cX11_init 12 = .ok (.putfield 10, 3) := by decide +kernel
theorem dX11_init_15 : decode cX11_init 15 = .ok (.aload_n 0, 1) := by decide +kernel
theorem dX11_init_16 : decode cX11_init 16 = .ok (.new 16, 3) := by decide +kernel
theorem dX11_init_19 : decode cX11_init 19 = .ok (.dup, 1) := by decide +kernel
theorem dX11_init_20 : decode cX11_init 20 = .ok (.aload_n 0, 1) := by decide +kernel
theorem dX11_init_21 : decode cX11_init 21 = .ok (.getfield 10, 3) := by decide +kernel
theorem dX11_init_24 : decode cX11_init 24 = .ok (.invokespecial 18, 3) := by decide +kernel
theorem dX11_init_27 : decode cX11_init 27 = .ok (.putfield 21, 3) := by decide +kernel
theorem dX11_init_30 : decode cX11_init 30 = .ok (.aload_n 0, 1) := by decide +kernel
theorem dX11_init_31 : decode cX11_init 31 = .ok (.new 25, 3) := by decide +kernel
theorem dX11_init_34 : decode cX11_init 34 = .ok (.dup, 1) := by decide +kernel
theorem dX11_init_35 : decode cX11_init 35 = .ok (.invokespecial 27, 3) := by decide +kernel
theorem dX11_init_38 : decode cX11_init 38 = .ok (.putfield 28, 3) := by decide +kernel
theorem dX11_init_41 : decode cX11_init 41 = .ok (.aload_n 0, 1) := by decide +kernel
theorem dX11_init_42 : decode cX11_init 42 = .ok (.bipush 100, 2) := by decide +kernel
theorem dX11_init_44 : decode cX11_init 44 = .ok (.newarray .int, 2) := by decide +kernel
theorem dX11_init_46 : decode cX11_init 46 = .ok (.putfield 32, 3) := by decide +kernel
theorem dX11_init_49 : decode cX11_init 49 = .ok (.iconst 0, 1) := by decide +kernel
theorem dX11_init_50 : decode cX11_init 50 = .ok (.istore_n 1, 1) := by decide +kernel
theorem dX11_init_51 : decode cX11_init 51 = .ok (.iload_n 1, 1) := by decide +kernel
theorem dX11_init_52 : decode cX11_init 52 = .ok (.bipush 100, 2) := by decide +kernel
theorem dX11_init_54 : decode cX11_init 54 = .ok (.if_icmp .ge 17, 3) := by decide +kernel
theorem dX11_init_57 : decode cX11_init 57 = .ok (.aload_n 0, 1) := by decide +kernel
theorem dX11_init_58 : decode cX11_init 58 = .ok (.getfield 32, 3) := by decide +kernel
theorem dX11_init_61 : decode cX11_init 61 = .ok (.iload_n 1, 1) := by decide +kernel
theorem dX11_init_62 : decode cX11_init 62 = .ok (.bipush 100, 2) := by decide +kernel
theorem dX11_init_64 : decode cX11_init 64 = .ok (.iastore, 1) := by decide +kernel
theorem dX11_init_65 : decode cX11_init 65 = .ok (.iinc 1 1, 3) := by decide +kernel
theorem dX11_init_68 : decode cX11_init 68 = .ok (.goto (-17), 3) := by decide +kernel
theorem dX11_init_71 : decode cX11_init 71 = .ok (.aload_n 0, 1) := by decide +kernel
theorem dX11_init_72 : decode cX11_init 72 = .ok (.new 36, 3) := by decide +kernel
theorem dX11_init_75 : decode cX11_init 75 = .ok (.dup, 1) := by decide +kernel
theorem dX11_init_76 : decode cX11_init 76 = .ok (.invokespecial 38, 3) := by decide +kernel
theorem dX11_init_79 : decode cX11_init 79 = .ok (.putfield 39, 3) := by decide +kernel
theorem dX11_init_82 : decode cX11_init 82 = .ok (.aload_n 0, 1) := by decide +kernel
theorem dX11_init_83 : decode cX11_init 83 = .ok (.new 43, 3) := by decide +kernel
theorem dX11_init_86 : decode cX11_init 86 = .ok (.dup, 1) := by decide +kernel
theorem dX11_init_87 : decode cX11_init 87 = .ok (.aload_n 0, 1) := by decide +kernel
theorem dX11_init_88 : decode cX11_init 88 = .ok (.getfield 28, 3) := by decide +kernel
theorem dX11_init_91 : decode cX11_init 91 = .ok (.aload_n 0, 1) := by decide +kernel
theorem dX11_init_92 : decode cX11_init 92 = .ok (.getfield 39, 3) := by decide +kernel
theorem dX11_init_95 : decode cX11_init 95 = .ok (.invokespecial 45, 3) := by decide +kernel
theorem dX11_init_98 : decode cX11_init 98 = .ok (.putfield 48, 3) := by decide +kernel
theorem dX11_init_101 : decode cX11_init 101 = .ok (.aload_n 0, 1) := by decide +kernel
theorem dX11_init_102 : decode cX11_init 102 = .ok (.new 52, 3) := by decide +kernel
theorem dX11_init_105 : decode cX11_init 105 = .ok (.dup, 1) := by decide +kernel
theorem dX11_init_106 : decode cX11_init 106 = .ok (.invokespecial 54, 3) := by decide +kernel
theorem dX11_init_109 : decode cX11_init 109 = .ok (.putfield 55, 3) := by decide +kernel
theorem dX11_init_112 : decode cX11_init 112 = .ok (.aload_n 0, 1) := by decide +kernel
theorem dX11_init_113 : decode cX11_init 113 = .ok (.new 59, 3) := by decide +kernel
theorem dX11_init_116 : decode cX11_init 116 = .ok (.dup, 1) := by decide +kernel
theorem dX11_init_117 : decode cX11_init 117 = .ok (.invokespecial 61, 3) := by decide +kernel
theorem dX11_init_120 : decode cX11_init 120 = .ok (.putfield 62, 3) := by decide +kernel
theorem dX11_init_123 : decode cX11_init 123 = .ok (.aload_n 0, 1) := by decide +kernel
theorem dX11_init_124 : decode cX11_init 124 = .ok (.new 66, 3) := by decide +kernel
theorem dX11_init_127 : decode cX11_init 127 = .ok (.dup, 1) := by decide +kernel
theorem dX11_init_128 : decode cX11_init 128 = .ok (.invokespecial 68, 3) := by decide +kernel
theorem dX11_init_131 : decode cX11_init 131 = .ok (.putfield 69, 3) := by decide +kernel
theorem dX11_init_134 : decode cX11_init 134 = .ok (.aload_n 0, 1) := by decide +kernel
theorem dX11_init_135 : decode cX11_init 135 = .ok (.new 73, 3) := by decide +kernel
theorem dX11_init_138 : decode cX11_init 138 = .ok (.dup, 1) := by decide +kernel
theorem dX11_init_139 : decode cX11_init 139 = .ok (.aload_n 0, 1) := by decide +kernel
theorem dX11_init_140 : decode cX11_init 140 = .ok (.getfield 69, 3) := by decide +kernel
theorem dX11_init_143 : decode cX11_init 143 = .ok (.invokespecial 75, 3) := by decide +kernel
theorem dX11_init_146 : decode cX11_init 146 = .ok (.putfield 78, 3) := by decide +kernel
theorem dX11_init_149 : decode cX11_init 149 = .ok (.aload_n 0, 1) := by decide +kernel
theorem dX11_init_150 : decode cX11_init 150 = .ok (.new 82, 3) := by decide +kernel
theorem dX11_init_153 : decode cX11_init 153 = .ok (.dup, 1) := by decide +kernel
theorem dX11_init_154 : decode cX11_init 154 = .ok (.invokespecial 84, 3) := by decide +kernel
theorem dX11_init_157 : decode cX11_init 157 = .ok (.putfield 85, 3) := by decide +kernel
theorem dX11_init_160 : decode cX11_init 160 = .ok (.aload_n 0, 1) := by decide +kernel
theorem dX11_init_161 : decode cX11_init 161 = .ok (.new 89, 3) := by decide +kernel
theorem dX11_init_164 : decode cX11_init 164 = .ok (.dup, 1) := by decide +kernel
theorem dX11_init_165 : decode cX11_init 165 = .ok (.invokespecial 91, 3) := by decide +kernel
theorem dX11_init_168 : decode cX11_init 168 = .ok (.putfield 92, 3) := by decide +kernel
theorem dX11_init_171 : decode cX11_init 171 = .ok (.aload_n 0, 1) := by decide +kernel
theorem dX11_init_172 : decode cX11_init 172 = .ok (.iconst 0, 1) := by decide +kernel
theorem dX11_init_173 : decode cX11_init 173 = .ok (.putfield 96, 3) := by decide +kernel
theorem dX11_init_176 : decode cX11_init 176 = .ok (.return_, 1) := by decide +kernel
theorem dX11_person_0 : decode cX11_person 0 = .ok (.aload_n 0, 1) := by decide +kernel
theorem dX11_person_1 : decode cX11_person 1 = .ok (.getfield 10, 3) := by decide +kernel
theorem dX11_person_4 : decode cX11_person 4 = .ok (.iload_n 1, 1) := by decide +kernel
theorem dX11_person_5 : decode cX11_person 5 = .ok (.iload_n 2, 1) := by decide +kernel
theorem dX11_person_6 : decode cX11_person 6 = .ok (.invokevirtual 100, 3) := by decide +kernel
theorem dX11_person_9 : decode cX11_person 9 = .ok (.ireturn, 1) := by decide +kernel
theorem dX11_dead_0 : decode cX11_dead 0 = .ok (.iload_n 2, 1) := by decide +kernel
theorem dX11_dead_1 : decode cX11_dead 1 = .ok (.invokestatic 104, 3) := by decide +kernel
theorem dX11_dead_4 : decode cX11_dead 4 = .ok (.ifCond .eq 19, 3) := by decide +kernel
theorem dX11_dead_7 : decode cX11_dead 7 = .ok (.aload_n 0, 1) := by decide +kernel
theorem dX11_dead_8 : decode cX11_dead 8 = .ok (.getfield 10, 3) := by decide +kernel
theorem dX11_dead_11 : decode cX11_dead 11 = .ok (.iload_n 1, 1) := by decide +kernel
theorem dX11_dead_12 : decode cX11_dead 12 = .ok (.iload_n 2, 1) := by decide +kernel
theorem dX11_dead_13 : decode cX11_dead 13 = .ok (.invokevirtual 108, 3) := by decide +kernel
theorem dX11_dead_16 : decode cX11_dead 16 = .ok (.ifCond .eq 7, 3) := by decide +kernel
theorem dX11_dead_19 : decode cX11_dead 19 = .ok (.iconst 1, 1) := by decide +kernel
theorem dX11_dead_20 : decode cX11_dead 20 = .ok (.goto 4, 3) := by decide +kernel
theorem dX11_dead_23 : decode cX11_dead 23 = .ok (.iconst 0, 1) := by decide +kernel
theorem dX11_dead_24 : decode cX11_dead 24 = .ok (.ireturn, 1) := by decide +kernel
theorem dX11_house_0 : decode cX11_house 0 = .ok (.aload_n 0, 1) := by decide +kernel
theorem dX11_house_1 : decode cX11_house 1 = .ok (.getfield 10, 3) := by decide +kernel
theorem dX11_house_4 : decode cX11_house 4 = .ok (.iload_n 1, 1) := by decide +kernel
theorem dX11_house_5 : decode cX11_house 5 = .ok (.invokevirtual 112, 3) := by decide +kernel
theorem dX11_house_8 : decode cX11_house 8 = .ok (.ifCond .eq 10, 3) := by decide +kernel
theorem dX11_house_11 : decode cX11_house 11 = .ok (.iload_n 2, 1) := by decide +kernel
theorem dX11_house_12 : decode cX11_house 12 = .ok (.invokestatic 115, 3) := by decide +kernel
theorem dX11_house_15 : decode cX11_house 15 = .ok (.ifCond .ne 5, 3) := by decide +kernel
theorem dX11_house_18 : decode cX11_house 18 = .ok (.iconst (-1), 1) := by decide +kernel
theorem dX11_house_19 : decode cX11_house 19 = .ok (.ireturn, 1) := by decide +kernel
theorem dX11_house_20 : decode cX11_house 20 = .ok (.aload_n 0, 1) := by decide +kernel
theorem dX11_house_21 : decode cX11_house 21 = .ok (.getfield 28, 3) := by decide +kernel
theorem dX11_house_24 : decode cX11_house 24 = .ok (.iload_n 1, 1) := by decide +kernel
theorem dX11_house_25 : decode cX11_house 25 = .ok (.iload_n 2, 1) := by decide +kernel
theorem dX11_house_26 : decode cX11_house 26 = .ok (.invokevirtual 118, 3) := by decide +kernel
theorem dX11_house_29 : decode cX11_house 29 = .ok (.istore_n 3, 1) := by decide +kernel
theorem dX11_house_30 : decode cX11_house 30 = .ok (.aload_n 0, 1) := by decide +kernel
theorem dX11_house_31 : decode cX11_house 31 = .ok (.getfield 85, 3) := by decide +kernel
theorem dX11_house_34 : decode cX11_house 34 = .ok (.aload_n 0, 1) := by decide +kernel
theorem dX11_house_35 : decode cX11_house 35 = .ok (.getfield 28, 3) := by decide +kernel
theorem dX11_house_38 : decode cX11_house 38 = .ok (.getfield 119, 3) := by decide +kernel
theorem dX11_house_41 : decode cX11_house 41 = .ok (.invokevirtual 122, 3) := by decide +kernel
theorem dX11_house_44 : decode cX11_house 44 = .ok (.iload_n 3, 1) := by decide +kernel
theorem dX11_house_45 : decode cX11_house 45 = .ok (.ireturn, 1) := by decide +kernel
theorem dX11_level_0 : decode cX11_level 0 = .ok (.iload_n 1, 1) := by decide +kernel
theorem dX11_level_1 : decode cX11_level 1 = .ok (.invokestatic 126, 3) := by decide +kernel
theorem dX11_level_4 : decode cX11_level 4 = .ok (.ifCond .eq 15, 3) := by decide +kernel
theorem dX11_level_7 : decode cX11_level 7 = .ok (.iload_n 2, 1) := by decide +kernel
theorem dX11_level_8 : decode cX11_level 8 = .ok (.iconst 1, 1) := by decide +kernel
theorem dX11_level_9 : decode cX11_level 9 = .ok (.if_icmp .lt 10, 3) := by decide +kernel
theorem dX11_level_12 : decode cX11_level 12 = .ok (.iload_n 2, 1) := by decide +kernel
theorem dX11_level_13 : decode cX11_level 13 = .ok (.sipush 10000, 3) := by decide +kernel
theorem dX11_level_16 : decode cX11_level 16 = .ok (.if_icmp .le 5, 3) := by decide +kernel
theorem dX11_level_19 : decode cX11_level 19 = .ok (.iconst 0, 1) := by decide +kernel
theorem dX11_level_20 : decode cX11_level 20 = .ok (.ireturn, 1) := by decide +kernel
theorem dX11_level_21 : decode cX11_level 21 = .ok (.aload_n 0, 1) := by decide +kernel
theorem dX11_level_22 : decode cX11_level 22 = .ok (.getfield 32, 3) := by decide +kernel
theorem dX11_level_25 : decode cX11_level 25 = .ok (.iload_n 1, 1) := by decide +kernel
theorem dX11_level_26 : decode cX11_level 26 = .ok (.iload_n 2, 1) := by decide +kernel
theorem dX11_level_27 : decode cX11_level 27 = .ok (.iastore, 1) := by decide +kernel
theorem dX11_level_28 : decode cX11_level 28 = .ok (.iconst 1, 1) := by decide +kernel
theorem dX11_level_29 : decode cX11_level 29 = .ok (.ireturn, 1) := by decide +kernel
theorem dX11_money_0 : decode cX11_money 0 = .ok (.iload_n 1, 1) := by decide +kernel
theorem dX11_money_1 : decode cX11_money 1 = .ok (.invokestatic 115, 3) := by decide +kernel
theorem dX11_money_4 : decode cX11_money 4 = .ok (.ifCond .eq 13, 3) := by decide +kernel
theorem dX11_money_7 : decode cX11_money 7 = .ok (.aload_n 0, 1) := by decide +kernel
theorem dX11_money_8 : decode cX11_money 8 = .ok (.iload_n 1, 1) := by decide +kernel
theorem dX11_money_9 : decode cX11_money 9 = .ok (.iload_n 2, 1) := by decide +kernel
theorem dX11_money_10 : decode cX11_money 10 = .ok (.iload_n 3, 1) := by decide +kernel
theorem dX11_money_11 : decode cX11_money 11 = .ok (.invokevirtual 129, 3) := by decide +kernel
theorem dX11_money_14 : decode cX11_money 14 = .ok (.goto 6, 3) := by decide +kernel
theorem dX11_money_17 : decode cX11_money 17 = .ok (.ldc2_w 133, 3) := by decide +kernel
theorem dX11_money_20 : decode cX11_money 20 = .ok (.lreturn, 1) := by decide +kernel
theorem dX11_paper_0 : decode cX11_paper 0 = .ok (.aload_n 0, 1) := by decide +kernel
theorem dX11_paper_1 : decode cX11_paper 1 = .ok (.getfield 28, 3) := by decide +kernel
theorem dX11_paper_4 : decode cX11_paper 4 = .ok (.iload_n 1, 1) := by decide +kernel
theorem dX11_paper_5 : decode cX11_paper 5 = .ok (.invokevirtual 135, 3) := by decide +kernel
theorem dX11_paper_8 : decode cX11_paper 8 = .ok (.ifCond .eq 30, 3) := by decide +kernel
theorem dX11_paper_11 : decode cX11_paper 11 = .ok (.aload_n 0, 1) := by decide +kernel
theorem dX11_paper_12 : decode cX11_paper 12 = .ok (.getfield 10, 3) := by decide +kernel
theorem dX11_paper_15 : decode cX11_paper 15 = .ok (.iload_n 2, 1) := by decide +kernel
theorem dX11_paper_16 : decode cX11_paper 16 = .ok (.invokevirtual 112, 3) := by decide +kernel
theorem dX11_paper_19 : decode cX11_paper 19 = .ok (.ifCond .eq 19, 3) := by decide +kernel
theorem dX11_paper_22 : decode cX11_paper 22 = .ok (.aload_n 0, 1) := by decide +kernel
theorem dX11_paper_23 : decode cX11_paper 23 = .ok (.getfield 10, 3) := by decide +kernel
theorem dX11_paper_26 : decode cX11_paper 26 = .ok (.iload_n 3, 1) := by decide +kernel
theorem dX11_paper_27 : decode cX11_paper 27 = .ok (.invokevirtual 112, 3) := by decide +kernel
theorem dX11_paper_30 : decode cX11_paper 30 = .ok (.ifCond .eq 8, 3) := by decide +kernel
theorem dX11_paper_33 : decode cX11_paper 33 = .ok (.iload_n 2, 1) := by decide +kernel
theorem dX11_paper_34 : decode cX11_paper 34 = .ok (.iload_n 3, 1) := by decide +kernel
theorem dX11_paper_35 : decode cX11_paper 35 = .ok (.if_icmp .ne 5, 3) := by decide +kernel
theorem dX11_paper_38 : decode cX11_paper 38 = .ok (.iconst (-1), 1) := by decide +kernel
theorem dX11_paper_39 : decode cX11_paper 39 = .ok (.ireturn, 1) := by decide +kernel
theorem dX11_paper_40 : decode cX11_paper 40 = .ok (.iload 4, 2) := by decide +kernel
theorem dX11_paper_42 : decode cX11_paper 42 = .ok (.ifCond .lt 31, 3) := by decide +kernel
theorem dX11_paper_45 : decode cX11_paper 45 = .ok (.iload 4, 2) := by decide +kernel
theorem dX11_paper_47 : decode cX11_paper 47 = .ok (.aload_n 0, 1) := by decide +kernel
theorem dX11_paper_48 : decode cX11_paper 48 = .ok (.getfield 96, 3) := by decide +kernel
theorem dX11_paper_51 : decode cX11_paper 51 = .ok (.if_icmp .gt 22, 3) := by decide +kernel
theorem dX11_paper_54 : decode cX11_paper 54 = .ok (.iload 5, 2) := by decide +kernel
theorem dX11_paper_56 : decode cX11_paper 56 = .ok (.ifCond .lt 17, 3) := by decide +kernel
theorem dX11_paper_59 : decode cX11_paper 59 = .ok (.iload 5, 2) := by decide +kernel
theorem dX11_paper_61 : decode cX11_paper 61 = .ok (.iconst 2, 1) := by decide +kernel
theorem dX11_paper_62 : decode cX11_paper 62 = .ok (.if_icmp .gt 11, 3) := by decide +kernel
theorem dX11_paper_65 : decode cX11_paper 65 = .ok (.iload 6, 2) := by decide +kernel
theorem dX11_paper_67 : decode cX11_paper 67 = .ok (.invokestatic 115, 3) := by decide +kernel
theorem dX11_paper_70 : decode cX11_paper 70 = .ok (.ifCond .ne 5, 3) := by decide +kernel
theorem dX11_paper_73 : decode cX11_paper 73 = .ok (.iconst (-1), 1) := by decide +kernel
theorem dX11_paper_74 : decode cX11_paper 74 = .ok (.ireturn, 1) := by decide +kernel
theorem dX11_paper_75 : decode cX11_paper 75 = .ok (.aload_n 0, 1) := by decide +kernel
theorem dX11_paper_76 : decode cX11_paper 76 = .ok (.getfield 39, 3) := by decide +kernel
theorem dX11_paper_79 : decode cX11_paper 79 = .ok (.iload_n 1, 1) := by decide +kernel
theorem dX11_paper_80 : decode cX11_paper 80 = .ok (.iload_n 2, 1) := by decide +kernel
theorem dX11_paper_81 : decode cX11_paper 81 = .ok (.iload_n 3, 1) := by decide +kernel
theorem dX11_paper_82 : decode cX11_paper 82 = .ok (.iload 4, 2) := by decide +kernel
theorem dX11_paper_84 : decode cX11_paper 84 = .ok (.invokevirtual 136, 3) := by decide +kernel
theorem dX11_paper_87 : decode cX11_paper 87 = .ok (.istore 7, 2) := by decide +kernel
theorem dX11_paper_89 : decode cX11_paper 89 = .ok (.aload_n 0, 1) := by decide +kernel
theorem dX11_paper_90 : decode cX11_paper 90 = .ok (.getfield 39, 3) := by decide +kernel
theorem dX11_paper_93 : decode cX11_paper 93 = .ok (.iload 7, 2) := by decide +kernel
theorem dX11_paper_95 : decode cX11_paper 95 = .ok (.iload 5, 2) := by decide +kernel
theorem dX11_paper_97 : decode cX11_paper 97 = .ok (.iload 6, 2) := by decide +kernel
theorem dX11_paper_99 : decode cX11_paper 99 = .ok (.aload_n 0, 1) := by decide +kernel
theorem dX11_paper_100 : decode cX11_paper 100 = .ok (.getfield 96, 3) := by decide +kernel
theorem dX11_paper_103 : decode cX11_paper 103 = .ok (.invokevirtual 139, 3) := by decide +kernel
theorem dX11_paper_106 : decode cX11_paper 106 = .ok (.iload 7, 2) := by decide +kernel
theorem dX11_paper_108 : decode cX11_paper 108 = .ok (.ireturn, 1) := by decide +kernel
theorem dX11_isFalse_0 : decode cX11_isFalse 0 = .ok (.aload_n 0, 1) := by decide +kernel
theorem dX11_isFalse_1 : decode cX11_isFalse 1 = .ok (.getfield 39, 3) := by decide +kernel
theorem dX11_isFalse_4 : decode cX11_isFalse 4 = .ok (.iload_n 1, 1) := by decide +kernel
theorem dX11_isFalse_5 : decode cX11_isFalse 5 = .ok (.aload_n 0, 1) := by decide +kernel
theorem dX11_isFalse_6 : decode cX11_isFalse 6 = .ok (.getfield 96, 3) := by decide +kernel
theorem dX11_isFalse_9 : decode cX11_isFalse 9 = .ok (.invokevirtual 143, 3) := by decide +kernel
theorem dX11_isFalse_12 : decode cX11_isFalse 12 = .ok (.ireturn, 1) := by decide +kernel
theorem dX11_later_0 : decode cX11_later 0 = .ok (.iload_n 1, 1) := by decide +kernel
theorem dX11_later_1 : decode cX11_later 1 = .ok (.ifCond .lt 21, 3) := by decide +kernel
theorem dX11_later_4 : decode cX11_later 4 = .ok (.iload_n 1, 1) := by decide +kernel
theorem dX11_later_5 : decode cX11_later 5 = .ok (.sipush 1000, 3) := by decide +kernel
theorem dX11_later_8 : decode cX11_later 8 = .ok (.if_icmp .gt 14, 3) := by decide +kernel
theorem dX11_later_11 : decode cX11_later 11 = .ok (.aload_n 0, 1) := by decide +kernel
theorem dX11_later_12 : decode cX11_later 12 = .ok (.getfield 96, 3) := by decide +kernel
theorem dX11_later_15 : decode cX11_later 15 = .ok (.iload_n 1, 1) := by decide +kernel
theorem dX11_later_16 : decode cX11_later 16 = .ok (.iadd, 1) := by decide +kernel
theorem dX11_later_17 : decode cX11_later 17 = .ok (.ldc 146, 2) := by decide +kernel
theorem dX11_later_19 : decode cX11_later 19 = .ok (.if_icmp .le 5, 3) := by decide +kernel
theorem dX11_later_22 : decode cX11_later 22 = .ok (.iconst (-1), 1) := by decide +kernel
theorem dX11_later_23 : decode cX11_later 23 = .ok (.ireturn, 1) := by decide +kernel
theorem dX11_later_24 : decode cX11_later 24 = .ok (.aload_n 0, 1) := by decide +kernel
theorem dX11_later_25 : decode cX11_later 25 = .ok (.dup, 1) := by decide +kernel
theorem dX11_later_26 : decode cX11_later 26 = .ok (.getfield 96, 3) := by decide +kernel
theorem dX11_later_29 : decode cX11_later 29 = .ok (.iload_n 1, 1) := by decide +kernel
theorem dX11_later_30 : decode cX11_later 30 = .ok (.iadd, 1) := by decide +kernel
theorem dX11_later_31 : decode cX11_later 31 = .ok (.putfield 96, 3) := by decide +kernel
theorem dX11_later_34 : decode cX11_later 34 = .ok (.aload_n 0, 1) := by decide +kernel
theorem dX11_later_35 : decode cX11_later 35 = .ok (.getfield 96, 3) := by decide +kernel
theorem dX11_later_38 : decode cX11_later 38 = .ok (.ireturn, 1) := by decide +kernel
theorem dX11_holder_0 : decode cX11_holder 0 = .ok (.aload_n 0, 1) := by decide +kernel
theorem dX11_holder_1 : decode cX11_holder 1 = .ok (.getfield 28, 3) := by decide +kernel
theorem dX11_holder_4 : decode cX11_holder 4 = .ok (.iload_n 1, 1) := by decide +kernel
theorem dX11_holder_5 : decode cX11_holder 5 = .ok (.invokevirtual 135, 3) := by decide +kernel
theorem dX11_holder_8 : decode cX11_holder 8 = .ok (.ifCond .ne 5, 3) := by decide +kernel
theorem dX11_holder_11 : decode cX11_holder 11 = .ok (.iconst (-1), 1) := by decide +kernel
theorem dX11_holder_12 : decode cX11_holder 12 = .ok (.ireturn, 1) := by decide +kernel
theorem dX11_holder_13 : decode cX11_holder 13 = .ok (.aload_n 0, 1) := by decide +kernel
theorem dX11_holder_14 : decode cX11_holder 14 = .ok (.getfield 48, 3) := by decide +kernel
theorem dX11_holder_17 : decode cX11_holder 17 = .ok (.iload_n 1, 1) := by decide +kernel
theorem dX11_holder_18 : decode cX11_holder 18 = .ok (.iload_n 2, 1) := by decide +kernel
theorem dX11_holder_19 : decode cX11_holder 19 = .ok (.iload_n 3, 1) := by decide +kernel
theorem dX11_holder_20 : decode cX11_holder 20 = .ok (.iconst (-1), 1) := by decide +kernel
theorem dX11_holder_21 : decode cX11_holder 21 = .ok (.invokevirtual 147, 3) := by decide +kernel
theorem dX11_holder_24 : decode cX11_holder 24 = .ok (.aload_n 0, 1) := by decide +kernel
theorem dX11_holder_25 : decode cX11_holder 25 = .ok (.getfield 48, 3) := by decide +kernel
theorem dX11_holder_28 : decode cX11_holder 28 = .ok (.getfield 150, 3) := by decide +kernel
theorem dX11_holder_31 : decode cX11_holder 31 = .ok (.ireturn, 1) := by decide +kernel
theorem dX11_loose_0 : decode cX11_loose 0 = .ok (.aload_n 0, 1) := by decide +kernel
theorem dX11_loose_1 : decode cX11_loose 1 = .ok (.getfield 39, 3) := by decide +kernel
theorem dX11_loose_4 : decode cX11_loose 4 = .ok (.iload_n 1, 1) := by decide +kernel
theorem dX11_loose_5 : decode cX11_loose 5 = .ok (.iload_n 2, 1) := by decide +kernel
theorem dX11_loose_6 : decode cX11_loose 6 = .ok (.invokevirtual 153, 3) := by decide +kernel
theorem dX11_loose_9 : decode cX11_loose 9 = .ok (.ifCond .ne 5, 3) := by decide +kernel
theorem dX11_loose_12 : decode cX11_loose 12 = .ok (.iconst (-1), 1) := by decide +kernel
theorem dX11_loose_13 : decode cX11_loose 13 = .ok (.ireturn, 1) := by decide +kernel
theorem dX11_loose_14 : decode cX11_loose 14 = .ok (.aload_n 0, 1) := by decide +kernel
theorem dX11_loose_15 : decode cX11_loose 15 = .ok (.getfield 48, 3) := by decide +kernel
theorem dX11_loose_18 : decode cX11_loose 18 = .ok (.aload_n 0, 1) := by decide +kernel
theorem dX11_loose_19 : decode cX11_loose 19 = .ok (.getfield 39, 3) := by decide +kernel
theorem dX11_loose_22 : decode cX11_loose 22 = .ok (.getfield 156, 3) := by decide +kernel
theorem dX11_loose_25 : decode cX11_loose 25 = .ok (.iload_n 1, 1) := by decide +kernel
theorem dX11_loose_26 : decode cX11_loose 26 = .ok (.iaload, 1) := by decide +kernel
theorem dX11_loose_27 : decode cX11_loose 27 = .ok (.ldc 146, 2) := by decide +kernel
theorem dX11_loose_29 : decode cX11_loose 29 = .ok (.iload_n 2, 1) := by decide +kernel
theorem dX11_loose_30 : decode cX11_loose 30 = .ok (.iload_n 1, 1) := by decide +kernel
theorem dX11_loose_31 : decode cX11_loose 31 = .ok (.invokevirtual 147, 3) := by decide +kernel
theorem dX11_loose_34 : decode cX11_loose 34 = .ok (.aload_n 0, 1) := by decide +kernel
theorem dX11_loose_35 : decode cX11_loose 35 = .ok (.getfield 48, 3) := by decide +kernel
theorem dX11_loose_38 : decode cX11_loose 38 = .ok (.getfield 158, 3) := by decide +kernel
theorem dX11_loose_41 : decode cX11_loose 41 = .ok (.ifCond .eq 7, 3) := by decide +kernel
theorem dX11_loose_44 : decode cX11_loose 44 = .ok (.iconst 0, 1) := by decide +kernel
theorem dX11_loose_45 : decode cX11_loose 45 = .ok (.goto 4, 3) := by decide +kernel
theorem dX11_loose_48 : decode cX11_loose 48 = .ok (.iconst 1, 1) := by decide +kernel
theorem dX11_loose_49 : decode cX11_loose 49 = .ok (.ireturn, 1) := by decide +kernel
theorem dX11_feed_0 : decode cX11_feed 0 = .ok (.aload_n 0, 1) := by decide +kernel
theorem dX11_feed_1 : decode cX11_feed 1 = .ok (.getfield 62, 3) := by decide +kernel
theorem dX11_feed_4 : decode cX11_feed 4 = .ok (.iconst 5, 1) := by decide +kernel
theorem dX11_feed_5 : decode cX11_feed 5 = .ok (.invokevirtual 162, 3) := by decide +kernel
theorem dX11_feed_8 : decode cX11_feed 8 = .ok (.ifCond .ne 5, 3) := by decide +kernel
theorem dX11_feed_11 : decode cX11_feed 11 = .ok (.iconst (-1), 1) := by decide +kernel
theorem dX11_feed_12 : decode cX11_feed 12 = .ok (.ireturn, 1) := by decide +kernel
theorem dX11_feed_13 : decode cX11_feed 13 = .ok (.aload_n 0, 1) := by decide +kernel
theorem dX11_feed_14 : decode cX11_feed 14 = .ok (.getfield 62, 3) := by decide +kernel
theorem dX11_feed_17 : decode cX11_feed 17 = .ok (.iload_n 1, 1) := by decide +kernel
theorem dX11_feed_18 : decode cX11_feed 18 = .ok (.invokevirtual 165, 3) := by decide +kernel
theorem dX11_feed_21 : decode cX11_feed 21 = .ok (.aload_n 0, 1) := by decide +kernel
theorem dX11_feed_22 : decode cX11_feed 22 = .ok (.getfield 62, 3) := by decide +kernel
theorem dX11_feed_25 : decode cX11_feed 25 = .ok (.iload_n 2, 1) := by decide +kernel
theorem dX11_feed_26 : decode cX11_feed 26 = .ok (.invokevirtual 165, 3) := by decide +kernel
theorem dX11_feed_29 : decode cX11_feed 29 = .ok (.aload_n 0, 1) := by decide +kernel
theorem dX11_feed_30 : decode cX11_feed 30 = .ok (.getfield 62, 3) := by decide +kernel
theorem dX11_feed_33 : decode cX11_feed 33 = .ok (.iload_n 3, 1) := by decide +kernel
theorem dX11_feed_34 : decode cX11_feed 34 = .ok (.invokevirtual 165, 3) := by decide +kernel
theorem dX11_feed_37 : decode cX11_feed 37 = .ok (.aload_n 0, 1) := by decide +kernel
theorem dX11_feed_38 : decode cX11_feed 38 = .ok (.getfield 62, 3) := by decide +kernel
theorem dX11_feed_41 : decode cX11_feed 41 = .ok (.iload 4, 2) := by decide +kernel
theorem dX11_feed_43 : decode cX11_feed 43 = .ok (.invokevirtual 165, 3) := by decide +kernel
theorem dX11_feed_46 : decode cX11_feed 46 = .ok (.aload_n 0, 1) := by decide +kernel
theorem dX11_feed_47 : decode cX11_feed 47 = .ok (.getfield 62, 3) := by decide +kernel
theorem dX11_feed_50 : decode cX11_feed 50 = .ok (.iload 5, 2) := by decide +kernel
theorem dX11_feed_52 : decode cX11_feed 52 = .ok (.invokevirtual 165, 3) := by decide +kernel
theorem dX11_feed_55 : decode cX11_feed 55 = .ok (.aload_n 0, 1) := by decide +kernel
theorem dX11_feed_56 : decode cX11_feed 56 = .ok (.getfield 62, 3) := by decide +kernel
theorem dX11_feed_59 : decode cX11_feed 59 = .ok (.getfield 168, 3) := by decide +kernel
theorem dX11_feed_62 : decode cX11_feed 62 = .ok (.ireturn, 1) := by decide +kernel
theorem dX11_end_0 : decode cX11_end 0 = .ok (.aload_n 0, 1) := by decide +kernel
theorem dX11_end_1 : decode cX11_end 1 = .ok (.getfield 62, 3) := by decide +kernel
theorem dX11_end_4 : decode cX11_end 4 = .ok (.iload_n 1, 1) := by decide +kernel
theorem dX11_end_5 : decode cX11_end 5 = .ok (.invokevirtual 171, 3) := by decide +kernel
theorem dX11_end_8 : decode cX11_end 8 = .ok (.ifCond .eq 7, 3) := by decide +kernel
theorem dX11_end_11 : decode cX11_end 11 = .ok (.iload_n 1, 1) := by decide +kernel
theorem dX11_end_12 : decode cX11_end 12 = .ok (.goto 4, 3) := by decide +kernel
theorem dX11_end_15 : decode cX11_end 15 = .ok (.iconst (-1), 1) := by decide +kernel
theorem dX11_end_16 : decode cX11_end 16 = .ok (.ireturn, 1) := by decide +kernel
theorem dX11_law_0 : decode cX11_law 0 = .ok (.aload_n 0, 1) := by decide +kernel
theorem dX11_law_1 : decode cX11_law 1 = .ok (.getfield 69, 3) := by decide +kernel
theorem dX11_law_4 : decode cX11_law 4 = .ok (.aload_n 0, 1) := by decide +kernel
theorem dX11_law_5 : decode cX11_law 5 = .ok (.getfield 62, 3) := by decide +kernel
theorem dX11_law_8 : decode cX11_law 8 = .ok (.getfield 174, 3) := by decide +kernel
theorem dX11_law_11 : decode cX11_law 11 = .ok (.aload_n 0, 1) := by decide +kernel
theorem dX11_law_12 : decode cX11_law 12 = .ok (.getfield 62, 3) := by decide +kernel
theorem dX11_law_15 : decode cX11_law 15 = .ok (.getfield 168, 3) := by decide +kernel
theorem dX11_law_18 : decode cX11_law 18 = .ok (.invokevirtual 178, 3) := by decide +kernel
theorem dX11_law_21 : decode cX11_law 21 = .ok (.aload_n 0, 1) := by decide +kernel
theorem dX11_law_22 : decode cX11_law 22 = .ok (.getfield 62, 3) := by decide +kernel
theorem dX11_law_25 : decode cX11_law 25 = .ok (.iconst 0, 1) := by decide +kernel
theorem dX11_law_26 : decode cX11_law 26 = .ok (.invokevirtual 171, 3) := by decide +kernel
theorem dX11_law_29 : decode cX11_law 29 = .ok (.pop, 1) := by decide +kernel
theorem dX11_law_30 : decode cX11_law 30 = .ok (.aload_n 0, 1) := by decide +kernel
theorem dX11_law_31 : decode cX11_law 31 = .ok (.getfield 78, 3) := by decide +kernel
theorem dX11_law_34 : decode cX11_law 34 = .ok (.invokevirtual 182, 3) := by decide +kernel
theorem dX11_law_37 : decode cX11_law 37 = .ok (.ifCond .ne 5, 3) := by decide +kernel
theorem dX11_law_40 : decode cX11_law 40 = .ok (.iconst (-1), 1) := by decide +kernel
theorem dX11_law_41 : decode cX11_law 41 = .ok (.ireturn, 1) := by decide +kernel
theorem dX11_law_42 : decode cX11_law 42 = .ok (.aload_n 0, 1) := by decide +kernel
theorem dX11_law_43 : decode cX11_law 43 = .ok (.getfield 92, 3) := by decide +kernel
theorem dX11_law_46 : decode cX11_law 46 = .ok (.astore_n 1, 1) := by decide +kernel
theorem dX11_law_47 : decode cX11_law 47 = .ok (.aload_n 0, 1) := by decide +kernel
theorem dX11_law_48 : decode cX11_law 48 = .ok (.aload_n 0, 1) := by decide +kernel
theorem dX11_law_49 : decode cX11_law 49 = .ok (.getfield 78, 3) := by decide +kernel
theorem dX11_law_52 : decode cX11_law 52 = .ok (.getfield 186, 3) := by decide +kernel
theorem dX11_law_55 : decode cX11_law 55 = .ok (.putfield 92, 3) := by decide +kernel
theorem dX11_law_58 : decode cX11_law 58 = .ok (.aload_n 0, 1) := by decide +kernel
theorem dX11_law_59 : decode cX11_law 59 = .ok (.getfield 78, 3) := by decide +kernel
theorem dX11_law_62 : decode cX11_law 62 = .ok (.aload_n 1, 1) := by decide +kernel
theorem dX11_law_63 : decode cX11_law 63 = .ok (.putfield 186, 3) := by decide +kernel
theorem dX11_law_66 : decode cX11_law 66 = .ok (.aload_n 0, 1) := by decide +kernel
theorem dX11_law_67 : decode cX11_law 67 = .ok (.getfield 92, 3) := by decide +kernel
theorem dX11_law_70 : decode cX11_law 70 = .ok (.getfield 189, 3) := by decide +kernel
theorem dX11_law_73 : decode cX11_law 73 = .ok (.ireturn, 1) := by decide +kernel
theorem dX11_fault_0 : decode cX11_fault 0 = .ok (.iload_n 1, 1) := by decide +kernel
theorem dX11_fault_1 : decode cX11_fault 1 = .ok (.lookupswitch 43 #[(0, 27), (1, 35)], 27) := by decide +kernel
theorem dX11_fault_28 : decode cX11_fault 28 = .ok (.aload_n 0, 1) := by decide +kernel
theorem dX11_fault_29 : decode cX11_fault 29 = .ok (.getfield 78, 3) := by decide +kernel
theorem dX11_fault_32 : decode cX11_fault 32 = .ok (.getfield 192, 3) := by decide +kernel
theorem dX11_fault_35 : decode cX11_fault 35 = .ok (.ireturn, 1) := by decide +kernel
theorem dX11_fault_36 : decode cX11_fault 36 = .ok (.aload_n 0, 1) := by decide +kernel
theorem dX11_fault_37 : decode cX11_fault 37 = .ok (.getfield 78, 3) := by decide +kernel
theorem dX11_fault_40 : decode cX11_fault 40 = .ok (.getfield 195, 3) := by decide +kernel
theorem dX11_fault_43 : decode cX11_fault 43 = .ok (.ireturn, 1) := by decide +kernel
theorem dX11_fault_44 : decode cX11_fault 44 = .ok (.iconst (-1), 1) := by decide +kernel
theorem dX11_fault_45 : decode cX11_fault 45 = .ok (.ireturn, 1) := by decide +kernel
theorem dX11_claim_0 : decode cX11_claim 0 = .ok (.aload_n 0, 1) := by decide +kernel
theorem dX11_claim_1 : decode cX11_claim 1 = .ok (.getfield 39, 3) := by decide +kernel
theorem dX11_claim_4 : decode cX11_claim 4 = .ok (.iload_n 1, 1) := by decide +kernel
theorem dX11_claim_5 : decode cX11_claim 5 = .ok (.invokevirtual 198, 3) := by decide +kernel
theorem dX11_claim_8 : decode cX11_claim 8 = .ok (.ifCond .eq 14, 3) := by decide +kernel
theorem dX11_claim_11 : decode cX11_claim 11 = .ok (.aload_n 0, 1) := by decide +kernel
theorem dX11_claim_12 : decode cX11_claim 12 = .ok (.getfield 55, 3) := by decide +kernel
theorem dX11_claim_15 : decode cX11_claim 15 = .ok (.iload_n 1, 1) := by decide +kernel
theorem dX11_claim_16 : decode cX11_claim 16 = .ok (.invokevirtual 199, 3) := by decide +kernel
theorem dX11_claim_19 : decode cX11_claim 19 = .ok (.goto 4, 3) := by decide +kernel
theorem dX11_claim_22 : decode cX11_claim 22 = .ok (.iconst (-1), 1) := by decide +kernel
theorem dX11_claim_23 : decode cX11_claim 23 = .ok (.ireturn, 1) := by decide +kernel
theorem dX11_ruling_0 : decode cX11_ruling 0 = .ok (.aload_n 0, 1) := by decide +kernel
theorem dX11_ruling_1 : decode cX11_ruling 1 = .ok (.iload_n 1, 1) := by decide +kernel
theorem dX11_ruling_2 : decode cX11_ruling 2 = .ok (.iload_n 2, 1) := by decide +kernel
theorem dX11_ruling_3 : decode cX11_ruling 3 = .ok (.invokevirtual 202, 3) := by decide +kernel
theorem dX11_ruling_6 : decode cX11_ruling 6 = .ok (.ifCond .ne 5, 3) := by decide +kernel
theorem dX11_ruling_9 : decode cX11_ruling 9 = .ok (.iconst (-1), 1) := by decide +kernel
theorem dX11_ruling_10 : decode cX11_ruling 10 = .ok (.ireturn, 1) := by decide +kernel
theorem dX11_ruling_11 : decode cX11_ruling 11 = .ok (.aload_n 0, 1) := by decide +kernel
theorem dX11_ruling_12 : decode cX11_ruling 12 = .ok (.getfield 92, 3) := by decide +kernel
theorem dX11_ruling_15 : decode cX11_ruling 15 = .ok (.aload_n 0, 1) := by decide +kernel
theorem dX11_ruling_16 : decode cX11_ruling 16 = .ok (.getfield 55, 3) := by decide +kernel
theorem dX11_ruling_19 : decode cX11_ruling 19 = .ok (.getfield 205, 3) := by decide +kernel
theorem dX11_ruling_22 : decode cX11_ruling 22 = .ok (.invokevirtual 208, 3) := by decide +kernel
theorem dX11_ruling_25 : decode cX11_ruling 25 = .ok (.istore_n 3, 1) := by decide +kernel
theorem dX11_ruling_26 : decode cX11_ruling 26 = .ok (.iload_n 3, 1) := by decide +kernel
theorem dX11_ruling_27 : decode cX11_ruling 27 = .ok (.iconst (-1), 1) := by decide +kernel
theorem dX11_ruling_28 : decode cX11_ruling 28 = .ok (.if_icmp .ne 7, 3) := by decide +kernel
theorem dX11_ruling_31 : decode cX11_ruling 31 = .ok (.iconst 4, 1) := by decide +kernel
theorem dX11_ruling_32 : decode cX11_ruling 32 = .ok (.goto 12, 3) := by decide +kernel
theorem dX11_ruling_35 : decode cX11_ruling 35 = .ok (.aload_n 0, 1) := by decide +kernel
theorem dX11_ruling_36 : decode cX11_ruling 36 = .ok (.getfield 92, 3) := by decide +kernel
theorem dX11_ruling_39 : decode cX11_ruling 39 = .ok (.getfield 212, 3) := by decide +kernel
theorem dX11_ruling_42 : decode cX11_ruling 42 = .ok (.iload_n 3, 1) := by decide +kernel
theorem dX11_ruling_43 : decode cX11_ruling 43 = .ok (.iaload, 1) := by decide +kernel
theorem dX11_ruling_44 : decode cX11_ruling 44 = .ok (.ireturn, 1) := by decide +kernel
theorem dX11_sum_0 : decode cX11_sum 0 = .ok (.aload_n 0, 1) := by decide +kernel
theorem dX11_sum_1 : decode cX11_sum 1 = .ok (.iload_n 1, 1) := by decide +kernel
theorem dX11_sum_2 : decode cX11_sum 2 = .ok (.iload_n 2, 1) := by decide +kernel
theorem dX11_sum_3 : decode cX11_sum 3 = .ok (.invokevirtual 202, 3) := by decide +kernel
theorem dX11_sum_6 : decode cX11_sum 6 = .ok (.ifCond .ne 5, 3) := by decide +kernel
theorem dX11_sum_9 : decode cX11_sum 9 = .ok (.iconst (-1), 1) := by decide +kernel
theorem dX11_sum_10 : decode cX11_sum 10 = .ok (.ireturn, 1) := by decide +kernel
theorem dX11_sum_11 : decode cX11_sum 11 = .ok (.aload_n 0, 1) := by decide +kernel
theorem dX11_sum_12 : decode cX11_sum 12 = .ok (.getfield 92, 3) := by decide +kernel
theorem dX11_sum_15 : decode cX11_sum 15 = .ok (.aload_n 0, 1) := by decide +kernel
theorem dX11_sum_16 : decode cX11_sum 16 = .ok (.getfield 55, 3) := by decide +kernel
theorem dX11_sum_19 : decode cX11_sum 19 = .ok (.getfield 205, 3) := by decide +kernel
theorem dX11_sum_22 : decode cX11_sum 22 = .ok (.invokevirtual 208, 3) := by decide +kernel
theorem dX11_sum_25 : decode cX11_sum 25 = .ok (.istore_n 3, 1) := by decide +kernel
theorem dX11_sum_26 : decode cX11_sum 26 = .ok (.iload_n 3, 1) := by decide +kernel
theorem dX11_sum_27 : decode cX11_sum 27 = .ok (.iconst (-1), 1) := by decide +kernel
theorem dX11_sum_28 : decode cX11_sum 28 = .ok (.if_icmp .ne 7, 3) := by decide +kernel
theorem dX11_sum_31 : decode cX11_sum 31 = .ok (.iconst 0, 1) := by decide +kernel
theorem dX11_sum_32 : decode cX11_sum 32 = .ok (.goto 25, 3) := by decide +kernel
theorem dX11_sum_35 : decode cX11_sum 35 = .ok (.aload_n 0, 1) := by decide +kernel
theorem dX11_sum_36 : decode cX11_sum 36 = .ok (.getfield 55, 3) := by decide +kernel
theorem dX11_sum_39 : decode cX11_sum 39 = .ok (.getfield 205, 3) := by decide +kernel
theorem dX11_sum_42 : decode cX11_sum 42 = .ok (.iconst 3, 1) := by decide +kernel
theorem dX11_sum_43 : decode cX11_sum 43 = .ok (.iaload, 1) := by decide +kernel
theorem dX11_sum_44 : decode cX11_sum 44 = .ok (.aload_n 0, 1) := by decide +kernel
theorem dX11_sum_45 : decode cX11_sum 45 = .ok (.getfield 92, 3) := by decide +kernel
theorem dX11_sum_48 : decode cX11_sum 48 = .ok (.getfield 215, 3) := by decide +kernel
theorem dX11_sum_51 : decode cX11_sum 51 = .ok (.iload_n 3, 1) := by decide +kernel
theorem dX11_sum_52 : decode cX11_sum 52 = .ok (.iaload, 1) := by decide +kernel
theorem dX11_sum_53 : decode cX11_sum 53 = .ok (.imul, 1) := by decide +kernel
theorem dX11_sum_54 : decode cX11_sum 54 = .ok (.bipush 100, 2) := by decide +kernel
theorem dX11_sum_56 : decode cX11_sum 56 = .ok (.idiv, 1) := by decide +kernel
theorem dX11_sum_57 : decode cX11_sum 57 = .ok (.ireturn, 1) := by decide +kernel
theorem dX11_term_0 : decode cX11_term 0 = .ok (.iload_n 2, 1) := by decide +kernel
theorem dX11_term_1 : decode cX11_term 1 = .ok (.ifCond .lt 18, 3) := by decide +kernel
theorem dX11_term_4 : decode cX11_term 4 = .ok (.iload_n 2, 1) := by decide +kernel
theorem dX11_term_5 : decode cX11_term 5 = .ok (.bipush 9, 2) := by decide +kernel
theorem dX11_term_7 : decode cX11_term 7 = .ok (.if_icmp .ge 12, 3) := by decide +kernel
theorem dX11_term_10 : decode cX11_term 10 = .ok (.aload_n 0, 1) := by decide +kernel
theorem dX11_term_11 : decode cX11_term 11 = .ok (.iload_n 1, 1) := by decide +kernel
theorem dX11_term_12 : decode cX11_term 12 = .ok (.iload_n 3, 1) := by decide +kernel
theorem dX11_term_13 : decode cX11_term 13 = .ok (.invokevirtual 202, 3) := by decide +kernel
theorem dX11_term_16 : decode cX11_term 16 = .ok (.ifCond .ne 5, 3) := by decide +kernel
theorem dX11_term_19 : decode cX11_term 19 = .ok (.iconst (-1), 1) := by decide +kernel
theorem dX11_term_20 : decode cX11_term 20 = .ok (.ireturn, 1) := by decide +kernel
theorem dX11_term_21 : decode cX11_term 21 = .ok (.aload_n 0, 1) := by decide +kernel
theorem dX11_term_22 : decode cX11_term 22 = .ok (.getfield 55, 3) := by decide +kernel
theorem dX11_term_25 : decode cX11_term 25 = .ok (.getfield 205, 3) := by decide +kernel
theorem dX11_term_28 : decode cX11_term 28 = .ok (.iload_n 2, 1) := by decide +kernel
theorem dX11_term_29 : decode cX11_term 29 = .ok (.iaload, 1) := by decide +kernel
theorem dX11_term_30 : decode cX11_term 30 = .ok (.ireturn, 1) := by decide +kernel
theorem dX11_share_0 : decode cX11_share 0 = .ok (.aload_n 0, 1) := by decide +kernel
theorem dX11_share_1 : decode cX11_share 1 = .ok (.getfield 10, 3) := by decide +kernel
theorem dX11_share_4 : decode cX11_share 4 = .ok (.iload_n 1, 1) := by decide +kernel
theorem dX11_share_5 : decode cX11_share 5 = .ok (.invokevirtual 112, 3) := by decide +kernel
theorem dX11_share_8 : decode cX11_share 8 = .ok (.ifCond .eq 32, 3) := by decide +kernel
theorem dX11_share_11 : decode cX11_share 11 = .ok (.aload_n 0, 1) := by decide +kernel
theorem dX11_share_12 : decode cX11_share 12 = .ok (.getfield 10, 3) := by decide +kernel
theorem dX11_share_15 : decode cX11_share 15 = .ok (.iload_n 2, 1) := by decide +kernel
theorem dX11_share_16 : decode cX11_share 16 = .ok (.invokevirtual 112, 3) := by decide +kernel
theorem dX11_share_19 : decode cX11_share 19 = .ok (.ifCond .eq 21, 3) := by decide +kernel
theorem dX11_share_22 : decode cX11_share 22 = .ok (.iload_n 3, 1) := by decide +kernel
theorem dX11_share_23 : decode cX11_share 23 = .ok (.invokestatic 104, 3) := by decide +kernel
theorem dX11_share_26 : decode cX11_share 26 = .ok (.ifCond .eq 14, 3) := by decide +kernel
theorem dX11_share_29 : decode cX11_share 29 = .ok (.iload 4, 2) := by decide +kernel
theorem dX11_share_31 : decode cX11_share 31 = .ok (.ifCond .lt 9, 3) := by decide +kernel
theorem dX11_share_34 : decode cX11_share 34 = .ok (.iload 4, 2) := by decide +kernel
theorem dX11_share_36 : decode cX11_share 36 = .ok (.iconst 1, 1) := by decide +kernel
theorem dX11_share_37 : decode cX11_share 37 = .ok (.if_icmp .le 7, 3) := by decide +kernel
theorem dX11_share_40 : decode cX11_share 40 = .ok (.ldc2_w 133, 3) := by decide +kernel
theorem dX11_share_43 : decode cX11_share 43 = .ok (.lreturn, 1) := by decide +kernel
theorem dX11_share_44 : decode cX11_share 44 = .ok (.aload_n 0, 1) := by decide +kernel
theorem dX11_share_45 : decode cX11_share 45 = .ok (.getfield 21, 3) := by decide +kernel
theorem dX11_share_48 : decode cX11_share 48 = .ok (.iload_n 1, 1) := by decide +kernel
theorem dX11_share_49 : decode cX11_share 49 = .ok (.iload_n 3, 1) := by decide +kernel
theorem dX11_share_50 : decode cX11_share 50 = .ok (.invokevirtual 218, 3) := by decide +kernel
theorem dX11_share_53 : decode cX11_share 53 = .ok (.iload 4, 2) := by decide +kernel
theorem dX11_share_55 : decode cX11_share 55 = .ok (.ifCond .ne 14, 3) := by decide +kernel
theorem dX11_share_58 : decode cX11_share 58 = .ok (.aload_n 0, 1) := by decide +kernel
theorem dX11_share_59 : decode cX11_share 59 = .ok (.getfield 21, 3) := by decide +kernel
theorem dX11_share_62 : decode cX11_share 62 = .ok (.iload_n 2, 1) := by decide +kernel
theorem dX11_share_63 : decode cX11_share 63 = .ok (.invokevirtual 222, 3) := by decide +kernel
theorem dX11_share_66 : decode cX11_share 66 = .ok (.goto 11, 3) := by decide +kernel
theorem dX11_share_69 : decode cX11_share 69 = .ok (.aload_n 0, 1) := by decide +kernel
theorem dX11_share_70 : decode cX11_share 70 = .ok (.getfield 21, 3) := by decide +kernel
theorem dX11_share_73 : decode cX11_share 73 = .ok (.iload_n 2, 1) := by decide +kernel
theorem dX11_share_74 : decode cX11_share 74 = .ok (.invokevirtual 226, 3) := by decide +kernel
theorem dX11_share_77 : decode cX11_share 77 = .ok (.lreturn, 1) := by decide +kernel
theorem dX11_want_0 : decode cX11_want 0 = .ok (.aload_n 0, 1) := by decide +kernel
theorem dX11_want_1 : decode cX11_want 1 = .ok (.getfield 28, 3) := by decide +kernel
theorem dX11_want_4 : decode cX11_want 4 = .ok (.iload_n 1, 1) := by decide +kernel
theorem dX11_want_5 : decode cX11_want 5 = .ok (.invokevirtual 135, 3) := by decide +kernel
theorem dX11_want_8 : decode cX11_want 8 = .ok (.ifCond .eq 14, 3) := by decide +kernel
theorem dX11_want_11 : decode cX11_want 11 = .ok (.aload_n 0, 1) := by decide +kernel
theorem dX11_want_12 : decode cX11_want 12 = .ok (.getfield 28, 3) := by decide +kernel
theorem dX11_want_15 : decode cX11_want 15 = .ok (.iload_n 2, 1) := by decide +kernel
theorem dX11_want_16 : decode cX11_want 16 = .ok (.invokevirtual 135, 3) := by decide +kernel
theorem dX11_want_19 : decode cX11_want 19 = .ok (.ifCond .ne 5, 3) := by decide +kernel
theorem dX11_want_22 : decode cX11_want 22 = .ok (.iconst (-1), 1) := by decide +kernel
theorem dX11_want_23 : decode cX11_want 23 = .ok (.ireturn, 1) := by decide +kernel
theorem dX11_want_24 : decode cX11_want 24 = .ok (.aload_n 0, 1) := by decide +kernel
theorem dX11_want_25 : decode cX11_want 25 = .ok (.getfield 85, 3) := by decide +kernel
theorem dX11_want_28 : decode cX11_want 28 = .ok (.iload_n 1, 1) := by decide +kernel
theorem dX11_want_29 : decode cX11_want 29 = .ok (.iload_n 2, 1) := by decide +kernel
theorem dX11_want_30 : decode cX11_want 30 = .ok (.iload_n 3, 1) := by decide +kernel
theorem dX11_want_31 : decode cX11_want 31 = .ok (.invokevirtual 229, 3) := by decide +kernel
theorem dX11_want_34 : decode cX11_want 34 = .ok (.ireturn, 1) := by decide +kernel
theorem dX11_joy_0 : decode cX11_joy 0 = .ok (.aload_n 0, 1) := by decide +kernel
theorem dX11_joy_1 : decode cX11_joy 1 = .ok (.getfield 85, 3) := by decide +kernel
theorem dX11_joy_4 : decode cX11_joy 4 = .ok (.invokevirtual 233, 3) := by decide +kernel
theorem dX11_joy_7 : decode cX11_joy 7 = .ok (.aload_n 0, 1) := by decide +kernel
theorem dX11_joy_8 : decode cX11_joy 8 = .ok (.getfield 85, 3) := by decide +kernel
theorem dX11_joy_11 : decode cX11_joy 11 = .ok (.getfield 236, 3) := by decide +kernel
theorem dX11_joy_14 : decode cX11_joy 14 = .ok (.iconst 0, 1) := by decide +kernel
theorem dX11_joy_15 : decode cX11_joy 15 = .ok (.iaload, 1) := by decide +kernel
theorem dX11_joy_16 : decode cX11_joy 16 = .ok (.ireturn, 1) := by decide +kernel
theorem dX11_swap_0 : decode cX11_swap 0 = .ok (.aload_n 0, 1) := by decide +kernel
theorem dX11_swap_1 : decode cX11_swap 1 = .ok (.getfield 28, 3) := by decide +kernel
theorem dX11_swap_4 : decode cX11_swap 4 = .ok (.iload_n 1, 1) := by decide +kernel
theorem dX11_swap_5 : decode cX11_swap 5 = .ok (.invokevirtual 135, 3) := by decide +kernel
theorem dX11_swap_8 : decode cX11_swap 8 = .ok (.ifCond .ne 5, 3) := by decide +kernel
theorem dX11_swap_11 : decode cX11_swap 11 = .ok (.iconst (-1), 1) := by decide +kernel
theorem dX11_swap_12 : decode cX11_swap 12 = .ok (.ireturn, 1) := by decide +kernel
theorem dX11_swap_13 : decode cX11_swap 13 = .ok (.aload_n 0, 1) := by decide +kernel
theorem dX11_swap_14 : decode cX11_swap 14 = .ok (.getfield 85, 3) := by decide +kernel
theorem dX11_swap_17 : decode cX11_swap 17 = .ok (.invokevirtual 233, 3) := by decide +kernel
theorem dX11_swap_20 : decode cX11_swap 20 = .ok (.aload_n 0, 1) := by decide +kernel
theorem dX11_swap_21 : decode cX11_swap 21 = .ok (.getfield 85, 3) := by decide +kernel
theorem dX11_swap_24 : decode cX11_swap 24 = .ok (.getfield 239, 3) := by decide +kernel
theorem dX11_swap_27 : decode cX11_swap 27 = .ok (.iload_n 1, 1) := by decide +kernel
theorem dX11_swap_28 : decode cX11_swap 28 = .ok (.iaload, 1) := by decide +kernel
theorem dX11_swap_29 : decode cX11_swap 29 = .ok (.ireturn, 1) := by decide +kernel
theorem dX11_about_0 : decode cX11_about 0 = .ok (.iload_n 1, 1) := by decide +kernel
theorem dX11_about_1 : decode cX11_about 1 = .ok (.tableswitch 108 0 7 #[47, 55, 63, 71, 76, 84, 92, 100], 47) := by decide +kernel
theorem dX11_about_48 : decode cX11_about 48 = .ok (.aload_n 0, 1) := by decide +kernel
theorem dX11_about_49 : decode cX11_about 49 = .ok (.getfield 10, 3) := by decide +kernel
theorem dX11_about_52 : decode cX11_about 52 = .ok (.getfield 242, 3) := by decide +kernel
theorem dX11_about_55 : decode cX11_about 55 = .ok (.ireturn, 1) := by decide +kernel
theorem dX11_about_56 : decode cX11_about 56 = .ok (.aload_n 0, 1) := by decide +kernel
theorem dX11_about_57 : decode cX11_about 57 = .ok (.getfield 28, 3) := by decide +kernel
theorem dX11_about_60 : decode cX11_about 60 = .ok (.getfield 119, 3) := by decide +kernel
theorem dX11_about_63 : decode cX11_about 63 = .ok (.ireturn, 1) := by decide +kernel
theorem dX11_about_64 : decode cX11_about 64 = .ok (.aload_n 0, 1) := by decide +kernel
theorem dX11_about_65 : decode cX11_about 65 = .ok (.getfield 39, 3) := by decide +kernel
theorem dX11_about_68 : decode cX11_about 68 = .ok (.getfield 243, 3) := by decide +kernel
theorem dX11_about_71 : decode cX11_about 71 = .ok (.ireturn, 1) := by decide +kernel
theorem dX11_about_72 : decode cX11_about 72 = .ok (.aload_n 0, 1) := by decide +kernel
theorem dX11_about_73 : decode cX11_about 73 = .ok (.getfield 96, 3) := by decide +kernel
theorem dX11_about_76 : decode cX11_about 76 = .ok (.ireturn, 1) := by decide +kernel
theorem dX11_about_77 : decode cX11_about 77 = .ok (.aload_n 0, 1) := by decide +kernel
theorem dX11_about_78 : decode cX11_about 78 = .ok (.getfield 92, 3) := by decide +kernel
theorem dX11_about_81 : decode cX11_about 81 = .ok (.getfield 189, 3) := by decide +kernel
theorem dX11_about_84 : decode cX11_about 84 = .ok (.ireturn, 1) := by decide +kernel
theorem dX11_about_85 : decode cX11_about 85 = .ok (.aload_n 0, 1) := by decide +kernel
theorem dX11_about_86 : decode cX11_about 86 = .ok (.getfield 55, 3) := by decide +kernel
theorem dX11_about_89 : decode cX11_about 89 = .ok (.getfield 244, 3) := by decide +kernel
theorem dX11_about_92 : decode cX11_about 92 = .ok (.ireturn, 1) := by decide +kernel
theorem dX11_about_93 : decode cX11_about 93 = .ok (.aload_n 0, 1) := by decide +kernel
theorem dX11_about_94 : decode cX11_about 94 = .ok (.getfield 85, 3) := by decide +kernel
theorem dX11_about_97 : decode cX11_about 97 = .ok (.getfield 245, 3) := by decide +kernel
theorem dX11_about_100 : decode cX11_about 100 = .ok (.ireturn, 1) := by decide +kernel
theorem dX11_about_101 : decode cX11_about 101 = .ok (.aload_n 0, 1) := by decide +kernel
theorem dX11_about_102 : decode cX11_about 102 = .ok (.getfield 62, 3) := by decide +kernel
theorem dX11_about_105 : decode cX11_about 105 = .ok (.getfield 168, 3) := by decide +kernel
theorem dX11_about_108 : decode cX11_about 108 = .ok (.ireturn, 1) := by decide +kernel
theorem dX11_about_109 : decode cX11_about 109 = .ok (.iconst (-1), 1) := by decide +kernel
theorem dX11_about_110 : decode cX11_about 110 = .ok (.ireturn, 1) := by decide +kernel
theorem dX11_isDay_0 : decode cX11_isDay 0 = .ok (.iload_n 0, 1) := by decide +kernel
theorem dX11_isDay_1 : decode cX11_isDay 1 = .ok (.ifCond .lt 13, 3) := by decide +kernel
theorem dX11_isDay_4 : decode cX11_isDay 4 = .ok (.iload_n 0, 1) := by decide +kernel
theorem dX11_isDay_5 : decode cX11_isDay 5 = .ok (.ldc 146, 2) := by decide +kernel
theorem dX11_isDay_7 : decode cX11_isDay 7 = .ok (.if_icmp .gt 7, 3) := by decide +kernel
theorem dX11_isDay_10 : decode cX11_isDay 10 = .ok (.iconst 1, 1) := by decide +kernel
theorem dX11_isDay_11 : decode cX11_isDay 11 = .ok (.goto 4, 3) := by decide +kernel
theorem dX11_isDay_14 : decode cX11_isDay 14 = .ok (.iconst 0, 1) := by decide +kernel
theorem dX11_isDay_15 : decode cX11_isDay 15 = .ok (.ireturn, 1) := by decide +kernel
theorem dX11_isYear_0 : decode cX11_isYear 0 = .ok (.iload_n 0, 1) := by decide +kernel
theorem dX11_isYear_1 : decode cX11_isYear 1 = .ok (.ifCond .lt 13, 3) := by decide +kernel
theorem dX11_isYear_4 : decode cX11_isYear 4 = .ok (.iload_n 0, 1) := by decide +kernel
theorem dX11_isYear_5 : decode cX11_isYear 5 = .ok (.bipush 100, 2) := by decide +kernel
theorem dX11_isYear_7 : decode cX11_isYear 7 = .ok (.if_icmp .ge 7, 3) := by decide +kernel
theorem dX11_isYear_10 : decode cX11_isYear 10 = .ok (.iconst 1, 1) := by decide +kernel
theorem dX11_isYear_11 : decode cX11_isYear 11 = .ok (.goto 4, 3) := by decide +kernel
theorem dX11_isYear_14 : decode cX11_isYear 14 = .ok (.iconst 0, 1) := by decide +kernel
theorem dX11_isYear_15 : decode cX11_isYear 15 = .ok (.ireturn, 1) := by decide +kernel
theorem dX11_isMoney_0 : decode cX11_isMoney 0 = .ok (.iload_n 0, 1) := by decide +kernel
theorem dX11_isMoney_1 : decode cX11_isMoney 1 = .ok (.ifCond .lt 13, 3) := by decide +kernel
theorem dX11_isMoney_4 : decode cX11_isMoney 4 = .ok (.iload_n 0, 1) := by decide +kernel
theorem dX11_isMoney_5 : decode cX11_isMoney 5 = .ok (.ldc 248, 2) := by decide +kernel
theorem dX11_isMoney_7 : decode cX11_isMoney 7 = .ok (.if_icmp .gt 7, 3) := by decide +kernel
theorem dX11_isMoney_10 : decode cX11_isMoney 10 = .ok (.iconst 1, 1) := by decide +kernel
theorem dX11_isMoney_11 : decode cX11_isMoney 11 = .ok (.goto 4, 3) := by decide +kernel
theorem dX11_isMoney_14 : decode cX11_isMoney 14 = .ok (.iconst 0, 1) := by decide +kernel
theorem dX11_isMoney_15 : decode cX11_isMoney 15 = .ok (.ireturn, 1) := by decide +kernel
theorem dX11_truth_0 : decode cX11_truth 0 = .ok (.iload_n 0, 1) := by decide +kernel
theorem dX11_truth_1 : decode cX11_truth 1 = .ok (.ifCond .eq 7, 3) := by decide +kernel
theorem dX11_truth_4 : decode cX11_truth 4 = .ok (.iconst 1, 1) := by decide +kernel
theorem dX11_truth_5 : decode cX11_truth 5 = .ok (.goto 4, 3) := by decide +kernel
theorem dX11_truth_8 : decode cX11_truth 8 = .ok (.iconst 0, 1) := by decide +kernel
theorem dX11_truth_9 : decode cX11_truth 9 = .ok (.ireturn, 1) := by decide +kernel
theorem dX11_convert_0 : decode cX11_convert 0 = .ok (.iload_n 2, 1) := by decide +kernel
theorem dX11_convert_1 : decode cX11_convert 1 = .ok (.invokestatic 126, 3) := by decide +kernel
theorem dX11_convert_4 : decode cX11_convert 4 = .ok (.ifCond .eq 20, 3) := by decide +kernel
theorem dX11_convert_7 : decode cX11_convert 7 = .ok (.iload_n 3, 1) := by decide +kernel
theorem dX11_convert_8 : decode cX11_convert 8 = .ok (.invokestatic 126, 3) := by decide +kernel
theorem dX11_convert_11 : decode cX11_convert 11 = .ok (.ifCond .eq 13, 3) := by decide +kernel
theorem dX11_convert_14 : decode cX11_convert 14 = .ok (.aload_n 0, 1) := by decide +kernel
theorem dX11_convert_15 : decode cX11_convert 15 = .ok (.getfield 32, 3) := by decide +kernel
theorem dX11_convert_18 : decode cX11_convert 18 = .ok (.iload_n 2, 1) := by decide +kernel
theorem dX11_convert_19 : decode cX11_convert 19 = .ok (.iaload, 1) := by decide +kernel
theorem dX11_convert_20 : decode cX11_convert 20 = .ok (.iconst 1, 1) := by decide +kernel
theorem dX11_convert_21 : decode cX11_convert 21 = .ok (.if_icmp .ge 7, 3) := by decide +kernel
theorem dX11_convert_24 : decode cX11_convert 24 = .ok (.ldc2_w 133, 3) := by decide +kernel
theorem dX11_convert_27 : decode cX11_convert 27 = .ok (.lreturn, 1) := by decide +kernel
theorem dX11_convert_28 : decode cX11_convert 28 = .ok (.iload_n 1, 1) := by decide +kernel
theorem dX11_convert_29 : decode cX11_convert 29 = .ok (.i2l, 1) := by decide +kernel
theorem dX11_convert_30 : decode cX11_convert 30 = .ok (.aload_n 0, 1) := by decide +kernel
theorem dX11_convert_31 : decode cX11_convert 31 = .ok (.getfield 32, 3) := by decide +kernel
theorem dX11_convert_34 : decode cX11_convert 34 = .ok (.iload_n 3, 1) := by decide +kernel
theorem dX11_convert_35 : decode cX11_convert 35 = .ok (.iaload, 1) := by decide +kernel
theorem dX11_convert_36 : decode cX11_convert 36 = .ok (.i2l, 1) := by decide +kernel
theorem dX11_convert_37 : decode cX11_convert 37 = .ok (.lmul, 1) := by decide +kernel
theorem dX11_convert_38 : decode cX11_convert 38 = .ok (.aload_n 0, 1) := by decide +kernel
theorem dX11_convert_39 : decode cX11_convert 39 = .ok (.getfield 32, 3) := by decide +kernel
theorem dX11_convert_42 : decode cX11_convert 42 = .ok (.iload_n 2, 1) := by decide +kernel
theorem dX11_convert_43 : decode cX11_convert 43 = .ok (.iaload, 1) := by decide +kernel
theorem dX11_convert_44 : decode cX11_convert 44 = .ok (.i2l, 1) := by decide +kernel
theorem dX11_convert_45 : decode cX11_convert 45 = .ok (.ldiv, 1) := by decide +kernel
theorem dX11_convert_46 : decode cX11_convert 46 = .ok (.lreturn, 1) := by decide +kernel
theorem dX11_weigh_0 : decode cX11_weigh 0 = .ok (.aload_n 0, 1) := by decide +kernel
theorem dX11_weigh_1 : decode cX11_weigh 1 = .ok (.getfield 55, 3) := by decide +kernel
theorem dX11_weigh_4 : decode cX11_weigh 4 = .ok (.iload_n 1, 1) := by decide +kernel
theorem dX11_weigh_5 : decode cX11_weigh 5 = .ok (.invokevirtual 249, 3) := by decide +kernel
theorem dX11_weigh_8 : decode cX11_weigh 8 = .ok (.ifCond .ne 5, 3) := by decide +kernel
theorem dX11_weigh_11 : decode cX11_weigh 11 = .ok (.iconst 0, 1) := by decide +kernel
theorem dX11_weigh_12 : decode cX11_weigh 12 = .ok (.ireturn, 1) := by decide +kernel
theorem dX11_weigh_13 : decode cX11_weigh 13 = .ok (.aload_n 0, 1) := by decide +kernel
theorem dX11_weigh_14 : decode cX11_weigh 14 = .ok (.getfield 55, 3) := by decide +kernel
theorem dX11_weigh_17 : decode cX11_weigh 17 = .ok (.getfield 250, 3) := by decide +kernel
theorem dX11_weigh_20 : decode cX11_weigh 20 = .ok (.iload_n 1, 1) := by decide +kernel
theorem dX11_weigh_21 : decode cX11_weigh 21 = .ok (.iaload, 1) := by decide +kernel
theorem dX11_weigh_22 : decode cX11_weigh 22 = .ok (.istore_n 3, 1) := by decide +kernel
theorem dX11_weigh_23 : decode cX11_weigh 23 = .ok (.aload_n 0, 1) := by decide +kernel
theorem dX11_weigh_24 : decode cX11_weigh 24 = .ok (.getfield 39, 3) := by decide +kernel
theorem dX11_weigh_27 : decode cX11_weigh 27 = .ok (.iload_n 3, 1) := by decide +kernel
theorem dX11_weigh_28 : decode cX11_weigh 28 = .ok (.iload_n 2, 1) := by decide +kernel
theorem dX11_weigh_29 : decode cX11_weigh 29 = .ok (.invokevirtual 153, 3) := by decide +kernel
theorem dX11_weigh_32 : decode cX11_weigh 32 = .ok (.ifCond .ne 5, 3) := by decide +kernel
theorem dX11_weigh_35 : decode cX11_weigh 35 = .ok (.iconst 0, 1) := by decide +kernel
theorem dX11_weigh_36 : decode cX11_weigh 36 = .ok (.ireturn, 1) := by decide +kernel
theorem dX11_weigh_37 : decode cX11_weigh 37 = .ok (.aload_n 0, 1) := by decide +kernel
theorem dX11_weigh_38 : decode cX11_weigh 38 = .ok (.getfield 39, 3) := by decide +kernel
theorem dX11_weigh_41 : decode cX11_weigh 41 = .ok (.getfield 156, 3) := by decide +kernel
theorem dX11_weigh_44 : decode cX11_weigh 44 = .ok (.iload_n 3, 1) := by decide +kernel
theorem dX11_weigh_45 : decode cX11_weigh 45 = .ok (.iaload, 1) := by decide +kernel
theorem dX11_weigh_46 : decode cX11_weigh 46 = .ok (.istore 4, 2) := by decide +kernel
theorem dX11_weigh_48 : decode cX11_weigh 48 = .ok (.aload_n 0, 1) := by decide +kernel
theorem dX11_weigh_49 : decode cX11_weigh 49 = .ok (.getfield 48, 3) := by decide +kernel
theorem dX11_weigh_52 : decode cX11_weigh 52 = .ok (.iload 4, 2) := by decide +kernel
theorem dX11_weigh_54 : decode cX11_weigh 54 = .ok (.ldc 146, 2) := by decide +kernel
theorem dX11_weigh_56 : decode cX11_weigh 56 = .ok (.iload_n 2, 1) := by decide +kernel
theorem dX11_weigh_57 : decode cX11_weigh 57 = .ok (.iload_n 3, 1) := by decide +kernel
theorem dX11_weigh_58 : decode cX11_weigh 58 = .ok (.invokevirtual 147, 3) := by decide +kernel
theorem dX11_weigh_61 : decode cX11_weigh 61 = .ok (.aload_n 0, 1) := by decide +kernel
theorem dX11_weigh_62 : decode cX11_weigh 62 = .ok (.getfield 48, 3) := by decide +kernel
theorem dX11_weigh_65 : decode cX11_weigh 65 = .ok (.getfield 158, 3) := by decide +kernel
theorem dX11_weigh_68 : decode cX11_weigh 68 = .ok (.ifCond .eq 15, 3) := by decide +kernel
theorem dX11_weigh_71 : decode cX11_weigh 71 = .ok (.aload_n 0, 1) := by decide +kernel
theorem dX11_weigh_72 : decode cX11_weigh 72 = .ok (.getfield 28, 3) := by decide +kernel
theorem dX11_weigh_75 : decode cX11_weigh 75 = .ok (.iload 4, 2) := by decide +kernel
theorem dX11_weigh_77 : decode cX11_weigh 77 = .ok (.invokevirtual 135, 3) := by decide +kernel
theorem dX11_weigh_80 : decode cX11_weigh 80 = .ok (.ifCond .ne 5, 3) := by decide +kernel
theorem dX11_weigh_83 : decode cX11_weigh 83 = .ok (.iconst 0, 1) := by decide +kernel
theorem dX11_weigh_84 : decode cX11_weigh 84 = .ok (.ireturn, 1) := by decide +kernel
theorem dX11_weigh_85 : decode cX11_weigh 85 = .ok (.aload_n 0, 1) := by decide +kernel
theorem dX11_weigh_86 : decode cX11_weigh 86 = .ok (.getfield 39, 3) := by decide +kernel
theorem dX11_weigh_89 : decode cX11_weigh 89 = .ok (.getfield 252, 3) := by decide +kernel
theorem dX11_weigh_92 : decode cX11_weigh 92 = .ok (.iload_n 3, 1) := by decide +kernel
theorem dX11_weigh_93 : decode cX11_weigh 93 = .ok (.iaload, 1) := by decide +kernel
theorem dX11_weigh_94 : decode cX11_weigh 94 = .ok (.istore 5, 2) := by decide +kernel
theorem dX11_weigh_96 : decode cX11_weigh 96 = .ok (.aload_n 0, 1) := by decide +kernel
theorem dX11_weigh_97 : decode cX11_weigh 97 = .ok (.getfield 55, 3) := by decide +kernel
theorem dX11_weigh_100 : decode cX11_weigh 100 = .ok (.getfield 205, 3) := by decide +kernel
theorem dX11_weigh_103 : decode cX11_weigh 103 = .ok (.astore 6, 2) := by decide +kernel
theorem dX11_weigh_105 : decode cX11_weigh 105 = .ok (.aload 6, 2) := by decide +kernel
theorem dX11_weigh_107 : decode cX11_weigh 107 = .ok (.iconst 0, 1) := by decide +kernel
theorem dX11_weigh_108 : decode cX11_weigh 108 = .ok (.aload_n 0, 1) := by decide +kernel
theorem dX11_weigh_109 : decode cX11_weigh 109 = .ok (.getfield 39, 3) := by decide +kernel
theorem dX11_weigh_112 : decode cX11_weigh 112 = .ok (.getfield 255, 3) := by decide +kernel
theorem dX11_weigh_115 : decode cX11_weigh 115 = .ok (.iload_n 3, 1) := by decide +kernel
theorem dX11_weigh_116 : decode cX11_weigh 116 = .ok (.iaload, 1) := by decide +kernel
theorem dX11_weigh_117 : decode cX11_weigh 117 = .ok (.iconst 1, 1) := by decide +kernel
theorem dX11_weigh_118 : decode cX11_weigh 118 = .ok (.if_icmp .ne 7, 3) := by decide +kernel
theorem dX11_weigh_121 : decode cX11_weigh 121 = .ok (.iconst 1, 1) := by decide +kernel
theorem dX11_weigh_122 : decode cX11_weigh 122 = .ok (.goto 4, 3) := by decide +kernel
theorem dX11_weigh_125 : decode cX11_weigh 125 = .ok (.iconst 0, 1) := by decide +kernel
theorem dX11_weigh_126 : decode cX11_weigh 126 = .ok (.invokestatic 258, 3) := by decide +kernel
theorem dX11_weigh_129 : decode cX11_weigh 129 = .ok (.iastore, 1) := by decide +kernel
theorem dX11_weigh_130 : decode cX11_weigh 130 = .ok (.aload 6, 2) := by decide +kernel
theorem dX11_weigh_132 : decode cX11_weigh 132 = .ok (.iconst 1, 1) := by decide +kernel
theorem dX11_weigh_133 : decode cX11_weigh 133 = .ok (.aload_n 0, 1) := by decide +kernel
theorem dX11_weigh_134 : decode cX11_weigh 134 = .ok (.getfield 39, 3) := by decide +kernel
theorem dX11_weigh_137 : decode cX11_weigh 137 = .ok (.getfield 255, 3) := by decide +kernel
theorem dX11_weigh_140 : decode cX11_weigh 140 = .ok (.iload_n 3, 1) := by decide +kernel
theorem dX11_weigh_141 : decode cX11_weigh 141 = .ok (.iaload, 1) := by decide +kernel
theorem dX11_weigh_142 : decode cX11_weigh 142 = .ok (.iconst 2, 1) := by decide +kernel
theorem dX11_weigh_143 : decode cX11_weigh 143 = .ok (.if_icmp .ne 7, 3) := by decide +kernel
theorem dX11_weigh_146 : decode cX11_weigh 146 = .ok (.iconst 1, 1) := by decide +kernel
theorem dX11_weigh_147 : decode cX11_weigh 147 = .ok (.goto 4, 3) := by decide +kernel
theorem dX11_weigh_150 : decode cX11_weigh 150 = .ok (.iconst 0, 1) := by decide +kernel
theorem dX11_weigh_151 : decode cX11_weigh 151 = .ok (.invokestatic 258, 3) := by decide +kernel
theorem dX11_weigh_154 : decode cX11_weigh 154 = .ok (.iastore, 1) := by decide +kernel
theorem dX11_weigh_155 : decode cX11_weigh 155 = .ok (.aload 6, 2) := by decide +kernel
theorem dX11_weigh_157 : decode cX11_weigh 157 = .ok (.iconst 2, 1) := by decide +kernel
theorem dX11_weigh_158 : decode cX11_weigh 158 = .ok (.aload_n 0, 1) := by decide +kernel
theorem dX11_weigh_159 : decode cX11_weigh 159 = .ok (.iload_n 3, 1) := by decide +kernel
theorem dX11_weigh_160 : decode cX11_weigh 160 = .ok (.invokevirtual 262, 3) := by decide +kernel
theorem dX11_weigh_163 : decode cX11_weigh 163 = .ok (.iastore, 1) := by decide +kernel
theorem dX11_weigh_164 : decode cX11_weigh 164 = .ok (.aload 6, 2) := by decide +kernel
theorem dX11_weigh_166 : decode cX11_weigh 166 = .ok (.iconst 3, 1) := by decide +kernel
theorem dX11_weigh_167 : decode cX11_weigh 167 = .ok (.aload_n 0, 1) := by decide +kernel
theorem dX11_weigh_168 : decode cX11_weigh 168 = .ok (.getfield 28, 3) := by decide +kernel
theorem dX11_weigh_171 : decode cX11_weigh 171 = .ok (.getfield 265, 3) := by decide +kernel
theorem dX11_weigh_174 : decode cX11_weigh 174 = .ok (.iload 4, 2) := by decide +kernel
theorem dX11_weigh_176 : decode cX11_weigh 176 = .ok (.iaload, 1) := by decide +kernel
theorem dX11_weigh_177 : decode cX11_weigh 177 = .ok (.iastore, 1) := by decide +kernel
theorem dX11_weigh_178 : decode cX11_weigh 178 = .ok (.aload 6, 2) := by decide +kernel
theorem dX11_weigh_180 : decode cX11_weigh 180 = .ok (.iconst 4, 1) := by decide +kernel
theorem dX11_weigh_181 : decode cX11_weigh 181 = .ok (.iload 5, 2) := by decide +kernel
theorem dX11_weigh_183 : decode cX11_weigh 183 = .ok (.sipush 365, 3) := by decide +kernel
theorem dX11_weigh_186 : decode cX11_weigh 186 = .ok (.idiv, 1) := by decide +kernel
theorem dX11_weigh_187 : decode cX11_weigh 187 = .ok (.iastore, 1) := by decide +kernel
theorem dX11_weigh_188 : decode cX11_weigh 188 = .ok (.aload 6, 2) := by decide +kernel
theorem dX11_weigh_190 : decode cX11_weigh 190 = .ok (.iconst 5, 1) := by decide +kernel
theorem dX11_weigh_191 : decode cX11_weigh 191 = .ok (.iload 5, 2) := by decide +kernel
theorem dX11_weigh_193 : decode cX11_weigh 193 = .ok (.aload_n 0, 1) := by decide +kernel
theorem dX11_weigh_194 : decode cX11_weigh 194 = .ok (.getfield 48, 3) := by decide +kernel
theorem dX11_weigh_197 : decode cX11_weigh 197 = .ok (.getfield 268, 3) := by decide +kernel
theorem dX11_weigh_200 : decode cX11_weigh 200 = .ok (.isub, 1) := by decide +kernel
theorem dX11_weigh_201 : decode cX11_weigh 201 = .ok (.sipush 365, 3) := by decide +kernel
theorem dX11_weigh_204 : decode cX11_weigh 204 = .ok (.idiv, 1) := by decide +kernel
theorem dX11_weigh_205 : decode cX11_weigh 205 = .ok (.iastore, 1) := by decide +kernel
theorem dX11_weigh_206 : decode cX11_weigh 206 = .ok (.aload 6, 2) := by decide +kernel
theorem dX11_weigh_208 : decode cX11_weigh 208 = .ok (.bipush 6, 2) := by decide +kernel
theorem dX11_weigh_210 : decode cX11_weigh 210 = .ok (.aload_n 0, 1) := by decide +kernel
theorem dX11_weigh_211 : decode cX11_weigh 211 = .ok (.getfield 48, 3) := by decide +kernel
theorem dX11_weigh_214 : decode cX11_weigh 214 = .ok (.getfield 271, 3) := by decide +kernel
theorem dX11_weigh_217 : decode cX11_weigh 217 = .ok (.iastore, 1) := by decide +kernel
theorem dX11_weigh_218 : decode cX11_weigh 218 = .ok (.aload 6, 2) := by decide +kernel
theorem dX11_weigh_220 : decode cX11_weigh 220 = .ok (.bipush 7, 2) := by decide +kernel
theorem dX11_weigh_222 : decode cX11_weigh 222 = .ok (.aload_n 0, 1) := by decide +kernel
theorem dX11_weigh_223 : decode cX11_weigh 223 = .ok (.getfield 48, 3) := by decide +kernel
theorem dX11_weigh_226 : decode cX11_weigh 226 = .ok (.getfield 150, 3) := by decide +kernel
theorem dX11_weigh_229 : decode cX11_weigh 229 = .ok (.aload_n 0, 1) := by decide +kernel
theorem dX11_weigh_230 : decode cX11_weigh 230 = .ok (.getfield 39, 3) := by decide +kernel
theorem dX11_weigh_233 : decode cX11_weigh 233 = .ok (.getfield 274, 3) := by decide +kernel
theorem dX11_weigh_236 : decode cX11_weigh 236 = .ok (.iload_n 3, 1) := by decide +kernel
theorem dX11_weigh_237 : decode cX11_weigh 237 = .ok (.iaload, 1) := by decide +kernel
theorem dX11_weigh_238 : decode cX11_weigh 238 = .ok (.if_icmp .ne 7, 3) := by decide +kernel
theorem dX11_weigh_241 : decode cX11_weigh 241 = .ok (.iconst 1, 1) := by decide +kernel
theorem dX11_weigh_242 : decode cX11_weigh 242 = .ok (.goto 4, 3) := by decide +kernel
theorem dX11_weigh_245 : decode cX11_weigh 245 = .ok (.iconst 0, 1) := by decide +kernel
theorem dX11_weigh_246 : decode cX11_weigh 246 = .ok (.invokestatic 258, 3) := by decide +kernel
theorem dX11_weigh_249 : decode cX11_weigh 249 = .ok (.iastore, 1) := by decide +kernel
theorem dX11_weigh_250 : decode cX11_weigh 250 = .ok (.aload 6, 2) := by decide +kernel
theorem dX11_weigh_252 : decode cX11_weigh 252 = .ok (.bipush 8, 2) := by decide +kernel
theorem dX11_weigh_254 : decode cX11_weigh 254 = .ok (.aload_n 0, 1) := by decide +kernel
theorem dX11_weigh_255 : decode cX11_weigh 255 = .ok (.getfield 10, 3) := by decide +kernel
theorem dX11_weigh_258 : decode cX11_weigh 258 = .ok (.aload_n 0, 1) := by decide +kernel
theorem dX11_weigh_259 : decode cX11_weigh 259 = .ok (.getfield 39, 3) := by decide +kernel
theorem dX11_weigh_262 : decode cX11_weigh 262 = .ok (.getfield 277, 3) := by decide +kernel
theorem dX11_weigh_265 : decode cX11_weigh 265 = .ok (.iload_n 3, 1) := by decide +kernel
theorem dX11_weigh_266 : decode cX11_weigh 266 = .ok (.iaload, 1) := by decide +kernel
theorem dX11_weigh_267 : decode cX11_weigh 267 = .ok (.iload_n 2, 1) := by decide +kernel
theorem dX11_weigh_268 : decode cX11_weigh 268 = .ok (.invokevirtual 280, 3) := by decide +kernel
theorem dX11_weigh_271 : decode cX11_weigh 271 = .ok (.invokestatic 258, 3) := by decide +kernel
theorem dX11_weigh_274 : decode cX11_weigh 274 = .ok (.iastore, 1) := by decide +kernel
theorem dX11_weigh_275 : decode cX11_weigh 275 = .ok (.iconst 1, 1) := by decide +kernel
theorem dX11_weigh_276 : decode cX11_weigh 276 = .ok (.ireturn, 1) := by decide +kernel
theorem dX11_priceOfLastYear_0 : decode cX11_priceOfLastYear 0 = .ok (.aload_n 0, 1) := by decide +kernel
theorem dX11_priceOfLastYear_1 : decode cX11_priceOfLastYear 1 = .ok (.getfield 39, 3) := by decide +kernel
theorem dX11_priceOfLastYear_4 : decode cX11_priceOfLastYear 4 = .ok (.getfield 252, 3) := by decide +kernel
theorem dX11_priceOfLastYear_7 : decode cX11_priceOfLastYear 7 = .ok (.iload_n 1, 1) := by decide +kernel
theorem dX11_priceOfLastYear_8 : decode cX11_priceOfLastYear 8 = .ok (.iaload, 1) := by decide +kernel
theorem dX11_priceOfLastYear_9 : decode cX11_priceOfLastYear 9 = .ok (.sipush 365, 3) := by decide +kernel
theorem dX11_priceOfLastYear_12 : decode cX11_priceOfLastYear 12 = .ok (.idiv, 1) := by decide +kernel
theorem dX11_priceOfLastYear_13 : decode cX11_priceOfLastYear 13 = .ok (.istore_n 2, 1) := by decide +kernel
theorem dX11_priceOfLastYear_14 : decode cX11_priceOfLastYear 14 = .ok (.aload_n 0, 1) := by decide +kernel
theorem dX11_priceOfLastYear_15 : decode cX11_priceOfLastYear 15 = .ok (.aload_n 0, 1) := by decide +kernel
theorem dX11_priceOfLastYear_16 : decode cX11_priceOfLastYear 16 = .ok (.getfield 39, 3) := by decide +kernel
theorem dX11_priceOfLastYear_19 : decode cX11_priceOfLastYear 19 = .ok (.getfield 283, 3) := by decide +kernel
theorem dX11_priceOfLastYear_22 : decode cX11_priceOfLastYear 22 = .ok (.iload_n 1, 1) := by decide +kernel
theorem dX11_priceOfLastYear_23 : decode cX11_priceOfLastYear 23 = .ok (.iaload, 1) := by decide +kernel
theorem dX11_priceOfLastYear_24 : decode cX11_priceOfLastYear 24 = .ok (.iload_n 2, 1) := by decide +kernel
theorem dX11_priceOfLastYear_25 : decode cX11_priceOfLastYear 25 = .ok (.bipush 99, 2) := by decide +kernel
theorem dX11_priceOfLastYear_27 : decode cX11_priceOfLastYear 27 = .ok (.invokevirtual 129, 3) := by decide +kernel
theorem dX11_priceOfLastYear_30 : decode cX11_priceOfLastYear 30 = .ok (.ldc2_w 286, 3) := by decide +kernel
theorem dX11_priceOfLastYear_33 : decode cX11_priceOfLastYear 33 = .ok (.invokestatic 288, 3) := by decide +kernel
theorem dX11_priceOfLastYear_36 : decode cX11_priceOfLastYear 36 = .ok (.l2i, 1) := by decide +kernel
theorem dX11_priceOfLastYear_37 : decode cX11_priceOfLastYear 37 = .ok (.ireturn, 1) := by decide +kernel
theorem dX12_init_0 : decode cX12_init 0 = .ok (.aload_n 0, 1) := by decide +kernel
theorem dX12_init_1 : decode cX12_init 1 = .ok (.invokespecial 1, 3) := by decide +kernel
theorem dX12_init_4 : decode cX12_init 4 = .ok (.aload_n 0, 1) := by decide +kernel
theorem dX12_init_5 : decode cX12_init 5 = .ok (.bipush 24, 2) := by decide +kernel
theorem dX12_init_7 : decode cX12_init 7 = .ok (.newarray .int, 2) := by decide +kernel
theorem dX12_init_9 : decode cX12_init 9 = .ok (.putfield 7, 3) := by decide +kernel
theorem dX12_init_12 : decode cX12_init 12 = .ok (.aload_n 0, 1) := by decide +kernel
theorem dX12_init_13 : decode cX12_init 13 = .ok (.bipush 24, 2) := by decide +kernel
theorem dX12_init_15 : decode cX12_init 15 = .ok (.newarray .int, 2) := by decide +kernel
theorem dX12_init_17 : decode cX12_init 17 = .ok (.putfield 13, 3) := by decide +kernel
theorem dX12_init_20 : decode cX12_init 20 = .ok (.aload_n 0, 1) := by decide +kernel
theorem dX12_init_21 : decode cX12_init 21 = .ok (.bipush 24, 2) := by decide +kernel
theorem dX12_init_23 : decode cX12_init 23 = .ok (.newarray .int, 2) := by decide +kernel
theorem dX12_init_25 : decode cX12_init 25 = .ok (.putfield 16, 3) := by decide +kernel
theorem dX12_init_28 : decode cX12_init 28 = .ok (.aload_n 0, 1) := by decide +kernel
theorem dX12_init_29 : decode cX12_init 29 = .ok (.bipush 8, 2) := by decide +kernel
theorem dX12_init_31 : decode cX12_init 31 = .ok (.newarray .int, 2) := by decide +kernel
theorem dX12_init_33 : decode cX12_init 33 = .ok (.putfield 19, 3) := by decide +kernel
theorem dX12_init_36 : decode cX12_init 36 = .ok (.aload_n 0, 1) := by decide +kernel
theorem dX12_init_37 : decode cX12_init 37 = .ok (.bipush 8, 2) := by decide +kernel
theorem dX12_init_39 : decode cX12_init 39 = .ok (.newarray .int, 2) := by decide +kernel
theorem dX12_init_41 : decode cX12_init 41 = .ok (.putfield 22, 3) := by decide +kernel
theorem dX12_init_44 : decode cX12_init 44 = .ok (.aload_n 0, 1) := by decide +kernel
theorem dX12_init_45 : decode cX12_init 45 = .ok (.bipush 100, 2) := by decide +kernel
theorem dX12_init_47 : decode cX12_init 47 = .ok (.newarray .int, 2) := by decide +kernel
theorem dX12_init_49 : decode cX12_init 49 = .ok (.putfield 25, 3) := by decide +kernel
theorem dX12_init_52 : decode cX12_init 52 = .ok (.aload_n 0, 1) := by decide +kernel
theorem dX12_init_53 : decode cX12_init 53 = .ok (.bipush 60, 2) := by decide +kernel
theorem dX12_init_55 : decode cX12_init 55 = .ok (.newarray .int, 2) := by decide +kernel
theorem dX12_init_57 : decode cX12_init 57 = .ok (.putfield 28, 3) := by decide +kernel
theorem dX12_init_60 : decode cX12_init 60 = .ok (.aload_n 0, 1) := by decide +kernel
theorem dX12_init_61 : decode cX12_init 61 = .ok (.bipush 60, 2) := by decide +kernel
theorem dX12_init_63 : decode cX12_init 63 = .ok (.newarray .int, 2) := by decide +kernel
theorem dX12_init_65 : decode cX12_init 65 = .ok (.putfield 31, 3) := by decide +kernel
theorem dX12_init_68 : decode cX12_init 68 = .ok (.aload_n 0, 1) := by decide +kernel
theorem dX12_init_69 : decode cX12_init 69 = .ok (.bipush 60, 2) := by decide +kernel
theorem dX12_init_71 : decode cX12_init 71 = .ok (.newarray .int, 2) := by decide +kernel
theorem dX12_init_73 : decode cX12_init 73 = .ok (.putfield 34, 3) := by decide +kernel
theorem dX12_init_76 : decode cX12_init 76 = .ok (.aload_n 0, 1) := by decide +kernel
theorem dX12_init_77 : decode cX12_init 77 = .ok (.bipush 60, 2) := by decide +kernel
theorem dX12_init_79 : decode cX12_init 79 = .ok (.newarray .int, 2) := by decide +kernel
theorem dX12_init_81 : decode cX12_init 81 = .ok (.putfield 37, 3) := by decide +kernel
theorem dX12_init_84 : decode cX12_init 84 = .ok (.aload_n 0, 1) := by decide +kernel
theorem dX12_init_85 : decode cX12_init 85 = .ok (.bipush 60, 2) := by decide +kernel
theorem dX12_init_87 : decode cX12_init 87 = .ok (.newarray .int, 2) := by decide +kernel
theorem dX12_init_89 : decode cX12_init 89 = .ok (.putfield 40, 3) := by decide +kernel
theorem dX12_init_92 : decode cX12_init 92 = .ok (.aload_n 0, 1) := by decide +kernel
theorem dX12_init_93 : decode cX12_init 93 = .ok (.bipush 60, 2) := by decide +kernel
theorem dX12_init_95 : decode cX12_init 95 = .ok (.newarray .int, 2) := by decide +kernel
theorem dX12_init_97 : decode cX12_init 97 = .ok (.putfield 43, 3) := by decide +kernel
theorem dX12_init_100 : decode cX12_init 100 = .ok (.aload_n 0, 1) := by decide +kernel
theorem dX12_init_101 : decode cX12_init 101 = .ok (.bipush 60, 2) := by decide +kernel
theorem dX12_init_103 : decode cX12_init 103 = .ok (.newarray .int, 2) := by decide +kernel
theorem dX12_init_105 : decode cX12_init 105 = .ok (.putfield 46, 3) := by decide +kernel
theorem dX12_init_108 : decode cX12_init 108 = .ok (.aload_n 0, 1) := by decide +kernel
theorem dX12_init_109 : decode cX12_init 109 = .ok (.bipush 60, 2) := by decide +kernel
theorem dX12_init_111 : decode cX12_init 111 = .ok (.newarray .int, 2) := by decide +kernel
theorem dX12_init_113 : decode cX12_init 113 = .ok (.putfield 49, 3) := by decide +kernel
theorem dX12_init_116 : decode cX12_init 116 = .ok (.aload_n 0, 1) := by decide +kernel
theorem dX12_init_117 : decode cX12_init 117 = .ok (.bipush 60, 2) := by decide +kernel
theorem dX12_init_119 : decode cX12_init 119 = .ok (.newarray .int, 2) := by decide +kernel
theorem dX12_init_121 : decode cX12_init 121 = .ok (.putfield 52, 3) := by decide +kernel
theorem dX12_init_124 : decode cX12_init 124 = .ok (.aload_n 0, 1) := by decide +kernel
theorem dX12_init_125 : decode cX12_init 125 = .ok (.bipush 60, 2) := by decide +kernel
theorem dX12_init_127 : decode cX12_init 127 = .ok (.newarray .boolean, 2) := by decide +kernel
theorem dX12_init_129 : decode cX12_init 129 = .ok (.putfield 55, 3) := by decide +kernel
theorem dX12_init_132 : decode cX12_init 132 = .ok (.aload_n 0, 1) := by decide +kernel
theorem dX12_init_133 : decode cX12_init 133 = .ok (.sipush 620, 3) := by decide +kernel
theorem dX12_init_136 : decode cX12_init 136 = .ok (.newarray .byte, 2) := by decide +kernel
theorem dX12_init_138 : decode cX12_init 138 = .ok (.putfield 59, 3) := by decide +kernel
theorem dX12_init_141 : decode cX12_init 141 = .ok (.aload_n 0, 1) := by decide +kernel
theorem dX12_init_142 : decode cX12_init 142 = .ok (.sipush 600, 3) := by decide +kernel
theorem dX12_init_145 : decode cX12_init 145 = .ok (.newarray .byte, 2) := by decide +kernel
theorem dX12_init_147 : decode cX12_init 147 = .ok (.putfield 63, 3) := by decide +kernel
theorem dX12_init_150 : decode cX12_init 150 = .ok (.aload_n 0, 1) := by decide +kernel
theorem dX12_init_151 : decode cX12_init 151 = .ok (.iconst (-1), 1) := by decide +kernel
theorem dX12_init_152 : decode cX12_init 152 = .ok (.putfield 66, 3) := by decide +kernel
theorem dX12_init_155 : decode cX12_init 155 = .ok (.aload_n 0, 1) := by decide +kernel
theorem dX12_init_156 : decode cX12_init 156 = .ok (.iconst 2, 1) := by decide +kernel
theorem dX12_init_157 : decode cX12_init 157 = .ok (.newarray .int, 2) := by decide +kernel
theorem dX12_init_159 : decode cX12_init 159 = .ok (.putfield 70, 3) := by decide +kernel
theorem dX12_init_162 : decode cX12_init 162 = .ok (.aload_n 0, 1) := by decide +kernel
theorem dX12_init_163 : decode cX12_init 163 = .ok (.bipush 32, 2) := by decide +kernel
theorem dX12_init_165 : decode cX12_init 165 = .ok (.newarray .int, 2) := by decide +kernel
theorem dX12_init_167 : decode cX12_init 167 = .ok (.putfield 73, 3) := by decide +kernel
theorem dX12_init_170 : decode cX12_init 170 = .ok (.aload_n 0, 1) := by decide +kernel
theorem dX12_init_171 : decode cX12_init 171 = .ok (.bipush 32, 2) := by decide +kernel
theorem dX12_init_173 : decode cX12_init 173 = .ok (.newarray .int, 2) := by decide +kernel
theorem dX12_init_175 : decode cX12_init 175 = .ok (.putfield 76, 3) := by decide +kernel
theorem dX12_init_178 : decode cX12_init 178 = .ok (.aload_n 0, 1) := by decide +kernel
theorem dX12_init_179 : decode cX12_init 179 = .ok (.bipush 32, 2) := by decide +kernel
theorem dX12_init_181 : decode cX12_init 181 = .ok (.newarray .int, 2) := by decide +kernel
theorem dX12_init_183 : decode cX12_init 183 = .ok (.putfield 79, 3) := by decide +kernel
theorem dX12_init_186 : decode cX12_init 186 = .ok (.aload_n 0, 1) := by decide +kernel
theorem dX12_init_187 : decode cX12_init 187 = .ok (.bipush 32, 2) := by decide +kernel
theorem dX12_init_189 : decode cX12_init 189 = .ok (.newarray .int, 2) := by decide +kernel
theorem dX12_init_191 : decode cX12_init 191 = .ok (.putfield 82, 3) := by decide +kernel
theorem dX12_init_194 : decode cX12_init 194 = .ok (.aload_n 0, 1) := by decide +kernel
theorem dX12_init_195 : decode cX12_init 195 = .ok (.sipush 1200, 3) := by decide +kernel
theorem dX12_init_198 : decode cX12_init 198 = .ok (.newarray .int, 2) := by decide +kernel
theorem dX12_init_200 : decode cX12_init 200 = .ok (.putfield 85, 3) := by decide +kernel
theorem dX12_init_203 : decode cX12_init 203 = .ok (.aload_n 0, 1) := by decide +kernel
theorem dX12_init_204 : decode cX12_init 204 = .ok (.sipush 1200, 3) := by decide +kernel
theorem dX12_init_207 : decode cX12_init 207 = .ok (.newarray .int, 2) := by decide +kernel
theorem dX12_init_209 : decode cX12_init 209 = .ok (.putfield 88, 3) := by decide +kernel
theorem dX12_init_212 : decode cX12_init 212 = .ok (.aload_n 0, 1) := by decide +kernel
theorem dX12_init_213 : decode cX12_init 213 = .ok (.bipush 60, 2) := by decide +kernel
theorem dX12_init_215 : decode cX12_init 215 = .ok (.newarray .int, 2) := by decide +kernel
theorem dX12_init_217 : decode cX12_init 217 = .ok (.putfield 91, 3) := by decide +kernel
theorem dX12_init_220 : decode cX12_init 220 = .ok (.aload_n 0, 1) := by decide +kernel
theorem dX12_init_221 : decode cX12_init 221 = .ok (.bipush 100, 2) := by decide +kernel
theorem dX12_init_223 : decode cX12_init 223 = .ok (.newarray .int, 2) := by decide +kernel
theorem dX12_init_225 : decode cX12_init 225 = .ok (.putfield 94, 3) := by decide +kernel
theorem dX12_init_228 : decode cX12_init 228 = .ok (.aload_n 0, 1) := by decide +kernel
theorem dX12_init_229 : decode cX12_init 229 = .ok (.bipush 9, 2) := by decide +kernel
theorem dX12_init_231 : decode cX12_init 231 = .ok (.newarray .int, 2) := by decide +kernel
theorem dX12_init_233 : decode cX12_init 233 = .ok (.putfield 97, 3) := by decide +kernel
theorem dX12_init_236 : decode cX12_init 236 = .ok (.aload_n 0, 1) := by decide +kernel
theorem dX12_init_237 : decode cX12_init 237 = .ok (.bipush 30, 2) := by decide +kernel
theorem dX12_init_239 : decode cX12_init 239 = .ok (.newarray .int, 2) := by decide +kernel
theorem dX12_init_241 : decode cX12_init 241 = .ok (.putfield 100, 3) := by decide +kernel
theorem dX12_init_244 : decode cX12_init 244 = .ok (.aload_n 0, 1) := by decide +kernel
theorem dX12_init_245 : decode cX12_init 245 = .ok (.bipush 24, 2) := by decide +kernel
theorem dX12_init_247 : decode cX12_init 247 = .ok (.newarray .long, 2) := by decide +kernel
theorem dX12_init_249 : decode cX12_init 249 = .ok (.putfield 103, 3) := by decide +kernel
theorem dX12_init_252 : decode cX12_init 252 = .ok (.aload_n 0, 1) := by decide +kernel
theorem dX12_init_253 : decode cX12_init 253 = .ok (.bipush 24, 2) := by decide +kernel
theorem dX12_init_255 : decode cX12_init 255 = .ok (.newarray .long, 2) := by decide +kernel
theorem dX12_init_257 : decode cX12_init 257 = .ok (.putfield 107, 3) := by decide +kernel
theorem dX12_init_260 : decode cX12_init 260 = .ok (.aload_n 0, 1) := by decide +kernel
theorem dX12_init_261 : decode cX12_init 261 = .ok (.bipush 24, 2) := by decide +kernel
theorem dX12_init_263 : decode cX12_init 263 = .ok (.newarray .boolean, 2) := by decide +kernel
theorem dX12_init_265 : decode cX12_init 265 = .ok (.putfield 110, 3) := by decide +kernel
theorem dX12_init_268 : decode cX12_init 268 = .ok (.aload_n 0, 1) := by decide +kernel
theorem dX12_init_269 : decode cX12_init 269 = .ok (.bipush 64, 2) := by decide +kernel
theorem dX12_init_271 : decode cX12_init 271 = .ok (.newarray .int, 2) := by decide +kernel
theorem dX12_init_273 : decode cX12_init 273 = .ok (.putfield 113, 3) := by decide +kernel
theorem dX12_init_276 : decode cX12_init 276 = .ok (.aload_n 0, 1) := by decide +kernel
theorem dX12_init_277 : decode cX12_init 277 = .ok (.sipush 2304, 3) := by decide +kernel
theorem dX12_init_280 : decode cX12_init 280 = .ok (.newarray .int, 2) := by decide +kernel
theorem dX12_init_282 : decode cX12_init 282 = .ok (.putfield 116, 3) := by decide +kernel
theorem dX12_init_285 : decode cX12_init 285 = .ok (.iconst 0, 1) := by decide +kernel
theorem dX12_init_286 : decode cX12_init 286 = .ok (.istore_n 1, 1) := by decide +kernel
theorem dX12_init_287 : decode cX12_init 287 = .ok (.iload_n 1, 1) := by decide +kernel
theorem dX12_init_288 : decode cX12_init 288 = .ok (.bipush 100, 2) := by decide +kernel
theorem dX12_init_290 : decode cX12_init 290 = .ok (.if_icmp .ge 17, 3) := by decide +kernel
theorem dX12_init_293 : decode cX12_init 293 = .ok (.aload_n 0, 1) := by decide +kernel
theorem dX12_init_294 : decode cX12_init 294 = .ok (.getfield 25, 3) := by decide +kernel
theorem dX12_init_297 : decode cX12_init 297 = .ok (.iload_n 1, 1) := by decide +kernel
theorem dX12_init_298 : decode cX12_init 298 = .ok (.bipush 100, 2) := by decide +kernel
theorem dX12_init_300 : decode cX12_init 300 = .ok (.iastore, 1) := by decide +kernel
theorem dX12_init_301 : decode cX12_init 301 = .ok (.iinc 1 1, 3) := by decide +kernel
theorem dX12_init_304 : decode cX12_init 304 = .ok (.goto (-17), 3) := by decide +kernel
theorem dX12_init_307 : decode cX12_init 307 = .ok (.return_, 1) := by decide +kernel
theorem dX12_isPerson_0 : decode cX12_isPerson 0 = .ok (.iload_n 1, 1) := by decide +kernel
theorem dX12_isPerson_1 : decode cX12_isPerson 1 = .ok (.ifCond .lt 15, 3) := by decide +kernel
theorem dX12_isPerson_4 : decode cX12_isPerson 4 = .ok (.iload_n 1, 1) := by decide +kernel
theorem dX12_isPerson_5 : decode cX12_isPerson 5 = .ok (.aload_n 0, 1) := by decide +kernel
theorem dX12_isPerson_6 : decode cX12_isPerson 6 = .ok (.getfield 119, 3) := by decide +kernel
theorem dX12_isPerson_9 : decode cX12_isPerson 9 = .ok (.if_icmp .ge 7, 3) := by decide +kernel
theorem dX12_isPerson_12 : decode cX12_isPerson 12 = .ok (.iconst 1, 1) := by decide +kernel
theorem dX12_isPerson_13 : decode cX12_isPerson 13 = .ok (.goto 4, 3) := by decide +kernel
theorem dX12_isPerson_16 : decode cX12_isPerson 16 = .ok (.iconst 0, 1) := by decide +kernel
theorem dX12_isPerson_17 : decode cX12_isPerson 17 = .ok (.ireturn, 1) := by decide +kernel
theorem dX12_isHouse_0 : decode cX12_isHouse 0 = .ok (.iload_n 1, 1) := by decide +kernel
theorem dX12_isHouse_1 : decode cX12_isHouse 1 = .ok (.ifCond .lt 15, 3) := by decide +kernel
theorem dX12_isHouse_4 : decode cX12_isHouse 4 = .ok (.iload_n 1, 1) := by decide +kernel
theorem dX12_isHouse_5 : decode cX12_isHouse 5 = .ok (.aload_n 0, 1) := by decide +kernel
theorem dX12_isHouse_6 : decode cX12_isHouse 6 = .ok (.getfield 122, 3) := by decide +kernel
theorem dX12_isHouse_9 : decode cX12_isHouse 9 = .ok (.if_icmp .ge 7, 3) := by decide +kernel
theorem dX12_isHouse_12 : decode cX12_isHouse 12 = .ok (.iconst 1, 1) := by decide +kernel
theorem dX12_isHouse_13 : decode cX12_isHouse 13 = .ok (.goto 4, 3) := by decide +kernel
theorem dX12_isHouse_16 : decode cX12_isHouse 16 = .ok (.iconst 0, 1) := by decide +kernel
theorem dX12_isHouse_17 : decode cX12_isHouse 17 = .ok (.ireturn, 1) := by decide +kernel
theorem dX12_isDay_0 : decode cX12_isDay 0 = .ok (.iload_n 0, 1) := by decide +kernel
theorem dX12_isDay_1 : decode cX12_isDay 1 = .ok (.ifCond .lt 13, 3) := by decide +kernel
theorem dX12_isDay_4 : decode cX12_isDay 4 = .ok (.iload_n 0, 1) := by decide +kernel
theorem dX12_isDay_5 : decode cX12_isDay 5 = .ok (.ldc 125, 2) := by decide +kernel
theorem dX12_isDay_7 : decode cX12_isDay 7 = .ok (.if_icmp .gt 7, 3) := by decide +kernel
theorem dX12_isDay_10 : decode cX12_isDay 10 = .ok (.iconst 1, 1) := by decide +kernel
theorem dX12_isDay_11 : decode cX12_isDay 11 = .ok (.goto 4, 3) := by decide +kernel
theorem dX12_isDay_14 : decode cX12_isDay 14 = .ok (.iconst 0, 1) := by decide +kernel
theorem dX12_isDay_15 : decode cX12_isDay 15 = .ok (.ireturn, 1) := by decide +kernel
theorem dX12_isSum_0 : decode cX12_isSum 0 = .ok (.iload_n 0, 1) := by decide +kernel
theorem dX12_isSum_1 : decode cX12_isSum 1 = .ok (.ifCond .lt 13, 3) := by decide +kernel
theorem dX12_isSum_4 : decode cX12_isSum 4 = .ok (.iload_n 0, 1) := by decide +kernel
theorem dX12_isSum_5 : decode cX12_isSum 5 = .ok (.ldc 126, 2) := by decide +kernel
theorem dX12_isSum_7 : decode cX12_isSum 7 = .ok (.if_icmp .gt 7, 3) := by decide +kernel
theorem dX12_isSum_10 : decode cX12_isSum 10 = .ok (.iconst 1, 1) := by decide +kernel
theorem dX12_isSum_11 : decode cX12_isSum 11 = .ok (.goto 4, 3) := by decide +kernel
theorem dX12_isSum_14 : decode cX12_isSum 14 = .ok (.iconst 0, 1) := by decide +kernel
theorem dX12_isSum_15 : decode cX12_isSum 15 = .ok (.ireturn, 1) := by decide +kernel
theorem dX12_person_0 : decode cX12_person 0 = .ok (.iload_n 1, 1) := by decide +kernel
theorem dX12_person_1 : decode cX12_person 1 = .ok (.iconst (-1), 1) := by decide +kernel
theorem dX12_person_2 : decode cX12_person 2 = .ok (.if_icmp .lt 33, 3) := by decide +kernel
theorem dX12_person_5 : decode cX12_person 5 = .ok (.iload_n 1, 1) := by decide +kernel
theorem dX12_person_6 : decode cX12_person 6 = .ok (.aload_n 0, 1) := by decide +kernel
theorem dX12_person_7 : decode cX12_person 7 = .ok (.getfield 119, 3) := by decide +kernel
theorem dX12_person_10 : decode cX12_person 10 = .ok (.if_icmp .ge 25, 3) := by decide +kernel
theorem dX12_person_13 : decode cX12_person 13 = .ok (.iload_n 2, 1) := by decide +kernel
theorem dX12_person_14 : decode cX12_person 14 = .ok (.iconst (-1), 1) := by decide +kernel
theorem dX12_person_15 : decode cX12_person 15 = .ok (.if_icmp .lt 20, 3) := by decide +kernel
theorem dX12_person_18 : decode cX12_person 18 = .ok (.iload_n 2, 1) := by decide +kernel
theorem dX12_person_19 : decode cX12_person 19 = .ok (.aload_n 0, 1) := by decide +kernel
theorem dX12_person_20 : decode cX12_person 20 = .ok (.getfield 119, 3) := by decide +kernel
theorem dX12_person_23 : decode cX12_person 23 = .ok (.if_icmp .ge 12, 3) := by decide +kernel
theorem dX12_person_26 : decode cX12_person 26 = .ok (.aload_n 0, 1) := by decide +kernel
theorem dX12_person_27 : decode cX12_person 27 = .ok (.getfield 119, 3) := by decide +kernel
theorem dX12_person_30 : decode cX12_person 30 = .ok (.bipush 24, 2) := by decide +kernel
theorem dX12_person_32 : decode cX12_person 32 = .ok (.if_icmp .ne 5, 3) := by decide +kernel
theorem dX12_person_35 : decode cX12_person 35 = .ok (.iconst (-1), 1) := by decide +kernel
theorem dX12_person_36 : decode cX12_person 36 = .ok (.ireturn, 1) := by decide +kernel
theorem dX12_person_37 : decode cX12_person 37 = .ok (.aload_n 0, 1) := by decide +kernel
theorem dX12_person_38 : decode cX12_person 38 = .ok (.getfield 7, 3) := by decide +kernel
theorem dX12_person_41 : decode cX12_person 41 = .ok (.aload_n 0, 1) := by decide +kernel
theorem dX12_person_42 : decode cX12_person 42 = .ok (.getfield 119, 3) := by decide +kernel
theorem dX12_person_45 : decode cX12_person 45 = .ok (.iload_n 1, 1) := by decide +kernel
theorem dX12_person_46 : decode cX12_person 46 = .ok (.iastore, 1) := by decide +kernel
theorem dX12_person_47 : decode cX12_person 47 = .ok (.aload_n 0, 1) := by decide +kernel
theorem dX12_person_48 : decode cX12_person 48 = .ok (.getfield 13, 3) := by decide +kernel
theorem dX12_person_51 : decode cX12_person 51 = .ok (.aload_n 0, 1) := by decide +kernel
theorem dX12_person_52 : decode cX12_person 52 = .ok (.getfield 119, 3) := by decide +kernel
theorem dX12_person_55 : decode cX12_person 55 = .ok (.iload_n 2, 1) := by decide +kernel
theorem dX12_person_56 : decode cX12_person 56 = .ok (.iastore, 1) := by decide +kernel
theorem dX12_person_57 : decode cX12_person 57 = .ok (.aload_n 0, 1) := by decide +kernel
theorem dX12_person_58 : decode cX12_person 58 = .ok (.getfield 16, 3) := by decide +kernel
theorem dX12_person_61 : decode cX12_person 61 = .ok (.aload_n 0, 1) := by decide +kernel
theorem dX12_person_62 : decode cX12_person 62 = .ok (.getfield 119, 3) := by decide +kernel
theorem dX12_person_65 : decode cX12_person 65 = .ok (.iconst (-1), 1) := by decide +kernel
theorem dX12_person_66 : decode cX12_person 66 = .ok (.iastore, 1) := by decide +kernel
theorem dX12_person_67 : decode cX12_person 67 = .ok (.aload_n 0, 1) := by decide +kernel
theorem dX12_person_68 : decode cX12_person 68 = .ok (.dup, 1) := by decide +kernel
theorem dX12_person_69 : decode cX12_person 69 = .ok (.getfield 119, 3) := by decide +kernel
theorem dX12_person_72 : decode cX12_person 72 = .ok (.iconst 1, 1) := by decide +kernel
theorem dX12_person_73 : decode cX12_person 73 = .ok (.iadd, 1) := by decide +kernel
theorem dX12_person_74 : decode cX12_person 74 = .ok (.putfield 119, 3) := by decide +kernel
theorem dX12_person_77 : decode cX12_person 77 = .ok (.aload_n 0, 1) := by decide +kernel
theorem dX12_person_78 : decode cX12_person 78 = .ok (.getfield 119, 3) := by decide +kernel
theorem dX12_person_81 : decode cX12_person 81 = .ok (.iconst 1, 1) := by decide +kernel
theorem dX12_person_82 : decode cX12_person 82 = .ok (.isub, 1) := by decide +kernel
theorem dX12_person_83 : decode cX12_person 83 = .ok (.ireturn, 1) := by decide +kernel
theorem dX12_dead_0 : decode cX12_dead 0 = .ok (.aload_n 0, 1) := by decide +kernel
theorem dX12_dead_1 : decode cX12_dead 1 = .ok (.iload_n 1, 1) := by decide +kernel
theorem dX12_dead_2 : decode cX12_dead 2 = .ok (.invokevirtual 127, 3) := by decide +kernel
theorem dX12_dead_5 : decode cX12_dead 5 = .ok (.ifCond .eq 19, 3) := by decide +kernel
theorem dX12_dead_8 : decode cX12_dead 8 = .ok (.aload_n 0, 1) := by decide +kernel
theorem dX12_dead_9 : decode cX12_dead 9 = .ok (.getfield 16, 3) := by decide +kernel
theorem dX12_dead_12 : decode cX12_dead 12 = .ok (.iload_n 1, 1) := by decide +kernel
theorem dX12_dead_13 : decode cX12_dead 13 = .ok (.iaload, 1) := by decide +kernel
theorem dX12_dead_14 : decode cX12_dead 14 = .ok (.ifCond .ge 10, 3) := by decide +kernel
theorem dX12_dead_17 : decode cX12_dead 17 = .ok (.iload_n 2, 1) := by decide +kernel
theorem dX12_dead_18 : decode cX12_dead 18 = .ok (.invokestatic 131, 3) := by decide +kernel
theorem dX12_dead_21 : decode cX12_dead 21 = .ok (.ifCond .ne 5, 3) := by decide +kernel
theorem dX12_dead_24 : decode cX12_dead 24 = .ok (.iconst 0, 1) := by decide +kernel
theorem dX12_dead_25 : decode cX12_dead 25 = .ok (.ireturn, 1) := by decide +kernel
theorem dX12_dead_26 : decode cX12_dead 26 = .ok (.aload_n 0, 1) := by decide +kernel
theorem dX12_dead_27 : decode cX12_dead 27 = .ok (.getfield 16, 3) := by decide +kernel
theorem dX12_dead_30 : decode cX12_dead 30 = .ok (.iload_n 1, 1) := by decide +kernel
theorem dX12_dead_31 : decode cX12_dead 31 = .ok (.iload_n 2, 1) := by decide +kernel
theorem dX12_dead_32 : decode cX12_dead 32 = .ok (.iastore, 1) := by decide +kernel
theorem dX12_dead_33 : decode cX12_dead 33 = .ok (.iconst 1, 1) := by decide +kernel
theorem dX12_dead_34 : decode cX12_dead 34 = .ok (.ireturn, 1) := by decide +kernel
theorem dX12_isDead_0 : decode cX12_isDead 0 = .ok (.aload_n 0, 1) := by decide +kernel
theorem dX12_isDead_1 : decode cX12_isDead 1 = .ok (.getfield 16, 3) := by decide +kernel
theorem dX12_isDead_4 : decode cX12_isDead 4 = .ok (.iload_n 1, 1) := by decide +kernel
theorem dX12_isDead_5 : decode cX12_isDead 5 = .ok (.iaload, 1) := by decide +kernel
theorem dX12_isDead_6 : decode cX12_isDead 6 = .ok (.ifCond .lt 17, 3) := by decide +kernel
theorem dX12_isDead_9 : decode cX12_isDead 9 = .ok (.aload_n 0, 1) := by decide +kernel
theorem dX12_isDead_10 : decode cX12_isDead 10 = .ok (.getfield 16, 3) := by decide +kernel
theorem dX12_isDead_13 : decode cX12_isDead 13 = .ok (.iload_n 1, 1) := by decide +kernel
theorem dX12_isDead_14 : decode cX12_isDead 14 = .ok (.iaload, 1) := by decide +kernel
theorem dX12_isDead_15 : decode cX12_isDead 15 = .ok (.iload_n 2, 1) := by decide +kernel
theorem dX12_isDead_16 : decode cX12_isDead 16 = .ok (.if_icmp .gt 7, 3) := by decide +kernel
theorem dX12_isDead_19 : decode cX12_isDead 19 = .ok (.iconst 1, 1) := by decide +kernel
theorem dX12_isDead_20 : decode cX12_isDead 20 = .ok (.goto 4, 3) := by decide +kernel
theorem dX12_isDead_23 : decode cX12_isDead 23 = .ok (.iconst 0, 1) := by decide +kernel
theorem dX12_isDead_24 : decode cX12_isDead 24 = .ok (.ireturn, 1) := by decide +kernel
theorem dX12_house_0 : decode cX12_house 0 = .ok (.aload_n 0, 1) := by decide +kernel
theorem dX12_house_1 : decode cX12_house 1 = .ok (.iload_n 1, 1) := by decide +kernel
theorem dX12_house_2 : decode cX12_house 2 = .ok (.invokevirtual 127, 3) := by decide +kernel
theorem dX12_house_5 : decode cX12_house 5 = .ok (.ifCond .eq 19, 3) := by decide +kernel
theorem dX12_house_8 : decode cX12_house 8 = .ok (.iload_n 2, 1) := by decide +kernel
theorem dX12_house_9 : decode cX12_house 9 = .ok (.invokestatic 134, 3) := by decide +kernel
theorem dX12_house_12 : decode cX12_house 12 = .ok (.ifCond .eq 12, 3) := by decide +kernel
theorem dX12_house_15 : decode cX12_house 15 = .ok (.aload_n 0, 1) := by decide +kernel
theorem dX12_house_16 : decode cX12_house 16 = .ok (.getfield 122, 3) := by decide +kernel
theorem dX12_house_19 : decode cX12_house 19 = .ok (.bipush 8, 2) := by decide +kernel
theorem dX12_house_21 : decode cX12_house 21 = .ok (.if_icmp .ne 5, 3) := by decide +kernel
theorem dX12_house_24 : decode cX12_house 24 = .ok (.iconst (-1), 1) := by decide +kernel
theorem dX12_house_25 : decode cX12_house 25 = .ok (.ireturn, 1) := by decide +kernel
theorem dX12_house_26 : decode cX12_house 26 = .ok (.aload_n 0, 1) := by decide +kernel
theorem dX12_house_27 : decode cX12_house 27 = .ok (.getfield 19, 3) := by decide +kernel
theorem dX12_house_30 : decode cX12_house 30 = .ok (.aload_n 0, 1) := by decide +kernel
theorem dX12_house_31 : decode cX12_house 31 = .ok (.getfield 122, 3) := by decide +kernel
theorem dX12_house_34 : decode cX12_house 34 = .ok (.iload_n 1, 1) := by decide +kernel
theorem dX12_house_35 : decode cX12_house 35 = .ok (.iastore, 1) := by decide +kernel
theorem dX12_house_36 : decode cX12_house 36 = .ok (.aload_n 0, 1) := by decide +kernel
theorem dX12_house_37 : decode cX12_house 37 = .ok (.getfield 22, 3) := by decide +kernel
theorem dX12_house_40 : decode cX12_house 40 = .ok (.aload_n 0, 1) := by decide +kernel
theorem dX12_house_41 : decode cX12_house 41 = .ok (.getfield 122, 3) := by decide +kernel
theorem dX12_house_44 : decode cX12_house 44 = .ok (.iload_n 2, 1) := by decide +kernel
theorem dX12_house_45 : decode cX12_house 45 = .ok (.iastore, 1) := by decide +kernel
theorem dX12_house_46 : decode cX12_house 46 = .ok (.aload_n 0, 1) := by decide +kernel
theorem dX12_house_47 : decode cX12_house 47 = .ok (.dup, 1) := by decide +kernel
theorem dX12_house_48 : decode cX12_house 48 = .ok (.getfield 122, 3) := by decide +kernel
theorem dX12_house_51 : decode cX12_house 51 = .ok (.iconst 1, 1) := by decide +kernel
theorem dX12_house_52 : decode cX12_house 52 = .ok (.iadd, 1) := by decide +kernel
theorem dX12_house_53 : decode cX12_house 53 = .ok (.putfield 122, 3) := by decide +kernel
theorem dX12_house_56 : decode cX12_house 56 = .ok (.aload_n 0, 1) := by decide +kernel
theorem dX12_house_57 : decode cX12_house 57 = .ok (.getfield 122, 3) := by decide +kernel
theorem dX12_house_60 : decode cX12_house 60 = .ok (.iconst 1, 1) := by decide +kernel
theorem dX12_house_61 : decode cX12_house 61 = .ok (.isub, 1) := by decide +kernel
theorem dX12_house_62 : decode cX12_house 62 = .ok (.ireturn, 1) := by decide +kernel
theorem dX12_isYear_0 : decode cX12_isYear 0 = .ok (.iload_n 0, 1) := by decide +kernel
theorem dX12_isYear_1 : decode cX12_isYear 1 = .ok (.ifCond .lt 13, 3) := by decide +kernel
theorem dX12_isYear_4 : decode cX12_isYear 4 = .ok (.iload_n 0, 1) := by decide +kernel
theorem dX12_isYear_5 : decode cX12_isYear 5 = .ok (.bipush 100, 2) := by decide +kernel
theorem dX12_isYear_7 : decode cX12_isYear 7 = .ok (.if_icmp .ge 7, 3) := by decide +kernel
theorem dX12_isYear_10 : decode cX12_isYear 10 = .ok (.iconst 1, 1) := by decide +kernel
theorem dX12_isYear_11 : decode cX12_isYear 11 = .ok (.goto 4, 3) := by decide +kernel
theorem dX12_isYear_14 : decode cX12_isYear 14 = .ok (.iconst 0, 1) := by decide +kernel
theorem dX12_isYear_15 : decode cX12_isYear 15 = .ok (.ireturn, 1) := by decide +kernel
theorem dX12_level_0 : decode cX12_level 0 = .ok (.iload_n 1, 1) := by decide +kernel
theorem dX12_level_1 : decode cX12_level 1 = .ok (.invokestatic 137, 3) := by decide +kernel
theorem dX12_level_4 : decode cX12_level 4 = .ok (.ifCond .eq 15, 3) := by decide +kernel
theorem dX12_level_7 : decode cX12_level 7 = .ok (.iload_n 2, 1) := by decide +kernel
theorem dX12_level_8 : decode cX12_level 8 = .ok (.iconst 1, 1) := by decide +kernel
theorem dX12_level_9 : decode cX12_level 9 = .ok (.if_icmp .lt 10, 3) := by decide +kernel
theorem dX12_level_12 : decode cX12_level 12 = .ok (.iload_n 2, 1) := by decide +kernel
theorem dX12_level_13 : decode cX12_level 13 = .ok (.sipush 10000, 3) := by decide +kernel
theorem dX12_level_16 : decode cX12_level 16 = .ok (.if_icmp .le 5, 3) := by decide +kernel
theorem dX12_level_19 : decode cX12_level 19 = .ok (.iconst 0, 1) := by decide +kernel
theorem dX12_level_20 : decode cX12_level 20 = .ok (.ireturn, 1) := by decide +kernel
theorem dX12_level_21 : decode cX12_level 21 = .ok (.aload_n 0, 1) := by decide +kernel
theorem dX12_level_22 : decode cX12_level 22 = .ok (.getfield 25, 3) := by decide +kernel
theorem dX12_level_25 : decode cX12_level 25 = .ok (.iload_n 1, 1) := by decide +kernel
theorem dX12_level_26 : decode cX12_level 26 = .ok (.iload_n 2, 1) := by decide +kernel
theorem dX12_level_27 : decode cX12_level 27 = .ok (.iastore, 1) := by decide +kernel
theorem dX12_level_28 : decode cX12_level 28 = .ok (.iconst 1, 1) := by decide +kernel
theorem dX12_level_29 : decode cX12_level 29 = .ok (.ireturn, 1) := by decide +kernel
theorem dX12_turned_0 : decode cX12_turned 0 = .ok (.iload_n 1, 1) := by decide +kernel
theorem dX12_turned_1 : decode cX12_turned 1 = .ok (.i2l, 1) := by decide +kernel
theorem dX12_turned_2 : decode cX12_turned 2 = .ok (.aload_n 0, 1) := by decide +kernel
theorem dX12_turned_3 : decode cX12_turned 3 = .ok (.getfield 25, 3) := by decide +kernel
theorem dX12_turned_6 : decode cX12_turned 6 = .ok (.iload_n 3, 1) := by decide +kernel
theorem dX12_turned_7 : decode cX12_turned 7 = .ok (.iaload, 1) := by decide +kernel
theorem dX12_turned_8 : decode cX12_turned 8 = .ok (.i2l, 1) := by decide +kernel
theorem dX12_turned_9 : decode cX12_turned 9 = .ok (.lmul, 1) := by decide +kernel
theorem dX12_turned_10 : decode cX12_turned 10 = .ok (.aload_n 0, 1) := by decide +kernel
theorem dX12_turned_11 : decode cX12_turned 11 = .ok (.getfield 25, 3) := by decide +kernel
theorem dX12_turned_14 : decode cX12_turned 14 = .ok (.iload_n 2, 1) := by decide +kernel
theorem dX12_turned_15 : decode cX12_turned 15 = .ok (.iaload, 1) := by decide +kernel
theorem dX12_turned_16 : decode cX12_turned 16 = .ok (.i2l, 1) := by decide +kernel
theorem dX12_turned_17 : decode cX12_turned 17 = .ok (.ldiv, 1) := by decide +kernel
theorem dX12_turned_18 : decode cX12_turned 18 = .ok (.lreturn, 1) := by decide +kernel
theorem dX12_money_0 : decode cX12_money 0 = .ok (.iload_n 1, 1) := by decide +kernel
theorem dX12_money_1 : decode cX12_money 1 = .ok (.invokestatic 134, 3) := by decide +kernel
theorem dX12_money_4 : decode cX12_money 4 = .ok (.ifCond .eq 27, 3) := by decide +kernel
theorem dX12_money_7 : decode cX12_money 7 = .ok (.iload_n 2, 1) := by decide +kernel
theorem dX12_money_8 : decode cX12_money 8 = .ok (.invokestatic 137, 3) := by decide +kernel
theorem dX12_money_11 : decode cX12_money 11 = .ok (.ifCond .eq 20, 3) := by decide +kernel
theorem dX12_money_14 : decode cX12_money 14 = .ok (.iload_n 3, 1) := by decide +kernel
theorem dX12_money_15 : decode cX12_money 15 = .ok (.invokestatic 137, 3) := by decide +kernel
theorem dX12_money_18 : decode cX12_money 18 = .ok (.ifCond .eq 13, 3) := by decide +kernel
theorem dX12_money_21 : decode cX12_money 21 = .ok (.aload_n 0, 1) := by decide +kernel
theorem dX12_money_22 : decode cX12_money 22 = .ok (.iload_n 1, 1) := by decide +kernel
theorem dX12_money_23 : decode cX12_money 23 = .ok (.iload_n 2, 1) := by decide +kernel
theorem dX12_money_24 : decode cX12_money 24 = .ok (.iload_n 3, 1) := by decide +kernel
theorem dX12_money_25 : decode cX12_money 25 = .ok (.invokevirtual 140, 3) := by decide +kernel
theorem dX12_money_28 : decode cX12_money 28 = .ok (.goto 6, 3) := by decide +kernel
theorem dX12_money_31 : decode cX12_money 31 = .ok (.ldc2_w 144, 3) := by decide +kernel
theorem dX12_money_34 : decode cX12_money 34 = .ok (.lreturn, 1) := by decide +kernel
theorem dX12_paper_0 : decode cX12_paper 0 = .ok (.aload_n 0, 1) := by decide +kernel
theorem dX12_paper_1 : decode cX12_paper 1 = .ok (.iload_n 1, 1) := by decide +kernel
theorem dX12_paper_2 : decode cX12_paper 2 = .ok (.invokevirtual 146, 3) := by decide +kernel
theorem dX12_paper_5 : decode cX12_paper 5 = .ok (.ifCond .eq 66, 3) := by decide +kernel
theorem dX12_paper_8 : decode cX12_paper 8 = .ok (.aload_n 0, 1) := by decide +kernel
theorem dX12_paper_9 : decode cX12_paper 9 = .ok (.iload_n 2, 1) := by decide +kernel
theorem dX12_paper_10 : decode cX12_paper 10 = .ok (.invokevirtual 127, 3) := by decide +kernel
theorem dX12_paper_13 : decode cX12_paper 13 = .ok (.ifCond .eq 58, 3) := by decide +kernel
theorem dX12_paper_16 : decode cX12_paper 16 = .ok (.aload_n 0, 1) := by decide +kernel
theorem dX12_paper_17 : decode cX12_paper 17 = .ok (.iload_n 3, 1) := by decide +kernel
theorem dX12_paper_18 : decode cX12_paper 18 = .ok (.invokevirtual 127, 3) := by decide +kernel
theorem dX12_paper_21 : decode cX12_paper 21 = .ok (.ifCond .eq 50, 3) := by decide +kernel
theorem dX12_paper_24 : decode cX12_paper 24 = .ok (.iload_n 2, 1) := by decide +kernel
theorem dX12_paper_25 : decode cX12_paper 25 = .ok (.iload_n 3, 1) := by decide +kernel
theorem dX12_paper_26 : decode cX12_paper 26 = .ok (.if_icmp .eq 45, 3) := by decide +kernel
theorem dX12_paper_29 : decode cX12_paper 29 = .ok (.iload 4, 2) := by decide +kernel
theorem dX12_paper_31 : decode cX12_paper 31 = .ok (.ifCond .lt 40, 3) := by decide +kernel
theorem dX12_paper_34 : decode cX12_paper 34 = .ok (.iload 4, 2) := by decide +kernel
theorem dX12_paper_36 : decode cX12_paper 36 = .ok (.aload_n 0, 1) := by decide +kernel
theorem dX12_paper_37 : decode cX12_paper 37 = .ok (.getfield 149, 3) := by decide +kernel
theorem dX12_paper_40 : decode cX12_paper 40 = .ok (.if_icmp .gt 31, 3) := by decide +kernel
theorem dX12_paper_43 : decode cX12_paper 43 = .ok (.iload 5, 2) := by decide +kernel
theorem dX12_paper_45 : decode cX12_paper 45 = .ok (.ifCond .lt 26, 3) := by decide +kernel
theorem dX12_paper_48 : decode cX12_paper 48 = .ok (.iload 5, 2) := by decide +kernel
theorem dX12_paper_50 : decode cX12_paper 50 = .ok (.iconst 2, 1) := by decide +kernel
theorem dX12_paper_51 : decode cX12_paper 51 = .ok (.if_icmp .gt 20, 3) := by decide +kernel
theorem dX12_paper_54 : decode cX12_paper 54 = .ok (.iload 6, 2) := by decide +kernel
theorem dX12_paper_56 : decode cX12_paper 56 = .ok (.invokestatic 134, 3) := by decide +kernel
theorem dX12_paper_59 : decode cX12_paper 59 = .ok (.ifCond .eq 12, 3) := by decide +kernel
theorem dX12_paper_62 : decode cX12_paper 62 = .ok (.aload_n 0, 1) := by decide +kernel
theorem dX12_paper_63 : decode cX12_paper 63 = .ok (.getfield 152, 3) := by decide +kernel
