theorem inX4 : ∀ w ∈ wsX40, w ∈ lw_tbl := by decide +kernel
theorem inJ6 : ∀ w ∈ wsJ60, w ∈ lw_tbl := by decide +kernel
theorem inJ9 : ∀ w ∈ wsJ90, w ∈ lw_tbl := by decide +kernel
theorem dX0_init_0 : decode cX0_init 0 = .ok (.aload_n 0, 1) := by decide +kernel
theorem dX0_init_1 : decode cX0_init 1 = .ok (.invokespecial 1, 3) := by decide +kernel
theorem dX0_init_4 : decode cX0_init 4 = .ok (.aload_n 0, 1) := by decide +kernel
theorem dX0_init_5 : decode cX0_init 5 = .ok (.iconst 3, 1) := by decide +kernel
theorem dX0_init_6 : decode cX0_init 6 = .ok (.newarray .int, 2) := by decide +kernel
theorem dX0_init_8 : decode cX0_init 8 = .ok (.putfield 9, 3) := by decide +kernel
theorem dX0_init_11 : decode cX0_init 11 = .ok (.aload_n 0, 1) := by decide +kernel
theorem dX0_init_12 : decode cX0_init 12 = .ok (.iconst 3, 1) := by decide +kernel
theorem dX0_init_13 : decode cX0_init 13 = .ok (.newarray .int, 2) := by decide +kernel
theorem dX0_init_15 : decode cX0_init 15 = .ok (.putfield 13, 3) := by decide +kernel
theorem dX0_init_18 : decode cX0_init 18 = .ok (.aload_n 0, 1) := by decide +kernel
theorem dX0_init_19 : decode cX0_init 19 = .ok (.iconst 0, 1) := by decide +kernel
theorem dX0_init_20 : decode cX0_init 20 = .ok (.putfield 16, 3) := by decide +kernel
theorem dX0_init_23 : decode cX0_init 23 = .ok (.return_, 1) := by decide +kernel
theorem dX0_clearAll_0 : decode cX0_clearAll 0 = .ok (.aload_n 0, 1) := by decide +kernel
theorem dX0_clearAll_1 : decode cX0_clearAll 1 = .ok (.iconst 0, 1) := by decide +kernel
theorem dX0_clearAll_2 : decode cX0_clearAll 2 = .ok (.putfield 16, 3) := by decide +kernel
theorem dX0_clearAll_5 : decode cX0_clearAll 5 = .ok (.return_, 1) := by decide +kernel
theorem dX0_put_0 : decode cX0_put 0 = .ok (.aload_n 0, 1) := by decide +kernel
theorem dX0_put_1 : decode cX0_put 1 = .ok (.getfield 16, 3) := by decide +kernel
theorem dX0_put_4 : decode cX0_put 4 = .ok (.iconst 3, 1) := by decide +kernel
theorem dX0_put_5 : decode cX0_put 5 = .ok (.if_icmp .ge 33, 3) := by decide +kernel
theorem dX0_put_8 : decode cX0_put 8 = .ok (.aload_n 0, 1) := by decide +kernel
theorem dX0_put_9 : decode cX0_put 9 = .ok (.getfield 9, 3) := by decide +kernel
theorem dX0_put_12 : decode cX0_put 12 = .ok (.aload_n 0, 1) := by decide +kernel
theorem dX0_put_13 : decode cX0_put 13 = .ok (.getfield 16, 3) := by decide +kernel
theorem dX0_put_16 : decode cX0_put 16 = .ok (.iload_n 1, 1) := by decide +kernel
theorem dX0_put_17 : decode cX0_put 17 = .ok (.iastore, 1) := by decide +kernel
theorem dX0_put_18 : decode cX0_put 18 = .ok (.aload_n 0, 1) := by decide +kernel
theorem dX0_put_19 : decode cX0_put 19 = .ok (.getfield 13, 3) := by decide +kernel
theorem dX0_put_22 : decode cX0_put 22 = .ok (.aload_n 0, 1) := by decide +kernel
theorem dX0_put_23 : decode cX0_put 23 = .ok (.getfield 16, 3) := by decide +kernel
theorem dX0_put_26 : decode cX0_put 26 = .ok (.iload_n 2, 1) := by decide +kernel
theorem dX0_put_27 : decode cX0_put 27 = .ok (.iastore, 1) := by decide +kernel
theorem dX0_put_28 : decode cX0_put 28 = .ok (.aload_n 0, 1) := by decide +kernel
theorem dX0_put_29 : decode cX0_put 29 = .ok (.dup, 1) := by decide +kernel
theorem dX0_put_30 : decode cX0_put 30 = .ok (.getfield 16, 3) := by decide +kernel
theorem dX0_put_33 : decode cX0_put 33 = .ok (.iconst 1, 1) := by decide +kernel
theorem dX0_put_34 : decode cX0_put 34 = .ok (.iadd, 1) := by decide +kernel
theorem dX0_put_35 : decode cX0_put 35 = .ok (.putfield 16, 3) := by decide +kernel
theorem dX0_put_38 : decode cX0_put 38 = .ok (.return_, 1) := by decide +kernel
theorem dX1_init_0 : decode cX1_init 0 = .ok (.aload_n 0, 1) := by decide +kernel
theorem dX1_init_1 : decode cX1_init 1 = .ok (.invokespecial 1, 3) := by decide +kernel
theorem dX1_init_4 : decode cX1_init 4 = .ok (.return_, 1) := by decide +kernel
theorem dX1_takes_0 : decode cX1_takes 0 = .ok (.iload_n 0, 1) := by decide +kernel
theorem dX1_takes_1 : decode cX1_takes 1 = .ok (.ifCond .lt 30, 3) := by decide +kernel
theorem dX1_takes_4 : decode cX1_takes 4 = .ok (.iload_n 0, 1) := by decide +kernel
theorem dX1_takes_5 : decode cX1_takes 5 = .ok (.iconst 5, 1) := by decide +kernel
theorem dX1_takes_6 : decode cX1_takes 6 = .ok (.if_icmp .ge 25, 3) := by decide +kernel
theorem dX1_takes_9 : decode cX1_takes 9 = .ok (.iload_n 1, 1) := by decide +kernel
theorem dX1_takes_10 : decode cX1_takes 10 = .ok (.getstatic 9, 3) := by decide +kernel
theorem dX1_takes_13 : decode cX1_takes 13 = .ok (.iload_n 0, 1) := by decide +kernel
theorem dX1_takes_14 : decode cX1_takes 14 = .ok (.iaload, 1) := by decide +kernel
theorem dX1_takes_15 : decode cX1_takes 15 = .ok (.if_icmp .lt 16, 3) := by decide +kernel
theorem dX1_takes_18 : decode cX1_takes 18 = .ok (.iload_n 1, 1) := by decide +kernel
theorem dX1_takes_19 : decode cX1_takes 19 = .ok (.getstatic 13, 3) := by decide +kernel
theorem dX1_takes_22 : decode cX1_takes 22 = .ok (.iload_n 0, 1) := by decide +kernel
theorem dX1_takes_23 : decode cX1_takes 23 = .ok (.iaload, 1) := by decide +kernel
theorem dX1_takes_24 : decode cX1_takes 24 = .ok (.if_icmp .gt 7, 3) := by decide +kernel
theorem dX1_takes_27 : decode cX1_takes 27 = .ok (.iconst 1, 1) := by decide +kernel
theorem dX1_takes_28 : decode cX1_takes 28 = .ok (.goto 4, 3) := by decide +kernel
theorem dX1_takes_31 : decode cX1_takes 31 = .ok (.iconst 0, 1) := by decide +kernel
theorem dX1_takes_32 : decode cX1_takes 32 = .ok (.ireturn, 1) := by decide +kernel
theorem dX1_renew_0 : decode cX1_renew 0 = .ok (.aload_n 0, 1) := by decide +kernel
theorem dX1_renew_1 : decode cX1_renew 1 = .ok (.iconst 1, 1) := by decide +kernel
theorem dX1_renew_2 : decode cX1_renew 2 = .ok (.putfield 16, 3) := by decide +kernel
theorem dX1_renew_5 : decode cX1_renew 5 = .ok (.aload_n 0, 1) := by decide +kernel
theorem dX1_renew_6 : decode cX1_renew 6 = .ok (.iconst 0, 1) := by decide +kernel
theorem dX1_renew_7 : decode cX1_renew 7 = .ok (.putfield 20, 3) := by decide +kernel
theorem dX1_renew_10 : decode cX1_renew 10 = .ok (.aload_n 0, 1) := by decide +kernel
theorem dX1_renew_11 : decode cX1_renew 11 = .ok (.iconst 0, 1) := by decide +kernel
theorem dX1_renew_12 : decode cX1_renew 12 = .ok (.putfield 23, 3) := by decide +kernel
theorem dX1_renew_15 : decode cX1_renew 15 = .ok (.aload_n 0, 1) := by decide +kernel
theorem dX1_renew_16 : decode cX1_renew 16 = .ok (.iload_n 1, 1) := by decide +kernel
theorem dX1_renew_17 : decode cX1_renew 17 = .ok (.putfield 26, 3) := by decide +kernel
theorem dX1_renew_20 : decode cX1_renew 20 = .ok (.aload_n 0, 1) := by decide +kernel
theorem dX1_renew_21 : decode cX1_renew 21 = .ok (.iload_n 2, 1) := by decide +kernel
theorem dX1_renew_22 : decode cX1_renew 22 = .ok (.putfield 30, 3) := by decide +kernel
theorem dX1_renew_25 : decode cX1_renew 25 = .ok (.aload_n 0, 1) := by decide +kernel
theorem dX1_renew_26 : decode cX1_renew 26 = .ok (.iload_n 3, 1) := by decide +kernel
theorem dX1_renew_27 : decode cX1_renew 27 = .ok (.putfield 33, 3) := by decide +kernel
theorem dX1_renew_30 : decode cX1_renew 30 = .ok (.aload_n 0, 1) := by decide +kernel
theorem dX1_renew_31 : decode cX1_renew 31 = .ok (.iconst 0, 1) := by decide +kernel
theorem dX1_renew_32 : decode cX1_renew 32 = .ok (.putfield 36, 3) := by decide +kernel
theorem dX1_renew_35 : decode cX1_renew 35 = .ok (.aload_n 0, 1) := by decide +kernel
theorem dX1_renew_36 : decode cX1_renew 36 = .ok (.sipush 1000, 3) := by decide +kernel
theorem dX1_renew_39 : decode cX1_renew 39 = .ok (.putfield 39, 3) := by decide +kernel
theorem dX1_renew_42 : decode cX1_renew 42 = .ok (.aload_n 0, 1) := by decide +kernel
theorem dX1_renew_43 : decode cX1_renew 43 = .ok (.sipush 600, 3) := by decide +kernel
theorem dX1_renew_46 : decode cX1_renew 46 = .ok (.putfield 42, 3) := by decide +kernel
theorem dX1_renew_49 : decode cX1_renew 49 = .ok (.aload_n 0, 1) := by decide +kernel
theorem dX1_renew_50 : decode cX1_renew 50 = .ok (.iconst 0, 1) := by decide +kernel
theorem dX1_renew_51 : decode cX1_renew 51 = .ok (.putfield 45, 3) := by decide +kernel
theorem dX1_renew_54 : decode cX1_renew 54 = .ok (.aload_n 0, 1) := by decide +kernel
theorem dX1_renew_55 : decode cX1_renew 55 = .ok (.iconst 0, 1) := by decide +kernel
theorem dX1_renew_56 : decode cX1_renew 56 = .ok (.putfield 48, 3) := by decide +kernel
theorem dX1_renew_59 : decode cX1_renew 59 = .ok (.aload_n 0, 1) := by decide +kernel
theorem dX1_renew_60 : decode cX1_renew 60 = .ok (.iconst 0, 1) := by decide +kernel
theorem dX1_renew_61 : decode cX1_renew 61 = .ok (.putfield 51, 3) := by decide +kernel
theorem dX1_renew_64 : decode cX1_renew 64 = .ok (.return_, 1) := by decide +kernel
theorem dX1_number_0 : decode cX1_number 0 = .ok (.iload_n 1, 1) := by decide +kernel
theorem dX1_number_1 : decode cX1_number 1 = .ok (.tableswitch 51 0 3 #[31, 36, 41, 46], 31) := by decide +kernel
theorem dX1_number_32 : decode cX1_number 32 = .ok (.aload_n 0, 1) := by decide +kernel
theorem dX1_number_33 : decode cX1_number 33 = .ok (.getfield 39, 3) := by decide +kernel
theorem dX1_number_36 : decode cX1_number 36 = .ok (.ireturn, 1) := by decide +kernel
theorem dX1_number_37 : decode cX1_number 37 = .ok (.aload_n 0, 1) := by decide +kernel
theorem dX1_number_38 : decode cX1_number 38 = .ok (.getfield 42, 3) := by decide +kernel
theorem dX1_number_41 : decode cX1_number 41 = .ok (.ireturn, 1) := by decide +kernel
theorem dX1_number_42 : decode cX1_number 42 = .ok (.aload_n 0, 1) := by decide +kernel
theorem dX1_number_43 : decode cX1_number 43 = .ok (.getfield 45, 3) := by decide +kernel
theorem dX1_number_46 : decode cX1_number 46 = .ok (.ireturn, 1) := by decide +kernel
theorem dX1_number_47 : decode cX1_number 47 = .ok (.aload_n 0, 1) := by decide +kernel
theorem dX1_number_48 : decode cX1_number 48 = .ok (.getfield 48, 3) := by decide +kernel
theorem dX1_number_51 : decode cX1_number 51 = .ok (.ireturn, 1) := by decide +kernel
theorem dX1_number_52 : decode cX1_number 52 = .ok (.aload_n 0, 1) := by decide +kernel
theorem dX1_number_53 : decode cX1_number 53 = .ok (.getfield 51, 3) := by decide +kernel
theorem dX1_number_56 : decode cX1_number 56 = .ok (.ireturn, 1) := by decide +kernel
theorem dX1_putNumber_0 : decode cX1_putNumber 0 = .ok (.iload_n 1, 1) := by decide +kernel
theorem dX1_putNumber_1 : decode cX1_putNumber 1 = .ok (.tableswitch 63 0 3 #[31, 39, 47, 55], 31) := by decide +kernel
theorem dX1_putNumber_32 : decode cX1_putNumber 32 = .ok (.aload_n 0, 1) := by decide +kernel
theorem dX1_putNumber_33 : decode cX1_putNumber 33 = .ok (.iload_n 2, 1) := by decide +kernel
theorem dX1_putNumber_34 : decode cX1_putNumber 34 = .ok (.putfield 39, 3) := by decide +kernel
theorem dX1_putNumber_37 : decode cX1_putNumber 37 = .ok (.goto 32, 3) := by decide +kernel
theorem dX1_putNumber_40 : decode cX1_putNumber 40 = .ok (.aload_n 0, 1) := by decide +kernel
theorem dX1_putNumber_41 : decode cX1_putNumber 41 = .ok (.iload_n 2, 1) := by decide +kernel
theorem dX1_putNumber_42 : decode cX1_putNumber 42 = .ok (.putfield 42, 3) := by decide +kernel
theorem dX1_putNumber_45 : decode cX1_putNumber 45 = .ok (.goto 24, 3) := by decide +kernel
theorem dX1_putNumber_48 : decode cX1_putNumber 48 = .ok (.aload_n 0, 1) := by decide +kernel
theorem dX1_putNumber_49 : decode cX1_putNumber 49 = .ok (.iload_n 2, 1) := by decide +kernel
theorem dX1_putNumber_50 : decode cX1_putNumber 50 = .ok (.putfield 45, 3) := by decide +kernel
theorem dX1_putNumber_53 : decode cX1_putNumber 53 = .ok (.goto 16, 3) := by decide +kernel
theorem dX1_putNumber_56 : decode cX1_putNumber 56 = .ok (.aload_n 0, 1) := by decide +kernel
theorem dX1_putNumber_57 : decode cX1_putNumber 57 = .ok (.iload_n 2, 1) := by decide +kernel
theorem dX1_putNumber_58 : decode cX1_putNumber 58 = .ok (.putfield 48, 3) := by decide +kernel
theorem dX1_putNumber_61 : decode cX1_putNumber 61 = .ok (.goto 8, 3) := by decide +kernel
theorem dX1_putNumber_64 : decode cX1_putNumber 64 = .ok (.aload_n 0, 1) := by decide +kernel
theorem dX1_putNumber_65 : decode cX1_putNumber 65 = .ok (.iload_n 2, 1) := by decide +kernel
theorem dX1_putNumber_66 : decode cX1_putNumber 66 = .ok (.putfield 51, 3) := by decide +kernel
theorem dX1_putNumber_69 : decode cX1_putNumber 69 = .ok (.return_, 1) := by decide +kernel
set_option maxRecDepth 20000 in
theorem ggX1_ownAmps_X1_coldAmps : GoodIn wsX1_ownAmps wsX1_coldAmps := goodIn_r _ [8, 9, 10, 11, 12, 13, 14, 15, 16, 17, 18, 19, 20, 21, 22, 23, 24, 25, 26, 27, 28, 29] (by decide +kernel) (by decide +kernel)
set_option maxRecDepth 20000 in
theorem gX1_ownAmps_X1_coldAmps : GoodIn wsX1_ownAmps (wsV RX1 54 RX1 yX1_coldAmps wsX1_coldAmps) := goodIn_app (goodIn_of _ (by decide +kernel)) ggX1_ownAmps_X1_coldAmps
set_option maxRecDepth 20000 in
theorem ggX1_ownAmps_J9_floorDiv_7cf53 : GoodIn wsX1_ownAmps wsJ9_floorDiv_7cf53 := goodIn_r _ [17] (by decide +kernel) (by decide +kernel)
set_option maxRecDepth 20000 in
theorem gX1_ownAmps_J9_floorDiv_7cf53 : GoodIn wsX1_ownAmps (va_wsS RX1 58 yJ9_floorDiv_7cf53 wsJ9_floorDiv_7cf53) := goodIn_app (goodIn_of _ (by decide +kernel)) ggX1_ownAmps_J9_floorDiv_7cf53
theorem dX1_ownAmps_0 : decode cX1_ownAmps 0 = .ok (.sipush 1000, 3) := by decide +kernel
theorem dX1_ownAmps_3 : decode cX1_ownAmps 3 = .ok (.aload_n 0, 1) := by decide +kernel
theorem dX1_ownAmps_4 : decode cX1_ownAmps 4 = .ok (.getfield 51, 3) := by decide +kernel
theorem dX1_ownAmps_7 : decode cX1_ownAmps 7 = .ok (.aload_n 0, 1) := by decide +kernel
theorem dX1_ownAmps_8 : decode cX1_ownAmps 8 = .ok (.getfield 36, 3) := by decide +kernel
theorem dX1_ownAmps_11 : decode cX1_ownAmps 11 = .ok (.imul, 1) := by decide +kernel
theorem dX1_ownAmps_12 : decode cX1_ownAmps 12 = .ok (.iadd, 1) := by decide +kernel
theorem dX1_ownAmps_13 : decode cX1_ownAmps 13 = .ok (.istore_n 2, 1) := by decide +kernel
theorem dX1_ownAmps_14 : decode cX1_ownAmps 14 = .ok (.aload_n 0, 1) := by decide +kernel
theorem dX1_ownAmps_15 : decode cX1_ownAmps 15 = .ok (.getfield 20, 3) := by decide +kernel
theorem dX1_ownAmps_18 : decode cX1_ownAmps 18 = .ok (.ifCond .ne 8, 3) := by decide +kernel
theorem dX1_ownAmps_21 : decode cX1_ownAmps 21 = .ok (.iload_n 2, 1) := by decide +kernel
theorem dX1_ownAmps_22 : decode cX1_ownAmps 22 = .ok (.iconst 1, 1) := by decide +kernel
theorem dX1_ownAmps_23 : decode cX1_ownAmps 23 = .ok (.if_icmp .ge 5, 3) := by decide +kernel
theorem dX1_ownAmps_26 : decode cX1_ownAmps 26 = .ok (.iconst 0, 1) := by decide +kernel
theorem dX1_ownAmps_27 : decode cX1_ownAmps 27 = .ok (.ireturn, 1) := by decide +kernel
theorem dX1_ownAmps_28 : decode cX1_ownAmps 28 = .ok (.sipush 1000, 3) := by decide +kernel
theorem dX1_ownAmps_31 : decode cX1_ownAmps 31 = .ok (.aload_n 0, 1) := by decide +kernel
theorem dX1_ownAmps_32 : decode cX1_ownAmps 32 = .ok (.iload_n 1, 1) := by decide +kernel
theorem dX1_ownAmps_33 : decode cX1_ownAmps 33 = .ok (.invokevirtual 54, 3) := by decide +kernel
theorem dX1_ownAmps_36 : decode cX1_ownAmps 36 = .ok (.imul, 1) := by decide +kernel
theorem dX1_ownAmps_37 : decode cX1_ownAmps 37 = .ok (.iload_n 2, 1) := by decide +kernel
theorem dX1_ownAmps_38 : decode cX1_ownAmps 38 = .ok (.invokestatic 58, 3) := by decide +kernel
theorem dX1_ownAmps_41 : decode cX1_ownAmps 41 = .ok (.ireturn, 1) := by decide +kernel
set_option maxRecDepth 20000 in
theorem ggX1_coldAmps_J9_floorDiv_7cf53 : GoodIn wsX1_coldAmps wsJ9_floorDiv_7cf53 := goodIn_r _ [9] (by decide +kernel) (by decide +kernel)
set_option maxRecDepth 20000 in
theorem gX1_coldAmps_J9_floorDiv_7cf53 : GoodIn wsX1_coldAmps (va_wsS RX1 58 yJ9_floorDiv_7cf53 wsJ9_floorDiv_7cf53) := goodIn_app (goodIn_of _ (by decide +kernel)) ggX1_coldAmps_J9_floorDiv_7cf53
theorem dX1_coldAmps_0 : decode cX1_coldAmps 0 = .ok (.aload_n 0, 1) := by decide +kernel
theorem dX1_coldAmps_1 : decode cX1_coldAmps 1 = .ok (.getfield 33, 3) := by decide +kernel
theorem dX1_coldAmps_4 : decode cX1_coldAmps 4 = .ok (.ifCond .eq 18, 3) := by decide +kernel
theorem dX1_coldAmps_7 : decode cX1_coldAmps 7 = .ok (.aload_n 0, 1) := by decide +kernel
theorem dX1_coldAmps_8 : decode cX1_coldAmps 8 = .ok (.getfield 33, 3) := by decide +kernel
theorem dX1_coldAmps_11 : decode cX1_coldAmps 11 = .ok (.iconst 3, 1) := by decide +kernel
theorem dX1_coldAmps_12 : decode cX1_coldAmps 12 = .ok (.if_icmp .ne 23, 3) := by decide +kernel
theorem dX1_coldAmps_15 : decode cX1_coldAmps 15 = .ok (.aload_n 0, 1) := by decide +kernel
theorem dX1_coldAmps_16 : decode cX1_coldAmps 16 = .ok (.getfield 23, 3) := by decide +kernel
theorem dX1_coldAmps_19 : decode cX1_coldAmps 19 = .ok (.ifCond .eq 16, 3) := by decide +kernel
theorem dX1_coldAmps_22 : decode cX1_coldAmps 22 = .ok (.iload_n 1, 1) := by decide +kernel
theorem dX1_coldAmps_23 : decode cX1_coldAmps 23 = .ok (.aload_n 0, 1) := by decide +kernel
theorem dX1_coldAmps_24 : decode cX1_coldAmps 24 = .ok (.getfield 39, 3) := by decide +kernel
theorem dX1_coldAmps_27 : decode cX1_coldAmps 27 = .ok (.imul, 1) := by decide +kernel
theorem dX1_coldAmps_28 : decode cX1_coldAmps 28 = .ok (.sipush 1000, 3) := by decide +kernel
theorem dX1_coldAmps_31 : decode cX1_coldAmps 31 = .ok (.invokestatic 58, 3) := by decide +kernel
theorem dX1_coldAmps_34 : decode cX1_coldAmps 34 = .ok (.ireturn, 1) := by decide +kernel
theorem dX1_coldAmps_35 : decode cX1_coldAmps 35 = .ok (.iload_n 1, 1) := by decide +kernel
theorem dX1_coldAmps_36 : decode cX1_coldAmps 36 = .ok (.aload_n 0, 1) := by decide +kernel
theorem dX1_coldAmps_37 : decode cX1_coldAmps 37 = .ok (.getfield 45, 3) := by decide +kernel
theorem dX1_coldAmps_40 : decode cX1_coldAmps 40 = .ok (.imul, 1) := by decide +kernel
theorem dX1_coldAmps_41 : decode cX1_coldAmps 41 = .ok (.sipush 1000, 3) := by decide +kernel
theorem dX1_coldAmps_44 : decode cX1_coldAmps 44 = .ok (.invokestatic 58, 3) := by decide +kernel
theorem dX1_coldAmps_47 : decode cX1_coldAmps 47 = .ok (.istore_n 2, 1) := by decide +kernel
theorem dX1_coldAmps_48 : decode cX1_coldAmps 48 = .ok (.iload_n 1, 1) := by decide +kernel
theorem dX1_coldAmps_49 : decode cX1_coldAmps 49 = .ok (.aload_n 0, 1) := by decide +kernel
theorem dX1_coldAmps_50 : decode cX1_coldAmps 50 = .ok (.getfield 42, 3) := by decide +kernel
theorem dX1_coldAmps_53 : decode cX1_coldAmps 53 = .ok (.if_icmp .le 31, 3) := by decide +kernel
theorem dX1_coldAmps_56 : decode cX1_coldAmps 56 = .ok (.aload_n 0, 1) := by decide +kernel
theorem dX1_coldAmps_57 : decode cX1_coldAmps 57 = .ok (.getfield 33, 3) := by decide +kernel
theorem dX1_coldAmps_60 : decode cX1_coldAmps 60 = .ok (.iconst 3, 1) := by decide +kernel
theorem dX1_coldAmps_61 : decode cX1_coldAmps 61 = .ok (.if_icmp .eq 23, 3) := by decide +kernel
theorem dX1_coldAmps_64 : decode cX1_coldAmps 64 = .ok (.iload_n 2, 1) := by decide +kernel
theorem dX1_coldAmps_65 : decode cX1_coldAmps 65 = .ok (.iload_n 1, 1) := by decide +kernel
theorem dX1_coldAmps_66 : decode cX1_coldAmps 66 = .ok (.aload_n 0, 1) := by decide +kernel
theorem dX1_coldAmps_67 : decode cX1_coldAmps 67 = .ok (.getfield 42, 3) := by decide +kernel
theorem dX1_coldAmps_70 : decode cX1_coldAmps 70 = .ok (.isub, 1) := by decide +kernel
theorem dX1_coldAmps_71 : decode cX1_coldAmps 71 = .ok (.aload_n 0, 1) := by decide +kernel
theorem dX1_coldAmps_72 : decode cX1_coldAmps 72 = .ok (.getfield 39, 3) := by decide +kernel
theorem dX1_coldAmps_75 : decode cX1_coldAmps 75 = .ok (.imul, 1) := by decide +kernel
theorem dX1_coldAmps_76 : decode cX1_coldAmps 76 = .ok (.sipush 1000, 3) := by decide +kernel
theorem dX1_coldAmps_79 : decode cX1_coldAmps 79 = .ok (.invokestatic 58, 3) := by decide +kernel
theorem dX1_coldAmps_82 : decode cX1_coldAmps 82 = .ok (.iadd, 1) := by decide +kernel
theorem dX1_coldAmps_83 : decode cX1_coldAmps 83 = .ok (.istore_n 2, 1) := by decide +kernel
theorem dX1_coldAmps_84 : decode cX1_coldAmps 84 = .ok (.iload_n 1, 1) := by decide +kernel
theorem dX1_coldAmps_85 : decode cX1_coldAmps 85 = .ok (.aload_n 0, 1) := by decide +kernel
theorem dX1_coldAmps_86 : decode cX1_coldAmps 86 = .ok (.getfield 42, 3) := by decide +kernel
theorem dX1_coldAmps_89 : decode cX1_coldAmps 89 = .ok (.ineg, 1) := by decide +kernel
theorem dX1_coldAmps_90 : decode cX1_coldAmps 90 = .ok (.if_icmp .ge 31, 3) := by decide +kernel
theorem dX1_coldAmps_93 : decode cX1_coldAmps 93 = .ok (.aload_n 0, 1) := by decide +kernel
theorem dX1_coldAmps_94 : decode cX1_coldAmps 94 = .ok (.getfield 33, 3) := by decide +kernel
theorem dX1_coldAmps_97 : decode cX1_coldAmps 97 = .ok (.iconst 2, 1) := by decide +kernel
theorem dX1_coldAmps_98 : decode cX1_coldAmps 98 = .ok (.if_icmp .ne 23, 3) := by decide +kernel
theorem dX1_coldAmps_101 : decode cX1_coldAmps 101 = .ok (.iload_n 2, 1) := by decide +kernel
theorem dX1_coldAmps_102 : decode cX1_coldAmps 102 = .ok (.iload_n 1, 1) := by decide +kernel
theorem dX1_coldAmps_103 : decode cX1_coldAmps 103 = .ok (.aload_n 0, 1) := by decide +kernel
theorem dX1_coldAmps_104 : decode cX1_coldAmps 104 = .ok (.getfield 42, 3) := by decide +kernel
theorem dX1_coldAmps_107 : decode cX1_coldAmps 107 = .ok (.iadd, 1) := by decide +kernel
theorem dX1_coldAmps_108 : decode cX1_coldAmps 108 = .ok (.aload_n 0, 1) := by decide +kernel
theorem dX1_coldAmps_109 : decode cX1_coldAmps 109 = .ok (.getfield 39, 3) := by decide +kernel
theorem dX1_coldAmps_112 : decode cX1_coldAmps 112 = .ok (.imul, 1) := by decide +kernel
theorem dX1_coldAmps_113 : decode cX1_coldAmps 113 = .ok (.sipush 1000, 3) := by decide +kernel
theorem dX1_coldAmps_116 : decode cX1_coldAmps 116 = .ok (.invokestatic 58, 3) := by decide +kernel
theorem dX1_coldAmps_119 : decode cX1_coldAmps 119 = .ok (.iadd, 1) := by decide +kernel
theorem dX1_coldAmps_120 : decode cX1_coldAmps 120 = .ok (.istore_n 2, 1) := by decide +kernel
theorem dX1_coldAmps_121 : decode cX1_coldAmps 121 = .ok (.iload_n 2, 1) := by decide +kernel
theorem dX1_coldAmps_122 : decode cX1_coldAmps 122 = .ok (.ireturn, 1) := by decide +kernel
theorem dX1_snapsOpenAt_0 : decode cX1_snapsOpenAt 0 = .ok (.aload_n 0, 1) := by decide +kernel
theorem dX1_snapsOpenAt_1 : decode cX1_snapsOpenAt 1 = .ok (.getfield 33, 3) := by decide +kernel
theorem dX1_snapsOpenAt_4 : decode cX1_snapsOpenAt 4 = .ok (.iconst 3, 1) := by decide +kernel
theorem dX1_snapsOpenAt_5 : decode cX1_snapsOpenAt 5 = .ok (.if_icmp .ne 29, 3) := by decide +kernel
theorem dX1_snapsOpenAt_8 : decode cX1_snapsOpenAt 8 = .ok (.aload_n 0, 1) := by decide +kernel
theorem dX1_snapsOpenAt_9 : decode cX1_snapsOpenAt 9 = .ok (.getfield 23, 3) := by decide +kernel
theorem dX1_snapsOpenAt_12 : decode cX1_snapsOpenAt 12 = .ok (.ifCond .ne 22, 3) := by decide +kernel
theorem dX1_snapsOpenAt_15 : decode cX1_snapsOpenAt 15 = .ok (.aload_n 0, 1) := by decide +kernel
theorem dX1_snapsOpenAt_16 : decode cX1_snapsOpenAt 16 = .ok (.getfield 20, 3) := by decide +kernel
theorem dX1_snapsOpenAt_19 : decode cX1_snapsOpenAt 19 = .ok (.ifCond .ne 15, 3) := by decide +kernel
theorem dX1_snapsOpenAt_22 : decode cX1_snapsOpenAt 22 = .ok (.iload_n 1, 1) := by decide +kernel
theorem dX1_snapsOpenAt_23 : decode cX1_snapsOpenAt 23 = .ok (.aload_n 0, 1) := by decide +kernel
theorem dX1_snapsOpenAt_24 : decode cX1_snapsOpenAt 24 = .ok (.getfield 42, 3) := by decide +kernel
theorem dX1_snapsOpenAt_27 : decode cX1_snapsOpenAt 27 = .ok (.if_icmp .lt 7, 3) := by decide +kernel
theorem dX1_snapsOpenAt_30 : decode cX1_snapsOpenAt 30 = .ok (.iconst 1, 1) := by decide +kernel
theorem dX1_snapsOpenAt_31 : decode cX1_snapsOpenAt 31 = .ok (.goto 4, 3) := by decide +kernel
theorem dX1_snapsOpenAt_34 : decode cX1_snapsOpenAt 34 = .ok (.iconst 0, 1) := by decide +kernel
theorem dX1_snapsOpenAt_35 : decode cX1_snapsOpenAt 35 = .ok (.ireturn, 1) := by decide +kernel
theorem dX1_shutBelow_0 : decode cX1_shutBelow 0 = .ok (.aload_n 0, 1) := by decide +kernel
theorem dX1_shutBelow_1 : decode cX1_shutBelow 1 = .ok (.getfield 33, 3) := by decide +kernel
theorem dX1_shutBelow_4 : decode cX1_shutBelow 4 = .ok (.iconst 3, 1) := by decide +kernel
theorem dX1_shutBelow_5 : decode cX1_shutBelow 5 = .ok (.if_icmp .ne 23, 3) := by decide +kernel
theorem dX1_shutBelow_8 : decode cX1_shutBelow 8 = .ok (.aload_n 0, 1) := by decide +kernel
theorem dX1_shutBelow_9 : decode cX1_shutBelow 9 = .ok (.getfield 23, 3) := by decide +kernel
theorem dX1_shutBelow_12 : decode cX1_shutBelow 12 = .ok (.ifCond .eq 16, 3) := by decide +kernel
theorem dX1_shutBelow_15 : decode cX1_shutBelow 15 = .ok (.iload_n 1, 1) := by decide +kernel
theorem dX1_shutBelow_16 : decode cX1_shutBelow 16 = .ok (.aload_n 0, 1) := by decide +kernel
theorem dX1_shutBelow_17 : decode cX1_shutBelow 17 = .ok (.getfield 48, 3) := by decide +kernel
theorem dX1_shutBelow_20 : decode cX1_shutBelow 20 = .ok (.if_icmp .ge 8, 3) := by decide +kernel
theorem dX1_shutBelow_23 : decode cX1_shutBelow 23 = .ok (.aload_n 0, 1) := by decide +kernel
theorem dX1_shutBelow_24 : decode cX1_shutBelow 24 = .ok (.iconst 0, 1) := by decide +kernel
theorem dX1_shutBelow_25 : decode cX1_shutBelow 25 = .ok (.putfield 23, 3) := by decide +kernel
theorem dX1_shutBelow_28 : decode cX1_shutBelow 28 = .ok (.return_, 1) := by decide +kernel
theorem dX1_warm_0 : decode cX1_warm 0 = .ok (.iload_n 1, 1) := by decide +kernel
theorem dX1_warm_1 : decode cX1_warm 1 = .ok (.i2l, 1) := by decide +kernel
theorem dX1_warm_2 : decode cX1_warm 2 = .ok (.iload_n 2, 1) := by decide +kernel
theorem dX1_warm_3 : decode cX1_warm 3 = .ok (.i2l, 1) := by decide +kernel
theorem dX1_warm_4 : decode cX1_warm 4 = .ok (.lmul, 1) := by decide +kernel
theorem dX1_warm_5 : decode cX1_warm 5 = .ok (.iload_n 3, 1) := by decide +kernel
theorem dX1_warm_6 : decode cX1_warm 6 = .ok (.i2l, 1) := by decide +kernel
theorem dX1_warm_7 : decode cX1_warm 7 = .ok (.lmul, 1) := by decide +kernel
theorem dX1_warm_8 : decode cX1_warm 8 = .ok (.invokestatic 64, 3) := by decide +kernel
theorem dX1_warm_11 : decode cX1_warm 11 = .ok (.lstore 4, 2) := by decide +kernel
theorem dX1_warm_13 : decode cX1_warm 13 = .ok (.aload_n 0, 1) := by decide +kernel
theorem dX1_warm_14 : decode cX1_warm 14 = .ok (.getfield 36, 3) := by decide +kernel
theorem dX1_warm_17 : decode cX1_warm 17 = .ok (.lload 4, 2) := by decide +kernel
theorem dX1_warm_19 : decode cX1_warm 19 = .ok (.ldc2_w 68, 3) := by decide +kernel
theorem dX1_warm_22 : decode cX1_warm 22 = .ok (.ldiv, 1) := by decide +kernel
theorem dX1_warm_23 : decode cX1_warm 23 = .ok (.l2i, 1) := by decide +kernel
theorem dX1_warm_24 : decode cX1_warm 24 = .ok (.iadd, 1) := by decide +kernel
theorem dX1_warm_25 : decode cX1_warm 25 = .ok (.istore 6, 2) := by decide +kernel
theorem dX1_warm_27 : decode cX1_warm 27 = .ok (.aload_n 0, 1) := by decide +kernel
theorem dX1_warm_28 : decode cX1_warm 28 = .ok (.iload 6, 2) := by decide +kernel
theorem dX1_warm_30 : decode cX1_warm 30 = .ok (.sipush 1000, 3) := by decide +kernel
theorem dX1_warm_33 : decode cX1_warm 33 = .ok (.invokestatic 70, 3) := by decide +kernel
theorem dX1_warm_36 : decode cX1_warm 36 = .ok (.putfield 36, 3) := by decide +kernel
theorem dX1_warm_39 : decode cX1_warm 39 = .ok (.iload 6, 2) := by decide +kernel
theorem dX1_warm_41 : decode cX1_warm 41 = .ok (.sipush 1000, 3) := by decide +kernel
theorem dX1_warm_44 : decode cX1_warm 44 = .ok (.if_icmp .lt 10, 3) := by decide +kernel
theorem dX1_warm_47 : decode cX1_warm 47 = .ok (.aload_n 0, 1) := by decide +kernel
theorem dX1_warm_48 : decode cX1_warm 48 = .ok (.getfield 20, 3) := by decide +kernel
theorem dX1_warm_51 : decode cX1_warm 51 = .ok (.ifCond .eq 5, 3) := by decide +kernel
theorem dX1_warm_54 : decode cX1_warm 54 = .ok (.iconst 0, 1) := by decide +kernel
theorem dX1_warm_55 : decode cX1_warm 55 = .ok (.ireturn, 1) := by decide +kernel
theorem dX1_warm_56 : decode cX1_warm 56 = .ok (.aload_n 0, 1) := by decide +kernel
theorem dX1_warm_57 : decode cX1_warm 57 = .ok (.iconst 1, 1) := by decide +kernel
theorem dX1_warm_58 : decode cX1_warm 58 = .ok (.putfield 20, 3) := by decide +kernel
theorem dX1_warm_61 : decode cX1_warm 61 = .ok (.iload 6, 2) := by decide +kernel
theorem dX1_warm_63 : decode cX1_warm 63 = .ok (.sipush 999, 3) := by decide +kernel
theorem dX1_warm_66 : decode cX1_warm 66 = .ok (.isub, 1) := by decide +kernel
theorem dX1_warm_67 : decode cX1_warm 67 = .ok (.ireturn, 1) := by decide +kernel
theorem dX1_cool_0 : decode cX1_cool 0 = .ok (.iconst 0, 1) := by decide +kernel
theorem dX1_cool_1 : decode cX1_cool 1 = .ok (.istore_n 2, 1) := by decide +kernel
theorem dX1_cool_2 : decode cX1_cool 2 = .ok (.iload_n 2, 1) := by decide +kernel
theorem dX1_cool_3 : decode cX1_cool 3 = .ok (.iload_n 1, 1) := by decide +kernel
theorem dX1_cool_4 : decode cX1_cool 4 = .ok (.if_icmp .ge 28, 3) := by decide +kernel
theorem dX1_cool_7 : decode cX1_cool 7 = .ok (.aload_n 0, 1) := by decide +kernel
theorem dX1_cool_8 : decode cX1_cool 8 = .ok (.dup, 1) := by decide +kernel
theorem dX1_cool_9 : decode cX1_cool 9 = .ok (.getfield 36, 3) := by decide +kernel
theorem dX1_cool_12 : decode cX1_cool 12 = .ok (.aload_n 0, 1) := by decide +kernel
theorem dX1_cool_13 : decode cX1_cool 13 = .ok (.getfield 36, 3) := by decide +kernel
theorem dX1_cool_16 : decode cX1_cool 16 = .ok (.bipush 15, 2) := by decide +kernel
theorem dX1_cool_18 : decode cX1_cool 18 = .ok (.iadd, 1) := by decide +kernel
theorem dX1_cool_19 : decode cX1_cool 19 = .ok (.bipush 16, 2) := by decide +kernel
theorem dX1_cool_21 : decode cX1_cool 21 = .ok (.idiv, 1) := by decide +kernel
theorem dX1_cool_22 : decode cX1_cool 22 = .ok (.isub, 1) := by decide +kernel
theorem dX1_cool_23 : decode cX1_cool 23 = .ok (.putfield 36, 3) := by decide +kernel
theorem dX1_cool_26 : decode cX1_cool 26 = .ok (.iinc 2 1, 3) := by decide +kernel
theorem dX1_cool_29 : decode cX1_cool 29 = .ok (.goto (-27), 3) := by decide +kernel
theorem dX1_cool_32 : decode cX1_cool 32 = .ok (.return_, 1) := by decide +kernel
theorem dX2_init_0 : decode cX2_init 0 = .ok (.aload_n 0, 1) := by decide +kernel
theorem dX2_init_1 : decode cX2_init 1 = .ok (.invokespecial 3, 3) := by decide +kernel
theorem dX2_init_4 : decode cX2_init 4 = .ok (.aload_n 0, 1) := by decide +kernel
theorem dX2_init_5 : decode cX2_init 5 = .ok (.bipush 60, 2) := by decide +kernel
theorem dX2_init_7 : decode cX2_init 7 = .ok (.newarray .int, 2) := by decide +kernel
theorem dX2_init_9 : decode cX2_init 9 = .ok (.putfield 11, 3) := by decide +kernel
theorem dX2_init_12 : decode cX2_init 12 = .ok (.aload_n 0, 1) := by decide +kernel
theorem dX2_init_13 : decode cX2_init 13 = .ok (.bipush 60, 2) := by decide +kernel
theorem dX2_init_15 : decode cX2_init 15 = .ok (.newarray .int, 2) := by decide +kernel
theorem dX2_init_17 : decode cX2_init 17 = .ok (.putfield 15, 3) := by decide +kernel
theorem dX2_init_20 : decode cX2_init 20 = .ok (.aload_n 0, 1) := by decide +kernel
theorem dX2_init_21 : decode cX2_init 21 = .ok (.bipush 60, 2) := by decide +kernel
theorem dX2_init_23 : decode cX2_init 23 = .ok (.newarray .int, 2) := by decide +kernel
theorem dX2_init_25 : decode cX2_init 25 = .ok (.putfield 18, 3) := by decide +kernel
theorem dX2_init_28 : decode cX2_init 28 = .ok (.aload_n 0, 1) := by decide +kernel
theorem dX2_init_29 : decode cX2_init 29 = .ok (.bipush 60, 2) := by decide +kernel
theorem dX2_init_31 : decode cX2_init 31 = .ok (.newarray .int, 2) := by decide +kernel
theorem dX2_init_33 : decode cX2_init 33 = .ok (.putfield 21, 3) := by decide +kernel
theorem dX2_init_36 : decode cX2_init 36 = .ok (.aload_n 0, 1) := by decide +kernel
theorem dX2_init_37 : decode cX2_init 37 = .ok (.iconst 0, 1) := by decide +kernel
theorem dX2_init_38 : decode cX2_init 38 = .ok (.putfield 24, 3) := by decide +kernel
theorem dX2_init_41 : decode cX2_init 41 = .ok (.return_, 1) := by decide +kernel
theorem dX2_has_0 : decode cX2_has 0 = .ok (.iload_n 1, 1) := by decide +kernel
theorem dX2_has_1 : decode cX2_has 1 = .ok (.ifCond .lt 15, 3) := by decide +kernel
theorem dX2_has_4 : decode cX2_has 4 = .ok (.iload_n 1, 1) := by decide +kernel
theorem dX2_has_5 : decode cX2_has 5 = .ok (.aload_n 0, 1) := by decide +kernel
theorem dX2_has_6 : decode cX2_has 6 = .ok (.getfield 24, 3) := by decide +kernel
theorem dX2_has_9 : decode cX2_has 9 = .ok (.if_icmp .ge 7, 3) := by decide +kernel
theorem dX2_has_12 : decode cX2_has 12 = .ok (.iconst 1, 1) := by decide +kernel
theorem dX2_has_13 : decode cX2_has 13 = .ok (.goto 4, 3) := by decide +kernel
theorem dX2_has_16 : decode cX2_has 16 = .ok (.iconst 0, 1) := by decide +kernel
theorem dX2_has_17 : decode cX2_has 17 = .ok (.ireturn, 1) := by decide +kernel
theorem dX2_room_0 : decode cX2_room 0 = .ok (.bipush 60, 2) := by decide +kernel
theorem dX2_room_2 : decode cX2_room 2 = .ok (.aload_n 0, 1) := by decide +kernel
theorem dX2_room_3 : decode cX2_room 3 = .ok (.getfield 24, 3) := by decide +kernel
theorem dX2_room_6 : decode cX2_room 6 = .ok (.isub, 1) := by decide +kernel
theorem dX2_room_7 : decode cX2_room 7 = .ok (.ireturn, 1) := by decide +kernel
set_option maxRecDepth 20000 in
theorem ggX2_add_X2_room : GoodIn wsX2_add wsX2_room := goodIn_r _ [10, 2, 11, 12, 13, 14, 15] (by decide +kernel) (by decide +kernel)
set_option maxRecDepth 20000 in
theorem gX2_add_X2_room : GoodIn wsX2_add (wsV RX2 28 RX2 yX2_room wsX2_room) := goodIn_app (goodIn_of _ (by decide +kernel)) ggX2_add_X2_room
theorem dX2_add_0 : decode cX2_add 0 = .ok (.aload_n 0, 1) := by decide +kernel
theorem dX2_add_1 : decode cX2_add 1 = .ok (.invokevirtual 28, 3) := by decide +kernel
theorem dX2_add_4 : decode cX2_add 4 = .ok (.iconst 1, 1) := by decide +kernel
theorem dX2_add_5 : decode cX2_add 5 = .ok (.if_icmp .ge 4, 3) := by decide +kernel
theorem dX2_add_8 : decode cX2_add 8 = .ok (.return_, 1) := by decide +kernel
theorem dX2_add_9 : decode cX2_add 9 = .ok (.aload_n 0, 1) := by decide +kernel
theorem dX2_add_10 : decode cX2_add 10 = .ok (.getfield 11, 3) := by decide +kernel
theorem dX2_add_13 : decode cX2_add 13 = .ok (.aload_n 0, 1) := by decide +kernel
theorem dX2_add_14 : decode cX2_add 14 = .ok (.getfield 24, 3) := by decide +kernel
theorem dX2_add_17 : decode cX2_add 17 = .ok (.iload_n 1, 1) := by decide +kernel
theorem dX2_add_18 : decode cX2_add 18 = .ok (.iastore, 1) := by decide +kernel
theorem dX2_add_19 : decode cX2_add 19 = .ok (.aload_n 0, 1) := by decide +kernel
theorem dX2_add_20 : decode cX2_add 20 = .ok (.getfield 15, 3) := by decide +kernel
theorem dX2_add_23 : decode cX2_add 23 = .ok (.aload_n 0, 1) := by decide +kernel
theorem dX2_add_24 : decode cX2_add 24 = .ok (.getfield 24, 3) := by decide +kernel
theorem dX2_add_27 : decode cX2_add 27 = .ok (.iload_n 2, 1) := by decide +kernel
theorem dX2_add_28 : decode cX2_add 28 = .ok (.iastore, 1) := by decide +kernel
theorem dX2_add_29 : decode cX2_add 29 = .ok (.aload_n 0, 1) := by decide +kernel
theorem dX2_add_30 : decode cX2_add 30 = .ok (.getfield 18, 3) := by decide +kernel
theorem dX2_add_33 : decode cX2_add 33 = .ok (.aload_n 0, 1) := by decide +kernel
theorem dX2_add_34 : decode cX2_add 34 = .ok (.getfield 24, 3) := by decide +kernel
theorem dX2_add_37 : decode cX2_add 37 = .ok (.iload_n 3, 1) := by decide +kernel
theorem dX2_add_38 : decode cX2_add 38 = .ok (.iastore, 1) := by decide +kernel
theorem dX2_add_39 : decode cX2_add 39 = .ok (.aload_n 0, 1) := by decide +kernel
theorem dX2_add_40 : decode cX2_add 40 = .ok (.getfield 21, 3) := by decide +kernel
theorem dX2_add_43 : decode cX2_add 43 = .ok (.aload_n 0, 1) := by decide +kernel
theorem dX2_add_44 : decode cX2_add 44 = .ok (.getfield 24, 3) := by decide +kernel
theorem dX2_add_47 : decode cX2_add 47 = .ok (.iload 4, 2) := by decide +kernel
theorem dX2_add_49 : decode cX2_add 49 = .ok (.iastore, 1) := by decide +kernel
theorem dX2_add_50 : decode cX2_add 50 = .ok (.aload_n 0, 1) := by decide +kernel
theorem dX2_add_51 : decode cX2_add 51 = .ok (.dup, 1) := by decide +kernel
theorem dX2_add_52 : decode cX2_add 52 = .ok (.getfield 24, 3) := by decide +kernel
theorem dX2_add_55 : decode cX2_add 55 = .ok (.iconst 1, 1) := by decide +kernel
theorem dX2_add_56 : decode cX2_add 56 = .ok (.iadd, 1) := by decide +kernel
theorem dX2_add_57 : decode cX2_add 57 = .ok (.putfield 24, 3) := by decide +kernel
theorem dX2_add_60 : decode cX2_add 60 = .ok (.return_, 1) := by decide +kernel
theorem dX2_withRule_0 : decode cX2_withRule 0 = .ok (.iconst 0, 1) := by decide +kernel
theorem dX2_withRule_1 : decode cX2_withRule 1 = .ok (.istore_n 2, 1) := by decide +kernel
theorem dX2_withRule_2 : decode cX2_withRule 2 = .ok (.iconst 0, 1) := by decide +kernel
theorem dX2_withRule_3 : decode cX2_withRule 3 = .ok (.istore_n 3, 1) := by decide +kernel
theorem dX2_withRule_4 : decode cX2_withRule 4 = .ok (.iload_n 3, 1) := by decide +kernel
theorem dX2_withRule_5 : decode cX2_withRule 5 = .ok (.aload_n 0, 1) := by decide +kernel
theorem dX2_withRule_6 : decode cX2_withRule 6 = .ok (.getfield 24, 3) := by decide +kernel
theorem dX2_withRule_9 : decode cX2_withRule 9 = .ok (.if_icmp .ge 22, 3) := by decide +kernel
theorem dX2_withRule_12 : decode cX2_withRule 12 = .ok (.aload_n 0, 1) := by decide +kernel
theorem dX2_withRule_13 : decode cX2_withRule 13 = .ok (.getfield 21, 3) := by decide +kernel
theorem dX2_withRule_16 : decode cX2_withRule 16 = .ok (.iload_n 3, 1) := by decide +kernel
theorem dX2_withRule_17 : decode cX2_withRule 17 = .ok (.iaload, 1) := by decide +kernel
theorem dX2_withRule_18 : decode cX2_withRule 18 = .ok (.iload_n 1, 1) := by decide +kernel
theorem dX2_withRule_19 : decode cX2_withRule 19 = .ok (.if_icmp .ne 6, 3) := by decide +kernel
theorem dX2_withRule_22 : decode cX2_withRule 22 = .ok (.iinc 2 1, 3) := by decide +kernel
theorem dX2_withRule_25 : decode cX2_withRule 25 = .ok (.iinc 3 1, 3) := by decide +kernel
theorem dX2_withRule_28 : decode cX2_withRule 28 = .ok (.goto (-24), 3) := by decide +kernel
theorem dX2_withRule_31 : decode cX2_withRule 31 = .ok (.iload_n 2, 1) := by decide +kernel
theorem dX2_withRule_32 : decode cX2_withRule 32 = .ok (.ireturn, 1) := by decide +kernel
theorem dX2_kneePoint_0 : decode cX2_kneePoint 0 = .ok (.bipush (-9), 2) := by decide +kernel
theorem dX2_kneePoint_2 : decode cX2_kneePoint 2 = .ok (.istore_n 3, 1) := by decide +kernel
theorem dX2_kneePoint_3 : decode cX2_kneePoint 3 = .ok (.lconst 0, 1) := by decide +kernel
theorem dX2_kneePoint_4 : decode cX2_kneePoint 4 = .ok (.lstore 4, 2) := by decide +kernel
theorem dX2_kneePoint_6 : decode cX2_kneePoint 6 = .ok (.aload_n 0, 1) := by decide +kernel
theorem dX2_kneePoint_7 : decode cX2_kneePoint 7 = .ok (.getfield 15, 3) := by decide +kernel
theorem dX2_kneePoint_10 : decode cX2_kneePoint 10 = .ok (.iload_n 2, 1) := by decide +kernel
theorem dX2_kneePoint_11 : decode cX2_kneePoint 11 = .ok (.iaload, 1) := by decide +kernel
theorem dX2_kneePoint_12 : decode cX2_kneePoint 12 = .ok (.aload_n 0, 1) := by decide +kernel
theorem dX2_kneePoint_13 : decode cX2_kneePoint 13 = .ok (.getfield 15, 3) := by decide +kernel
theorem dX2_kneePoint_16 : decode cX2_kneePoint 16 = .ok (.iload_n 1, 1) := by decide +kernel
theorem dX2_kneePoint_17 : decode cX2_kneePoint 17 = .ok (.iaload, 1) := by decide +kernel
theorem dX2_kneePoint_18 : decode cX2_kneePoint 18 = .ok (.isub, 1) := by decide +kernel
theorem dX2_kneePoint_19 : decode cX2_kneePoint 19 = .ok (.i2l, 1) := by decide +kernel
theorem dX2_kneePoint_20 : decode cX2_kneePoint 20 = .ok (.lstore 6, 2) := by decide +kernel
theorem dX2_kneePoint_22 : decode cX2_kneePoint 22 = .ok (.aload_n 0, 1) := by decide +kernel
theorem dX2_kneePoint_23 : decode cX2_kneePoint 23 = .ok (.getfield 18, 3) := by decide +kernel
theorem dX2_kneePoint_26 : decode cX2_kneePoint 26 = .ok (.iload_n 2, 1) := by decide +kernel
theorem dX2_kneePoint_27 : decode cX2_kneePoint 27 = .ok (.iaload, 1) := by decide +kernel
theorem dX2_kneePoint_28 : decode cX2_kneePoint 28 = .ok (.aload_n 0, 1) := by decide +kernel
theorem dX2_kneePoint_29 : decode cX2_kneePoint 29 = .ok (.getfield 18, 3) := by decide +kernel
theorem dX2_kneePoint_32 : decode cX2_kneePoint 32 = .ok (.iload_n 1, 1) := by decide +kernel
theorem dX2_kneePoint_33 : decode cX2_kneePoint 33 = .ok (.iaload, 1) := by decide +kernel
theorem dX2_kneePoint_34 : decode cX2_kneePoint 34 = .ok (.isub, 1) := by decide +kernel
theorem dX2_kneePoint_35 : decode cX2_kneePoint 35 = .ok (.i2l, 1) := by decide +kernel
theorem dX2_kneePoint_36 : decode cX2_kneePoint 36 = .ok (.lstore 8, 2) := by decide +kernel
theorem dX2_kneePoint_38 : decode cX2_kneePoint 38 = .ok (.iload_n 1, 1) := by decide +kernel
theorem dX2_kneePoint_39 : decode cX2_kneePoint 39 = .ok (.istore 10, 2) := by decide +kernel
theorem dX2_kneePoint_41 : decode cX2_kneePoint 41 = .ok (.iload 10, 2) := by decide +kernel
theorem dX2_kneePoint_43 : decode cX2_kneePoint 43 = .ok (.iload_n 2, 1) := by decide +kernel
theorem dX2_kneePoint_44 : decode cX2_kneePoint 44 = .ok (.if_icmp .gt 66, 3) := by decide +kernel
theorem dX2_kneePoint_47 : decode cX2_kneePoint 47 = .ok (.aload_n 0, 1) := by decide +kernel
theorem dX2_kneePoint_48 : decode cX2_kneePoint 48 = .ok (.getfield 15, 3) := by decide +kernel
theorem dX2_kneePoint_51 : decode cX2_kneePoint 51 = .ok (.iload 10, 2) := by decide +kernel
theorem dX2_kneePoint_53 : decode cX2_kneePoint 53 = .ok (.iaload, 1) := by decide +kernel
theorem dX2_kneePoint_54 : decode cX2_kneePoint 54 = .ok (.aload_n 0, 1) := by decide +kernel
theorem dX2_kneePoint_55 : decode cX2_kneePoint 55 = .ok (.getfield 15, 3) := by decide +kernel
theorem dX2_kneePoint_58 : decode cX2_kneePoint 58 = .ok (.iload_n 1, 1) := by decide +kernel
theorem dX2_kneePoint_59 : decode cX2_kneePoint 59 = .ok (.iaload, 1) := by decide +kernel
theorem dX2_kneePoint_60 : decode cX2_kneePoint 60 = .ok (.isub, 1) := by decide +kernel
theorem dX2_kneePoint_61 : decode cX2_kneePoint 61 = .ok (.i2l, 1) := by decide +kernel
theorem dX2_kneePoint_62 : decode cX2_kneePoint 62 = .ok (.lload 8, 2) := by decide +kernel
theorem dX2_kneePoint_64 : decode cX2_kneePoint 64 = .ok (.lmul, 1) := by decide +kernel
theorem dX2_kneePoint_65 : decode cX2_kneePoint 65 = .ok (.aload_n 0, 1) := by decide +kernel
theorem dX2_kneePoint_66 : decode cX2_kneePoint 66 = .ok (.getfield 18, 3) := by decide +kernel
theorem dX2_kneePoint_69 : decode cX2_kneePoint 69 = .ok (.iload 10, 2) := by decide +kernel
theorem dX2_kneePoint_71 : decode cX2_kneePoint 71 = .ok (.iaload, 1) := by decide +kernel
theorem dX2_kneePoint_72 : decode cX2_kneePoint 72 = .ok (.aload_n 0, 1) := by decide +kernel
theorem dX2_kneePoint_73 : decode cX2_kneePoint 73 = .ok (.getfield 18, 3) := by decide +kernel
theorem dX2_kneePoint_76 : decode cX2_kneePoint 76 = .ok (.iload_n 1, 1) := by decide +kernel
theorem dX2_kneePoint_77 : decode cX2_kneePoint 77 = .ok (.iaload, 1) := by decide +kernel
theorem dX2_kneePoint_78 : decode cX2_kneePoint 78 = .ok (.isub, 1) := by decide +kernel
theorem dX2_kneePoint_79 : decode cX2_kneePoint 79 = .ok (.i2l, 1) := by decide +kernel
theorem dX2_kneePoint_80 : decode cX2_kneePoint 80 = .ok (.lload 6, 2) := by decide +kernel
theorem dX2_kneePoint_82 : decode cX2_kneePoint 82 = .ok (.lmul, 1) := by decide +kernel
theorem dX2_kneePoint_83 : decode cX2_kneePoint 83 = .ok (.lsub, 1) := by decide +kernel
theorem dX2_kneePoint_84 : decode cX2_kneePoint 84 = .ok (.invokestatic 32, 3) := by decide +kernel
theorem dX2_kneePoint_87 : decode cX2_kneePoint 87 = .ok (.lstore 11, 2) := by decide +kernel
theorem dX2_kneePoint_89 : decode cX2_kneePoint 89 = .ok (.lload 11, 2) := by decide +kernel
theorem dX2_kneePoint_91 : decode cX2_kneePoint 91 = .ok (.lload 4, 2) := by decide +kernel
theorem dX2_kneePoint_93 : decode cX2_kneePoint 93 = .ok (.lcmp, 1) := by decide +kernel
theorem dX2_kneePoint_94 : decode cX2_kneePoint 94 = .ok (.ifCond .le 10, 3) := by decide +kernel
theorem dX2_kneePoint_97 : decode cX2_kneePoint 97 = .ok (.lload 11, 2) := by decide +kernel
theorem dX2_kneePoint_99 : decode cX2_kneePoint 99 = .ok (.lstore 4, 2) := by decide +kernel
theorem dX2_kneePoint_101 : decode cX2_kneePoint 101 = .ok (.iload 10, 2) := by decide +kernel
theorem dX2_kneePoint_103 : decode cX2_kneePoint 103 = .ok (.istore_n 3, 1) := by decide +kernel
theorem dX2_kneePoint_104 : decode cX2_kneePoint 104 = .ok (.iinc 10 1, 3) := by decide +kernel
theorem dX2_kneePoint_107 : decode cX2_kneePoint 107 = .ok (.goto (-66), 3) := by decide +kernel
theorem dX2_kneePoint_110 : decode cX2_kneePoint 110 = .ok (.iload_n 3, 1) := by decide +kernel
theorem dX2_kneePoint_111 : decode cX2_kneePoint 111 = .ok (.ireturn, 1) := by decide +kernel
set_option maxRecDepth 20000 in
theorem ggX2_lineFitted_X2_sum : GoodIn wsX2_lineFitted wsX2_sum := goodIn_r _ [7] (by decide +kernel) (by decide +kernel)
set_option maxRecDepth 20000 in
theorem gX2_lineFitted_X2_sum : GoodIn wsX2_lineFitted (va_wsS RX2 45 yX2_sum wsX2_sum) := goodIn_app (goodIn_of _ (by decide +kernel)) ggX2_lineFitted_X2_sum
set_option maxRecDepth 20000 in
theorem ggX2_lineFitted_X2_sumOfProducts : GoodIn wsX2_lineFitted wsX2_sumOfProducts := goodIn_r _ [10] (by decide +kernel) (by decide +kernel)
set_option maxRecDepth 20000 in
theorem gX2_lineFitted_X2_sumOfProducts : GoodIn wsX2_lineFitted (va_wsS RX2 49 yX2_sumOfProducts wsX2_sumOfProducts) := goodIn_app (goodIn_of _ (by decide +kernel)) ggX2_lineFitted_X2_sumOfProducts
set_option maxRecDepth 20000 in
theorem ggX2_lineFitted_X2_ofFraction : GoodIn wsX2_lineFitted wsX2_ofFraction := goodIn_r _ [13, 14, 15, 16, 17, 3, 18, 19, 6, 20] (by decide +kernel) (by decide +kernel)
set_option maxRecDepth 20000 in
theorem gX2_lineFitted_X2_ofFraction : GoodIn wsX2_lineFitted (va_wsS RX2 55 yX2_ofFraction wsX2_ofFraction) := goodIn_app (goodIn_of _ (by decide +kernel)) ggX2_lineFitted_X2_ofFraction
theorem dX2_lineFitted_0 : decode cX2_lineFitted 0 = .ok (.iload_n 2, 1) := by decide +kernel
theorem dX2_lineFitted_1 : decode cX2_lineFitted 1 = .ok (.iload_n 1, 1) := by decide +kernel
theorem dX2_lineFitted_2 : decode cX2_lineFitted 2 = .ok (.isub, 1) := by decide +kernel
theorem dX2_lineFitted_3 : decode cX2_lineFitted 3 = .ok (.iconst 1, 1) := by decide +kernel
theorem dX2_lineFitted_4 : decode cX2_lineFitted 4 = .ok (.iadd, 1) := by decide +kernel
theorem dX2_lineFitted_5 : decode cX2_lineFitted 5 = .ok (.i2l, 1) := by decide +kernel
theorem dX2_lineFitted_6 : decode cX2_lineFitted 6 = .ok (.lstore 4, 2) := by decide +kernel
theorem dX2_lineFitted_8 : decode cX2_lineFitted 8 = .ok (.aload_n 0, 1) := by decide +kernel
theorem dX2_lineFitted_9 : decode cX2_lineFitted 9 = .ok (.getfield 15, 3) := by decide +kernel
theorem dX2_lineFitted_12 : decode cX2_lineFitted 12 = .ok (.iload_n 1, 1) := by decide +kernel
theorem dX2_lineFitted_13 : decode cX2_lineFitted 13 = .ok (.iload_n 2, 1) := by decide +kernel
theorem dX2_lineFitted_14 : decode cX2_lineFitted 14 = .ok (.invokestatic 45, 3) := by decide +kernel
theorem dX2_lineFitted_17 : decode cX2_lineFitted 17 = .ok (.lstore 6, 2) := by decide +kernel
theorem dX2_lineFitted_19 : decode cX2_lineFitted 19 = .ok (.aload_n 0, 1) := by decide +kernel
theorem dX2_lineFitted_20 : decode cX2_lineFitted 20 = .ok (.getfield 18, 3) := by decide +kernel
theorem dX2_lineFitted_23 : decode cX2_lineFitted 23 = .ok (.iload_n 1, 1) := by decide +kernel
theorem dX2_lineFitted_24 : decode cX2_lineFitted 24 = .ok (.iload_n 2, 1) := by decide +kernel
theorem dX2_lineFitted_25 : decode cX2_lineFitted 25 = .ok (.invokestatic 45, 3) := by decide +kernel
theorem dX2_lineFitted_28 : decode cX2_lineFitted 28 = .ok (.lstore 8, 2) := by decide +kernel
theorem dX2_lineFitted_30 : decode cX2_lineFitted 30 = .ok (.aload_n 0, 1) := by decide +kernel
theorem dX2_lineFitted_31 : decode cX2_lineFitted 31 = .ok (.getfield 15, 3) := by decide +kernel
theorem dX2_lineFitted_34 : decode cX2_lineFitted 34 = .ok (.aload_n 0, 1) := by decide +kernel
theorem dX2_lineFitted_35 : decode cX2_lineFitted 35 = .ok (.getfield 18, 3) := by decide +kernel
theorem dX2_lineFitted_38 : decode cX2_lineFitted 38 = .ok (.iload_n 1, 1) := by decide +kernel
theorem dX2_lineFitted_39 : decode cX2_lineFitted 39 = .ok (.iload_n 2, 1) := by decide +kernel
theorem dX2_lineFitted_40 : decode cX2_lineFitted 40 = .ok (.invokestatic 49, 3) := by decide +kernel
theorem dX2_lineFitted_43 : decode cX2_lineFitted 43 = .ok (.lstore 10, 2) := by decide +kernel
theorem dX2_lineFitted_45 : decode cX2_lineFitted 45 = .ok (.aload_n 0, 1) := by decide +kernel
theorem dX2_lineFitted_46 : decode cX2_lineFitted 46 = .ok (.getfield 15, 3) := by decide +kernel
theorem dX2_lineFitted_49 : decode cX2_lineFitted 49 = .ok (.aload_n 0, 1) := by decide +kernel
theorem dX2_lineFitted_50 : decode cX2_lineFitted 50 = .ok (.getfield 15, 3) := by decide +kernel
theorem dX2_lineFitted_53 : decode cX2_lineFitted 53 = .ok (.iload_n 1, 1) := by decide +kernel
theorem dX2_lineFitted_54 : decode cX2_lineFitted 54 = .ok (.iload_n 2, 1) := by decide +kernel
theorem dX2_lineFitted_55 : decode cX2_lineFitted 55 = .ok (.invokestatic 49, 3) := by decide +kernel
theorem dX2_lineFitted_58 : decode cX2_lineFitted 58 = .ok (.lstore 12, 2) := by decide +kernel
theorem dX2_lineFitted_60 : decode cX2_lineFitted 60 = .ok (.lload 4, 2) := by decide +kernel
theorem dX2_lineFitted_62 : decode cX2_lineFitted 62 = .ok (.lload 12, 2) := by decide +kernel
theorem dX2_lineFitted_64 : decode cX2_lineFitted 64 = .ok (.lmul, 1) := by decide +kernel
theorem dX2_lineFitted_65 : decode cX2_lineFitted 65 = .ok (.lload 6, 2) := by decide +kernel
theorem dX2_lineFitted_67 : decode cX2_lineFitted 67 = .ok (.lload 6, 2) := by decide +kernel
theorem dX2_lineFitted_69 : decode cX2_lineFitted 69 = .ok (.lmul, 1) := by decide +kernel
theorem dX2_lineFitted_70 : decode cX2_lineFitted 70 = .ok (.lsub, 1) := by decide +kernel
theorem dX2_lineFitted_71 : decode cX2_lineFitted 71 = .ok (.lstore 14, 2) := by decide +kernel
theorem dX2_lineFitted_73 : decode cX2_lineFitted 73 = .ok (.lload 14, 2) := by decide +kernel
theorem dX2_lineFitted_75 : decode cX2_lineFitted 75 = .ok (.lconst 0, 1) := by decide +kernel
theorem dX2_lineFitted_76 : decode cX2_lineFitted 76 = .ok (.lcmp, 1) := by decide +kernel
theorem dX2_lineFitted_77 : decode cX2_lineFitted 77 = .ok (.ifCond .ne 7, 3) := by decide +kernel
theorem dX2_lineFitted_80 : decode cX2_lineFitted 80 = .ok (.ldc2_w 53, 3) := by decide +kernel
theorem dX2_lineFitted_83 : decode cX2_lineFitted 83 = .ok (.lreturn, 1) := by decide +kernel
theorem dX2_lineFitted_84 : decode cX2_lineFitted 84 = .ok (.lload 4, 2) := by decide +kernel
theorem dX2_lineFitted_86 : decode cX2_lineFitted 86 = .ok (.lload 10, 2) := by decide +kernel
theorem dX2_lineFitted_88 : decode cX2_lineFitted 88 = .ok (.lmul, 1) := by decide +kernel
theorem dX2_lineFitted_89 : decode cX2_lineFitted 89 = .ok (.lload 6, 2) := by decide +kernel
theorem dX2_lineFitted_91 : decode cX2_lineFitted 91 = .ok (.lload 8, 2) := by decide +kernel
theorem dX2_lineFitted_93 : decode cX2_lineFitted 93 = .ok (.lmul, 1) := by decide +kernel
theorem dX2_lineFitted_94 : decode cX2_lineFitted 94 = .ok (.lsub, 1) := by decide +kernel
theorem dX2_lineFitted_95 : decode cX2_lineFitted 95 = .ok (.lstore 16, 2) := by decide +kernel
theorem dX2_lineFitted_97 : decode cX2_lineFitted 97 = .ok (.lload 8, 2) := by decide +kernel
theorem dX2_lineFitted_99 : decode cX2_lineFitted 99 = .ok (.lload 12, 2) := by decide +kernel
theorem dX2_lineFitted_101 : decode cX2_lineFitted 101 = .ok (.lmul, 1) := by decide +kernel
theorem dX2_lineFitted_102 : decode cX2_lineFitted 102 = .ok (.lload 6, 2) := by decide +kernel
theorem dX2_lineFitted_104 : decode cX2_lineFitted 104 = .ok (.lload 10, 2) := by decide +kernel
theorem dX2_lineFitted_106 : decode cX2_lineFitted 106 = .ok (.lmul, 1) := by decide +kernel
theorem dX2_lineFitted_107 : decode cX2_lineFitted 107 = .ok (.lsub, 1) := by decide +kernel
theorem dX2_lineFitted_108 : decode cX2_lineFitted 108 = .ok (.lstore 18, 2) := by decide +kernel
theorem dX2_lineFitted_110 : decode cX2_lineFitted 110 = .ok (.iload_n 3, 1) := by decide +kernel
theorem dX2_lineFitted_111 : decode cX2_lineFitted 111 = .ok (.iconst 2, 1) := by decide +kernel
theorem dX2_lineFitted_112 : decode cX2_lineFitted 112 = .ok (.irem, 1) := by decide +kernel
theorem dX2_lineFitted_113 : decode cX2_lineFitted 113 = .ok (.ifCond .ne 7, 3) := by decide +kernel
theorem dX2_lineFitted_116 : decode cX2_lineFitted 116 = .ok (.iconst 1, 1) := by decide +kernel
theorem dX2_lineFitted_117 : decode cX2_lineFitted 117 = .ok (.goto 4, 3) := by decide +kernel
theorem dX2_lineFitted_120 : decode cX2_lineFitted 120 = .ok (.iconst 0, 1) := by decide +kernel
theorem dX2_lineFitted_121 : decode cX2_lineFitted 121 = .ok (.istore 20, 2) := by decide +kernel
theorem dX2_lineFitted_123 : decode cX2_lineFitted 123 = .ok (.iload_n 3, 1) := by decide +kernel
theorem dX2_lineFitted_124 : decode cX2_lineFitted 124 = .ok (.iconst 2, 1) := by decide +kernel
theorem dX2_lineFitted_125 : decode cX2_lineFitted 125 = .ok (.idiv, 1) := by decide +kernel
theorem dX2_lineFitted_126 : decode cX2_lineFitted 126 = .ok (.lookupswitch 46 #[(0, 26), (1, 36)], 26) := by decide +kernel
theorem dX2_lineFitted_152 : decode cX2_lineFitted 152 = .ok (.lload 16, 2) := by decide +kernel
theorem dX2_lineFitted_154 : decode cX2_lineFitted 154 = .ok (.lload 14, 2) := by decide +kernel
theorem dX2_lineFitted_156 : decode cX2_lineFitted 156 = .ok (.iload 20, 2) := by decide +kernel
theorem dX2_lineFitted_158 : decode cX2_lineFitted 158 = .ok (.invokestatic 55, 3) := by decide +kernel
theorem dX2_lineFitted_161 : decode cX2_lineFitted 161 = .ok (.lreturn, 1) := by decide +kernel
theorem dX2_lineFitted_162 : decode cX2_lineFitted 162 = .ok (.lload 18, 2) := by decide +kernel
theorem dX2_lineFitted_164 : decode cX2_lineFitted 164 = .ok (.lload 14, 2) := by decide +kernel
theorem dX2_lineFitted_166 : decode cX2_lineFitted 166 = .ok (.iload 20, 2) := by decide +kernel
theorem dX2_lineFitted_168 : decode cX2_lineFitted 168 = .ok (.invokestatic 55, 3) := by decide +kernel
theorem dX2_lineFitted_171 : decode cX2_lineFitted 171 = .ok (.lreturn, 1) := by decide +kernel
theorem dX2_lineFitted_172 : decode cX2_lineFitted 172 = .ok (.lload 18, 2) := by decide +kernel
theorem dX2_lineFitted_174 : decode cX2_lineFitted 174 = .ok (.lneg, 1) := by decide +kernel
theorem dX2_lineFitted_175 : decode cX2_lineFitted 175 = .ok (.lload 16, 2) := by decide +kernel
theorem dX2_lineFitted_177 : decode cX2_lineFitted 177 = .ok (.iload 20, 2) := by decide +kernel
theorem dX2_lineFitted_179 : decode cX2_lineFitted 179 = .ok (.invokestatic 55, 3) := by decide +kernel
theorem dX2_lineFitted_182 : decode cX2_lineFitted 182 = .ok (.lreturn, 1) := by decide +kernel
theorem dX2_sum_0 : decode cX2_sum 0 = .ok (.lconst 0, 1) := by decide +kernel
theorem dX2_sum_1 : decode cX2_sum 1 = .ok (.lstore_n 3, 1) := by decide +kernel
theorem dX2_sum_2 : decode cX2_sum 2 = .ok (.iload_n 1, 1) := by decide +kernel
theorem dX2_sum_3 : decode cX2_sum 3 = .ok (.istore 5, 2) := by decide +kernel
theorem dX2_sum_5 : decode cX2_sum 5 = .ok (.iload 5, 2) := by decide +kernel
theorem dX2_sum_7 : decode cX2_sum 7 = .ok (.iload_n 2, 1) := by decide +kernel
theorem dX2_sum_8 : decode cX2_sum 8 = .ok (.if_icmp .gt 17, 3) := by decide +kernel
theorem dX2_sum_11 : decode cX2_sum 11 = .ok (.lload_n 3, 1) := by decide +kernel
theorem dX2_sum_12 : decode cX2_sum 12 = .ok (.aload_n 0, 1) := by decide +kernel
theorem dX2_sum_13 : decode cX2_sum 13 = .ok (.iload 5, 2) := by decide +kernel
theorem dX2_sum_15 : decode cX2_sum 15 = .ok (.iaload, 1) := by decide +kernel
theorem dX2_sum_16 : decode cX2_sum 16 = .ok (.i2l, 1) := by decide +kernel
theorem dX2_sum_17 : decode cX2_sum 17 = .ok (.ladd, 1) := by decide +kernel
theorem dX2_sum_18 : decode cX2_sum 18 = .ok (.lstore_n 3, 1) := by decide +kernel
theorem dX2_sum_19 : decode cX2_sum 19 = .ok (.iinc 5 1, 3) := by decide +kernel
theorem dX2_sum_22 : decode cX2_sum 22 = .ok (.goto (-17), 3) := by decide +kernel
theorem dX2_sum_25 : decode cX2_sum 25 = .ok (.lload_n 3, 1) := by decide +kernel
theorem dX2_sum_26 : decode cX2_sum 26 = .ok (.lreturn, 1) := by decide +kernel
theorem dX2_sumOfProducts_0 : decode cX2_sumOfProducts 0 = .ok (.lconst 0, 1) := by decide +kernel
theorem dX2_sumOfProducts_1 : decode cX2_sumOfProducts 1 = .ok (.lstore 4, 2) := by decide +kernel
theorem dX2_sumOfProducts_3 : decode cX2_sumOfProducts 3 = .ok (.iload_n 2, 1) := by decide +kernel
theorem dX2_sumOfProducts_4 : decode cX2_sumOfProducts 4 = .ok (.istore 6, 2) := by decide +kernel
theorem dX2_sumOfProducts_6 : decode cX2_sumOfProducts 6 = .ok (.iload 6, 2) := by decide +kernel
theorem dX2_sumOfProducts_8 : decode cX2_sumOfProducts 8 = .ok (.iload_n 3, 1) := by decide +kernel
theorem dX2_sumOfProducts_9 : decode cX2_sumOfProducts 9 = .ok (.if_icmp .gt 25, 3) := by decide +kernel
theorem dX2_sumOfProducts_12 : decode cX2_sumOfProducts 12 = .ok (.lload 4, 2) := by decide +kernel
theorem dX2_sumOfProducts_14 : decode cX2_sumOfProducts 14 = .ok (.aload_n 0, 1) := by decide +kernel
theorem dX2_sumOfProducts_15 : decode cX2_sumOfProducts 15 = .ok (.iload 6, 2) := by decide +kernel
theorem dX2_sumOfProducts_17 : decode cX2_sumOfProducts 17 = .ok (.iaload, 1) := by decide +kernel
theorem dX2_sumOfProducts_18 : decode cX2_sumOfProducts 18 = .ok (.i2l, 1) := by decide +kernel
theorem dX2_sumOfProducts_19 : decode cX2_sumOfProducts 19 = .ok (.aload_n 1, 1) := by decide +kernel
theorem dX2_sumOfProducts_20 : decode cX2_sumOfProducts 20 = .ok (.iload 6, 2) := by decide +kernel
theorem dX2_sumOfProducts_22 : decode cX2_sumOfProducts 22 = .ok (.iaload, 1) := by decide +kernel
theorem dX2_sumOfProducts_23 : decode cX2_sumOfProducts 23 = .ok (.i2l, 1) := by decide +kernel
theorem dX2_sumOfProducts_24 : decode cX2_sumOfProducts 24 = .ok (.lmul, 1) := by decide +kernel
theorem dX2_sumOfProducts_25 : decode cX2_sumOfProducts 25 = .ok (.ladd, 1) := by decide +kernel
theorem dX2_sumOfProducts_26 : decode cX2_sumOfProducts 26 = .ok (.lstore 4, 2) := by decide +kernel
theorem dX2_sumOfProducts_28 : decode cX2_sumOfProducts 28 = .ok (.iinc 6 1, 3) := by decide +kernel
theorem dX2_sumOfProducts_31 : decode cX2_sumOfProducts 31 = .ok (.goto (-25), 3) := by decide +kernel
theorem dX2_sumOfProducts_34 : decode cX2_sumOfProducts 34 = .ok (.lload 4, 2) := by decide +kernel
theorem dX2_sumOfProducts_36 : decode cX2_sumOfProducts 36 = .ok (.lreturn, 1) := by decide +kernel
set_option maxRecDepth 20000 in
theorem ggX2_ofFraction_X2_greatestDivisor : GoodIn wsX2_ofFraction wsX2_greatestDivisor := goodIn_r _ [9] (by decide +kernel) (by decide +kernel)
set_option maxRecDepth 20000 in
theorem gX2_ofFraction_X2_greatestDivisor : GoodIn wsX2_ofFraction (va_wsS RX2 59 yX2_greatestDivisor wsX2_greatestDivisor) := goodIn_app (goodIn_of _ (by decide +kernel)) ggX2_ofFraction_X2_greatestDivisor
theorem dX2_ofFraction_0 : decode cX2_ofFraction 0 = .ok (.lload_n 0, 1) := by decide +kernel
theorem dX2_ofFraction_1 : decode cX2_ofFraction 1 = .ok (.invokestatic 32, 3) := by decide +kernel
theorem dX2_ofFraction_4 : decode cX2_ofFraction 4 = .ok (.lload_n 2, 1) := by decide +kernel
theorem dX2_ofFraction_5 : decode cX2_ofFraction 5 = .ok (.invokestatic 32, 3) := by decide +kernel
theorem dX2_ofFraction_8 : decode cX2_ofFraction 8 = .ok (.invokestatic 59, 3) := by decide +kernel
theorem dX2_ofFraction_11 : decode cX2_ofFraction 11 = .ok (.lstore 5, 2) := by decide +kernel
theorem dX2_ofFraction_13 : decode cX2_ofFraction 13 = .ok (.lload_n 2, 1) := by decide +kernel
theorem dX2_ofFraction_14 : decode cX2_ofFraction 14 = .ok (.lconst 0, 1) := by decide +kernel
theorem dX2_ofFraction_15 : decode cX2_ofFraction 15 = .ok (.lcmp, 1) := by decide +kernel
theorem dX2_ofFraction_16 : decode cX2_ofFraction 16 = .ok (.ifCond .eq 10, 3) := by decide +kernel
theorem dX2_ofFraction_19 : decode cX2_ofFraction 19 = .ok (.lload 5, 2) := by decide +kernel
theorem dX2_ofFraction_21 : decode cX2_ofFraction 21 = .ok (.lconst 0, 1) := by decide +kernel
theorem dX2_ofFraction_22 : decode cX2_ofFraction 22 = .ok (.lcmp, 1) := by decide +kernel
theorem dX2_ofFraction_23 : decode cX2_ofFraction 23 = .ok (.ifCond .ne 7, 3) := by decide +kernel
theorem dX2_ofFraction_26 : decode cX2_ofFraction 26 = .ok (.ldc2_w 53, 3) := by decide +kernel
theorem dX2_ofFraction_29 : decode cX2_ofFraction 29 = .ok (.lreturn, 1) := by decide +kernel
theorem dX2_ofFraction_30 : decode cX2_ofFraction 30 = .ok (.lload_n 2, 1) := by decide +kernel
theorem dX2_ofFraction_31 : decode cX2_ofFraction 31 = .ok (.lconst 0, 1) := by decide +kernel
theorem dX2_ofFraction_32 : decode cX2_ofFraction 32 = .ok (.lcmp, 1) := by decide +kernel
theorem dX2_ofFraction_33 : decode cX2_ofFraction 33 = .ok (.ifCond .ge 9, 3) := by decide +kernel
theorem dX2_ofFraction_36 : decode cX2_ofFraction 36 = .ok (.lload 5, 2) := by decide +kernel
theorem dX2_ofFraction_38 : decode cX2_ofFraction 38 = .ok (.lneg, 1) := by decide +kernel
theorem dX2_ofFraction_39 : decode cX2_ofFraction 39 = .ok (.goto 5, 3) := by decide +kernel
theorem dX2_ofFraction_42 : decode cX2_ofFraction 42 = .ok (.lload 5, 2) := by decide +kernel
theorem dX2_ofFraction_44 : decode cX2_ofFraction 44 = .ok (.lstore 7, 2) := by decide +kernel
theorem dX2_ofFraction_46 : decode cX2_ofFraction 46 = .ok (.iload 4, 2) := by decide +kernel
theorem dX2_ofFraction_48 : decode cX2_ofFraction 48 = .ok (.ifCond .eq 10, 3) := by decide +kernel
theorem dX2_ofFraction_51 : decode cX2_ofFraction 51 = .ok (.lload_n 0, 1) := by decide +kernel
theorem dX2_ofFraction_52 : decode cX2_ofFraction 52 = .ok (.lload 7, 2) := by decide +kernel
theorem dX2_ofFraction_54 : decode cX2_ofFraction 54 = .ok (.ldiv, 1) := by decide +kernel
theorem dX2_ofFraction_55 : decode cX2_ofFraction 55 = .ok (.goto 7, 3) := by decide +kernel
theorem dX2_ofFraction_58 : decode cX2_ofFraction 58 = .ok (.lload_n 2, 1) := by decide +kernel
theorem dX2_ofFraction_59 : decode cX2_ofFraction 59 = .ok (.lload 7, 2) := by decide +kernel
theorem dX2_ofFraction_61 : decode cX2_ofFraction 61 = .ok (.ldiv, 1) := by decide +kernel
theorem dX2_ofFraction_62 : decode cX2_ofFraction 62 = .ok (.lreturn, 1) := by decide +kernel
theorem dX2_greatestDivisor_0 : decode cX2_greatestDivisor 0 = .ok (.iconst 0, 1) := by decide +kernel
theorem dX2_greatestDivisor_1 : decode cX2_greatestDivisor 1 = .ok (.istore 4, 2) := by decide +kernel
theorem dX2_greatestDivisor_3 : decode cX2_greatestDivisor 3 = .ok (.iload 4, 2) := by decide +kernel
theorem dX2_greatestDivisor_5 : decode cX2_greatestDivisor 5 = .ok (.sipush 1000, 3) := by decide +kernel
theorem dX2_greatestDivisor_8 : decode cX2_greatestDivisor 8 = .ok (.if_icmp .ge 25, 3) := by decide +kernel
theorem dX2_greatestDivisor_11 : decode cX2_greatestDivisor 11 = .ok (.lload_n 2, 1) := by decide +kernel
theorem dX2_greatestDivisor_12 : decode cX2_greatestDivisor 12 = .ok (.lconst 0, 1) := by decide +kernel
theorem dX2_greatestDivisor_13 : decode cX2_greatestDivisor 13 = .ok (.lcmp, 1) := by decide +kernel
theorem dX2_greatestDivisor_14 : decode cX2_greatestDivisor 14 = .ok (.ifCond .eq 19, 3) := by decide +kernel
theorem dX2_greatestDivisor_17 : decode cX2_greatestDivisor 17 = .ok (.lload_n 0, 1) := by decide +kernel
theorem dX2_greatestDivisor_18 : decode cX2_greatestDivisor 18 = .ok (.lload_n 2, 1) := by decide +kernel
theorem dX2_greatestDivisor_19 : decode cX2_greatestDivisor 19 = .ok (.lrem, 1) := by decide +kernel
theorem dX2_greatestDivisor_20 : decode cX2_greatestDivisor 20 = .ok (.lstore 5, 2) := by decide +kernel
theorem dX2_greatestDivisor_22 : decode cX2_greatestDivisor 22 = .ok (.lload_n 2, 1) := by decide +kernel
theorem dX2_greatestDivisor_23 : decode cX2_greatestDivisor 23 = .ok (.lstore_n 0, 1) := by decide +kernel
theorem dX2_greatestDivisor_24 : decode cX2_greatestDivisor 24 = .ok (.lload 5, 2) := by decide +kernel
theorem dX2_greatestDivisor_26 : decode cX2_greatestDivisor 26 = .ok (.lstore_n 2, 1) := by decide +kernel
theorem dX2_greatestDivisor_27 : decode cX2_greatestDivisor 27 = .ok (.iinc 4 1, 3) := by decide +kernel
theorem dX2_greatestDivisor_30 : decode cX2_greatestDivisor 30 = .ok (.goto (-27), 3) := by decide +kernel
theorem dX2_greatestDivisor_33 : decode cX2_greatestDivisor 33 = .ok (.lload_n 0, 1) := by decide +kernel
theorem dX2_greatestDivisor_34 : decode cX2_greatestDivisor 34 = .ok (.lreturn, 1) := by decide +kernel
set_option maxRecDepth 20000 in
theorem ggX3_init_X2_init : GoodIn wsX3_init wsX2_init := goodIn_r _ [22, 23, 2, 3, 6, 24, 25, 26, 27, 28, 45, 46, 47, 48, 49] (by decide +kernel) (by decide +kernel)
set_option maxRecDepth 20000 in
theorem gX3_init_X2_init_n23 : GoodIn wsX3_init (wsX2_init) := ggX3_init_X2_init
set_option maxRecDepth 20000 in
theorem ggX3_init_X0_init : GoodIn wsX3_init wsX0_init := goodIn_r _ [30, 31, 2, 3, 6, 32, 33, 34, 50, 51, 52] (by decide +kernel) (by decide +kernel)
set_option maxRecDepth 20000 in
theorem gX3_init_X0_init_n30 : GoodIn wsX3_init (wsX0_init) := ggX3_init_X0_init
set_option maxRecDepth 20000 in
theorem ggX3_init_X1_init : GoodIn wsX3_init wsX1_init := goodIn_r _ [36, 37, 2, 3] (by decide +kernel) (by decide +kernel)
set_option maxRecDepth 20000 in
theorem gX3_init_X1_init_n46 : GoodIn wsX3_init (wsX1_init) := ggX3_init_X1_init
theorem dX3_init_0 : decode cX3_init 0 = .ok (.aload_n 0, 1) := by decide +kernel
theorem dX3_init_1 : decode cX3_init 1 = .ok (.invokespecial 3, 3) := by decide +kernel
theorem dX3_init_4 : decode cX3_init 4 = .ok (.aload_n 0, 1) := by decide +kernel
theorem dX3_init_5 : decode cX3_init 5 = .ok (.iconst 4, 1) := by decide +kernel
theorem dX3_init_6 : decode cX3_init 6 = .ok (.anewarray 11, 3) := by decide +kernel
theorem dX3_init_9 : decode cX3_init 9 = .ok (.putfield 13, 3) := by decide +kernel
theorem dX3_init_12 : decode cX3_init 12 = .ok (.aload_n 0, 1) := by decide +kernel
theorem dX3_init_13 : decode cX3_init 13 = .ok (.iconst 4, 1) := by decide +kernel
theorem dX3_init_14 : decode cX3_init 14 = .ok (.newarray .int, 2) := by decide +kernel
theorem dX3_init_16 : decode cX3_init 16 = .ok (.putfield 17, 3) := by decide +kernel
theorem dX3_init_19 : decode cX3_init 19 = .ok (.aload_n 0, 1) := by decide +kernel
theorem dX3_init_20 : decode cX3_init 20 = .ok (.new 21, 3) := by decide +kernel
theorem dX3_init_23 : decode cX3_init 23 = .ok (.dup, 1) := by decide +kernel
theorem dX3_init_24 : decode cX3_init 24 = .ok (.invokespecial 23, 3) := by decide +kernel
theorem dX3_init_27 : decode cX3_init 27 = .ok (.putfield 24, 3) := by decide +kernel
theorem dX3_init_30 : decode cX3_init 30 = .ok (.aload_n 0, 1) := by decide +kernel
theorem dX3_init_31 : decode cX3_init 31 = .ok (.new 28, 3) := by decide +kernel
theorem dX3_init_34 : decode cX3_init 34 = .ok (.dup, 1) := by decide +kernel
theorem dX3_init_35 : decode cX3_init 35 = .ok (.invokespecial 30, 3) := by decide +kernel
theorem dX3_init_38 : decode cX3_init 38 = .ok (.putfield 31, 3) := by decide +kernel
theorem dX3_init_41 : decode cX3_init 41 = .ok (.aload_n 0, 1) := by decide +kernel
theorem dX3_init_42 : decode cX3_init 42 = .ok (.iconst 0, 1) := by decide +kernel
theorem dX3_init_43 : decode cX3_init 43 = .ok (.putfield 35, 3) := by decide +kernel
theorem dX3_init_46 : decode cX3_init 46 = .ok (.aload_n 0, 1) := by decide +kernel
theorem dX3_init_47 : decode cX3_init 47 = .ok (.sipush 1000, 3) := by decide +kernel
theorem dX3_init_50 : decode cX3_init 50 = .ok (.putfield 39, 3) := by decide +kernel
theorem dX3_init_53 : decode cX3_init 53 = .ok (.aload_n 0, 1) := by decide +kernel
theorem dX3_init_54 : decode cX3_init 54 = .ok (.iconst 0, 1) := by decide +kernel
theorem dX3_init_55 : decode cX3_init 55 = .ok (.putfield 43, 3) := by decide +kernel
theorem dX3_init_58 : decode cX3_init 58 = .ok (.iconst 0, 1) := by decide +kernel
theorem dX3_init_59 : decode cX3_init 59 = .ok (.istore_n 1, 1) := by decide +kernel
theorem dX3_init_60 : decode cX3_init 60 = .ok (.iload_n 1, 1) := by decide +kernel
theorem dX3_init_61 : decode cX3_init 61 = .ok (.aload_n 0, 1) := by decide +kernel
theorem dX3_init_62 : decode cX3_init 62 = .ok (.getfield 13, 3) := by decide +kernel
theorem dX3_init_65 : decode cX3_init 65 = .ok (.arraylength, 1) := by decide +kernel
theorem dX3_init_66 : decode cX3_init 66 = .ok (.if_icmp .ge 22, 3) := by decide +kernel
theorem dX3_init_69 : decode cX3_init 69 = .ok (.aload_n 0, 1) := by decide +kernel
theorem dX3_init_70 : decode cX3_init 70 = .ok (.getfield 13, 3) := by decide +kernel
theorem dX3_init_73 : decode cX3_init 73 = .ok (.iload_n 1, 1) := by decide +kernel
theorem dX3_init_74 : decode cX3_init 74 = .ok (.new 11, 3) := by decide +kernel
theorem dX3_init_77 : decode cX3_init 77 = .ok (.dup, 1) := by decide +kernel
theorem dX3_init_78 : decode cX3_init 78 = .ok (.invokespecial 46, 3) := by decide +kernel
theorem dX3_init_81 : decode cX3_init 81 = .ok (.aastore, 1) := by decide +kernel
theorem dX3_init_82 : decode cX3_init 82 = .ok (.iinc 1 1, 3) := by decide +kernel
theorem dX3_init_85 : decode cX3_init 85 = .ok (.goto (-25), 3) := by decide +kernel
theorem dX3_init_88 : decode cX3_init 88 = .ok (.return_, 1) := by decide +kernel
set_option maxRecDepth 20000 in
theorem ggX3_part_X3_within : GoodIn wsX3_part wsX3_within := goodIn_r _ [7] (by decide +kernel) (by decide +kernel)
set_option maxRecDepth 20000 in
theorem gX3_part_X3_within : GoodIn wsX3_part (va_wsS RX3 47 yX3_within wsX3_within) := goodIn_app (goodIn_of _ (by decide +kernel)) ggX3_part_X3_within
set_option maxRecDepth 20000 in
theorem ggX3_part_X1_renew : GoodIn wsX3_part wsX1_renew := goodIn_r _ [12, 13, 14, 15, 16, 17, 18, 19, 20, 21, 22, 23, 24, 32, 33, 34, 35, 36, 37, 38, 39, 40, 41, 42, 43] (by decide +kernel) (by decide +kernel)
set_option maxRecDepth 20000 in
theorem gX3_part_X1_renew : GoodIn wsX3_part (wsV RX3 54 RX1 yX1_renew wsX1_renew) := goodIn_app (goodIn_of _ (by decide +kernel)) ggX3_part_X1_renew
theorem dX3_part_0 : decode cX3_part 0 = .ok (.iload_n 1, 1) := by decide +kernel
theorem dX3_part_1 : decode cX3_part 1 = .ok (.iconst 0, 1) := by decide +kernel
theorem dX3_part_2 : decode cX3_part 2 = .ok (.iconst 3, 1) := by decide +kernel
theorem dX3_part_3 : decode cX3_part 3 = .ok (.invokestatic 47, 3) := by decide +kernel
theorem dX3_part_6 : decode cX3_part 6 = .ok (.ifCond .eq 23, 3) := by decide +kernel
theorem dX3_part_9 : decode cX3_part 9 = .ok (.iload_n 2, 1) := by decide +kernel
theorem dX3_part_10 : decode cX3_part 10 = .ok (.iconst 0, 1) := by decide +kernel
theorem dX3_part_11 : decode cX3_part 11 = .ok (.bipush 7, 2) := by decide +kernel
theorem dX3_part_13 : decode cX3_part 13 = .ok (.invokestatic 47, 3) := by decide +kernel
theorem dX3_part_16 : decode cX3_part 16 = .ok (.ifCond .eq 13, 3) := by decide +kernel
theorem dX3_part_19 : decode cX3_part 19 = .ok (.iload_n 3, 1) := by decide +kernel
theorem dX3_part_20 : decode cX3_part 20 = .ok (.iconst 0, 1) := by decide +kernel
theorem dX3_part_21 : decode cX3_part 21 = .ok (.bipush 7, 2) := by decide +kernel
theorem dX3_part_23 : decode cX3_part 23 = .ok (.invokestatic 47, 3) := by decide +kernel
theorem dX3_part_26 : decode cX3_part 26 = .ok (.ifCond .ne 5, 3) := by decide +kernel
theorem dX3_part_29 : decode cX3_part 29 = .ok (.iconst (-1), 1) := by decide +kernel
theorem dX3_part_30 : decode cX3_part 30 = .ok (.ireturn, 1) := by decide +kernel
theorem dX3_part_31 : decode cX3_part 31 = .ok (.iload 4, 2) := by decide +kernel
theorem dX3_part_33 : decode cX3_part 33 = .ok (.iconst 0, 1) := by decide +kernel
theorem dX3_part_34 : decode cX3_part 34 = .ok (.iconst 3, 1) := by decide +kernel
theorem dX3_part_35 : decode cX3_part 35 = .ok (.invokestatic 47, 3) := by decide +kernel
theorem dX3_part_38 : decode cX3_part 38 = .ok (.ifCond .ne 6, 3) := by decide +kernel
theorem dX3_part_41 : decode cX3_part 41 = .ok (.bipush (-2), 2) := by decide +kernel
theorem dX3_part_43 : decode cX3_part 43 = .ok (.ireturn, 1) := by decide +kernel
theorem dX3_part_44 : decode cX3_part 44 = .ok (.iload_n 2, 1) := by decide +kernel
theorem dX3_part_45 : decode cX3_part 45 = .ok (.iload_n 3, 1) := by decide +kernel
theorem dX3_part_46 : decode cX3_part 46 = .ok (.if_icmp .eq 10, 3) := by decide +kernel
theorem dX3_part_49 : decode cX3_part 49 = .ok (.aload_n 0, 1) := by decide +kernel
theorem dX3_part_50 : decode cX3_part 50 = .ok (.getfield 35, 3) := by decide +kernel
theorem dX3_part_53 : decode cX3_part 53 = .ok (.ifCond .eq 6, 3) := by decide +kernel
theorem dX3_part_56 : decode cX3_part 56 = .ok (.bipush (-3), 2) := by decide +kernel
theorem dX3_part_58 : decode cX3_part 58 = .ok (.ireturn, 1) := by decide +kernel
theorem dX3_part_59 : decode cX3_part 59 = .ok (.aload_n 0, 1) := by decide +kernel
theorem dX3_part_60 : decode cX3_part 60 = .ok (.getfield 13, 3) := by decide +kernel
theorem dX3_part_63 : decode cX3_part 63 = .ok (.iload_n 1, 1) := by decide +kernel
theorem dX3_part_64 : decode cX3_part 64 = .ok (.aaload, 1) := by decide +kernel
theorem dX3_part_65 : decode cX3_part 65 = .ok (.getfield 51, 3) := by decide +kernel
theorem dX3_part_68 : decode cX3_part 68 = .ok (.ifCond .eq 7, 3) := by decide +kernel
theorem dX3_part_71 : decode cX3_part 71 = .ok (.iconst 1, 1) := by decide +kernel
theorem dX3_part_72 : decode cX3_part 72 = .ok (.goto 4, 3) := by decide +kernel
theorem dX3_part_75 : decode cX3_part 75 = .ok (.iconst 0, 1) := by decide +kernel
theorem dX3_part_76 : decode cX3_part 76 = .ok (.istore 5, 2) := by decide +kernel
theorem dX3_part_78 : decode cX3_part 78 = .ok (.aload_n 0, 1) := by decide +kernel
theorem dX3_part_79 : decode cX3_part 79 = .ok (.getfield 13, 3) := by decide +kernel
theorem dX3_part_82 : decode cX3_part 82 = .ok (.iload_n 1, 1) := by decide +kernel
theorem dX3_part_83 : decode cX3_part 83 = .ok (.aaload, 1) := by decide +kernel
theorem dX3_part_84 : decode cX3_part 84 = .ok (.iload_n 2, 1) := by decide +kernel
theorem dX3_part_85 : decode cX3_part 85 = .ok (.iload_n 3, 1) := by decide +kernel
theorem dX3_part_86 : decode cX3_part 86 = .ok (.iload 4, 2) := by decide +kernel
theorem dX3_part_88 : decode cX3_part 88 = .ok (.invokevirtual 54, 3) := by decide +kernel
theorem dX3_part_91 : decode cX3_part 91 = .ok (.iload 5, 2) := by decide +kernel
theorem dX3_part_93 : decode cX3_part 93 = .ok (.ireturn, 1) := by decide +kernel
set_option maxRecDepth 20000 in
theorem ggX3_remove_X3_partAt : GoodIn wsX3_remove wsX3_partAt := goodIn_r _ [7, 8, 2, 9, 10, 6, 11, 12, 13, 14, 15, 16, 17, 18, 19, 20, 21, 22, 23, 24, 25, 26, 27, 28, 29, 30] (by decide +kernel) (by decide +kernel)
set_option maxRecDepth 20000 in
theorem gX3_remove_X3_partAt : GoodIn wsX3_remove (wsV RX3 58 RX3 yX3_partAt wsX3_partAt) := goodIn_app (goodIn_of _ (by decide +kernel)) ggX3_remove_X3_partAt
theorem dX3_remove_0 : decode cX3_remove 0 = .ok (.aload_n 0, 1) := by decide +kernel
theorem dX3_remove_1 : decode cX3_remove 1 = .ok (.iload_n 1, 1) := by decide +kernel
theorem dX3_remove_2 : decode cX3_remove 2 = .ok (.invokevirtual 58, 3) := by decide +kernel
theorem dX3_remove_5 : decode cX3_remove 5 = .ok (.astore_n 2, 1) := by decide +kernel
theorem dX3_remove_6 : decode cX3_remove 6 = .ok (.aload_n 2, 1) := by decide +kernel
theorem dX3_remove_7 : decode cX3_remove 7 = .ok (.ifnonnull 5, 3) := by decide +kernel
theorem dX3_remove_10 : decode cX3_remove 10 = .ok (.iconst (-1), 1) := by decide +kernel
theorem dX3_remove_11 : decode cX3_remove 11 = .ok (.ireturn, 1) := by decide +kernel
theorem dX3_remove_12 : decode cX3_remove 12 = .ok (.aload_n 0, 1) := by decide +kernel
theorem dX3_remove_13 : decode cX3_remove 13 = .ok (.getfield 35, 3) := by decide +kernel
theorem dX3_remove_16 : decode cX3_remove 16 = .ok (.ifCond .eq 6, 3) := by decide +kernel
theorem dX3_remove_19 : decode cX3_remove 19 = .ok (.bipush (-3), 2) := by decide +kernel
theorem dX3_remove_21 : decode cX3_remove 21 = .ok (.ireturn, 1) := by decide +kernel
theorem dX3_remove_22 : decode cX3_remove 22 = .ok (.aload_n 2, 1) := by decide +kernel
theorem dX3_remove_23 : decode cX3_remove 23 = .ok (.iconst 0, 1) := by decide +kernel
theorem dX3_remove_24 : decode cX3_remove 24 = .ok (.putfield 51, 3) := by decide +kernel
theorem dX3_remove_27 : decode cX3_remove 27 = .ok (.iconst 1, 1) := by decide +kernel
theorem dX3_remove_28 : decode cX3_remove 28 = .ok (.ireturn, 1) := by decide +kernel
set_option maxRecDepth 20000 in
theorem ggX3_set_X3_partAt : GoodIn wsX3_set wsX3_partAt := goodIn_r _ [5, 6, 7, 8, 9, 4, 10, 30, 31, 32, 33, 34, 35, 36, 37, 38, 39, 40, 41, 42, 43, 44, 45, 46, 47, 48] (by decide +kernel) (by decide +kernel)
set_option maxRecDepth 20000 in
theorem gX3_set_X3_partAt : GoodIn wsX3_set (wsV RX3 58 RX3 yX3_partAt wsX3_partAt) := goodIn_app (goodIn_of _ (by decide +kernel)) ggX3_set_X3_partAt
set_option maxRecDepth 20000 in
theorem ggX3_set_X1_takes : GoodIn wsX3_set wsX1_takes := goodIn_r _ [14, 15, 16] (by decide +kernel) (by decide +kernel)
set_option maxRecDepth 20000 in
theorem gX3_set_X1_takes : GoodIn wsX3_set (va_wsS RX3 62 yX1_takes wsX1_takes) := goodIn_app (goodIn_of _ (by decide +kernel)) ggX3_set_X1_takes
set_option maxRecDepth 20000 in
theorem ggX3_set_X1_number : GoodIn wsX3_set wsX1_number := goodIn_r _ [20, 21, 22, 23, 24, 25, 37, 38, 39, 40, 41, 42, 43, 44, 45, 46, 47, 48] (by decide +kernel) (by decide +kernel)
set_option maxRecDepth 20000 in
theorem gX3_set_X1_number : GoodIn wsX3_set (wsV RX3 66 RX1 yX1_number wsX1_number) := goodIn_app (goodIn_of _ (by decide +kernel)) ggX3_set_X1_number
set_option maxRecDepth 20000 in
theorem ggX3_set_X1_putNumber : GoodIn wsX3_set wsX1_putNumber := goodIn_r _ [29, 21, 22, 23, 24, 25, 37, 38, 39, 40, 41, 42, 43, 44, 45, 46, 47, 48] (by decide +kernel) (by decide +kernel)
set_option maxRecDepth 20000 in
theorem gX3_set_X1_putNumber : GoodIn wsX3_set (wsV RX3 70 RX1 yX1_putNumber wsX1_putNumber) := goodIn_app (goodIn_of _ (by decide +kernel)) ggX3_set_X1_putNumber
theorem dX3_set_0 : decode cX3_set 0 = .ok (.aload_n 0, 1) := by decide +kernel
theorem dX3_set_1 : decode cX3_set 1 = .ok (.iload_n 1, 1) := by decide +kernel
theorem dX3_set_2 : decode cX3_set 2 = .ok (.invokevirtual 58, 3) := by decide +kernel
theorem dX3_set_5 : decode cX3_set 5 = .ok (.astore 4, 2) := by decide +kernel
theorem dX3_set_7 : decode cX3_set 7 = .ok (.aload 4, 2) := by decide +kernel
theorem dX3_set_9 : decode cX3_set 9 = .ok (.ifnonnull 5, 3) := by decide +kernel
theorem dX3_set_12 : decode cX3_set 12 = .ok (.iconst (-1), 1) := by decide +kernel
theorem dX3_set_13 : decode cX3_set 13 = .ok (.ireturn, 1) := by decide +kernel
theorem dX3_set_14 : decode cX3_set 14 = .ok (.iload_n 2, 1) := by decide +kernel
theorem dX3_set_15 : decode cX3_set 15 = .ok (.iload_n 3, 1) := by decide +kernel
theorem dX3_set_16 : decode cX3_set 16 = .ok (.invokestatic 62, 3) := by decide +kernel
theorem dX3_set_19 : decode cX3_set 19 = .ok (.ifCond .ne 6, 3) := by decide +kernel
theorem dX3_set_22 : decode cX3_set 22 = .ok (.bipush (-2), 2) := by decide +kernel
theorem dX3_set_24 : decode cX3_set 24 = .ok (.ireturn, 1) := by decide +kernel
theorem dX3_set_25 : decode cX3_set 25 = .ok (.aload 4, 2) := by decide +kernel
theorem dX3_set_27 : decode cX3_set 27 = .ok (.iload_n 2, 1) := by decide +kernel
theorem dX3_set_28 : decode cX3_set 28 = .ok (.invokevirtual 66, 3) := by decide +kernel
theorem dX3_set_31 : decode cX3_set 31 = .ok (.istore 5, 2) := by decide +kernel
theorem dX3_set_33 : decode cX3_set 33 = .ok (.aload 4, 2) := by decide +kernel
theorem dX3_set_35 : decode cX3_set 35 = .ok (.iload_n 2, 1) := by decide +kernel
theorem dX3_set_36 : decode cX3_set 36 = .ok (.iload_n 3, 1) := by decide +kernel
theorem dX3_set_37 : decode cX3_set 37 = .ok (.invokevirtual 70, 3) := by decide +kernel
theorem dX3_set_40 : decode cX3_set 40 = .ok (.iload 5, 2) := by decide +kernel
theorem dX3_set_42 : decode cX3_set 42 = .ok (.ireturn, 1) := by decide +kernel
set_option maxRecDepth 20000 in
theorem ggX3_ofPart_X3_partAt : GoodIn wsX3_ofPart wsX3_partAt := goodIn_r _ [11, 12, 13, 14, 15, 10, 16, 39, 40, 41, 42, 43, 44, 45, 27, 28, 29, 30, 31, 32, 33, 34, 35, 36, 37, 38] (by decide +kernel) (by decide +kernel)
set_option maxRecDepth 20000 in
theorem gX3_ofPart_X3_partAt : GoodIn wsX3_ofPart (wsV RX3 58 RX3 yX3_partAt wsX3_partAt) := goodIn_app (goodIn_of _ (by decide +kernel)) ggX3_ofPart_X3_partAt
set_option maxRecDepth 20000 in
theorem ggX3_ofPart_X3_within : GoodIn wsX3_ofPart wsX3_within := goodIn_r _ [16] (by decide +kernel) (by decide +kernel)
set_option maxRecDepth 20000 in
theorem gX3_ofPart_X3_within : GoodIn wsX3_ofPart (va_wsS RX3 47 yX3_within wsX3_within) := goodIn_app (goodIn_of _ (by decide +kernel)) ggX3_ofPart_X3_within
set_option maxRecDepth 20000 in
theorem ggX3_ofPart_X1_number : GoodIn wsX3_ofPart wsX1_number := goodIn_r _ [21, 22, 23, 24, 25, 26, 27, 28, 29, 30, 31, 32, 33, 34, 35, 36, 37, 38] (by decide +kernel) (by decide +kernel)
set_option maxRecDepth 20000 in
theorem gX3_ofPart_X1_number : GoodIn wsX3_ofPart (wsV RX3 66 RX1 yX1_number wsX1_number) := goodIn_app (goodIn_of _ (by decide +kernel)) ggX3_ofPart_X1_number
theorem dX3_ofPart_0 : decode cX3_ofPart 0 = .ok (.aload_n 0, 1) := by decide +kernel
theorem dX3_ofPart_1 : decode cX3_ofPart 1 = .ok (.iload_n 1, 1) := by decide +kernel
theorem dX3_ofPart_2 : decode cX3_ofPart 2 = .ok (.invokevirtual 58, 3) := by decide +kernel
theorem dX3_ofPart_5 : decode cX3_ofPart 5 = .ok (.astore_n 3, 1) := by decide +kernel
theorem dX3_ofPart_6 : decode cX3_ofPart 6 = .ok (.aload_n 3, 1) := by decide +kernel
theorem dX3_ofPart_7 : decode cX3_ofPart 7 = .ok (.ifnonnull 5, 3) := by decide +kernel
theorem dX3_ofPart_10 : decode cX3_ofPart 10 = .ok (.iconst (-1), 1) := by decide +kernel
theorem dX3_ofPart_11 : decode cX3_ofPart 11 = .ok (.ireturn, 1) := by decide +kernel
theorem dX3_ofPart_12 : decode cX3_ofPart 12 = .ok (.iload_n 2, 1) := by decide +kernel
theorem dX3_ofPart_13 : decode cX3_ofPart 13 = .ok (.bipush 10, 2) := by decide +kernel
theorem dX3_ofPart_15 : decode cX3_ofPart 15 = .ok (.bipush 14, 2) := by decide +kernel
theorem dX3_ofPart_17 : decode cX3_ofPart 17 = .ok (.invokestatic 47, 3) := by decide +kernel
theorem dX3_ofPart_20 : decode cX3_ofPart 20 = .ok (.ifCond .eq 12, 3) := by decide +kernel
theorem dX3_ofPart_23 : decode cX3_ofPart 23 = .ok (.aload_n 3, 1) := by decide +kernel
theorem dX3_ofPart_24 : decode cX3_ofPart 24 = .ok (.iload_n 2, 1) := by decide +kernel
theorem dX3_ofPart_25 : decode cX3_ofPart 25 = .ok (.bipush 10, 2) := by decide +kernel
theorem dX3_ofPart_27 : decode cX3_ofPart 27 = .ok (.isub, 1) := by decide +kernel
theorem dX3_ofPart_28 : decode cX3_ofPart 28 = .ok (.invokevirtual 66, 3) := by decide +kernel
theorem dX3_ofPart_31 : decode cX3_ofPart 31 = .ok (.ireturn, 1) := by decide +kernel
theorem dX3_ofPart_32 : decode cX3_ofPart 32 = .ok (.iload_n 2, 1) := by decide +kernel
theorem dX3_ofPart_33 : decode cX3_ofPart 33 = .ok (.tableswitch 85 0 5 #[39, 44, 49, 54, 59, 72], 39) := by decide +kernel
theorem dX3_ofPart_72 : decode cX3_ofPart 72 = .ok (.aload_n 3, 1) := by decide +kernel
theorem dX3_ofPart_73 : decode cX3_ofPart 73 = .ok (.getfield 74, 3) := by decide +kernel
theorem dX3_ofPart_76 : decode cX3_ofPart 76 = .ok (.ireturn, 1) := by decide +kernel
theorem dX3_ofPart_77 : decode cX3_ofPart 77 = .ok (.aload_n 3, 1) := by decide +kernel
theorem dX3_ofPart_78 : decode cX3_ofPart 78 = .ok (.getfield 77, 3) := by decide +kernel
theorem dX3_ofPart_81 : decode cX3_ofPart 81 = .ok (.ireturn, 1) := by decide +kernel
theorem dX3_ofPart_82 : decode cX3_ofPart 82 = .ok (.aload_n 3, 1) := by decide +kernel
theorem dX3_ofPart_83 : decode cX3_ofPart 83 = .ok (.getfield 80, 3) := by decide +kernel
theorem dX3_ofPart_86 : decode cX3_ofPart 86 = .ok (.ireturn, 1) := by decide +kernel
theorem dX3_ofPart_87 : decode cX3_ofPart 87 = .ok (.aload_n 3, 1) := by decide +kernel
theorem dX3_ofPart_88 : decode cX3_ofPart 88 = .ok (.getfield 83, 3) := by decide +kernel
theorem dX3_ofPart_91 : decode cX3_ofPart 91 = .ok (.ireturn, 1) := by decide +kernel
theorem dX3_ofPart_92 : decode cX3_ofPart 92 = .ok (.aload_n 3, 1) := by decide +kernel
theorem dX3_ofPart_93 : decode cX3_ofPart 93 = .ok (.getfield 86, 3) := by decide +kernel
theorem dX3_ofPart_96 : decode cX3_ofPart 96 = .ok (.ifCond .eq 7, 3) := by decide +kernel
theorem dX3_ofPart_99 : decode cX3_ofPart 99 = .ok (.iconst 1, 1) := by decide +kernel
theorem dX3_ofPart_100 : decode cX3_ofPart 100 = .ok (.goto 4, 3) := by decide +kernel
theorem dX3_ofPart_103 : decode cX3_ofPart 103 = .ok (.iconst 0, 1) := by decide +kernel
theorem dX3_ofPart_104 : decode cX3_ofPart 104 = .ok (.ireturn, 1) := by decide +kernel
theorem dX3_ofPart_105 : decode cX3_ofPart 105 = .ok (.aload_n 3, 1) := by decide +kernel
theorem dX3_ofPart_106 : decode cX3_ofPart 106 = .ok (.getfield 89, 3) := by decide +kernel
theorem dX3_ofPart_109 : decode cX3_ofPart 109 = .ok (.ifCond .eq 7, 3) := by decide +kernel
theorem dX3_ofPart_112 : decode cX3_ofPart 112 = .ok (.iconst 1, 1) := by decide +kernel
theorem dX3_ofPart_113 : decode cX3_ofPart 113 = .ok (.goto 4, 3) := by decide +kernel
theorem dX3_ofPart_116 : decode cX3_ofPart 116 = .ok (.iconst 0, 1) := by decide +kernel
theorem dX3_ofPart_117 : decode cX3_ofPart 117 = .ok (.ireturn, 1) := by decide +kernel
theorem dX3_ofPart_118 : decode cX3_ofPart 118 = .ok (.bipush (-2), 2) := by decide +kernel
theorem dX3_ofPart_120 : decode cX3_ofPart 120 = .ok (.ireturn, 1) := by decide +kernel
set_option maxRecDepth 20000 in
theorem ggX3_relay_X3_within : GoodIn wsX3_relay wsX3_within := goodIn_r _ [6] (by decide +kernel) (by decide +kernel)
set_option maxRecDepth 20000 in
theorem gX3_relay_X3_within : GoodIn wsX3_relay (va_wsS RX3 47 yX3_within wsX3_within) := goodIn_app (goodIn_of _ (by decide +kernel)) ggX3_relay_X3_within
set_option maxRecDepth 20000 in
theorem ggX3_relay_X3_wouldShort : GoodIn wsX3_relay wsX3_wouldShort := goodIn_r _ [10, 2, 11, 12, 13, 14, 15, 16, 17] (by decide +kernel) (by decide +kernel)
set_option maxRecDepth 20000 in
theorem gX3_relay_X3_wouldShort : GoodIn wsX3_relay (wsV RX3 92 RX3 yX3_wouldShort wsX3_wouldShort) := goodIn_app (goodIn_of _ (by decide +kernel)) ggX3_relay_X3_wouldShort
theorem dX3_relay_0 : decode cX3_relay 0 = .ok (.iload_n 1, 1) := by decide +kernel
theorem dX3_relay_1 : decode cX3_relay 1 = .ok (.iconst 0, 1) := by decide +kernel
theorem dX3_relay_2 : decode cX3_relay 2 = .ok (.iconst 3, 1) := by decide +kernel
theorem dX3_relay_3 : decode cX3_relay 3 = .ok (.invokestatic 47, 3) := by decide +kernel
theorem dX3_relay_6 : decode cX3_relay 6 = .ok (.ifCond .eq 13, 3) := by decide +kernel
theorem dX3_relay_9 : decode cX3_relay 9 = .ok (.iload_n 2, 1) := by decide +kernel
theorem dX3_relay_10 : decode cX3_relay 10 = .ok (.iconst 0, 1) := by decide +kernel
theorem dX3_relay_11 : decode cX3_relay 11 = .ok (.bipush 7, 2) := by decide +kernel
theorem dX3_relay_13 : decode cX3_relay 13 = .ok (.invokestatic 47, 3) := by decide +kernel
theorem dX3_relay_16 : decode cX3_relay 16 = .ok (.ifCond .ne 5, 3) := by decide +kernel
theorem dX3_relay_19 : decode cX3_relay 19 = .ok (.iconst (-1), 1) := by decide +kernel
theorem dX3_relay_20 : decode cX3_relay 20 = .ok (.ireturn, 1) := by decide +kernel
theorem dX3_relay_21 : decode cX3_relay 21 = .ok (.iload_n 3, 1) := by decide +kernel
theorem dX3_relay_22 : decode cX3_relay 22 = .ok (.iconst 0, 1) := by decide +kernel
theorem dX3_relay_23 : decode cX3_relay 23 = .ok (.iconst 1, 1) := by decide +kernel
theorem dX3_relay_24 : decode cX3_relay 24 = .ok (.invokestatic 47, 3) := by decide +kernel
theorem dX3_relay_27 : decode cX3_relay 27 = .ok (.ifCond .ne 6, 3) := by decide +kernel
theorem dX3_relay_30 : decode cX3_relay 30 = .ok (.bipush (-2), 2) := by decide +kernel
theorem dX3_relay_32 : decode cX3_relay 32 = .ok (.ireturn, 1) := by decide +kernel
theorem dX3_relay_33 : decode cX3_relay 33 = .ok (.iconst 1, 1) := by decide +kernel
theorem dX3_relay_34 : decode cX3_relay 34 = .ok (.iload_n 2, 1) := by decide +kernel
theorem dX3_relay_35 : decode cX3_relay 35 = .ok (.ishl, 1) := by decide +kernel
theorem dX3_relay_36 : decode cX3_relay 36 = .ok (.istore 4, 2) := by decide +kernel
theorem dX3_relay_38 : decode cX3_relay 38 = .ok (.aload_n 0, 1) := by decide +kernel
theorem dX3_relay_39 : decode cX3_relay 39 = .ok (.getfield 35, 3) := by decide +kernel
theorem dX3_relay_42 : decode cX3_relay 42 = .ok (.ifCond .ne 18, 3) := by decide +kernel
theorem dX3_relay_45 : decode cX3_relay 45 = .ok (.iload_n 3, 1) := by decide +kernel
theorem dX3_relay_46 : decode cX3_relay 46 = .ok (.iconst 1, 1) := by decide +kernel
theorem dX3_relay_47 : decode cX3_relay 47 = .ok (.if_icmp .ne 16, 3) := by decide +kernel
theorem dX3_relay_50 : decode cX3_relay 50 = .ok (.aload_n 0, 1) := by decide +kernel
theorem dX3_relay_51 : decode cX3_relay 51 = .ok (.iload_n 1, 1) := by decide +kernel
theorem dX3_relay_52 : decode cX3_relay 52 = .ok (.iload 4, 2) := by decide +kernel
theorem dX3_relay_54 : decode cX3_relay 54 = .ok (.invokevirtual 92, 3) := by decide +kernel
theorem dX3_relay_57 : decode cX3_relay 57 = .ok (.ifCond .eq 6, 3) := by decide +kernel
theorem dX3_relay_60 : decode cX3_relay 60 = .ok (.bipush (-3), 2) := by decide +kernel
theorem dX3_relay_62 : decode cX3_relay 62 = .ok (.ireturn, 1) := by decide +kernel
theorem dX3_relay_63 : decode cX3_relay 63 = .ok (.aload_n 0, 1) := by decide +kernel
theorem dX3_relay_64 : decode cX3_relay 64 = .ok (.getfield 17, 3) := by decide +kernel
theorem dX3_relay_67 : decode cX3_relay 67 = .ok (.iload_n 1, 1) := by decide +kernel
theorem dX3_relay_68 : decode cX3_relay 68 = .ok (.iaload, 1) := by decide +kernel
theorem dX3_relay_69 : decode cX3_relay 69 = .ok (.iload 4, 2) := by decide +kernel
theorem dX3_relay_71 : decode cX3_relay 71 = .ok (.iand, 1) := by decide +kernel
theorem dX3_relay_72 : decode cX3_relay 72 = .ok (.ifCond .eq 7, 3) := by decide +kernel
theorem dX3_relay_75 : decode cX3_relay 75 = .ok (.iconst 1, 1) := by decide +kernel
theorem dX3_relay_76 : decode cX3_relay 76 = .ok (.goto 4, 3) := by decide +kernel
theorem dX3_relay_79 : decode cX3_relay 79 = .ok (.iconst 0, 1) := by decide +kernel
theorem dX3_relay_80 : decode cX3_relay 80 = .ok (.istore 5, 2) := by decide +kernel
theorem dX3_relay_82 : decode cX3_relay 82 = .ok (.aload_n 0, 1) := by decide +kernel
theorem dX3_relay_83 : decode cX3_relay 83 = .ok (.getfield 17, 3) := by decide +kernel
theorem dX3_relay_86 : decode cX3_relay 86 = .ok (.iload_n 1, 1) := by decide +kernel
theorem dX3_relay_87 : decode cX3_relay 87 = .ok (.iload_n 3, 1) := by decide +kernel
theorem dX3_relay_88 : decode cX3_relay 88 = .ok (.iconst 1, 1) := by decide +kernel
theorem dX3_relay_89 : decode cX3_relay 89 = .ok (.if_icmp .ne 15, 3) := by decide +kernel
theorem dX3_relay_92 : decode cX3_relay 92 = .ok (.aload_n 0, 1) := by decide +kernel
theorem dX3_relay_93 : decode cX3_relay 93 = .ok (.getfield 17, 3) := by decide +kernel
theorem dX3_relay_96 : decode cX3_relay 96 = .ok (.iload_n 1, 1) := by decide +kernel
theorem dX3_relay_97 : decode cX3_relay 97 = .ok (.iaload, 1) := by decide +kernel
theorem dX3_relay_98 : decode cX3_relay 98 = .ok (.iload 4, 2) := by decide +kernel
theorem dX3_relay_100 : decode cX3_relay 100 = .ok (.ior, 1) := by decide +kernel
theorem dX3_relay_101 : decode cX3_relay 101 = .ok (.goto 14, 3) := by decide +kernel
theorem dX3_relay_104 : decode cX3_relay 104 = .ok (.aload_n 0, 1) := by decide +kernel
theorem dX3_relay_105 : decode cX3_relay 105 = .ok (.getfield 17, 3) := by decide +kernel
theorem dX3_relay_108 : decode cX3_relay 108 = .ok (.iload_n 1, 1) := by decide +kernel
theorem dX3_relay_109 : decode cX3_relay 109 = .ok (.iaload, 1) := by decide +kernel
theorem dX3_relay_110 : decode cX3_relay 110 = .ok (.iload 4, 2) := by decide +kernel
theorem dX3_relay_112 : decode cX3_relay 112 = .ok (.iconst (-1), 1) := by decide +kernel
theorem dX3_relay_113 : decode cX3_relay 113 = .ok (.ixor, 1) := by decide +kernel
theorem dX3_relay_114 : decode cX3_relay 114 = .ok (.iand, 1) := by decide +kernel
theorem dX3_relay_115 : decode cX3_relay 115 = .ok (.iastore, 1) := by decide +kernel
theorem dX3_relay_116 : decode cX3_relay 116 = .ok (.iload 5, 2) := by decide +kernel
theorem dX3_relay_118 : decode cX3_relay 118 = .ok (.ireturn, 1) := by decide +kernel
set_option maxRecDepth 20000 in
theorem ggX3_pins_X3_within : GoodIn wsX3_pins wsX3_within := goodIn_r _ [5] (by decide +kernel) (by decide +kernel)
set_option maxRecDepth 20000 in
theorem gX3_pins_X3_within : GoodIn wsX3_pins (va_wsS RX3 47 yX3_within wsX3_within) := goodIn_app (goodIn_of _ (by decide +kernel)) ggX3_pins_X3_within
theorem dX3_pins_0 : decode cX3_pins 0 = .ok (.iload_n 1, 1) := by decide +kernel
theorem dX3_pins_1 : decode cX3_pins 1 = .ok (.iconst 0, 1) := by decide +kernel
theorem dX3_pins_2 : decode cX3_pins 2 = .ok (.iconst 3, 1) := by decide +kernel
theorem dX3_pins_3 : decode cX3_pins 3 = .ok (.invokestatic 47, 3) := by decide +kernel
theorem dX3_pins_6 : decode cX3_pins 6 = .ok (.ifCond .eq 12, 3) := by decide +kernel
theorem dX3_pins_9 : decode cX3_pins 9 = .ok (.aload_n 0, 1) := by decide +kernel
theorem dX3_pins_10 : decode cX3_pins 10 = .ok (.getfield 17, 3) := by decide +kernel
theorem dX3_pins_13 : decode cX3_pins 13 = .ok (.iload_n 1, 1) := by decide +kernel
theorem dX3_pins_14 : decode cX3_pins 14 = .ok (.iaload, 1) := by decide +kernel
theorem dX3_pins_15 : decode cX3_pins 15 = .ok (.goto 4, 3) := by decide +kernel
theorem dX3_pins_18 : decode cX3_pins 18 = .ok (.iconst (-1), 1) := by decide +kernel
theorem dX3_pins_19 : decode cX3_pins 19 = .ok (.ireturn, 1) := by decide +kernel
set_option maxRecDepth 20000 in
theorem ggX3_power_X3_within : GoodIn wsX3_power wsX3_within := goodIn_r _ [5] (by decide +kernel) (by decide +kernel)
set_option maxRecDepth 20000 in
theorem gX3_power_X3_within : GoodIn wsX3_power (va_wsS RX3 47 yX3_within wsX3_within) := goodIn_app (goodIn_of _ (by decide +kernel)) ggX3_power_X3_within
set_option maxRecDepth 20000 in
theorem ggX3_power_X3_inHand : GoodIn wsX3_power wsX3_inHand := goodIn_r _ [9, 10, 11, 12, 13, 14, 4, 15, 16, 17, 18, 19, 20, 21, 22, 23, 24, 25, 26, 27, 28, 29, 30, 31, 32, 33, 34, 35, 36, 37, 38, 39, 40, 41, 42, 43, 44, 45, 46, 47, 48] (by decide +kernel) (by decide +kernel)
set_option maxRecDepth 20000 in
theorem gX3_power_X3_inHand : GoodIn wsX3_power (wsV RX3 95 RX3 yX3_inHand wsX3_inHand) := goodIn_app (goodIn_of _ (by decide +kernel)) ggX3_power_X3_inHand
theorem dX3_power_0 : decode cX3_power 0 = .ok (.iload_n 1, 1) := by decide +kernel
theorem dX3_power_1 : decode cX3_power 1 = .ok (.iconst 0, 1) := by decide +kernel
theorem dX3_power_2 : decode cX3_power 2 = .ok (.iconst 1, 1) := by decide +kernel
theorem dX3_power_3 : decode cX3_power 3 = .ok (.invokestatic 47, 3) := by decide +kernel
theorem dX3_power_6 : decode cX3_power 6 = .ok (.ifCond .ne 6, 3) := by decide +kernel
theorem dX3_power_9 : decode cX3_power 9 = .ok (.bipush (-2), 2) := by decide +kernel
theorem dX3_power_11 : decode cX3_power 11 = .ok (.ireturn, 1) := by decide +kernel
theorem dX3_power_12 : decode cX3_power 12 = .ok (.iload_n 1, 1) := by decide +kernel
theorem dX3_power_13 : decode cX3_power 13 = .ok (.iconst 1, 1) := by decide +kernel
theorem dX3_power_14 : decode cX3_power 14 = .ok (.if_icmp .ne 15, 3) := by decide +kernel
theorem dX3_power_17 : decode cX3_power 17 = .ok (.aload_n 0, 1) := by decide +kernel
theorem dX3_power_18 : decode cX3_power 18 = .ok (.invokevirtual 95, 3) := by decide +kernel
theorem dX3_power_21 : decode cX3_power 21 = .ok (.bipush (-9), 2) := by decide +kernel
theorem dX3_power_23 : decode cX3_power 23 = .ok (.if_icmp .ne 6, 3) := by decide +kernel
theorem dX3_power_26 : decode cX3_power 26 = .ok (.bipush (-3), 2) := by decide +kernel
theorem dX3_power_28 : decode cX3_power 28 = .ok (.ireturn, 1) := by decide +kernel
theorem dX3_power_29 : decode cX3_power 29 = .ok (.aload_n 0, 1) := by decide +kernel
theorem dX3_power_30 : decode cX3_power 30 = .ok (.getfield 35, 3) := by decide +kernel
theorem dX3_power_33 : decode cX3_power 33 = .ok (.ifCond .eq 7, 3) := by decide +kernel
theorem dX3_power_36 : decode cX3_power 36 = .ok (.iconst 1, 1) := by decide +kernel
theorem dX3_power_37 : decode cX3_power 37 = .ok (.goto 4, 3) := by decide +kernel
theorem dX3_power_40 : decode cX3_power 40 = .ok (.iconst 0, 1) := by decide +kernel
theorem dX3_power_41 : decode cX3_power 41 = .ok (.istore_n 2, 1) := by decide +kernel
theorem dX3_power_42 : decode cX3_power 42 = .ok (.aload_n 0, 1) := by decide +kernel
theorem dX3_power_43 : decode cX3_power 43 = .ok (.iload_n 1, 1) := by decide +kernel
theorem dX3_power_44 : decode cX3_power 44 = .ok (.iconst 1, 1) := by decide +kernel
theorem dX3_power_45 : decode cX3_power 45 = .ok (.if_icmp .ne 7, 3) := by decide +kernel
theorem dX3_power_48 : decode cX3_power 48 = .ok (.iconst 1, 1) := by decide +kernel
theorem dX3_power_49 : decode cX3_power 49 = .ok (.goto 4, 3) := by decide +kernel
theorem dX3_power_52 : decode cX3_power 52 = .ok (.iconst 0, 1) := by decide +kernel
theorem dX3_power_53 : decode cX3_power 53 = .ok (.putfield 35, 3) := by decide +kernel
theorem dX3_power_56 : decode cX3_power 56 = .ok (.iload_n 2, 1) := by decide +kernel
theorem dX3_power_57 : decode cX3_power 57 = .ok (.ireturn, 1) := by decide +kernel
set_option maxRecDepth 20000 in
theorem ggX3_limit_X3_within : GoodIn wsX3_limit wsX3_within := goodIn_r _ [5] (by decide +kernel) (by decide +kernel)
set_option maxRecDepth 20000 in
theorem gX3_limit_X3_within : GoodIn wsX3_limit (va_wsS RX3 47 yX3_within wsX3_within) := goodIn_app (goodIn_of _ (by decide +kernel)) ggX3_limit_X3_within
theorem dX3_limit_0 : decode cX3_limit 0 = .ok (.iload_n 1, 1) := by decide +kernel
theorem dX3_limit_1 : decode cX3_limit 1 = .ok (.iconst 1, 1) := by decide +kernel
theorem dX3_limit_2 : decode cX3_limit 2 = .ok (.sipush 20000, 3) := by decide +kernel
theorem dX3_limit_5 : decode cX3_limit 5 = .ok (.invokestatic 47, 3) := by decide +kernel
theorem dX3_limit_8 : decode cX3_limit 8 = .ok (.ifCond .ne 6, 3) := by decide +kernel
theorem dX3_limit_11 : decode cX3_limit 11 = .ok (.bipush (-2), 2) := by decide +kernel
theorem dX3_limit_13 : decode cX3_limit 13 = .ok (.ireturn, 1) := by decide +kernel
theorem dX3_limit_14 : decode cX3_limit 14 = .ok (.aload_n 0, 1) := by decide +kernel
theorem dX3_limit_15 : decode cX3_limit 15 = .ok (.getfield 39, 3) := by decide +kernel
theorem dX3_limit_18 : decode cX3_limit 18 = .ok (.istore_n 2, 1) := by decide +kernel
theorem dX3_limit_19 : decode cX3_limit 19 = .ok (.aload_n 0, 1) := by decide +kernel
theorem dX3_limit_20 : decode cX3_limit 20 = .ok (.iload_n 1, 1) := by decide +kernel
theorem dX3_limit_21 : decode cX3_limit 21 = .ok (.putfield 39, 3) := by decide +kernel
theorem dX3_limit_24 : decode cX3_limit 24 = .ok (.iload_n 2, 1) := by decide +kernel
theorem dX3_limit_25 : decode cX3_limit 25 = .ok (.ireturn, 1) := by decide +kernel
set_option maxRecDepth 20000 in
theorem ggX3_leads_X3_within : GoodIn wsX3_leads wsX3_within := goodIn_r _ [5] (by decide +kernel) (by decide +kernel)
set_option maxRecDepth 20000 in
theorem gX3_leads_X3_within : GoodIn wsX3_leads (va_wsS RX3 47 yX3_within wsX3_within) := goodIn_app (goodIn_of _ (by decide +kernel)) ggX3_leads_X3_within
theorem dX3_leads_0 : decode cX3_leads 0 = .ok (.iload_n 1, 1) := by decide +kernel
theorem dX3_leads_1 : decode cX3_leads 1 = .ok (.iconst 0, 1) := by decide +kernel
theorem dX3_leads_2 : decode cX3_leads 2 = .ok (.sipush 200, 3) := by decide +kernel
theorem dX3_leads_5 : decode cX3_leads 5 = .ok (.invokestatic 47, 3) := by decide +kernel
theorem dX3_leads_8 : decode cX3_leads 8 = .ok (.ifCond .ne 6, 3) := by decide +kernel
theorem dX3_leads_11 : decode cX3_leads 11 = .ok (.bipush (-2), 2) := by decide +kernel
theorem dX3_leads_13 : decode cX3_leads 13 = .ok (.ireturn, 1) := by decide +kernel
theorem dX3_leads_14 : decode cX3_leads 14 = .ok (.aload_n 0, 1) := by decide +kernel
theorem dX3_leads_15 : decode cX3_leads 15 = .ok (.getfield 43, 3) := by decide +kernel
theorem dX3_leads_18 : decode cX3_leads 18 = .ok (.istore_n 2, 1) := by decide +kernel
theorem dX3_leads_19 : decode cX3_leads 19 = .ok (.aload_n 0, 1) := by decide +kernel
theorem dX3_leads_20 : decode cX3_leads 20 = .ok (.iload_n 1, 1) := by decide +kernel
theorem dX3_leads_21 : decode cX3_leads 21 = .ok (.putfield 43, 3) := by decide +kernel
theorem dX3_leads_24 : decode cX3_leads 24 = .ok (.iload_n 2, 1) := by decide +kernel
theorem dX3_leads_25 : decode cX3_leads 25 = .ok (.ireturn, 1) := by decide +kernel
set_option maxRecDepth 20000 in
theorem ggX3_now_X3_inHand : GoodIn wsX3_now wsX3_inHand := goodIn_r _ [8, 9, 10, 11, 12, 13, 7, 14, 15, 16, 17, 18, 19, 20, 21, 22, 23, 24, 25, 26, 27, 28, 33, 34, 35, 36, 37, 38, 39, 40, 41, 42, 43, 44, 45, 46, 47, 48, 49, 50, 51] (by decide +kernel) (by decide +kernel)
set_option maxRecDepth 20000 in
theorem gX3_now_X3_inHand : GoodIn wsX3_now (wsV RX3 95 RX3 yX3_inHand wsX3_inHand) := goodIn_app (goodIn_of _ (by decide +kernel)) ggX3_now_X3_inHand
set_option maxRecDepth 20000 in
theorem ggX3_now_X3_fourWires : GoodIn wsX3_now wsX3_fourWires := goodIn_r _ [32, 15, 11, 12, 13, 7, 14, 16, 17, 18, 19, 20, 21, 22, 33, 34, 35, 36, 37, 38, 39] (by decide +kernel) (by decide +kernel)
set_option maxRecDepth 20000 in
theorem gX3_now_X3_fourWires : GoodIn wsX3_now (wsV RX3 99 RX3 yX3_fourWires wsX3_fourWires) := goodIn_app (goodIn_of _ (by decide +kernel)) ggX3_now_X3_fourWires
theorem dX3_now_0 : decode cX3_now 0 = .ok (.iload_n 1, 1) := by decide +kernel
theorem dX3_now_1 : decode cX3_now 1 = .ok (.tableswitch 76 0 4 #[35, 40, 53, 66, 71], 35) := by decide +kernel
theorem dX3_now_36 : decode cX3_now 36 = .ok (.aload_n 0, 1) := by decide +kernel
theorem dX3_now_37 : decode cX3_now 37 = .ok (.invokevirtual 95, 3) := by decide +kernel
theorem dX3_now_40 : decode cX3_now 40 = .ok (.ireturn, 1) := by decide +kernel
theorem dX3_now_41 : decode cX3_now 41 = .ok (.aload_n 0, 1) := by decide +kernel
theorem dX3_now_42 : decode cX3_now 42 = .ok (.invokevirtual 99, 3) := by decide +kernel
theorem dX3_now_45 : decode cX3_now 45 = .ok (.ifCond .eq 7, 3) := by decide +kernel
theorem dX3_now_48 : decode cX3_now 48 = .ok (.iconst 4, 1) := by decide +kernel
theorem dX3_now_49 : decode cX3_now 49 = .ok (.goto 4, 3) := by decide +kernel
theorem dX3_now_52 : decode cX3_now 52 = .ok (.iconst 2, 1) := by decide +kernel
theorem dX3_now_53 : decode cX3_now 53 = .ok (.ireturn, 1) := by decide +kernel
theorem dX3_now_54 : decode cX3_now 54 = .ok (.aload_n 0, 1) := by decide +kernel
theorem dX3_now_55 : decode cX3_now 55 = .ok (.getfield 35, 3) := by decide +kernel
theorem dX3_now_58 : decode cX3_now 58 = .ok (.ifCond .eq 7, 3) := by decide +kernel
theorem dX3_now_61 : decode cX3_now 61 = .ok (.iconst 1, 1) := by decide +kernel
theorem dX3_now_62 : decode cX3_now 62 = .ok (.goto 4, 3) := by decide +kernel
theorem dX3_now_65 : decode cX3_now 65 = .ok (.iconst 0, 1) := by decide +kernel
theorem dX3_now_66 : decode cX3_now 66 = .ok (.ireturn, 1) := by decide +kernel
theorem dX3_now_67 : decode cX3_now 67 = .ok (.aload_n 0, 1) := by decide +kernel
theorem dX3_now_68 : decode cX3_now 68 = .ok (.getfield 39, 3) := by decide +kernel
theorem dX3_now_71 : decode cX3_now 71 = .ok (.ireturn, 1) := by decide +kernel
theorem dX3_now_72 : decode cX3_now 72 = .ok (.aload_n 0, 1) := by decide +kernel
theorem dX3_now_73 : decode cX3_now 73 = .ok (.getfield 43, 3) := by decide +kernel
theorem dX3_now_76 : decode cX3_now 76 = .ok (.ireturn, 1) := by decide +kernel
theorem dX3_now_77 : decode cX3_now 77 = .ok (.bipush (-2), 2) := by decide +kernel
theorem dX3_now_79 : decode cX3_now 79 = .ok (.ireturn, 1) := by decide +kernel
set_option maxRecDepth 20000 in
theorem ggX3_amps_X3_partAt : GoodIn wsX3_amps wsX3_partAt := goodIn_r _ [6, 7, 8, 9, 10, 5, 11, 36, 37, 38, 39, 40, 41, 42, 43, 44, 45, 46, 47, 48, 49, 50, 51, 52, 53, 54] (by decide +kernel) (by decide +kernel)
set_option maxRecDepth 20000 in
theorem gX3_amps_X3_partAt : GoodIn wsX3_amps (wsV RX3 58 RX3 yX3_partAt wsX3_partAt) := goodIn_app (goodIn_of _ (by decide +kernel)) ggX3_amps_X3_partAt
set_option maxRecDepth 20000 in
theorem ggX3_amps_X3_isVolts : GoodIn wsX3_amps wsX3_isVolts := goodIn_r _ [14, 9, 10, 5, 11] (by decide +kernel) (by decide +kernel)
set_option maxRecDepth 20000 in
theorem gX3_amps_X3_isVolts : GoodIn wsX3_amps (va_wsS RX3 103 yX3_isVolts wsX3_isVolts) := goodIn_app (goodIn_of _ (by decide +kernel)) ggX3_amps_X3_isVolts
set_option maxRecDepth 20000 in
theorem ggX3_amps_X1_ownAmps : GoodIn wsX3_amps wsX1_ownAmps := goodIn_r _ [19, 20, 21, 22, 23, 24, 25, 18, 26, 27, 28, 29, 30, 31, 32, 33, 34, 35, 43, 44, 45, 46, 47, 48, 49, 50, 51, 52, 53, 54] (by decide +kernel) (by decide +kernel)
set_option maxRecDepth 20000 in
theorem gX3_amps_X1_ownAmps : GoodIn wsX3_amps (wsV RX3 107 RX1 yX1_ownAmps wsX1_ownAmps) := goodIn_app (goodIn_of _ (by decide +kernel)) ggX3_amps_X1_ownAmps
theorem dX3_amps_0 : decode cX3_amps 0 = .ok (.aload_n 0, 1) := by decide +kernel
theorem dX3_amps_1 : decode cX3_amps 1 = .ok (.iload_n 1, 1) := by decide +kernel
theorem dX3_amps_2 : decode cX3_amps 2 = .ok (.invokevirtual 58, 3) := by decide +kernel
theorem dX3_amps_5 : decode cX3_amps 5 = .ok (.astore_n 3, 1) := by decide +kernel
theorem dX3_amps_6 : decode cX3_amps 6 = .ok (.aload_n 3, 1) := by decide +kernel
theorem dX3_amps_7 : decode cX3_amps 7 = .ok (.ifnonnull 5, 3) := by decide +kernel
theorem dX3_amps_10 : decode cX3_amps 10 = .ok (.iconst (-1), 1) := by decide +kernel
theorem dX3_amps_11 : decode cX3_amps 11 = .ok (.ireturn, 1) := by decide +kernel
theorem dX3_amps_12 : decode cX3_amps 12 = .ok (.iload_n 2, 1) := by decide +kernel
theorem dX3_amps_13 : decode cX3_amps 13 = .ok (.invokestatic 103, 3) := by decide +kernel
theorem dX3_amps_16 : decode cX3_amps 16 = .ok (.ifCond .eq 14, 3) := by decide +kernel
theorem dX3_amps_19 : decode cX3_amps 19 = .ok (.aload_n 3, 1) := by decide +kernel
theorem dX3_amps_20 : decode cX3_amps 20 = .ok (.iload_n 2, 1) := by decide +kernel
theorem dX3_amps_21 : decode cX3_amps 21 = .ok (.invokevirtual 107, 3) := by decide +kernel
theorem dX3_amps_24 : decode cX3_amps 24 = .ok (.ldc 110, 2) := by decide +kernel
theorem dX3_amps_26 : decode cX3_amps 26 = .ok (.iadd, 1) := by decide +kernel
theorem dX3_amps_27 : decode cX3_amps 27 = .ok (.goto 5, 3) := by decide +kernel
theorem dX3_amps_30 : decode cX3_amps 30 = .ok (.bipush (-2), 2) := by decide +kernel
theorem dX3_amps_32 : decode cX3_amps 32 = .ok (.ireturn, 1) := by decide +kernel
set_option maxRecDepth 20000 in
theorem ggX3_would_X3_isVolts : GoodIn wsX3_would wsX3_isVolts := goodIn_r _ [5, 6, 7, 4, 8] (by decide +kernel) (by decide +kernel)
set_option maxRecDepth 20000 in
theorem gX3_would_X3_isVolts : GoodIn wsX3_would (va_wsS RX3 103 yX3_isVolts wsX3_isVolts) := goodIn_app (goodIn_of _ (by decide +kernel)) ggX3_would_X3_isVolts
set_option maxRecDepth 20000 in
theorem ggX3_would_X3_within : GoodIn wsX3_would wsX3_within := goodIn_r _ [8] (by decide +kernel) (by decide +kernel)
set_option maxRecDepth 20000 in
theorem gX3_would_X3_within : GoodIn wsX3_would (va_wsS RX3 47 yX3_within wsX3_within) := goodIn_app (goodIn_of _ (by decide +kernel)) ggX3_would_X3_within
set_option maxRecDepth 20000 in
theorem ggX3_would_X3_inHand : GoodIn wsX3_would wsX3_inHand := goodIn_r _ [12, 13, 14, 15, 16, 17, 4, 18, 19, 20, 21, 22, 23, 24, 25, 26, 27, 28, 29, 30, 31, 32, 97, 98, 99, 100, 101, 102, 103, 104, 105, 106, 107, 108, 109, 110, 111, 112, 113, 114, 115] (by decide +kernel) (by decide +kernel)
set_option maxRecDepth 20000 in
theorem gX3_would_X3_inHand : GoodIn wsX3_would (wsV RX3 95 RX3 yX3_inHand wsX3_inHand) := goodIn_app (goodIn_of _ (by decide +kernel)) ggX3_would_X3_inHand
set_option maxRecDepth 20000 in
theorem ggX3_would_X3_partAt : GoodIn wsX3_would wsX3_partAt := goodIn_r _ [36, 13, 14, 6, 7, 4, 8, 97, 98, 99, 100, 101, 102, 103, 104, 105, 106, 107, 108, 109, 110, 111, 112, 113, 114, 115] (by decide +kernel) (by decide +kernel)
set_option maxRecDepth 20000 in
theorem gX3_would_X3_partAt : GoodIn wsX3_would (wsV RX3 58 RX3 yX3_partAt wsX3_partAt) := goodIn_app (goodIn_of _ (by decide +kernel)) ggX3_would_X3_partAt
set_option maxRecDepth 20000 in
theorem ggX3_would_X3_farthest : GoodIn wsX3_would wsX3_farthest := goodIn_r _ [40, 41, 42, 43, 44, 45, 46, 47, 4, 48, 49, 50, 51, 52, 53, 54, 55, 56, 57, 31, 19, 58, 59, 60, 61, 62, 63, 64, 65, 66, 67, 68, 69, 70, 71, 72, 73, 74, 75, 76, 77, 78, 79, 80, 81, 82, 15, 16, 17, 18, 20, 21, 22, 23, 24, 25, 26, 83, 84, 85, 86, 87, 88, 97, 98, 99, 100, 101, 102, 103, 104, 105, 106, 107, 108, 109, 110, 111, 112, 113, 114, 115] (by decide +kernel) (by decide +kernel)
set_option maxRecDepth 20000 in
theorem gX3_would_X3_farthest : GoodIn wsX3_would (wsV RX3 111 RX3 yX3_farthest wsX3_farthest) := goodIn_app (goodIn_of _ (by decide +kernel)) ggX3_would_X3_farthest
set_option maxRecDepth 20000 in
theorem ggX3_would_X3_ampsAt : GoodIn wsX3_would wsX3_ampsAt := goodIn_r _ [53, 54, 55, 56, 4, 57, 31, 19, 58, 59, 60, 61, 62, 63, 64, 65, 66, 67, 68, 69, 70, 71, 72, 73, 74, 75, 76, 77, 78, 104, 105, 106, 107, 108, 109, 110, 111, 112, 113, 114, 115, 97, 98, 99, 100, 101, 102, 103] (by decide +kernel) (by decide +kernel)
set_option maxRecDepth 20000 in
theorem gX3_would_X3_ampsAt : GoodIn wsX3_would (wsV RX3 115 RX3 yX3_ampsAt wsX3_ampsAt) := goodIn_app (goodIn_of _ (by decide +kernel)) ggX3_would_X3_ampsAt
set_option maxRecDepth 20000 in
theorem ggX3_would_X3_ruleAt : GoodIn wsX3_would wsX3_ruleAt := goodIn_r _ [92, 93, 94, 95, 4, 96, 41, 42, 43, 44, 49, 50, 51, 52, 53, 54, 55, 56, 57, 31, 19, 58, 59, 60, 61, 62, 63, 64, 65, 66, 67, 68, 69, 70, 71, 72, 73, 74, 75, 76, 77, 78, 97, 98, 99, 100, 101, 102, 103, 104, 105, 106, 107, 108, 109, 110, 111, 112, 113, 114, 115] (by decide +kernel) (by decide +kernel)
set_option maxRecDepth 20000 in
theorem gX3_would_X3_ruleAt : GoodIn wsX3_would (wsV RX3 118 RX3 yX3_ruleAt wsX3_ruleAt) := goodIn_app (goodIn_of _ (by decide +kernel)) ggX3_would_X3_ruleAt
theorem dX3_would_0 : decode cX3_would 0 = .ok (.iload_n 1, 1) := by decide +kernel
theorem dX3_would_1 : decode cX3_would 1 = .ok (.invokestatic 103, 3) := by decide +kernel
theorem dX3_would_4 : decode cX3_would 4 = .ok (.ifCond .eq 12, 3) := by decide +kernel
theorem dX3_would_7 : decode cX3_would 7 = .ok (.iload_n 2, 1) := by decide +kernel
theorem dX3_would_8 : decode cX3_would 8 = .ok (.iconst 0, 1) := by decide +kernel
theorem dX3_would_9 : decode cX3_would 9 = .ok (.iconst 2, 1) := by decide +kernel
theorem dX3_would_10 : decode cX3_would 10 = .ok (.invokestatic 47, 3) := by decide +kernel
theorem dX3_would_13 : decode cX3_would 13 = .ok (.ifCond .ne 6, 3) := by decide +kernel
theorem dX3_would_16 : decode cX3_would 16 = .ok (.bipush (-2), 2) := by decide +kernel
theorem dX3_would_18 : decode cX3_would 18 = .ok (.ireturn, 1) := by decide +kernel
theorem dX3_would_19 : decode cX3_would 19 = .ok (.aload_n 0, 1) := by decide +kernel
theorem dX3_would_20 : decode cX3_would 20 = .ok (.aload_n 0, 1) := by decide +kernel
theorem dX3_would_21 : decode cX3_would 21 = .ok (.invokevirtual 95, 3) := by decide +kernel
theorem dX3_would_24 : decode cX3_would 24 = .ok (.invokevirtual 58, 3) := by decide +kernel
theorem dX3_would_27 : decode cX3_would 27 = .ok (.astore_n 3, 1) := by decide +kernel
theorem dX3_would_28 : decode cX3_would 28 = .ok (.aload_n 3, 1) := by decide +kernel
theorem dX3_would_29 : decode cX3_would 29 = .ok (.ifnonnull 6, 3) := by decide +kernel
theorem dX3_would_32 : decode cX3_would 32 = .ok (.bipush (-3), 2) := by decide +kernel
theorem dX3_would_34 : decode cX3_would 34 = .ok (.ireturn, 1) := by decide +kernel
theorem dX3_would_35 : decode cX3_would 35 = .ok (.aload_n 0, 1) := by decide +kernel
theorem dX3_would_36 : decode cX3_would 36 = .ok (.aload_n 3, 1) := by decide +kernel
theorem dX3_would_37 : decode cX3_would 37 = .ok (.iload_n 1, 1) := by decide +kernel
theorem dX3_would_38 : decode cX3_would 38 = .ok (.invokevirtual 111, 3) := by decide +kernel
theorem dX3_would_41 : decode cX3_would 41 = .ok (.istore 4, 2) := by decide +kernel
theorem dX3_would_43 : decode cX3_would 43 = .ok (.iload_n 2, 1) := by decide +kernel
theorem dX3_would_44 : decode cX3_would 44 = .ok (.lookupswitch 46 #[(0, 28), (1, 35)], 28) := by decide +kernel
theorem dX3_would_72 : decode cX3_would 72 = .ok (.iload 4, 2) := by decide +kernel
theorem dX3_would_74 : decode cX3_would 74 = .ok (.sipush 10000, 3) := by decide +kernel
theorem dX3_would_77 : decode cX3_would 77 = .ok (.iadd, 1) := by decide +kernel
theorem dX3_would_78 : decode cX3_would 78 = .ok (.ireturn, 1) := by decide +kernel
theorem dX3_would_79 : decode cX3_would 79 = .ok (.aload_n 0, 1) := by decide +kernel
theorem dX3_would_80 : decode cX3_would 80 = .ok (.aload_n 3, 1) := by decide +kernel
theorem dX3_would_81 : decode cX3_would 81 = .ok (.iload 4, 2) := by decide +kernel
theorem dX3_would_83 : decode cX3_would 83 = .ok (.invokevirtual 115, 3) := by decide +kernel
theorem dX3_would_86 : decode cX3_would 86 = .ok (.ldc 110, 2) := by decide +kernel
theorem dX3_would_88 : decode cX3_would 88 = .ok (.iadd, 1) := by decide +kernel
theorem dX3_would_89 : decode cX3_would 89 = .ok (.ireturn, 1) := by decide +kernel
theorem dX3_would_90 : decode cX3_would 90 = .ok (.aload_n 0, 1) := by decide +kernel
theorem dX3_would_91 : decode cX3_would 91 = .ok (.aload_n 3, 1) := by decide +kernel
theorem dX3_would_92 : decode cX3_would 92 = .ok (.iload 4, 2) := by decide +kernel
theorem dX3_would_94 : decode cX3_would 94 = .ok (.iload_n 1, 1) := by decide +kernel
theorem dX3_would_95 : decode cX3_would 95 = .ok (.invokevirtual 118, 3) := by decide +kernel
theorem dX3_would_98 : decode cX3_would 98 = .ok (.ireturn, 1) := by decide +kernel
set_option maxRecDepth 20000 in
theorem ggX3_pulse_X3_isVolts : GoodIn wsX3_pulse wsX3_isVolts := goodIn_r _ [8, 9, 10, 7, 11] (by decide +kernel) (by decide +kernel)
set_option maxRecDepth 20000 in
theorem gX3_pulse_X3_isVolts : GoodIn wsX3_pulse (va_wsS RX3 103 yX3_isVolts wsX3_isVolts) := goodIn_app (goodIn_of _ (by decide +kernel)) ggX3_pulse_X3_isVolts
set_option maxRecDepth 20000 in
theorem ggX3_pulse_X3_within : GoodIn wsX3_pulse wsX3_within := goodIn_r _ [11] (by decide +kernel) (by decide +kernel)
set_option maxRecDepth 20000 in
theorem gX3_pulse_X3_within : GoodIn wsX3_pulse (va_wsS RX3 47 yX3_within wsX3_within) := goodIn_app (goodIn_of _ (by decide +kernel)) ggX3_pulse_X3_within
set_option maxRecDepth 20000 in
theorem ggX3_pulse_X3_inHand : GoodIn wsX3_pulse wsX3_inHand := goodIn_r _ [15, 16, 17, 18, 19, 20, 7, 21, 22, 23, 24, 25, 26, 27, 28, 29, 30, 31, 32, 33, 34, 35, 156, 157, 158, 159, 160, 161, 162, 168, 169, 170, 171, 172, 173, 174, 175, 176, 177, 178, 179] (by decide +kernel) (by decide +kernel)
set_option maxRecDepth 20000 in
theorem gX3_pulse_X3_inHand : GoodIn wsX3_pulse (wsV RX3 95 RX3 yX3_inHand wsX3_inHand) := goodIn_app (goodIn_of _ (by decide +kernel)) ggX3_pulse_X3_inHand
set_option maxRecDepth 20000 in
theorem ggX3_pulse_X3_partAt : GoodIn wsX3_pulse wsX3_partAt := goodIn_r _ [39, 16, 17, 9, 10, 7, 11, 156, 157, 158, 159, 160, 161, 162, 168, 169, 170, 171, 172, 173, 174, 175, 176, 177, 178, 179] (by decide +kernel) (by decide +kernel)
set_option maxRecDepth 20000 in
theorem gX3_pulse_X3_partAt : GoodIn wsX3_pulse (wsV RX3 58 RX3 yX3_partAt wsX3_partAt) := goodIn_app (goodIn_of _ (by decide +kernel)) ggX3_pulse_X3_partAt
set_option maxRecDepth 20000 in
theorem ggX3_pulse_X2_room : GoodIn wsX3_pulse wsX2_room := goodIn_r _ [44, 45, 163, 164, 165, 166, 167] (by decide +kernel) (by decide +kernel)
set_option maxRecDepth 20000 in
theorem gX3_pulse_X2_room : GoodIn wsX3_pulse (wsV RX3 122 RX2 yX2_room wsX2_room) := goodIn_app (goodIn_of _ (by decide +kernel)) ggX3_pulse_X2_room
set_option maxRecDepth 20000 in
theorem ggX3_pulse_X0_clearAll : GoodIn wsX3_pulse wsX0_clearAll := goodIn_r _ [50, 51, 180, 181, 182] (by decide +kernel) (by decide +kernel)
set_option maxRecDepth 20000 in
theorem gX3_pulse_X0_clearAll : GoodIn wsX3_pulse (wsV RX3 125 RX0 yX0_clearAll wsX0_clearAll) := goodIn_app (goodIn_of _ (by decide +kernel)) ggX3_pulse_X0_clearAll
set_option maxRecDepth 20000 in
theorem ggX3_pulse_X3_readPulse : GoodIn wsX3_pulse wsX3_readPulse := goodIn_r _ [55, 56, 2, 57, 58, 59, 7, 60, 61, 62, 63, 64, 65, 66, 67, 68, 69, 70, 71, 72, 73, 74, 75, 76, 77, 34, 22, 78, 79, 80, 81, 82, 83, 84, 85, 86, 87, 88, 89, 90, 91, 92, 93, 94, 95, 96, 97, 98, 99, 100, 101, 102, 18, 19, 20, 21, 23, 24, 25, 26, 27, 28, 29, 103, 104, 105, 106, 107, 108, 109, 110, 111, 112, 113, 114, 115, 116, 117, 118, 119, 120, 121, 122, 123, 43, 124, 125, 45, 126, 127, 128, 129, 41, 42, 44, 130, 131, 132, 133, 134, 135, 136, 137, 138, 139, 140, 141, 142, 143, 144, 145, 168, 169, 170, 171, 172, 173, 174, 175, 176, 177, 178, 179, 156, 157, 158, 159, 160, 161, 162, 163, 164, 165, 166, 167] (by decide +kernel) (by decide +kernel)
set_option maxRecDepth 20000 in
theorem gX3_pulse_X3_readPulse : GoodIn wsX3_pulse (wsV RX3 128 RX3 yX3_readPulse wsX3_readPulse) := goodIn_app (goodIn_of _ (by decide +kernel)) ggX3_pulse_X3_readPulse
set_option maxRecDepth 20000 in
theorem ggX3_pulse_X3_tellBurnt : GoodIn wsX3_pulse wsX3_tellBurnt := goodIn_r _ [149, 3, 150, 151, 152, 49, 153, 51, 154, 155, 156, 157, 158, 159, 160, 161, 162, 180, 181, 182] (by decide +kernel) (by decide +kernel)
set_option maxRecDepth 20000 in
theorem gX3_pulse_X3_tellBurnt : GoodIn wsX3_pulse (wsV RX3 131 RX3 yX3_tellBurnt wsX3_tellBurnt) := goodIn_app (goodIn_of _ (by decide +kernel)) ggX3_pulse_X3_tellBurnt
theorem dX3_pulse_0 : decode cX3_pulse 0 = .ok (.iload_n 1, 1) := by decide +kernel
theorem dX3_pulse_1 : decode cX3_pulse 1 = .ok (.invokestatic 103, 3) := by decide +kernel
theorem dX3_pulse_4 : decode cX3_pulse 4 = .ok (.ifCond .eq 13, 3) := by decide +kernel
theorem dX3_pulse_7 : decode cX3_pulse 7 = .ok (.iload_n 2, 1) := by decide +kernel
theorem dX3_pulse_8 : decode cX3_pulse 8 = .ok (.iconst 1, 1) := by decide +kernel
theorem dX3_pulse_9 : decode cX3_pulse 9 = .ok (.bipush 50, 2) := by decide +kernel
theorem dX3_pulse_11 : decode cX3_pulse 11 = .ok (.invokestatic 47, 3) := by decide +kernel
theorem dX3_pulse_14 : decode cX3_pulse 14 = .ok (.ifCond .ne 6, 3) := by decide +kernel
theorem dX3_pulse_17 : decode cX3_pulse 17 = .ok (.bipush (-2), 2) := by decide +kernel
theorem dX3_pulse_19 : decode cX3_pulse 19 = .ok (.ireturn, 1) := by decide +kernel
theorem dX3_pulse_20 : decode cX3_pulse 20 = .ok (.aload_n 0, 1) := by decide +kernel
theorem dX3_pulse_21 : decode cX3_pulse 21 = .ok (.invokevirtual 95, 3) := by decide +kernel
theorem dX3_pulse_24 : decode cX3_pulse 24 = .ok (.istore_n 3, 1) := by decide +kernel
theorem dX3_pulse_25 : decode cX3_pulse 25 = .ok (.aload_n 0, 1) := by decide +kernel
theorem dX3_pulse_26 : decode cX3_pulse 26 = .ok (.iload_n 3, 1) := by decide +kernel
theorem dX3_pulse_27 : decode cX3_pulse 27 = .ok (.invokevirtual 58, 3) := by decide +kernel
theorem dX3_pulse_30 : decode cX3_pulse 30 = .ok (.astore 4, 2) := by decide +kernel
theorem dX3_pulse_32 : decode cX3_pulse 32 = .ok (.aload_n 0, 1) := by decide +kernel
theorem dX3_pulse_33 : decode cX3_pulse 33 = .ok (.getfield 35, 3) := by decide +kernel
theorem dX3_pulse_36 : decode cX3_pulse 36 = .ok (.ifCond .eq 8, 3) := by decide +kernel
theorem dX3_pulse_39 : decode cX3_pulse 39 = .ok (.aload 4, 2) := by decide +kernel
theorem dX3_pulse_41 : decode cX3_pulse 41 = .ok (.ifnonnull 6, 3) := by decide +kernel
theorem dX3_pulse_44 : decode cX3_pulse 44 = .ok (.bipush (-3), 2) := by decide +kernel
theorem dX3_pulse_46 : decode cX3_pulse 46 = .ok (.ireturn, 1) := by decide +kernel
theorem dX3_pulse_47 : decode cX3_pulse 47 = .ok (.aload_n 0, 1) := by decide +kernel
theorem dX3_pulse_48 : decode cX3_pulse 48 = .ok (.getfield 24, 3) := by decide +kernel
theorem dX3_pulse_51 : decode cX3_pulse 51 = .ok (.invokevirtual 122, 3) := by decide +kernel
theorem dX3_pulse_54 : decode cX3_pulse 54 = .ok (.iconst 1, 1) := by decide +kernel
theorem dX3_pulse_55 : decode cX3_pulse 55 = .ok (.if_icmp .ge 6, 3) := by decide +kernel
theorem dX3_pulse_58 : decode cX3_pulse 58 = .ok (.bipush (-4), 2) := by decide +kernel
theorem dX3_pulse_60 : decode cX3_pulse 60 = .ok (.ireturn, 1) := by decide +kernel
theorem dX3_pulse_61 : decode cX3_pulse 61 = .ok (.aload_n 0, 1) := by decide +kernel
theorem dX3_pulse_62 : decode cX3_pulse 62 = .ok (.getfield 31, 3) := by decide +kernel
theorem dX3_pulse_65 : decode cX3_pulse 65 = .ok (.invokevirtual 125, 3) := by decide +kernel
theorem dX3_pulse_68 : decode cX3_pulse 68 = .ok (.aload_n 0, 1) := by decide +kernel
theorem dX3_pulse_69 : decode cX3_pulse 69 = .ok (.aload 4, 2) := by decide +kernel
theorem dX3_pulse_71 : decode cX3_pulse 71 = .ok (.iload_n 1, 1) := by decide +kernel
theorem dX3_pulse_72 : decode cX3_pulse 72 = .ok (.iload_n 2, 1) := by decide +kernel
theorem dX3_pulse_73 : decode cX3_pulse 73 = .ok (.invokevirtual 128, 3) := by decide +kernel
theorem dX3_pulse_76 : decode cX3_pulse 76 = .ok (.istore 5, 2) := by decide +kernel
theorem dX3_pulse_78 : decode cX3_pulse 78 = .ok (.iload 5, 2) := by decide +kernel
theorem dX3_pulse_80 : decode cX3_pulse 80 = .ok (.ifCond .le 10, 3) := by decide +kernel
theorem dX3_pulse_83 : decode cX3_pulse 83 = .ok (.aload_n 0, 1) := by decide +kernel
theorem dX3_pulse_84 : decode cX3_pulse 84 = .ok (.iload_n 3, 1) := by decide +kernel
theorem dX3_pulse_85 : decode cX3_pulse 85 = .ok (.iload 5, 2) := by decide +kernel
theorem dX3_pulse_87 : decode cX3_pulse 87 = .ok (.invokevirtual 131, 3) := by decide +kernel
theorem dX3_pulse_90 : decode cX3_pulse 90 = .ok (.aload_n 0, 1) := by decide +kernel
theorem dX3_pulse_91 : decode cX3_pulse 91 = .ok (.getfield 24, 3) := by decide +kernel
theorem dX3_pulse_94 : decode cX3_pulse 94 = .ok (.getfield 134, 3) := by decide +kernel
theorem dX3_pulse_97 : decode cX3_pulse 97 = .ok (.ireturn, 1) := by decide +kernel
set_option maxRecDepth 20000 in
theorem ggX3_rest_X3_within : GoodIn wsX3_rest wsX3_within := goodIn_r _ [11] (by decide +kernel) (by decide +kernel)
set_option maxRecDepth 20000 in
theorem gX3_rest_X3_within : GoodIn wsX3_rest (va_wsS RX3 47 yX3_within wsX3_within) := goodIn_app (goodIn_of _ (by decide +kernel)) ggX3_rest_X3_within
set_option maxRecDepth 20000 in
theorem ggX3_rest_X3_coolAll : GoodIn wsX3_rest wsX3_coolAll := goodIn_r _ [15, 1, 16, 17, 18, 19, 20, 21, 22, 23, 24, 25, 26, 27, 28, 29, 30, 31, 32, 33, 34, 35, 36, 37, 38, 39, 40] (by decide +kernel) (by decide +kernel)
set_option maxRecDepth 20000 in
theorem gX3_rest_X3_coolAll : GoodIn wsX3_rest (wsV RX3 137 RX3 yX3_coolAll wsX3_coolAll) := goodIn_app (goodIn_of _ (by decide +kernel)) ggX3_rest_X3_coolAll
theorem dX3_rest_0 : decode cX3_rest 0 = .ok (.iload_n 1, 1) := by decide +kernel
theorem dX3_rest_1 : decode cX3_rest 1 = .ok (.iconst 0, 1) := by decide +kernel
theorem dX3_rest_2 : decode cX3_rest 2 = .ok (.bipush 100, 2) := by decide +kernel
theorem dX3_rest_4 : decode cX3_rest 4 = .ok (.invokestatic 47, 3) := by decide +kernel
theorem dX3_rest_7 : decode cX3_rest 7 = .ok (.ifCond .ne 6, 3) := by decide +kernel
theorem dX3_rest_10 : decode cX3_rest 10 = .ok (.bipush (-2), 2) := by decide +kernel
theorem dX3_rest_12 : decode cX3_rest 12 = .ok (.ireturn, 1) := by decide +kernel
theorem dX3_rest_13 : decode cX3_rest 13 = .ok (.aload_n 0, 1) := by decide +kernel
theorem dX3_rest_14 : decode cX3_rest 14 = .ok (.iload_n 1, 1) := by decide +kernel
theorem dX3_rest_15 : decode cX3_rest 15 = .ok (.invokevirtual 137, 3) := by decide +kernel
theorem dX3_rest_18 : decode cX3_rest 18 = .ok (.iconst 0, 1) := by decide +kernel
theorem dX3_rest_19 : decode cX3_rest 19 = .ok (.istore_n 2, 1) := by decide +kernel
theorem dX3_rest_20 : decode cX3_rest 20 = .ok (.iconst 0, 1) := by decide +kernel
theorem dX3_rest_21 : decode cX3_rest 21 = .ok (.istore_n 3, 1) := by decide +kernel
theorem dX3_rest_22 : decode cX3_rest 22 = .ok (.iload_n 3, 1) := by decide +kernel
theorem dX3_rest_23 : decode cX3_rest 23 = .ok (.aload_n 0, 1) := by decide +kernel
theorem dX3_rest_24 : decode cX3_rest 24 = .ok (.getfield 13, 3) := by decide +kernel
theorem dX3_rest_27 : decode cX3_rest 27 = .ok (.arraylength, 1) := by decide +kernel
theorem dX3_rest_28 : decode cX3_rest 28 = .ok (.if_icmp .ge 35, 3) := by decide +kernel
theorem dX3_rest_31 : decode cX3_rest 31 = .ok (.aload_n 0, 1) := by decide +kernel
theorem dX3_rest_32 : decode cX3_rest 32 = .ok (.getfield 13, 3) := by decide +kernel
theorem dX3_rest_35 : decode cX3_rest 35 = .ok (.iload_n 3, 1) := by decide +kernel
theorem dX3_rest_36 : decode cX3_rest 36 = .ok (.aaload, 1) := by decide +kernel
theorem dX3_rest_37 : decode cX3_rest 37 = .ok (.getfield 51, 3) := by decide +kernel
theorem dX3_rest_40 : decode cX3_rest 40 = .ok (.ifCond .eq 17, 3) := by decide +kernel
theorem dX3_rest_43 : decode cX3_rest 43 = .ok (.iload_n 2, 1) := by decide +kernel
theorem dX3_rest_44 : decode cX3_rest 44 = .ok (.aload_n 0, 1) := by decide +kernel
theorem dX3_rest_45 : decode cX3_rest 45 = .ok (.getfield 13, 3) := by decide +kernel
theorem dX3_rest_48 : decode cX3_rest 48 = .ok (.iload_n 3, 1) := by decide +kernel
theorem dX3_rest_49 : decode cX3_rest 49 = .ok (.aaload, 1) := by decide +kernel
theorem dX3_rest_50 : decode cX3_rest 50 = .ok (.getfield 83, 3) := by decide +kernel
theorem dX3_rest_53 : decode cX3_rest 53 = .ok (.invokestatic 141, 3) := by decide +kernel
theorem dX3_rest_56 : decode cX3_rest 56 = .ok (.istore_n 2, 1) := by decide +kernel
theorem dX3_rest_57 : decode cX3_rest 57 = .ok (.iinc 3 1, 3) := by decide +kernel
theorem dX3_rest_60 : decode cX3_rest 60 = .ok (.goto (-38), 3) := by decide +kernel
theorem dX3_rest_63 : decode cX3_rest 63 = .ok (.iload_n 2, 1) := by decide +kernel
theorem dX3_rest_64 : decode cX3_rest 64 = .ok (.ireturn, 1) := by decide +kernel
set_option maxRecDepth 20000 in
theorem ggX3_sweep_X3_isVolts : GoodIn wsX3_sweep wsX3_isVolts := goodIn_r _ [11, 12, 13, 10, 14] (by decide +kernel) (by decide +kernel)
set_option maxRecDepth 20000 in
theorem gX3_sweep_X3_isVolts : GoodIn wsX3_sweep (va_wsS RX3 103 yX3_isVolts wsX3_isVolts) := goodIn_app (goodIn_of _ (by decide +kernel)) ggX3_sweep_X3_isVolts
set_option maxRecDepth 20000 in
theorem ggX3_sweep_X3_within : GoodIn wsX3_sweep wsX3_within := goodIn_r _ [14] (by decide +kernel) (by decide +kernel)
set_option maxRecDepth 20000 in
theorem gX3_sweep_X3_within : GoodIn wsX3_sweep (va_wsS RX3 47 yX3_within wsX3_within) := goodIn_app (goodIn_of _ (by decide +kernel)) ggX3_sweep_X3_within
set_option maxRecDepth 20000 in
theorem ggX3_sweep_X3_inHand : GoodIn wsX3_sweep wsX3_inHand := goodIn_r _ [18, 19, 20, 21, 22, 23, 10, 24, 25, 26, 27, 28, 29, 30, 31, 32, 33, 34, 35, 36, 37, 38, 163, 164, 165, 166, 167, 168, 169, 170, 171, 172, 173, 174, 175, 176, 177, 178, 179, 180, 181] (by decide +kernel) (by decide +kernel)
set_option maxRecDepth 20000 in
theorem gX3_sweep_X3_inHand : GoodIn wsX3_sweep (wsV RX3 95 RX3 yX3_inHand wsX3_inHand) := goodIn_app (goodIn_of _ (by decide +kernel)) ggX3_sweep_X3_inHand
set_option maxRecDepth 20000 in
theorem ggX3_sweep_X3_partAt : GoodIn wsX3_sweep wsX3_partAt := goodIn_r _ [42, 19, 20, 12, 13, 10, 14, 163, 164, 165, 166, 167, 168, 169, 170, 171, 172, 173, 174, 175, 176, 177, 178, 179, 180, 181] (by decide +kernel) (by decide +kernel)
set_option maxRecDepth 20000 in
theorem gX3_sweep_X3_partAt : GoodIn wsX3_sweep (wsV RX3 58 RX3 yX3_partAt wsX3_partAt) := goodIn_app (goodIn_of _ (by decide +kernel)) ggX3_sweep_X3_partAt
set_option maxRecDepth 20000 in
theorem ggX3_sweep_X2_room : GoodIn wsX3_sweep wsX2_room := goodIn_r _ [47, 48, 182, 183, 184, 185, 186] (by decide +kernel) (by decide +kernel)
set_option maxRecDepth 20000 in
theorem gX3_sweep_X2_room : GoodIn wsX3_sweep (wsV RX3 122 RX2 yX2_room wsX2_room) := goodIn_app (goodIn_of _ (by decide +kernel)) ggX3_sweep_X2_room
set_option maxRecDepth 20000 in
theorem ggX3_sweep_X0_clearAll : GoodIn wsX3_sweep wsX0_clearAll := goodIn_r _ [53, 54, 187, 188, 189] (by decide +kernel) (by decide +kernel)
set_option maxRecDepth 20000 in
theorem gX3_sweep_X0_clearAll : GoodIn wsX3_sweep (wsV RX3 125 RX0 yX0_clearAll wsX0_clearAll) := goodIn_app (goodIn_of _ (by decide +kernel)) ggX3_sweep_X0_clearAll
set_option maxRecDepth 20000 in
theorem ggX3_sweep_X3_readPulse : GoodIn wsX3_sweep wsX3_readPulse := goodIn_r _ [58, 59, 6, 60, 61, 62, 10, 63, 2, 3, 4, 5, 64, 65, 66, 67, 68, 69, 70, 71, 72, 73, 74, 75, 76, 37, 25, 77, 78, 79, 80, 81, 82, 83, 84, 85, 86, 87, 88, 89, 90, 91, 92, 93, 94, 95, 96, 97, 98, 99, 100, 101, 21, 22, 23, 24, 26, 27, 28, 29, 30, 31, 32, 102, 103, 104, 105, 106, 107, 108, 109, 110, 111, 112, 113, 114, 115, 116, 117, 118, 119, 120, 121, 122, 46, 123, 124, 48, 125, 126, 127, 128, 44, 45, 47, 129, 130, 131, 132, 133, 134, 135, 136, 137, 138, 139, 140, 141, 142, 143, 144, 170, 171, 172, 173, 174, 175, 176, 177, 178, 179, 180, 181, 163, 164, 165, 166, 167, 168, 169, 182, 183, 184, 185, 186] (by decide +kernel) (by decide +kernel)
set_option maxRecDepth 20000 in
theorem gX3_sweep_X3_readPulse : GoodIn wsX3_sweep (wsV RX3 128 RX3 yX3_readPulse wsX3_readPulse) := goodIn_app (goodIn_of _ (by decide +kernel)) ggX3_sweep_X3_readPulse
set_option maxRecDepth 20000 in
theorem ggX3_sweep_X0_put : GoodIn wsX3_sweep wsX0_put := goodIn_r _ [148, 54, 149, 150, 187, 188, 189] (by decide +kernel) (by decide +kernel)
set_option maxRecDepth 20000 in
theorem gX3_sweep_X0_put : GoodIn wsX3_sweep (wsV RX3 150 RX0 yX0_put wsX0_put) := goodIn_app (goodIn_of _ (by decide +kernel)) ggX3_sweep_X0_put
set_option maxRecDepth 20000 in
theorem ggX3_sweep_X3_tellBurnt : GoodIn wsX3_sweep wsX3_tellBurnt := goodIn_r _ [154, 7, 145, 146, 147, 52, 148, 54, 149, 150, 163, 164, 165, 166, 167, 168, 169, 187, 188, 189] (by decide +kernel) (by decide +kernel)
set_option maxRecDepth 20000 in
theorem gX3_sweep_X3_tellBurnt : GoodIn wsX3_sweep (wsV RX3 131 RX3 yX3_tellBurnt wsX3_tellBurnt) := goodIn_app (goodIn_of _ (by decide +kernel)) ggX3_sweep_X3_tellBurnt
set_option maxRecDepth 20000 in
theorem ggX3_sweep_X3_coolAll : GoodIn wsX3_sweep wsX3_coolAll := goodIn_r _ [158, 19, 159, 160, 161, 80, 162, 83, 163, 164, 165, 166, 167, 168, 169, 170, 171, 172, 173, 174, 175, 176, 177, 178, 179, 180, 181] (by decide +kernel) (by decide +kernel)
set_option maxRecDepth 20000 in
theorem gX3_sweep_X3_coolAll : GoodIn wsX3_sweep (wsV RX3 137 RX3 yX3_coolAll wsX3_coolAll) := goodIn_app (goodIn_of _ (by decide +kernel)) ggX3_sweep_X3_coolAll
theorem dX3_sweep_0 : decode cX3_sweep 0 = .ok (.iload_n 1, 1) := by decide +kernel
theorem dX3_sweep_1 : decode cX3_sweep 1 = .ok (.invokestatic 103, 3) := by decide +kernel
theorem dX3_sweep_4 : decode cX3_sweep 4 = .ok (.ifCond .eq 53, 3) := by decide +kernel
theorem dX3_sweep_7 : decode cX3_sweep 7 = .ok (.iload_n 2, 1) := by decide +kernel
theorem dX3_sweep_8 : decode cX3_sweep 8 = .ok (.invokestatic 103, 3) := by decide +kernel
theorem dX3_sweep_11 : decode cX3_sweep 11 = .ok (.ifCond .eq 46, 3) := by decide +kernel
theorem dX3_sweep_14 : decode cX3_sweep 14 = .ok (.iload_n 3, 1) := by decide +kernel
theorem dX3_sweep_15 : decode cX3_sweep 15 = .ok (.iconst 1, 1) := by decide +kernel
theorem dX3_sweep_16 : decode cX3_sweep 16 = .ok (.sipush 1000, 3) := by decide +kernel
theorem dX3_sweep_19 : decode cX3_sweep 19 = .ok (.invokestatic 47, 3) := by decide +kernel
theorem dX3_sweep_22 : decode cX3_sweep 22 = .ok (.ifCond .eq 35, 3) := by decide +kernel
theorem dX3_sweep_25 : decode cX3_sweep 25 = .ok (.iload 4, 2) := by decide +kernel
theorem dX3_sweep_27 : decode cX3_sweep 27 = .ok (.iconst 1, 1) := by decide +kernel
theorem dX3_sweep_28 : decode cX3_sweep 28 = .ok (.bipush 50, 2) := by decide +kernel
theorem dX3_sweep_30 : decode cX3_sweep 30 = .ok (.invokestatic 47, 3) := by decide +kernel
theorem dX3_sweep_33 : decode cX3_sweep 33 = .ok (.ifCond .eq 24, 3) := by decide +kernel
theorem dX3_sweep_36 : decode cX3_sweep 36 = .ok (.iload 6, 2) := by decide +kernel
theorem dX3_sweep_38 : decode cX3_sweep 38 = .ok (.iconst 0, 1) := by decide +kernel
theorem dX3_sweep_39 : decode cX3_sweep 39 = .ok (.iconst 1, 1) := by decide +kernel
theorem dX3_sweep_40 : decode cX3_sweep 40 = .ok (.invokestatic 47, 3) := by decide +kernel
theorem dX3_sweep_43 : decode cX3_sweep 43 = .ok (.ifCond .eq 14, 3) := by decide +kernel
theorem dX3_sweep_46 : decode cX3_sweep 46 = .ok (.iload 5, 2) := by decide +kernel
theorem dX3_sweep_48 : decode cX3_sweep 48 = .ok (.iconst 0, 1) := by decide +kernel
theorem dX3_sweep_49 : decode cX3_sweep 49 = .ok (.bipush 100, 2) := by decide +kernel
theorem dX3_sweep_51 : decode cX3_sweep 51 = .ok (.invokestatic 47, 3) := by decide +kernel
theorem dX3_sweep_54 : decode cX3_sweep 54 = .ok (.ifCond .ne 6, 3) := by decide +kernel
theorem dX3_sweep_57 : decode cX3_sweep 57 = .ok (.bipush (-2), 2) := by decide +kernel
theorem dX3_sweep_59 : decode cX3_sweep 59 = .ok (.ireturn, 1) := by decide +kernel
theorem dX3_sweep_60 : decode cX3_sweep 60 = .ok (.aload_n 0, 1) := by decide +kernel
theorem dX3_sweep_61 : decode cX3_sweep 61 = .ok (.invokevirtual 95, 3) := by decide +kernel
theorem dX3_sweep_64 : decode cX3_sweep 64 = .ok (.istore 7, 2) := by decide +kernel
theorem dX3_sweep_66 : decode cX3_sweep 66 = .ok (.aload_n 0, 1) := by decide +kernel
theorem dX3_sweep_67 : decode cX3_sweep 67 = .ok (.iload 7, 2) := by decide +kernel
theorem dX3_sweep_69 : decode cX3_sweep 69 = .ok (.invokevirtual 58, 3) := by decide +kernel
theorem dX3_sweep_72 : decode cX3_sweep 72 = .ok (.astore 8, 2) := by decide +kernel
theorem dX3_sweep_74 : decode cX3_sweep 74 = .ok (.aload_n 0, 1) := by decide +kernel
theorem dX3_sweep_75 : decode cX3_sweep 75 = .ok (.getfield 35, 3) := by decide +kernel
theorem dX3_sweep_78 : decode cX3_sweep 78 = .ok (.ifCond .eq 8, 3) := by decide +kernel
theorem dX3_sweep_81 : decode cX3_sweep 81 = .ok (.aload 8, 2) := by decide +kernel
theorem dX3_sweep_83 : decode cX3_sweep 83 = .ok (.ifnonnull 6, 3) := by decide +kernel
theorem dX3_sweep_86 : decode cX3_sweep 86 = .ok (.bipush (-3), 2) := by decide +kernel
theorem dX3_sweep_88 : decode cX3_sweep 88 = .ok (.ireturn, 1) := by decide +kernel
theorem dX3_sweep_89 : decode cX3_sweep 89 = .ok (.iload_n 2, 1) := by decide +kernel
theorem dX3_sweep_90 : decode cX3_sweep 90 = .ok (.iload_n 1, 1) := by decide +kernel
theorem dX3_sweep_91 : decode cX3_sweep 91 = .ok (.isub, 1) := by decide +kernel
theorem dX3_sweep_92 : decode cX3_sweep 92 = .ok (.invokestatic 147, 3) := by decide +kernel
theorem dX3_sweep_95 : decode cX3_sweep 95 = .ok (.iload_n 3, 1) := by decide +kernel
theorem dX3_sweep_96 : decode cX3_sweep 96 = .ok (.idiv, 1) := by decide +kernel
theorem dX3_sweep_97 : decode cX3_sweep 97 = .ok (.istore 9, 2) := by decide +kernel
theorem dX3_sweep_99 : decode cX3_sweep 99 = .ok (.iload 6, 2) := by decide +kernel
theorem dX3_sweep_101 : decode cX3_sweep 101 = .ok (.iconst 1, 1) := by decide +kernel
theorem dX3_sweep_102 : decode cX3_sweep 102 = .ok (.if_icmp .ne 12, 3) := by decide +kernel
theorem dX3_sweep_105 : decode cX3_sweep 105 = .ok (.iconst 2, 1) := by decide +kernel
theorem dX3_sweep_106 : decode cX3_sweep 106 = .ok (.iload 9, 2) := by decide +kernel
theorem dX3_sweep_108 : decode cX3_sweep 108 = .ok (.imul, 1) := by decide +kernel
theorem dX3_sweep_109 : decode cX3_sweep 109 = .ok (.iconst 1, 1) := by decide +kernel
theorem dX3_sweep_110 : decode cX3_sweep 110 = .ok (.iadd, 1) := by decide +kernel
theorem dX3_sweep_111 : decode cX3_sweep 111 = .ok (.goto 7, 3) := by decide +kernel
theorem dX3_sweep_114 : decode cX3_sweep 114 = .ok (.iload 9, 2) := by decide +kernel
theorem dX3_sweep_116 : decode cX3_sweep 116 = .ok (.iconst 1, 1) := by decide +kernel
theorem dX3_sweep_117 : decode cX3_sweep 117 = .ok (.iadd, 1) := by decide +kernel
theorem dX3_sweep_118 : decode cX3_sweep 118 = .ok (.istore 10, 2) := by decide +kernel
theorem dX3_sweep_120 : decode cX3_sweep 120 = .ok (.iload 10, 2) := by decide +kernel
theorem dX3_sweep_122 : decode cX3_sweep 122 = .ok (.aload_n 0, 1) := by decide +kernel
theorem dX3_sweep_123 : decode cX3_sweep 123 = .ok (.getfield 24, 3) := by decide +kernel
theorem dX3_sweep_126 : decode cX3_sweep 126 = .ok (.invokevirtual 122, 3) := by decide +kernel
theorem dX3_sweep_129 : decode cX3_sweep 129 = .ok (.if_icmp .le 6, 3) := by decide +kernel
theorem dX3_sweep_132 : decode cX3_sweep 132 = .ok (.bipush (-4), 2) := by decide +kernel
theorem dX3_sweep_134 : decode cX3_sweep 134 = .ok (.ireturn, 1) := by decide +kernel
theorem dX3_sweep_135 : decode cX3_sweep 135 = .ok (.aload_n 0, 1) := by decide +kernel
theorem dX3_sweep_136 : decode cX3_sweep 136 = .ok (.getfield 31, 3) := by decide +kernel
theorem dX3_sweep_139 : decode cX3_sweep 139 = .ok (.invokevirtual 125, 3) := by decide +kernel
theorem dX3_sweep_142 : decode cX3_sweep 142 = .ok (.iload_n 2, 1) := by decide +kernel
theorem dX3_sweep_143 : decode cX3_sweep 143 = .ok (.iload_n 1, 1) := by decide +kernel
theorem dX3_sweep_144 : decode cX3_sweep 144 = .ok (.if_icmp .ge 8, 3) := by decide +kernel
theorem dX3_sweep_147 : decode cX3_sweep 147 = .ok (.iload_n 3, 1) := by decide +kernel
theorem dX3_sweep_148 : decode cX3_sweep 148 = .ok (.ineg, 1) := by decide +kernel
theorem dX3_sweep_149 : decode cX3_sweep 149 = .ok (.goto 4, 3) := by decide +kernel
theorem dX3_sweep_152 : decode cX3_sweep 152 = .ok (.iload_n 3, 1) := by decide +kernel
theorem dX3_sweep_153 : decode cX3_sweep 153 = .ok (.istore 11, 2) := by decide +kernel
theorem dX3_sweep_155 : decode cX3_sweep 155 = .ok (.iconst 0, 1) := by decide +kernel
theorem dX3_sweep_156 : decode cX3_sweep 156 = .ok (.istore 12, 2) := by decide +kernel
theorem dX3_sweep_158 : decode cX3_sweep 158 = .ok (.iload 12, 2) := by decide +kernel
theorem dX3_sweep_160 : decode cX3_sweep 160 = .ok (.iload 10, 2) := by decide +kernel
theorem dX3_sweep_162 : decode cX3_sweep 162 = .ok (.if_icmp .ge 84, 3) := by decide +kernel
theorem dX3_sweep_165 : decode cX3_sweep 165 = .ok (.iload 12, 2) := by decide +kernel
theorem dX3_sweep_167 : decode cX3_sweep 167 = .ok (.iload 9, 2) := by decide +kernel
theorem dX3_sweep_169 : decode cX3_sweep 169 = .ok (.if_icmp .gt 8, 3) := by decide +kernel
theorem dX3_sweep_172 : decode cX3_sweep 172 = .ok (.iload 12, 2) := by decide +kernel
theorem dX3_sweep_174 : decode cX3_sweep 174 = .ok (.goto 10, 3) := by decide +kernel
theorem dX3_sweep_177 : decode cX3_sweep 177 = .ok (.iconst 2, 1) := by decide +kernel
theorem dX3_sweep_178 : decode cX3_sweep 178 = .ok (.iload 9, 2) := by decide +kernel
theorem dX3_sweep_180 : decode cX3_sweep 180 = .ok (.imul, 1) := by decide +kernel
theorem dX3_sweep_181 : decode cX3_sweep 181 = .ok (.iload 12, 2) := by decide +kernel
theorem dX3_sweep_183 : decode cX3_sweep 183 = .ok (.isub, 1) := by decide +kernel
theorem dX3_sweep_184 : decode cX3_sweep 184 = .ok (.istore 13, 2) := by decide +kernel
theorem dX3_sweep_186 : decode cX3_sweep 186 = .ok (.aload_n 0, 1) := by decide +kernel
theorem dX3_sweep_187 : decode cX3_sweep 187 = .ok (.aload 8, 2) := by decide +kernel
theorem dX3_sweep_189 : decode cX3_sweep 189 = .ok (.iload_n 1, 1) := by decide +kernel
theorem dX3_sweep_190 : decode cX3_sweep 190 = .ok (.iload 13, 2) := by decide +kernel
theorem dX3_sweep_192 : decode cX3_sweep 192 = .ok (.iload 11, 2) := by decide +kernel
theorem dX3_sweep_194 : decode cX3_sweep 194 = .ok (.imul, 1) := by decide +kernel
theorem dX3_sweep_195 : decode cX3_sweep 195 = .ok (.iadd, 1) := by decide +kernel
theorem dX3_sweep_196 : decode cX3_sweep 196 = .ok (.iload 4, 2) := by decide +kernel
theorem dX3_sweep_198 : decode cX3_sweep 198 = .ok (.invokevirtual 128, 3) := by decide +kernel
theorem dX3_sweep_201 : decode cX3_sweep 201 = .ok (.istore 14, 2) := by decide +kernel
theorem dX3_sweep_203 : decode cX3_sweep 203 = .ok (.iload 14, 2) := by decide +kernel
theorem dX3_sweep_205 : decode cX3_sweep 205 = .ok (.ifCond .le 29, 3) := by decide +kernel
theorem dX3_sweep_208 : decode cX3_sweep 208 = .ok (.aload_n 0, 1) := by decide +kernel
theorem dX3_sweep_209 : decode cX3_sweep 209 = .ok (.getfield 31, 3) := by decide +kernel
theorem dX3_sweep_212 : decode cX3_sweep 212 = .ok (.iconst 1, 1) := by decide +kernel
theorem dX3_sweep_213 : decode cX3_sweep 213 = .ok (.iload 12, 2) := by decide +kernel
theorem dX3_sweep_215 : decode cX3_sweep 215 = .ok (.invokevirtual 150, 3) := by decide +kernel
theorem dX3_sweep_218 : decode cX3_sweep 218 = .ok (.aload_n 0, 1) := by decide +kernel
theorem dX3_sweep_219 : decode cX3_sweep 219 = .ok (.iload 7, 2) := by decide +kernel
theorem dX3_sweep_221 : decode cX3_sweep 221 = .ok (.iload 14, 2) := by decide +kernel
theorem dX3_sweep_223 : decode cX3_sweep 223 = .ok (.invokevirtual 131, 3) := by decide +kernel
theorem dX3_sweep_226 : decode cX3_sweep 226 = .ok (.bipush (-100), 2) := by decide +kernel
theorem dX3_sweep_228 : decode cX3_sweep 228 = .ok (.iload 12, 2) := by decide +kernel
theorem dX3_sweep_230 : decode cX3_sweep 230 = .ok (.iconst 1, 1) := by decide +kernel
theorem dX3_sweep_231 : decode cX3_sweep 231 = .ok (.iadd, 1) := by decide +kernel
theorem dX3_sweep_232 : decode cX3_sweep 232 = .ok (.isub, 1) := by decide +kernel
theorem dX3_sweep_233 : decode cX3_sweep 233 = .ok (.ireturn, 1) := by decide +kernel
theorem dX3_sweep_234 : decode cX3_sweep 234 = .ok (.aload_n 0, 1) := by decide +kernel
theorem dX3_sweep_235 : decode cX3_sweep 235 = .ok (.iload 5, 2) := by decide +kernel
theorem dX3_sweep_237 : decode cX3_sweep 237 = .ok (.invokevirtual 137, 3) := by decide +kernel
theorem dX3_sweep_240 : decode cX3_sweep 240 = .ok (.iinc 12 1, 3) := by decide +kernel
theorem dX3_sweep_243 : decode cX3_sweep 243 = .ok (.goto (-85), 3) := by decide +kernel
theorem dX3_sweep_246 : decode cX3_sweep 246 = .ok (.iload 10, 2) := by decide +kernel
theorem dX3_sweep_248 : decode cX3_sweep 248 = .ok (.ireturn, 1) := by decide +kernel
set_option maxRecDepth 20000 in
theorem ggX3_why_X3_within : GoodIn wsX3_why wsX3_within := goodIn_r _ [8] (by decide +kernel) (by decide +kernel)
set_option maxRecDepth 20000 in
theorem gX3_why_X3_within : GoodIn wsX3_why (va_wsS RX3 47 yX3_within wsX3_within) := goodIn_app (goodIn_of _ (by decide +kernel)) ggX3_why_X3_within
theorem dX3_why_0 : decode cX3_why 0 = .ok (.iload_n 1, 1) := by decide +kernel
theorem dX3_why_1 : decode cX3_why 1 = .ok (.iconst 0, 1) := by decide +kernel
theorem dX3_why_2 : decode cX3_why 2 = .ok (.iconst 2, 1) := by decide +kernel
theorem dX3_why_3 : decode cX3_why 3 = .ok (.invokestatic 47, 3) := by decide +kernel
theorem dX3_why_6 : decode cX3_why 6 = .ok (.ifCond .eq 12, 3) := by decide +kernel
theorem dX3_why_9 : decode cX3_why 9 = .ok (.iload_n 2, 1) := by decide +kernel
theorem dX3_why_10 : decode cX3_why 10 = .ok (.iconst 0, 1) := by decide +kernel
theorem dX3_why_11 : decode cX3_why 11 = .ok (.iconst 1, 1) := by decide +kernel
theorem dX3_why_12 : decode cX3_why 12 = .ok (.invokestatic 47, 3) := by decide +kernel
theorem dX3_why_15 : decode cX3_why 15 = .ok (.ifCond .ne 6, 3) := by decide +kernel
theorem dX3_why_18 : decode cX3_why 18 = .ok (.bipush (-2), 2) := by decide +kernel
theorem dX3_why_20 : decode cX3_why 20 = .ok (.ireturn, 1) := by decide +kernel
theorem dX3_why_21 : decode cX3_why 21 = .ok (.iload_n 1, 1) := by decide +kernel
theorem dX3_why_22 : decode cX3_why 22 = .ok (.aload_n 0, 1) := by decide +kernel
theorem dX3_why_23 : decode cX3_why 23 = .ok (.getfield 31, 3) := by decide +kernel
theorem dX3_why_26 : decode cX3_why 26 = .ok (.getfield 153, 3) := by decide +kernel
theorem dX3_why_29 : decode cX3_why 29 = .ok (.if_icmp .lt 6, 3) := by decide +kernel
theorem dX3_why_32 : decode cX3_why 32 = .ok (.bipush (-9), 2) := by decide +kernel
theorem dX3_why_34 : decode cX3_why 34 = .ok (.ireturn, 1) := by decide +kernel
theorem dX3_why_35 : decode cX3_why 35 = .ok (.iload_n 2, 1) := by decide +kernel
theorem dX3_why_36 : decode cX3_why 36 = .ok (.ifCond .ne 15, 3) := by decide +kernel
theorem dX3_why_39 : decode cX3_why 39 = .ok (.aload_n 0, 1) := by decide +kernel
theorem dX3_why_40 : decode cX3_why 40 = .ok (.getfield 31, 3) := by decide +kernel
theorem dX3_why_43 : decode cX3_why 43 = .ok (.getfield 154, 3) := by decide +kernel
theorem dX3_why_46 : decode cX3_why 46 = .ok (.iload_n 1, 1) := by decide +kernel
theorem dX3_why_47 : decode cX3_why 47 = .ok (.iaload, 1) := by decide +kernel
theorem dX3_why_48 : decode cX3_why 48 = .ok (.goto 12, 3) := by decide +kernel
theorem dX3_why_51 : decode cX3_why 51 = .ok (.aload_n 0, 1) := by decide +kernel
theorem dX3_why_52 : decode cX3_why 52 = .ok (.getfield 31, 3) := by decide +kernel
theorem dX3_why_55 : decode cX3_why 55 = .ok (.getfield 157, 3) := by decide +kernel
theorem dX3_why_58 : decode cX3_why 58 = .ok (.iload_n 1, 1) := by decide +kernel
theorem dX3_why_59 : decode cX3_why 59 = .ok (.iaload, 1) := by decide +kernel
theorem dX3_why_60 : decode cX3_why 60 = .ok (.ireturn, 1) := by decide +kernel
set_option maxRecDepth 20000 in
theorem ggX3_reading_X2_has : GoodIn wsX3_reading wsX2_has := goodIn_r _ [11, 12, 20, 21, 22, 23, 24] (by decide +kernel) (by decide +kernel)
set_option maxRecDepth 20000 in
theorem gX3_reading_X2_has : GoodIn wsX3_reading (wsV RX3 160 RX2 yX2_has wsX2_has) := goodIn_app (goodIn_of _ (by decide +kernel)) ggX3_reading_X2_has
theorem dX3_reading_0 : decode cX3_reading 0 = .ok (.aload_n 0, 1) := by decide +kernel
theorem dX3_reading_1 : decode cX3_reading 1 = .ok (.getfield 24, 3) := by decide +kernel
theorem dX3_reading_4 : decode cX3_reading 4 = .ok (.iload_n 1, 1) := by decide +kernel
theorem dX3_reading_5 : decode cX3_reading 5 = .ok (.invokevirtual 160, 3) := by decide +kernel
theorem dX3_reading_8 : decode cX3_reading 8 = .ok (.ifCond .ne 5, 3) := by decide +kernel
theorem dX3_reading_11 : decode cX3_reading 11 = .ok (.iconst (-1), 1) := by decide +kernel
theorem dX3_reading_12 : decode cX3_reading 12 = .ok (.ireturn, 1) := by decide +kernel
theorem dX3_reading_13 : decode cX3_reading 13 = .ok (.iload_n 2, 1) := by decide +kernel
theorem dX3_reading_14 : decode cX3_reading 14 = .ok (.tableswitch 81 0 3 #[30, 44, 58, 71], 30) := by decide +kernel
theorem dX3_reading_44 : decode cX3_reading 44 = .ok (.aload_n 0, 1) := by decide +kernel
theorem dX3_reading_45 : decode cX3_reading 45 = .ok (.getfield 24, 3) := by decide +kernel
theorem dX3_reading_48 : decode cX3_reading 48 = .ok (.getfield 163, 3) := by decide +kernel
theorem dX3_reading_51 : decode cX3_reading 51 = .ok (.iload_n 1, 1) := by decide +kernel
theorem dX3_reading_52 : decode cX3_reading 52 = .ok (.iaload, 1) := by decide +kernel
theorem dX3_reading_53 : decode cX3_reading 53 = .ok (.sipush 10000, 3) := by decide +kernel
theorem dX3_reading_56 : decode cX3_reading 56 = .ok (.iadd, 1) := by decide +kernel
theorem dX3_reading_57 : decode cX3_reading 57 = .ok (.ireturn, 1) := by decide +kernel
theorem dX3_reading_58 : decode cX3_reading 58 = .ok (.aload_n 0, 1) := by decide +kernel
theorem dX3_reading_59 : decode cX3_reading 59 = .ok (.getfield 24, 3) := by decide +kernel
theorem dX3_reading_62 : decode cX3_reading 62 = .ok (.getfield 166, 3) := by decide +kernel
theorem dX3_reading_65 : decode cX3_reading 65 = .ok (.iload_n 1, 1) := by decide +kernel
theorem dX3_reading_66 : decode cX3_reading 66 = .ok (.iaload, 1) := by decide +kernel
theorem dX3_reading_67 : decode cX3_reading 67 = .ok (.sipush 10000, 3) := by decide +kernel
theorem dX3_reading_70 : decode cX3_reading 70 = .ok (.iadd, 1) := by decide +kernel
theorem dX3_reading_71 : decode cX3_reading 71 = .ok (.ireturn, 1) := by decide +kernel
theorem dX3_reading_72 : decode cX3_reading 72 = .ok (.aload_n 0, 1) := by decide +kernel
theorem dX3_reading_73 : decode cX3_reading 73 = .ok (.getfield 24, 3) := by decide +kernel
theorem dX3_reading_76 : decode cX3_reading 76 = .ok (.getfield 169, 3) := by decide +kernel
theorem dX3_reading_79 : decode cX3_reading 79 = .ok (.iload_n 1, 1) := by decide +kernel
theorem dX3_reading_80 : decode cX3_reading 80 = .ok (.iaload, 1) := by decide +kernel
theorem dX3_reading_81 : decode cX3_reading 81 = .ok (.ldc 110, 2) := by decide +kernel
theorem dX3_reading_83 : decode cX3_reading 83 = .ok (.iadd, 1) := by decide +kernel
theorem dX3_reading_84 : decode cX3_reading 84 = .ok (.ireturn, 1) := by decide +kernel
theorem dX3_reading_85 : decode cX3_reading 85 = .ok (.aload_n 0, 1) := by decide +kernel
theorem dX3_reading_86 : decode cX3_reading 86 = .ok (.getfield 24, 3) := by decide +kernel
theorem dX3_reading_89 : decode cX3_reading 89 = .ok (.getfield 172, 3) := by decide +kernel
theorem dX3_reading_92 : decode cX3_reading 92 = .ok (.iload_n 1, 1) := by decide +kernel
theorem dX3_reading_93 : decode cX3_reading 93 = .ok (.iaload, 1) := by decide +kernel
theorem dX3_reading_94 : decode cX3_reading 94 = .ok (.ireturn, 1) := by decide +kernel
theorem dX3_reading_95 : decode cX3_reading 95 = .ok (.bipush (-2), 2) := by decide +kernel
theorem dX3_reading_97 : decode cX3_reading 97 = .ok (.ireturn, 1) := by decide +kernel
theorem dX3_clear_0 : decode cX3_clear 0 = .ok (.aload_n 0, 1) := by decide +kernel
theorem dX3_clear_1 : decode cX3_clear 1 = .ok (.getfield 24, 3) := by decide +kernel
theorem dX3_clear_4 : decode cX3_clear 4 = .ok (.getfield 134, 3) := by decide +kernel
theorem dX3_clear_7 : decode cX3_clear 7 = .ok (.istore_n 1, 1) := by decide +kernel
theorem dX3_clear_8 : decode cX3_clear 8 = .ok (.aload_n 0, 1) := by decide +kernel
theorem dX3_clear_9 : decode cX3_clear 9 = .ok (.getfield 24, 3) := by decide +kernel
theorem dX3_clear_12 : decode cX3_clear 12 = .ok (.iconst 0, 1) := by decide +kernel
theorem dX3_clear_13 : decode cX3_clear 13 = .ok (.putfield 134, 3) := by decide +kernel
theorem dX3_clear_16 : decode cX3_clear 16 = .ok (.iload_n 1, 1) := by decide +kernel
theorem dX3_clear_17 : decode cX3_clear 17 = .ok (.ireturn, 1) := by decide +kernel
set_option maxRecDepth 20000 in
theorem ggX3_knee_X2_has : GoodIn wsX3_knee wsX2_has := goodIn_r _ [6, 7, 25, 26, 27, 28, 29] (by decide +kernel) (by decide +kernel)
set_option maxRecDepth 20000 in
theorem gX3_knee_X2_has : GoodIn wsX3_knee (wsV RX3 160 RX2 yX2_has wsX2_has) := goodIn_app (goodIn_of _ (by decide +kernel)) ggX3_knee_X2_has
set_option maxRecDepth 20000 in
theorem ggX3_knee_X2_kneePoint : GoodIn wsX3_knee wsX2_kneePoint := goodIn_r _ [11, 12, 13, 14, 15, 16, 17, 25, 26, 27, 28, 29] (by decide +kernel) (by decide +kernel)
set_option maxRecDepth 20000 in
theorem gX3_knee_X2_kneePoint : GoodIn wsX3_knee (wsV RX3 175 RX2 yX2_kneePoint wsX2_kneePoint) := goodIn_app (goodIn_of _ (by decide +kernel)) ggX3_knee_X2_kneePoint
theorem dX3_knee_0 : decode cX3_knee 0 = .ok (.aload_n 0, 1) := by decide +kernel
theorem dX3_knee_1 : decode cX3_knee 1 = .ok (.getfield 24, 3) := by decide +kernel
theorem dX3_knee_4 : decode cX3_knee 4 = .ok (.iload_n 1, 1) := by decide +kernel
theorem dX3_knee_5 : decode cX3_knee 5 = .ok (.invokevirtual 160, 3) := by decide +kernel
theorem dX3_knee_8 : decode cX3_knee 8 = .ok (.ifCond .eq 14, 3) := by decide +kernel
theorem dX3_knee_11 : decode cX3_knee 11 = .ok (.aload_n 0, 1) := by decide +kernel
theorem dX3_knee_12 : decode cX3_knee 12 = .ok (.getfield 24, 3) := by decide +kernel
theorem dX3_knee_15 : decode cX3_knee 15 = .ok (.iload_n 2, 1) := by decide +kernel
theorem dX3_knee_16 : decode cX3_knee 16 = .ok (.invokevirtual 160, 3) := by decide +kernel
theorem dX3_knee_19 : decode cX3_knee 19 = .ok (.ifCond .ne 5, 3) := by decide +kernel
theorem dX3_knee_22 : decode cX3_knee 22 = .ok (.iconst (-1), 1) := by decide +kernel
theorem dX3_knee_23 : decode cX3_knee 23 = .ok (.ireturn, 1) := by decide +kernel
theorem dX3_knee_24 : decode cX3_knee 24 = .ok (.iload_n 1, 1) := by decide +kernel
theorem dX3_knee_25 : decode cX3_knee 25 = .ok (.iload_n 2, 1) := by decide +kernel
theorem dX3_knee_26 : decode cX3_knee 26 = .ok (.if_icmp .le 8, 3) := by decide +kernel
theorem dX3_knee_29 : decode cX3_knee 29 = .ok (.bipush (-2), 2) := by decide +kernel
theorem dX3_knee_31 : decode cX3_knee 31 = .ok (.goto 12, 3) := by decide +kernel
theorem dX3_knee_34 : decode cX3_knee 34 = .ok (.aload_n 0, 1) := by decide +kernel
theorem dX3_knee_35 : decode cX3_knee 35 = .ok (.getfield 24, 3) := by decide +kernel
theorem dX3_knee_38 : decode cX3_knee 38 = .ok (.iload_n 1, 1) := by decide +kernel
theorem dX3_knee_39 : decode cX3_knee 39 = .ok (.iload_n 2, 1) := by decide +kernel
theorem dX3_knee_40 : decode cX3_knee 40 = .ok (.invokevirtual 175, 3) := by decide +kernel
theorem dX3_knee_43 : decode cX3_knee 43 = .ok (.ireturn, 1) := by decide +kernel
set_option maxRecDepth 20000 in
theorem ggX3_fit_X2_has : GoodIn wsX3_fit wsX2_has := goodIn_r _ [7, 8, 43, 44, 45, 46, 47] (by decide +kernel) (by decide +kernel)
set_option maxRecDepth 20000 in
theorem gX3_fit_X2_has : GoodIn wsX3_fit (wsV RX3 160 RX2 yX2_has wsX2_has) := goodIn_app (goodIn_of _ (by decide +kernel)) ggX3_fit_X2_has
set_option maxRecDepth 20000 in
theorem ggX3_fit_X3_within : GoodIn wsX3_fit wsX3_within := goodIn_r _ [12] (by decide +kernel) (by decide +kernel)
set_option maxRecDepth 20000 in
theorem gX3_fit_X3_within : GoodIn wsX3_fit (va_wsS RX3 47 yX3_within wsX3_within) := goodIn_app (goodIn_of _ (by decide +kernel)) ggX3_fit_X3_within
set_option maxRecDepth 20000 in
theorem ggX3_fit_X2_lineFitted : GoodIn wsX3_fit wsX2_lineFitted := goodIn_r _ [16, 17, 18, 19, 20, 21, 6, 22, 23, 24, 25, 26, 27, 28, 29, 30, 31, 32, 33, 34, 35, 43, 44, 45, 46, 47] (by decide +kernel) (by decide +kernel)
set_option maxRecDepth 20000 in
theorem gX3_fit_X2_lineFitted : GoodIn wsX3_fit (wsV RX3 180 RX2 yX2_lineFitted wsX2_lineFitted) := goodIn_app (goodIn_of _ (by decide +kernel)) ggX3_fit_X2_lineFitted
theorem dX3_fit_0 : decode cX3_fit 0 = .ok (.aload_n 0, 1) := by decide +kernel
theorem dX3_fit_1 : decode cX3_fit 1 = .ok (.getfield 24, 3) := by decide +kernel
theorem dX3_fit_4 : decode cX3_fit 4 = .ok (.iload_n 1, 1) := by decide +kernel
theorem dX3_fit_5 : decode cX3_fit 5 = .ok (.invokevirtual 160, 3) := by decide +kernel
theorem dX3_fit_8 : decode cX3_fit 8 = .ok (.ifCond .eq 28, 3) := by decide +kernel
theorem dX3_fit_11 : decode cX3_fit 11 = .ok (.aload_n 0, 1) := by decide +kernel
theorem dX3_fit_12 : decode cX3_fit 12 = .ok (.getfield 24, 3) := by decide +kernel
theorem dX3_fit_15 : decode cX3_fit 15 = .ok (.iload_n 2, 1) := by decide +kernel
theorem dX3_fit_16 : decode cX3_fit 16 = .ok (.invokevirtual 160, 3) := by decide +kernel
theorem dX3_fit_19 : decode cX3_fit 19 = .ok (.ifCond .eq 17, 3) := by decide +kernel
theorem dX3_fit_22 : decode cX3_fit 22 = .ok (.iload_n 1, 1) := by decide +kernel
theorem dX3_fit_23 : decode cX3_fit 23 = .ok (.iload_n 2, 1) := by decide +kernel
theorem dX3_fit_24 : decode cX3_fit 24 = .ok (.if_icmp .gt 12, 3) := by decide +kernel
theorem dX3_fit_27 : decode cX3_fit 27 = .ok (.iload_n 3, 1) := by decide +kernel
theorem dX3_fit_28 : decode cX3_fit 28 = .ok (.iconst 0, 1) := by decide +kernel
theorem dX3_fit_29 : decode cX3_fit 29 = .ok (.iconst 5, 1) := by decide +kernel
theorem dX3_fit_30 : decode cX3_fit 30 = .ok (.invokestatic 47, 3) := by decide +kernel
theorem dX3_fit_33 : decode cX3_fit 33 = .ok (.ifCond .ne 7, 3) := by decide +kernel
theorem dX3_fit_36 : decode cX3_fit 36 = .ok (.ldc2_w 178, 3) := by decide +kernel
theorem dX3_fit_39 : decode cX3_fit 39 = .ok (.lreturn, 1) := by decide +kernel
theorem dX3_fit_40 : decode cX3_fit 40 = .ok (.aload_n 0, 1) := by decide +kernel
theorem dX3_fit_41 : decode cX3_fit 41 = .ok (.getfield 24, 3) := by decide +kernel
theorem dX3_fit_44 : decode cX3_fit 44 = .ok (.iload_n 1, 1) := by decide +kernel
theorem dX3_fit_45 : decode cX3_fit 45 = .ok (.iload_n 2, 1) := by decide +kernel
theorem dX3_fit_46 : decode cX3_fit 46 = .ok (.iload_n 3, 1) := by decide +kernel
theorem dX3_fit_47 : decode cX3_fit 47 = .ok (.invokevirtual 180, 3) := by decide +kernel
theorem dX3_fit_50 : decode cX3_fit 50 = .ok (.lreturn, 1) := by decide +kernel
set_option maxRecDepth 20000 in
theorem ggX3_many_X3_partsThere : GoodIn wsX3_many wsX3_partsThere := goodIn_r _ [7, 8, 9, 10, 30, 31, 32, 33, 34, 35, 36, 42, 43, 44, 45, 46, 47, 48, 49, 50, 51, 52, 53] (by decide +kernel) (by decide +kernel)
set_option maxRecDepth 20000 in
theorem gX3_many_X3_partsThere : GoodIn wsX3_many (wsV RX3 187 RX3 yX3_partsThere wsX3_partsThere) := goodIn_app (goodIn_of _ (by decide +kernel)) ggX3_many_X3_partsThere
set_option maxRecDepth 20000 in
theorem ggX3_many_X3_closedRelays : GoodIn wsX3_many wsX3_closedRelays := goodIn_r _ [14, 15, 16, 17, 18, 19, 20, 21, 22, 30, 31, 32, 33, 34, 35, 36] (by decide +kernel) (by decide +kernel)
set_option maxRecDepth 20000 in
theorem gX3_many_X3_closedRelays : GoodIn wsX3_many (wsV RX3 191 RX3 yX3_closedRelays wsX3_closedRelays) := goodIn_app (goodIn_of _ (by decide +kernel)) ggX3_many_X3_closedRelays
set_option maxRecDepth 20000 in
theorem ggX3_many_X2_withRule : GoodIn wsX3_many wsX2_withRule := goodIn_r _ [27, 28, 29, 37, 38, 39, 40, 41] (by decide +kernel) (by decide +kernel)
set_option maxRecDepth 20000 in
theorem gX3_many_X2_withRule : GoodIn wsX3_many (wsV RX3 194 RX2 yX2_withRule wsX2_withRule) := goodIn_app (goodIn_of _ (by decide +kernel)) ggX3_many_X2_withRule
theorem dX3_many_0 : decode cX3_many 0 = .ok (.iload_n 1, 1) := by decide +kernel
theorem dX3_many_1 : decode cX3_many 1 = .ok (.tableswitch 82 0 5 #[39, 45, 53, 58, 64, 73], 39) := by decide +kernel
theorem dX3_many_40 : decode cX3_many 40 = .ok (.aload_n 0, 1) := by decide +kernel
theorem dX3_many_41 : decode cX3_many 41 = .ok (.iconst 0, 1) := by decide +kernel
theorem dX3_many_42 : decode cX3_many 42 = .ok (.invokevirtual 187, 3) := by decide +kernel
theorem dX3_many_45 : decode cX3_many 45 = .ok (.ireturn, 1) := by decide +kernel
theorem dX3_many_46 : decode cX3_many 46 = .ok (.aload_n 0, 1) := by decide +kernel
theorem dX3_many_47 : decode cX3_many 47 = .ok (.getfield 24, 3) := by decide +kernel
theorem dX3_many_50 : decode cX3_many 50 = .ok (.getfield 134, 3) := by decide +kernel
theorem dX3_many_53 : decode cX3_many 53 = .ok (.ireturn, 1) := by decide +kernel
theorem dX3_many_54 : decode cX3_many 54 = .ok (.aload_n 0, 1) := by decide +kernel
theorem dX3_many_55 : decode cX3_many 55 = .ok (.invokevirtual 191, 3) := by decide +kernel
theorem dX3_many_58 : decode cX3_many 58 = .ok (.ireturn, 1) := by decide +kernel
theorem dX3_many_59 : decode cX3_many 59 = .ok (.aload_n 0, 1) := by decide +kernel
theorem dX3_many_60 : decode cX3_many 60 = .ok (.iconst 1, 1) := by decide +kernel
theorem dX3_many_61 : decode cX3_many 61 = .ok (.invokevirtual 187, 3) := by decide +kernel
theorem dX3_many_64 : decode cX3_many 64 = .ok (.ireturn, 1) := by decide +kernel
theorem dX3_many_65 : decode cX3_many 65 = .ok (.aload_n 0, 1) := by decide +kernel
theorem dX3_many_66 : decode cX3_many 66 = .ok (.getfield 24, 3) := by decide +kernel
theorem dX3_many_69 : decode cX3_many 69 = .ok (.iconst 1, 1) := by decide +kernel
theorem dX3_many_70 : decode cX3_many 70 = .ok (.invokevirtual 194, 3) := by decide +kernel
theorem dX3_many_73 : decode cX3_many 73 = .ok (.ireturn, 1) := by decide +kernel
theorem dX3_many_74 : decode cX3_many 74 = .ok (.aload_n 0, 1) := by decide +kernel
theorem dX3_many_75 : decode cX3_many 75 = .ok (.getfield 24, 3) := by decide +kernel
theorem dX3_many_78 : decode cX3_many 78 = .ok (.iconst 2, 1) := by decide +kernel
theorem dX3_many_79 : decode cX3_many 79 = .ok (.invokevirtual 194, 3) := by decide +kernel
theorem dX3_many_82 : decode cX3_many 82 = .ok (.ireturn, 1) := by decide +kernel
theorem dX3_many_83 : decode cX3_many 83 = .ok (.bipush (-2), 2) := by decide +kernel
theorem dX3_many_85 : decode cX3_many 85 = .ok (.ireturn, 1) := by decide +kernel
theorem dX3_within_0 : decode cX3_within 0 = .ok (.iload_n 0, 1) := by decide +kernel
theorem dX3_within_1 : decode cX3_within 1 = .ok (.iload_n 1, 1) := by decide +kernel
theorem dX3_within_2 : decode cX3_within 2 = .ok (.if_icmp .lt 12, 3) := by decide +kernel
theorem dX3_within_5 : decode cX3_within 5 = .ok (.iload_n 0, 1) := by decide +kernel
theorem dX3_within_6 : decode cX3_within 6 = .ok (.iload_n 2, 1) := by decide +kernel
theorem dX3_within_7 : decode cX3_within 7 = .ok (.if_icmp .gt 7, 3) := by decide +kernel
theorem dX3_within_10 : decode cX3_within 10 = .ok (.iconst 1, 1) := by decide +kernel
theorem dX3_within_11 : decode cX3_within 11 = .ok (.goto 4, 3) := by decide +kernel
theorem dX3_within_14 : decode cX3_within 14 = .ok (.iconst 0, 1) := by decide +kernel
theorem dX3_within_15 : decode cX3_within 15 = .ok (.ireturn, 1) := by decide +kernel
set_option maxRecDepth 20000 in
theorem ggX3_isVolts_X3_within : GoodIn wsX3_isVolts wsX3_within := goodIn_r _ [4] (by decide +kernel) (by decide +kernel)
set_option maxRecDepth 20000 in
theorem gX3_isVolts_X3_within : GoodIn wsX3_isVolts (va_wsS RX3 47 yX3_within wsX3_within) := goodIn_app (goodIn_of _ (by decide +kernel)) ggX3_isVolts_X3_within
theorem dX3_isVolts_0 : decode cX3_isVolts 0 = .ok (.iload_n 0, 1) := by decide +kernel
theorem dX3_isVolts_1 : decode cX3_isVolts 1 = .ok (.sipush (-3000), 3) := by decide +kernel
theorem dX3_isVolts_4 : decode cX3_isVolts 4 = .ok (.sipush 3000, 3) := by decide +kernel
theorem dX3_isVolts_7 : decode cX3_isVolts 7 = .ok (.invokestatic 47, 3) := by decide +kernel
theorem dX3_isVolts_10 : decode cX3_isVolts 10 = .ok (.ireturn, 1) := by decide +kernel
set_option maxRecDepth 20000 in
theorem ggX3_partAt_X3_within : GoodIn wsX3_partAt wsX3_within := goodIn_r _ [6] (by decide +kernel) (by decide +kernel)
set_option maxRecDepth 20000 in
theorem gX3_partAt_X3_within : GoodIn wsX3_partAt (va_wsS RX3 47 yX3_within wsX3_within) := goodIn_app (goodIn_of _ (by decide +kernel)) ggX3_partAt_X3_within
theorem dX3_partAt_0 : decode cX3_partAt 0 = .ok (.iload_n 1, 1) := by decide +kernel
theorem dX3_partAt_1 : decode cX3_partAt 1 = .ok (.iconst 0, 1) := by decide +kernel
theorem dX3_partAt_2 : decode cX3_partAt 2 = .ok (.iconst 3, 1) := by decide +kernel
theorem dX3_partAt_3 : decode cX3_partAt 3 = .ok (.invokestatic 47, 3) := by decide +kernel
theorem dX3_partAt_6 : decode cX3_partAt 6 = .ok (.ifCond .eq 24, 3) := by decide +kernel
theorem dX3_partAt_9 : decode cX3_partAt 9 = .ok (.aload_n 0, 1) := by decide +kernel
theorem dX3_partAt_10 : decode cX3_partAt 10 = .ok (.getfield 13, 3) := by decide +kernel
theorem dX3_partAt_13 : decode cX3_partAt 13 = .ok (.iload_n 1, 1) := by decide +kernel
theorem dX3_partAt_14 : decode cX3_partAt 14 = .ok (.aaload, 1) := by decide +kernel
theorem dX3_partAt_15 : decode cX3_partAt 15 = .ok (.getfield 51, 3) := by decide +kernel
theorem dX3_partAt_18 : decode cX3_partAt 18 = .ok (.ifCond .eq 12, 3) := by decide +kernel
theorem dX3_partAt_21 : decode cX3_partAt 21 = .ok (.aload_n 0, 1) := by decide +kernel
theorem dX3_partAt_22 : decode cX3_partAt 22 = .ok (.getfield 13, 3) := by decide +kernel
theorem dX3_partAt_25 : decode cX3_partAt 25 = .ok (.iload_n 1, 1) := by decide +kernel
theorem dX3_partAt_26 : decode cX3_partAt 26 = .ok (.aaload, 1) := by decide +kernel
theorem dX3_partAt_27 : decode cX3_partAt 27 = .ok (.goto 4, 3) := by decide +kernel
theorem dX3_partAt_30 : decode cX3_partAt 30 = .ok (.aconst_null, 1) := by decide +kernel
theorem dX3_partAt_31 : decode cX3_partAt 31 = .ok (.areturn, 1) := by decide +kernel
theorem dX3_wouldShort_0 : decode cX3_wouldShort 0 = .ok (.iload_n 1, 1) := by decide +kernel
theorem dX3_wouldShort_1 : decode cX3_wouldShort 1 = .ok (.ifCond .ne 14, 3) := by decide +kernel
theorem dX3_wouldShort_4 : decode cX3_wouldShort 4 = .ok (.aload_n 0, 1) := by decide +kernel
theorem dX3_wouldShort_5 : decode cX3_wouldShort 5 = .ok (.getfield 17, 3) := by decide +kernel
theorem dX3_wouldShort_8 : decode cX3_wouldShort 8 = .ok (.iconst 1, 1) := by decide +kernel
theorem dX3_wouldShort_9 : decode cX3_wouldShort 9 = .ok (.iaload, 1) := by decide +kernel
theorem dX3_wouldShort_10 : decode cX3_wouldShort 10 = .ok (.iload_n 2, 1) := by decide +kernel
theorem dX3_wouldShort_11 : decode cX3_wouldShort 11 = .ok (.iand, 1) := by decide +kernel
theorem dX3_wouldShort_12 : decode cX3_wouldShort 12 = .ok (.ifCond .ne 19, 3) := by decide +kernel
theorem dX3_wouldShort_15 : decode cX3_wouldShort 15 = .ok (.iload_n 1, 1) := by decide +kernel
theorem dX3_wouldShort_16 : decode cX3_wouldShort 16 = .ok (.iconst 1, 1) := by decide +kernel
theorem dX3_wouldShort_17 : decode cX3_wouldShort 17 = .ok (.if_icmp .ne 18, 3) := by decide +kernel
theorem dX3_wouldShort_20 : decode cX3_wouldShort 20 = .ok (.aload_n 0, 1) := by decide +kernel
theorem dX3_wouldShort_21 : decode cX3_wouldShort 21 = .ok (.getfield 17, 3) := by decide +kernel
theorem dX3_wouldShort_24 : decode cX3_wouldShort 24 = .ok (.iconst 0, 1) := by decide +kernel
theorem dX3_wouldShort_25 : decode cX3_wouldShort 25 = .ok (.iaload, 1) := by decide +kernel
theorem dX3_wouldShort_26 : decode cX3_wouldShort 26 = .ok (.iload_n 2, 1) := by decide +kernel
theorem dX3_wouldShort_27 : decode cX3_wouldShort 27 = .ok (.iand, 1) := by decide +kernel
theorem dX3_wouldShort_28 : decode cX3_wouldShort 28 = .ok (.ifCond .eq 7, 3) := by decide +kernel
theorem dX3_wouldShort_31 : decode cX3_wouldShort 31 = .ok (.iconst 1, 1) := by decide +kernel
theorem dX3_wouldShort_32 : decode cX3_wouldShort 32 = .ok (.goto 4, 3) := by decide +kernel
theorem dX3_wouldShort_35 : decode cX3_wouldShort 35 = .ok (.iconst 0, 1) := by decide +kernel
theorem dX3_wouldShort_36 : decode cX3_wouldShort 36 = .ok (.ireturn, 1) := by decide +kernel
set_option maxRecDepth 20000 in
theorem ggX3_highAndLowAtOnePinEach_J6_bitCount_0f7a4 : GoodIn wsX3_highAndLowAtOnePinEach wsJ6_bitCount_0f7a4 := goodIn_r _ [5, 6, 7, 8] (by decide +kernel) (by decide +kernel)
set_option maxRecDepth 20000 in
theorem gX3_highAndLowAtOnePinEach_J6_bitCount_0f7a4 : GoodIn wsX3_highAndLowAtOnePinEach (va_wsS RX3 197 yJ6_bitCount_0f7a4 wsJ6_bitCount_0f7a4) := goodIn_app (goodIn_of _ (by decide +kernel)) ggX3_highAndLowAtOnePinEach_J6_bitCount_0f7a4
theorem dX3_highAndLowAtOnePinEach_0 : decode cX3_highAndLowAtOnePinEach 0 = .ok (.aload_n 0, 1) := by decide +kernel
theorem dX3_highAndLowAtOnePinEach_1 : decode cX3_highAndLowAtOnePinEach 1 = .ok (.getfield 17, 3) := by decide +kernel
theorem dX3_highAndLowAtOnePinEach_4 : decode cX3_highAndLowAtOnePinEach 4 = .ok (.iconst 0, 1) := by decide +kernel
theorem dX3_highAndLowAtOnePinEach_5 : decode cX3_highAndLowAtOnePinEach 5 = .ok (.iaload, 1) := by decide +kernel
theorem dX3_highAndLowAtOnePinEach_6 : decode cX3_highAndLowAtOnePinEach 6 = .ok (.invokestatic 197, 3) := by decide +kernel
theorem dX3_highAndLowAtOnePinEach_9 : decode cX3_highAndLowAtOnePinEach 9 = .ok (.iconst 1, 1) := by decide +kernel
theorem dX3_highAndLowAtOnePinEach_10 : decode cX3_highAndLowAtOnePinEach 10 = .ok (.if_icmp .ne 20, 3) := by decide +kernel
theorem dX3_highAndLowAtOnePinEach_13 : decode cX3_highAndLowAtOnePinEach 13 = .ok (.aload_n 0, 1) := by decide +kernel
theorem dX3_highAndLowAtOnePinEach_14 : decode cX3_highAndLowAtOnePinEach 14 = .ok (.getfield 17, 3) := by decide +kernel
theorem dX3_highAndLowAtOnePinEach_17 : decode cX3_highAndLowAtOnePinEach 17 = .ok (.iconst 1, 1) := by decide +kernel
theorem dX3_highAndLowAtOnePinEach_18 : decode cX3_highAndLowAtOnePinEach 18 = .ok (.iaload, 1) := by decide +kernel
theorem dX3_highAndLowAtOnePinEach_19 : decode cX3_highAndLowAtOnePinEach 19 = .ok (.invokestatic 197, 3) := by decide +kernel
theorem dX3_highAndLowAtOnePinEach_22 : decode cX3_highAndLowAtOnePinEach 22 = .ok (.iconst 1, 1) := by decide +kernel
theorem dX3_highAndLowAtOnePinEach_23 : decode cX3_highAndLowAtOnePinEach 23 = .ok (.if_icmp .ne 7, 3) := by decide +kernel
theorem dX3_highAndLowAtOnePinEach_26 : decode cX3_highAndLowAtOnePinEach 26 = .ok (.iconst 1, 1) := by decide +kernel
theorem dX3_highAndLowAtOnePinEach_27 : decode cX3_highAndLowAtOnePinEach 27 = .ok (.goto 4, 3) := by decide +kernel
theorem dX3_highAndLowAtOnePinEach_30 : decode cX3_highAndLowAtOnePinEach 30 = .ok (.iconst 0, 1) := by decide +kernel
theorem dX3_highAndLowAtOnePinEach_31 : decode cX3_highAndLowAtOnePinEach 31 = .ok (.ireturn, 1) := by decide +kernel
set_option maxRecDepth 20000 in
theorem ggX3_inHand_X3_highAndLowAtOnePinEach : GoodIn wsX3_inHand wsX3_highAndLowAtOnePinEach := goodIn_r _ [7, 8, 9, 10, 11, 12, 13, 14, 15, 22, 23, 24, 25, 26, 27, 28] (by decide +kernel) (by decide +kernel)
set_option maxRecDepth 20000 in
theorem gX3_inHand_X3_highAndLowAtOnePinEach : GoodIn wsX3_inHand (wsV RX3 202 RX3 yX3_highAndLowAtOnePinEach wsX3_highAndLowAtOnePinEach) := goodIn_app (goodIn_of _ (by decide +kernel)) ggX3_inHand_X3_highAndLowAtOnePinEach
set_option maxRecDepth 20000 in
theorem ggX3_inHand_X3_joinsHighAndLow : GoodIn wsX3_inHand wsX3_joinsHighAndLow := goodIn_r _ [19, 20, 21, 8, 29, 30, 31, 32, 33, 34, 35, 36, 37, 38, 39, 40, 22, 23, 24, 25, 26, 27, 28] (by decide +kernel) (by decide +kernel)
set_option maxRecDepth 20000 in
theorem gX3_inHand_X3_joinsHighAndLow : GoodIn wsX3_inHand (wsV RX3 205 RX3 yX3_joinsHighAndLow wsX3_joinsHighAndLow) := goodIn_app (goodIn_of _ (by decide +kernel)) ggX3_inHand_X3_joinsHighAndLow
theorem dX3_inHand_0 : decode cX3_inHand 0 = .ok (.aload_n 0, 1) := by decide +kernel
theorem dX3_inHand_1 : decode cX3_inHand 1 = .ok (.invokevirtual 202, 3) := by decide +kernel
theorem dX3_inHand_4 : decode cX3_inHand 4 = .ok (.ifCond .ne 6, 3) := by decide +kernel
theorem dX3_inHand_7 : decode cX3_inHand 7 = .ok (.bipush (-9), 2) := by decide +kernel
theorem dX3_inHand_9 : decode cX3_inHand 9 = .ok (.ireturn, 1) := by decide +kernel
theorem dX3_inHand_10 : decode cX3_inHand 10 = .ok (.iconst 0, 1) := by decide +kernel
theorem dX3_inHand_11 : decode cX3_inHand 11 = .ok (.istore_n 1, 1) := by decide +kernel
theorem dX3_inHand_12 : decode cX3_inHand 12 = .ok (.iload_n 1, 1) := by decide +kernel
theorem dX3_inHand_13 : decode cX3_inHand 13 = .ok (.aload_n 0, 1) := by decide +kernel
theorem dX3_inHand_14 : decode cX3_inHand 14 = .ok (.getfield 13, 3) := by decide +kernel
theorem dX3_inHand_17 : decode cX3_inHand 17 = .ok (.arraylength, 1) := by decide +kernel
theorem dX3_inHand_18 : decode cX3_inHand 18 = .ok (.if_icmp .ge 36, 3) := by decide +kernel
theorem dX3_inHand_21 : decode cX3_inHand 21 = .ok (.aload_n 0, 1) := by decide +kernel
theorem dX3_inHand_22 : decode cX3_inHand 22 = .ok (.getfield 13, 3) := by decide +kernel
theorem dX3_inHand_25 : decode cX3_inHand 25 = .ok (.iload_n 1, 1) := by decide +kernel
theorem dX3_inHand_26 : decode cX3_inHand 26 = .ok (.aaload, 1) := by decide +kernel
theorem dX3_inHand_27 : decode cX3_inHand 27 = .ok (.getfield 51, 3) := by decide +kernel
theorem dX3_inHand_30 : decode cX3_inHand 30 = .ok (.ifCond .eq 18, 3) := by decide +kernel
theorem dX3_inHand_33 : decode cX3_inHand 33 = .ok (.aload_n 0, 1) := by decide +kernel
theorem dX3_inHand_34 : decode cX3_inHand 34 = .ok (.aload_n 0, 1) := by decide +kernel
theorem dX3_inHand_35 : decode cX3_inHand 35 = .ok (.getfield 13, 3) := by decide +kernel
theorem dX3_inHand_38 : decode cX3_inHand 38 = .ok (.iload_n 1, 1) := by decide +kernel
theorem dX3_inHand_39 : decode cX3_inHand 39 = .ok (.aaload, 1) := by decide +kernel
theorem dX3_inHand_40 : decode cX3_inHand 40 = .ok (.invokevirtual 205, 3) := by decide +kernel
theorem dX3_inHand_43 : decode cX3_inHand 43 = .ok (.ifCond .eq 5, 3) := by decide +kernel
theorem dX3_inHand_46 : decode cX3_inHand 46 = .ok (.iload_n 1, 1) := by decide +kernel
theorem dX3_inHand_47 : decode cX3_inHand 47 = .ok (.ireturn, 1) := by decide +kernel
theorem dX3_inHand_48 : decode cX3_inHand 48 = .ok (.iinc 1 1, 3) := by decide +kernel
theorem dX3_inHand_51 : decode cX3_inHand 51 = .ok (.goto (-39), 3) := by decide +kernel
theorem dX3_inHand_54 : decode cX3_inHand 54 = .ok (.bipush (-9), 2) := by decide +kernel
theorem dX3_inHand_56 : decode cX3_inHand 56 = .ok (.ireturn, 1) := by decide +kernel
theorem dX3_joinsHighAndLow_0 : decode cX3_joinsHighAndLow 0 = .ok (.iconst 1, 1) := by decide +kernel
theorem dX3_joinsHighAndLow_1 : decode cX3_joinsHighAndLow 1 = .ok (.aload_n 1, 1) := by decide +kernel
theorem dX3_joinsHighAndLow_2 : decode cX3_joinsHighAndLow 2 = .ok (.getfield 74, 3) := by decide +kernel
theorem dX3_joinsHighAndLow_5 : decode cX3_joinsHighAndLow 5 = .ok (.ishl, 1) := by decide +kernel
theorem dX3_joinsHighAndLow_6 : decode cX3_joinsHighAndLow 6 = .ok (.istore_n 2, 1) := by decide +kernel
theorem dX3_joinsHighAndLow_7 : decode cX3_joinsHighAndLow 7 = .ok (.iconst 1, 1) := by decide +kernel
theorem dX3_joinsHighAndLow_8 : decode cX3_joinsHighAndLow 8 = .ok (.aload_n 1, 1) := by decide +kernel
theorem dX3_joinsHighAndLow_9 : decode cX3_joinsHighAndLow 9 = .ok (.getfield 77, 3) := by decide +kernel
theorem dX3_joinsHighAndLow_12 : decode cX3_joinsHighAndLow 12 = .ok (.ishl, 1) := by decide +kernel
theorem dX3_joinsHighAndLow_13 : decode cX3_joinsHighAndLow 13 = .ok (.istore_n 3, 1) := by decide +kernel
theorem dX3_joinsHighAndLow_14 : decode cX3_joinsHighAndLow 14 = .ok (.iload_n 2, 1) := by decide +kernel
theorem dX3_joinsHighAndLow_15 : decode cX3_joinsHighAndLow 15 = .ok (.aload_n 0, 1) := by decide +kernel
theorem dX3_joinsHighAndLow_16 : decode cX3_joinsHighAndLow 16 = .ok (.getfield 17, 3) := by decide +kernel
theorem dX3_joinsHighAndLow_19 : decode cX3_joinsHighAndLow 19 = .ok (.iconst 0, 1) := by decide +kernel
theorem dX3_joinsHighAndLow_20 : decode cX3_joinsHighAndLow 20 = .ok (.iaload, 1) := by decide +kernel
theorem dX3_joinsHighAndLow_21 : decode cX3_joinsHighAndLow 21 = .ok (.if_icmp .ne 13, 3) := by decide +kernel
theorem dX3_joinsHighAndLow_24 : decode cX3_joinsHighAndLow 24 = .ok (.iload_n 3, 1) := by decide +kernel
theorem dX3_joinsHighAndLow_25 : decode cX3_joinsHighAndLow 25 = .ok (.aload_n 0, 1) := by decide +kernel
theorem dX3_joinsHighAndLow_26 : decode cX3_joinsHighAndLow 26 = .ok (.getfield 17, 3) := by decide +kernel
theorem dX3_joinsHighAndLow_29 : decode cX3_joinsHighAndLow 29 = .ok (.iconst 1, 1) := by decide +kernel
theorem dX3_joinsHighAndLow_30 : decode cX3_joinsHighAndLow 30 = .ok (.iaload, 1) := by decide +kernel
theorem dX3_joinsHighAndLow_31 : decode cX3_joinsHighAndLow 31 = .ok (.if_icmp .eq 23, 3) := by decide +kernel
theorem dX3_joinsHighAndLow_34 : decode cX3_joinsHighAndLow 34 = .ok (.iload_n 2, 1) := by decide +kernel
theorem dX3_joinsHighAndLow_35 : decode cX3_joinsHighAndLow 35 = .ok (.aload_n 0, 1) := by decide +kernel
theorem dX3_joinsHighAndLow_36 : decode cX3_joinsHighAndLow 36 = .ok (.getfield 17, 3) := by decide +kernel
theorem dX3_joinsHighAndLow_39 : decode cX3_joinsHighAndLow 39 = .ok (.iconst 1, 1) := by decide +kernel
theorem dX3_joinsHighAndLow_40 : decode cX3_joinsHighAndLow 40 = .ok (.iaload, 1) := by decide +kernel
theorem dX3_joinsHighAndLow_41 : decode cX3_joinsHighAndLow 41 = .ok (.if_icmp .ne 17, 3) := by decide +kernel
theorem dX3_joinsHighAndLow_44 : decode cX3_joinsHighAndLow 44 = .ok (.iload_n 3, 1) := by decide +kernel
theorem dX3_joinsHighAndLow_45 : decode cX3_joinsHighAndLow 45 = .ok (.aload_n 0, 1) := by decide +kernel
theorem dX3_joinsHighAndLow_46 : decode cX3_joinsHighAndLow 46 = .ok (.getfield 17, 3) := by decide +kernel
theorem dX3_joinsHighAndLow_49 : decode cX3_joinsHighAndLow 49 = .ok (.iconst 0, 1) := by decide +kernel
theorem dX3_joinsHighAndLow_50 : decode cX3_joinsHighAndLow 50 = .ok (.iaload, 1) := by decide +kernel
theorem dX3_joinsHighAndLow_51 : decode cX3_joinsHighAndLow 51 = .ok (.if_icmp .ne 7, 3) := by decide +kernel
theorem dX3_joinsHighAndLow_54 : decode cX3_joinsHighAndLow 54 = .ok (.iconst 1, 1) := by decide +kernel
theorem dX3_joinsHighAndLow_55 : decode cX3_joinsHighAndLow 55 = .ok (.goto 4, 3) := by decide +kernel
theorem dX3_joinsHighAndLow_58 : decode cX3_joinsHighAndLow 58 = .ok (.iconst 0, 1) := by decide +kernel
theorem dX3_joinsHighAndLow_59 : decode cX3_joinsHighAndLow 59 = .ok (.ireturn, 1) := by decide +kernel
set_option maxRecDepth 20000 in
theorem ggX3_fourWires_X3_highAndLowAtOnePinEach : GoodIn wsX3_fourWires wsX3_highAndLowAtOnePinEach := goodIn_r _ [6, 1, 7, 8, 9, 10, 11, 12, 13, 14, 15, 16, 17, 18, 19, 20] (by decide +kernel) (by decide +kernel)
set_option maxRecDepth 20000 in
theorem gX3_fourWires_X3_highAndLowAtOnePinEach : GoodIn wsX3_fourWires (wsV RX3 202 RX3 yX3_highAndLowAtOnePinEach wsX3_highAndLowAtOnePinEach) := goodIn_app (goodIn_of _ (by decide +kernel)) ggX3_fourWires_X3_highAndLowAtOnePinEach
theorem dX3_fourWires_0 : decode cX3_fourWires 0 = .ok (.aload_n 0, 1) := by decide +kernel
theorem dX3_fourWires_1 : decode cX3_fourWires 1 = .ok (.invokevirtual 202, 3) := by decide +kernel
theorem dX3_fourWires_4 : decode cX3_fourWires 4 = .ok (.ifCond .eq 37, 3) := by decide +kernel
theorem dX3_fourWires_7 : decode cX3_fourWires 7 = .ok (.aload_n 0, 1) := by decide +kernel
theorem dX3_fourWires_8 : decode cX3_fourWires 8 = .ok (.getfield 17, 3) := by decide +kernel
theorem dX3_fourWires_11 : decode cX3_fourWires 11 = .ok (.iconst 2, 1) := by decide +kernel
theorem dX3_fourWires_12 : decode cX3_fourWires 12 = .ok (.iaload, 1) := by decide +kernel
theorem dX3_fourWires_13 : decode cX3_fourWires 13 = .ok (.aload_n 0, 1) := by decide +kernel
theorem dX3_fourWires_14 : decode cX3_fourWires 14 = .ok (.getfield 17, 3) := by decide +kernel
theorem dX3_fourWires_17 : decode cX3_fourWires 17 = .ok (.iconst 0, 1) := by decide +kernel
theorem dX3_fourWires_18 : decode cX3_fourWires 18 = .ok (.iaload, 1) := by decide +kernel
theorem dX3_fourWires_19 : decode cX3_fourWires 19 = .ok (.if_icmp .ne 22, 3) := by decide +kernel
theorem dX3_fourWires_22 : decode cX3_fourWires 22 = .ok (.aload_n 0, 1) := by decide +kernel
theorem dX3_fourWires_23 : decode cX3_fourWires 23 = .ok (.getfield 17, 3) := by decide +kernel
theorem dX3_fourWires_26 : decode cX3_fourWires 26 = .ok (.iconst 3, 1) := by decide +kernel
theorem dX3_fourWires_27 : decode cX3_fourWires 27 = .ok (.iaload, 1) := by decide +kernel
theorem dX3_fourWires_28 : decode cX3_fourWires 28 = .ok (.aload_n 0, 1) := by decide +kernel
theorem dX3_fourWires_29 : decode cX3_fourWires 29 = .ok (.getfield 17, 3) := by decide +kernel
theorem dX3_fourWires_32 : decode cX3_fourWires 32 = .ok (.iconst 1, 1) := by decide +kernel
theorem dX3_fourWires_33 : decode cX3_fourWires 33 = .ok (.iaload, 1) := by decide +kernel
theorem dX3_fourWires_34 : decode cX3_fourWires 34 = .ok (.if_icmp .ne 7, 3) := by decide +kernel
theorem dX3_fourWires_37 : decode cX3_fourWires 37 = .ok (.iconst 1, 1) := by decide +kernel
theorem dX3_fourWires_38 : decode cX3_fourWires 38 = .ok (.goto 4, 3) := by decide +kernel
theorem dX3_fourWires_41 : decode cX3_fourWires 41 = .ok (.iconst 0, 1) := by decide +kernel
theorem dX3_fourWires_42 : decode cX3_fourWires 42 = .ok (.ireturn, 1) := by decide +kernel
set_option maxRecDepth 20000 in
theorem ggX3_closedRelays_J6_bitCount_0f7a4 : GoodIn wsX3_closedRelays wsJ6_bitCount_0f7a4 := goodIn_r _ [5, 6, 7, 8] (by decide +kernel) (by decide +kernel)
set_option maxRecDepth 20000 in
theorem gX3_closedRelays_J6_bitCount_0f7a4 : GoodIn wsX3_closedRelays (va_wsS RX3 197 yJ6_bitCount_0f7a4 wsJ6_bitCount_0f7a4) := goodIn_app (goodIn_of _ (by decide +kernel)) ggX3_closedRelays_J6_bitCount_0f7a4
theorem dX3_closedRelays_0 : decode cX3_closedRelays 0 = .ok (.iconst 0, 1) := by decide +kernel
theorem dX3_closedRelays_1 : decode cX3_closedRelays 1 = .ok (.istore_n 1, 1) := by decide +kernel
theorem dX3_closedRelays_2 : decode cX3_closedRelays 2 = .ok (.iconst 0, 1) := by decide +kernel
theorem dX3_closedRelays_3 : decode cX3_closedRelays 3 = .ok (.istore_n 2, 1) := by decide +kernel
theorem dX3_closedRelays_4 : decode cX3_closedRelays 4 = .ok (.iload_n 2, 1) := by decide +kernel
theorem dX3_closedRelays_5 : decode cX3_closedRelays 5 = .ok (.aload_n 0, 1) := by decide +kernel
theorem dX3_closedRelays_6 : decode cX3_closedRelays 6 = .ok (.getfield 17, 3) := by decide +kernel
theorem dX3_closedRelays_9 : decode cX3_closedRelays 9 = .ok (.arraylength, 1) := by decide +kernel
theorem dX3_closedRelays_10 : decode cX3_closedRelays 10 = .ok (.if_icmp .ge 21, 3) := by decide +kernel
theorem dX3_closedRelays_13 : decode cX3_closedRelays 13 = .ok (.iload_n 1, 1) := by decide +kernel
theorem dX3_closedRelays_14 : decode cX3_closedRelays 14 = .ok (.aload_n 0, 1) := by decide +kernel
theorem dX3_closedRelays_15 : decode cX3_closedRelays 15 = .ok (.getfield 17, 3) := by decide +kernel
theorem dX3_closedRelays_18 : decode cX3_closedRelays 18 = .ok (.iload_n 2, 1) := by decide +kernel
theorem dX3_closedRelays_19 : decode cX3_closedRelays 19 = .ok (.iaload, 1) := by decide +kernel
theorem dX3_closedRelays_20 : decode cX3_closedRelays 20 = .ok (.invokestatic 197, 3) := by decide +kernel
theorem dX3_closedRelays_23 : decode cX3_closedRelays 23 = .ok (.iadd, 1) := by decide +kernel
theorem dX3_closedRelays_24 : decode cX3_closedRelays 24 = .ok (.istore_n 1, 1) := by decide +kernel
theorem dX3_closedRelays_25 : decode cX3_closedRelays 25 = .ok (.iinc 2 1, 3) := by decide +kernel
theorem dX3_closedRelays_28 : decode cX3_closedRelays 28 = .ok (.goto (-24), 3) := by decide +kernel
theorem dX3_closedRelays_31 : decode cX3_closedRelays 31 = .ok (.iload_n 1, 1) := by decide +kernel
theorem dX3_closedRelays_32 : decode cX3_closedRelays 32 = .ok (.ireturn, 1) := by decide +kernel
theorem dX3_partsThere_0 : decode cX3_partsThere 0 = .ok (.iconst 0, 1) := by decide +kernel
theorem dX3_partsThere_1 : decode cX3_partsThere 1 = .ok (.istore_n 2, 1) := by decide +kernel
theorem dX3_partsThere_2 : decode cX3_partsThere 2 = .ok (.iconst 0, 1) := by decide +kernel
theorem dX3_partsThere_3 : decode cX3_partsThere 3 = .ok (.istore_n 3, 1) := by decide +kernel
theorem dX3_partsThere_4 : decode cX3_partsThere 4 = .ok (.iload_n 3, 1) := by decide +kernel
theorem dX3_partsThere_5 : decode cX3_partsThere 5 = .ok (.aload_n 0, 1) := by decide +kernel
theorem dX3_partsThere_6 : decode cX3_partsThere 6 = .ok (.getfield 13, 3) := by decide +kernel
theorem dX3_partsThere_9 : decode cX3_partsThere 9 = .ok (.arraylength, 1) := by decide +kernel
theorem dX3_partsThere_10 : decode cX3_partsThere 10 = .ok (.if_icmp .ge 40, 3) := by decide +kernel
theorem dX3_partsThere_13 : decode cX3_partsThere 13 = .ok (.aload_n 0, 1) := by decide +kernel
theorem dX3_partsThere_14 : decode cX3_partsThere 14 = .ok (.getfield 13, 3) := by decide +kernel
theorem dX3_partsThere_17 : decode cX3_partsThere 17 = .ok (.iload_n 3, 1) := by decide +kernel
theorem dX3_partsThere_18 : decode cX3_partsThere 18 = .ok (.aaload, 1) := by decide +kernel
theorem dX3_partsThere_19 : decode cX3_partsThere 19 = .ok (.getfield 51, 3) := by decide +kernel
theorem dX3_partsThere_22 : decode cX3_partsThere 22 = .ok (.ifCond .eq 22, 3) := by decide +kernel
theorem dX3_partsThere_25 : decode cX3_partsThere 25 = .ok (.aload_n 0, 1) := by decide +kernel
theorem dX3_partsThere_26 : decode cX3_partsThere 26 = .ok (.getfield 13, 3) := by decide +kernel
theorem dX3_partsThere_29 : decode cX3_partsThere 29 = .ok (.iload_n 3, 1) := by decide +kernel
theorem dX3_partsThere_30 : decode cX3_partsThere 30 = .ok (.aaload, 1) := by decide +kernel
theorem dX3_partsThere_31 : decode cX3_partsThere 31 = .ok (.getfield 86, 3) := by decide +kernel
theorem dX3_partsThere_34 : decode cX3_partsThere 34 = .ok (.ifCond .ne 7, 3) := by decide +kernel
theorem dX3_partsThere_37 : decode cX3_partsThere 37 = .ok (.iload_n 1, 1) := by decide +kernel
theorem dX3_partsThere_38 : decode cX3_partsThere 38 = .ok (.ifCond .ne 6, 3) := by decide +kernel
theorem dX3_partsThere_41 : decode cX3_partsThere 41 = .ok (.iinc 2 1, 3) := by decide +kernel
theorem dX3_partsThere_44 : decode cX3_partsThere 44 = .ok (.iinc 3 1, 3) := by decide +kernel
theorem dX3_partsThere_47 : decode cX3_partsThere 47 = .ok (.goto (-43), 3) := by decide +kernel
theorem dX3_partsThere_50 : decode cX3_partsThere 50 = .ok (.iload_n 2, 1) := by decide +kernel
theorem dX3_partsThere_51 : decode cX3_partsThere 51 = .ok (.ireturn, 1) := by decide +kernel
theorem dX3_owned_0 : decode cX3_owned 0 = .ok (.iconst 1, 1) := by decide +kernel
theorem dX3_owned_1 : decode cX3_owned 1 = .ok (.aload_n 1, 1) := by decide +kernel
theorem dX3_owned_2 : decode cX3_owned 2 = .ok (.getfield 74, 3) := by decide +kernel
theorem dX3_owned_5 : decode cX3_owned 5 = .ok (.ishl, 1) := by decide +kernel
theorem dX3_owned_6 : decode cX3_owned 6 = .ok (.aload_n 0, 1) := by decide +kernel
theorem dX3_owned_7 : decode cX3_owned 7 = .ok (.getfield 17, 3) := by decide +kernel
theorem dX3_owned_10 : decode cX3_owned 10 = .ok (.iconst 0, 1) := by decide +kernel
theorem dX3_owned_11 : decode cX3_owned 11 = .ok (.iaload, 1) := by decide +kernel
theorem dX3_owned_12 : decode cX3_owned 12 = .ok (.if_icmp .ne 7, 3) := by decide +kernel
theorem dX3_owned_15 : decode cX3_owned 15 = .ok (.iload_n 2, 1) := by decide +kernel
theorem dX3_owned_16 : decode cX3_owned 16 = .ok (.goto 5, 3) := by decide +kernel
theorem dX3_owned_19 : decode cX3_owned 19 = .ok (.iload_n 2, 1) := by decide +kernel
theorem dX3_owned_20 : decode cX3_owned 20 = .ok (.ineg, 1) := by decide +kernel
theorem dX3_owned_21 : decode cX3_owned 21 = .ok (.ireturn, 1) := by decide +kernel
set_option maxRecDepth 20000 in
theorem ggX3_ampsAt_X3_owned : GoodIn wsX3_ampsAt wsX3_owned := goodIn_r _ [5, 6, 7, 29, 30, 31, 32, 33, 34, 35, 36, 37, 38, 39, 40, 41, 42, 43, 44, 45, 46, 47] (by decide +kernel) (by decide +kernel)
set_option maxRecDepth 20000 in
theorem gX3_ampsAt_X3_owned : GoodIn wsX3_ampsAt (wsV RX3 209 RX3 yX3_owned wsX3_owned) := goodIn_app (goodIn_of _ (by decide +kernel)) ggX3_ampsAt_X3_owned
set_option maxRecDepth 20000 in
theorem ggX3_ampsAt_X1_ownAmps : GoodIn wsX3_ampsAt wsX1_ownAmps := goodIn_r _ [12, 13, 14, 15, 16, 17, 18, 11, 19, 20, 21, 22, 23, 24, 25, 26, 27, 28, 29, 30, 31, 32, 33, 34, 35, 36, 37, 38, 39, 40] (by decide +kernel) (by decide +kernel)
set_option maxRecDepth 20000 in
theorem gX3_ampsAt_X1_ownAmps : GoodIn wsX3_ampsAt (wsV RX3 107 RX1 yX1_ownAmps wsX1_ownAmps) := goodIn_app (goodIn_of _ (by decide +kernel)) ggX3_ampsAt_X1_ownAmps
theorem dX3_ampsAt_0 : decode cX3_ampsAt 0 = .ok (.aload_n 0, 1) := by decide +kernel
theorem dX3_ampsAt_1 : decode cX3_ampsAt 1 = .ok (.aload_n 1, 1) := by decide +kernel
theorem dX3_ampsAt_2 : decode cX3_ampsAt 2 = .ok (.aload_n 1, 1) := by decide +kernel
theorem dX3_ampsAt_3 : decode cX3_ampsAt 3 = .ok (.aload_n 0, 1) := by decide +kernel
theorem dX3_ampsAt_4 : decode cX3_ampsAt 4 = .ok (.aload_n 1, 1) := by decide +kernel
theorem dX3_ampsAt_5 : decode cX3_ampsAt 5 = .ok (.iload_n 2, 1) := by decide +kernel
theorem dX3_ampsAt_6 : decode cX3_ampsAt 6 = .ok (.invokevirtual 209, 3) := by decide +kernel
theorem dX3_ampsAt_9 : decode cX3_ampsAt 9 = .ok (.invokevirtual 107, 3) := by decide +kernel
theorem dX3_ampsAt_12 : decode cX3_ampsAt 12 = .ok (.invokevirtual 209, 3) := by decide +kernel
theorem dX3_ampsAt_15 : decode cX3_ampsAt 15 = .ok (.ireturn, 1) := by decide +kernel
set_option maxRecDepth 20000 in
theorem ggX3_drop_J9_floorDiv_7cf53 : GoodIn wsX3_drop wsJ9_floorDiv_7cf53 := goodIn_r _ [5] (by decide +kernel) (by decide +kernel)
set_option maxRecDepth 20000 in
theorem gX3_drop_J9_floorDiv_7cf53 : GoodIn wsX3_drop (va_wsS RX3 212 yJ9_floorDiv_7cf53 wsJ9_floorDiv_7cf53) := goodIn_app (goodIn_of _ (by decide +kernel)) ggX3_drop_J9_floorDiv_7cf53
theorem dX3_drop_0 : decode cX3_drop 0 = .ok (.iload_n 1, 1) := by decide +kernel
theorem dX3_drop_1 : decode cX3_drop 1 = .ok (.aload_n 0, 1) := by decide +kernel
theorem dX3_drop_2 : decode cX3_drop 2 = .ok (.getfield 43, 3) := by decide +kernel
theorem dX3_drop_5 : decode cX3_drop 5 = .ok (.imul, 1) := by decide +kernel
theorem dX3_drop_6 : decode cX3_drop 6 = .ok (.sipush 1000, 3) := by decide +kernel
theorem dX3_drop_9 : decode cX3_drop 9 = .ok (.invokestatic 212, 3) := by decide +kernel
theorem dX3_drop_12 : decode cX3_drop 12 = .ok (.ireturn, 1) := by decide +kernel
set_option maxRecDepth 20000 in
theorem ggX3_aboveLimit_X3_ampsAt : GoodIn wsX3_aboveLimit wsX3_ampsAt := goodIn_r _ [10, 11, 12, 13, 9, 14, 15, 16, 17, 18, 19, 20, 21, 22, 23, 24, 25, 26, 27, 28, 29, 30, 31, 32, 33, 34, 35, 36, 37, 45, 46, 47, 48, 49, 50, 51, 52, 53, 54, 55, 56, 38, 39, 40, 41, 42, 43, 44] (by decide +kernel) (by decide +kernel)
set_option maxRecDepth 20000 in
theorem gX3_aboveLimit_X3_ampsAt : GoodIn wsX3_aboveLimit (wsV RX3 115 RX3 yX3_ampsAt wsX3_ampsAt) := goodIn_app (goodIn_of _ (by decide +kernel)) ggX3_aboveLimit_X3_ampsAt
theorem dX3_aboveLimit_0 : decode cX3_aboveLimit 0 = .ok (.aload_n 0, 1) := by decide +kernel
theorem dX3_aboveLimit_1 : decode cX3_aboveLimit 1 = .ok (.aload_n 1, 1) := by decide +kernel
theorem dX3_aboveLimit_2 : decode cX3_aboveLimit 2 = .ok (.iload_n 2, 1) := by decide +kernel
theorem dX3_aboveLimit_3 : decode cX3_aboveLimit 3 = .ok (.invokevirtual 115, 3) := by decide +kernel
theorem dX3_aboveLimit_6 : decode cX3_aboveLimit 6 = .ok (.invokestatic 147, 3) := by decide +kernel
theorem dX3_aboveLimit_9 : decode cX3_aboveLimit 9 = .ok (.aload_n 0, 1) := by decide +kernel
theorem dX3_aboveLimit_10 : decode cX3_aboveLimit 10 = .ok (.getfield 39, 3) := by decide +kernel
theorem dX3_aboveLimit_13 : decode cX3_aboveLimit 13 = .ok (.if_icmp .le 7, 3) := by decide +kernel
theorem dX3_aboveLimit_16 : decode cX3_aboveLimit 16 = .ok (.iconst 1, 1) := by decide +kernel
theorem dX3_aboveLimit_17 : decode cX3_aboveLimit 17 = .ok (.goto 4, 3) := by decide +kernel
theorem dX3_aboveLimit_20 : decode cX3_aboveLimit 20 = .ok (.iconst 0, 1) := by decide +kernel
theorem dX3_aboveLimit_21 : decode cX3_aboveLimit 21 = .ok (.ireturn, 1) := by decide +kernel
set_option maxRecDepth 20000 in
theorem ggX3_allowed_X3_ampsAt : GoodIn wsX3_allowed wsX3_ampsAt := goodIn_r _ [10, 11, 12, 13, 9, 14, 15, 16, 17, 18, 19, 20, 21, 22, 23, 24, 25, 26, 27, 28, 29, 30, 31, 32, 33, 34, 35, 36, 37, 66, 67, 68, 69, 70, 71, 72, 73, 74, 75, 76, 77, 59, 60, 61, 62, 63, 64, 65] (by decide +kernel) (by decide +kernel)
set_option maxRecDepth 20000 in
theorem gX3_allowed_X3_ampsAt : GoodIn wsX3_allowed (wsV RX3 115 RX3 yX3_ampsAt wsX3_ampsAt) := goodIn_app (goodIn_of _ (by decide +kernel)) ggX3_allowed_X3_ampsAt
set_option maxRecDepth 20000 in
theorem ggX3_allowed_X3_fourWires : GoodIn wsX3_allowed wsX3_fourWires := goodIn_r _ [41, 16, 42, 43, 44, 9, 45, 46, 47, 48, 49, 50, 51, 52, 59, 60, 61, 62, 63, 64, 65] (by decide +kernel) (by decide +kernel)
set_option maxRecDepth 20000 in
theorem gX3_allowed_X3_fourWires : GoodIn wsX3_allowed (wsV RX3 99 RX3 yX3_fourWires wsX3_fourWires) := goodIn_app (goodIn_of _ (by decide +kernel)) ggX3_allowed_X3_fourWires
set_option maxRecDepth 20000 in
theorem ggX3_allowed_X3_drop : GoodIn wsX3_allowed wsX3_drop := goodIn_r _ [56, 57, 58, 35, 36, 37, 59, 60, 61, 62, 63, 64, 65] (by decide +kernel) (by decide +kernel)
set_option maxRecDepth 20000 in
theorem gX3_allowed_X3_drop : GoodIn wsX3_allowed (wsV RX3 215 RX3 yX3_drop wsX3_drop) := goodIn_app (goodIn_of _ (by decide +kernel)) ggX3_allowed_X3_drop
theorem dX3_allowed_0 : decode cX3_allowed 0 = .ok (.aload_n 0, 1) := by decide +kernel
theorem dX3_allowed_1 : decode cX3_allowed 1 = .ok (.aload_n 1, 1) := by decide +kernel
theorem dX3_allowed_2 : decode cX3_allowed 2 = .ok (.iload_n 2, 1) := by decide +kernel
theorem dX3_allowed_3 : decode cX3_allowed 3 = .ok (.invokevirtual 115, 3) := by decide +kernel
theorem dX3_allowed_6 : decode cX3_allowed 6 = .ok (.istore 4, 2) := by decide +kernel
theorem dX3_allowed_8 : decode cX3_allowed 8 = .ok (.iload 4, 2) := by decide +kernel
theorem dX3_allowed_10 : decode cX3_allowed 10 = .ok (.invokestatic 147, 3) := by decide +kernel
theorem dX3_allowed_13 : decode cX3_allowed 13 = .ok (.aload_n 0, 1) := by decide +kernel
theorem dX3_allowed_14 : decode cX3_allowed 14 = .ok (.getfield 39, 3) := by decide +kernel
theorem dX3_allowed_17 : decode cX3_allowed 17 = .ok (.if_icmp .le 5, 3) := by decide +kernel
theorem dX3_allowed_20 : decode cX3_allowed 20 = .ok (.iconst 0, 1) := by decide +kernel
theorem dX3_allowed_21 : decode cX3_allowed 21 = .ok (.ireturn, 1) := by decide +kernel
theorem dX3_allowed_22 : decode cX3_allowed 22 = .ok (.aload_n 0, 1) := by decide +kernel
theorem dX3_allowed_23 : decode cX3_allowed 23 = .ok (.invokevirtual 99, 3) := by decide +kernel
theorem dX3_allowed_26 : decode cX3_allowed 26 = .ok (.ifCond .ne 21, 3) := by decide +kernel
theorem dX3_allowed_29 : decode cX3_allowed 29 = .ok (.iload_n 2, 1) := by decide +kernel
theorem dX3_allowed_30 : decode cX3_allowed 30 = .ok (.aload_n 0, 1) := by decide +kernel
theorem dX3_allowed_31 : decode cX3_allowed 31 = .ok (.iload 4, 2) := by decide +kernel
theorem dX3_allowed_33 : decode cX3_allowed 33 = .ok (.invokevirtual 215, 3) := by decide +kernel
theorem dX3_allowed_36 : decode cX3_allowed 36 = .ok (.iadd, 1) := by decide +kernel
theorem dX3_allowed_37 : decode cX3_allowed 37 = .ok (.invokestatic 147, 3) := by decide +kernel
theorem dX3_allowed_40 : decode cX3_allowed 40 = .ok (.iload_n 3, 1) := by decide +kernel
theorem dX3_allowed_41 : decode cX3_allowed 41 = .ok (.invokestatic 147, 3) := by decide +kernel
theorem dX3_allowed_44 : decode cX3_allowed 44 = .ok (.if_icmp .gt 7, 3) := by decide +kernel
theorem dX3_allowed_47 : decode cX3_allowed 47 = .ok (.iconst 1, 1) := by decide +kernel
theorem dX3_allowed_48 : decode cX3_allowed 48 = .ok (.goto 4, 3) := by decide +kernel
theorem dX3_allowed_51 : decode cX3_allowed 51 = .ok (.iconst 0, 1) := by decide +kernel
theorem dX3_allowed_52 : decode cX3_allowed 52 = .ok (.ireturn, 1) := by decide +kernel
set_option maxRecDepth 20000 in
theorem ggX3_farthest_X3_allowed : GoodIn wsX3_farthest wsX3_allowed := goodIn_r _ [9, 1, 2, 3, 4, 10, 11, 12, 13, 8, 14, 15, 16, 17, 18, 19, 20, 21, 22, 23, 24, 25, 26, 27, 28, 29, 30, 31, 32, 33, 34, 35, 36, 37, 38, 39, 40, 41, 42, 43, 44, 45, 46, 47, 48, 49, 50, 51, 52, 53, 54, 55, 56, 57, 58, 59, 60, 61, 62, 63, 64, 65, 66, 67, 68, 69, 70, 71, 72, 73, 74, 75, 76, 77, 78, 79, 80, 81] (by decide +kernel) (by decide +kernel)
set_option maxRecDepth 20000 in
theorem gX3_farthest_X3_allowed : GoodIn wsX3_farthest (wsV RX3 218 RX3 yX3_allowed wsX3_allowed) := goodIn_app (goodIn_of _ (by decide +kernel)) ggX3_farthest_X3_allowed
theorem dX3_farthest_0 : decode cX3_farthest 0 = .ok (.iload_n 2, 1) := by decide +kernel
theorem dX3_farthest_1 : decode cX3_farthest 1 = .ok (.ifCond .ge 7, 3) := by decide +kernel
theorem dX3_farthest_4 : decode cX3_farthest 4 = .ok (.iconst (-1), 1) := by decide +kernel
theorem dX3_farthest_5 : decode cX3_farthest 5 = .ok (.goto 4, 3) := by decide +kernel
theorem dX3_farthest_8 : decode cX3_farthest 8 = .ok (.iconst 1, 1) := by decide +kernel
theorem dX3_farthest_9 : decode cX3_farthest 9 = .ok (.istore_n 3, 1) := by decide +kernel
theorem dX3_farthest_10 : decode cX3_farthest 10 = .ok (.iconst 0, 1) := by decide +kernel
theorem dX3_farthest_11 : decode cX3_farthest 11 = .ok (.istore 4, 2) := by decide +kernel
theorem dX3_farthest_13 : decode cX3_farthest 13 = .ok (.iload_n 2, 1) := by decide +kernel
theorem dX3_farthest_14 : decode cX3_farthest 14 = .ok (.invokestatic 147, 3) := by decide +kernel
theorem dX3_farthest_17 : decode cX3_farthest 17 = .ok (.istore 5, 2) := by decide +kernel
theorem dX3_farthest_19 : decode cX3_farthest 19 = .ok (.iconst 0, 1) := by decide +kernel
theorem dX3_farthest_20 : decode cX3_farthest 20 = .ok (.istore 6, 2) := by decide +kernel
theorem dX3_farthest_22 : decode cX3_farthest 22 = .ok (.iload 6, 2) := by decide +kernel
theorem dX3_farthest_24 : decode cX3_farthest 24 = .ok (.bipush 32, 2) := by decide +kernel
theorem dX3_farthest_26 : decode cX3_farthest 26 = .ok (.if_icmp .ge 53, 3) := by decide +kernel
theorem dX3_farthest_29 : decode cX3_farthest 29 = .ok (.iload 4, 2) := by decide +kernel
theorem dX3_farthest_31 : decode cX3_farthest 31 = .ok (.iload 5, 2) := by decide +kernel
theorem dX3_farthest_33 : decode cX3_farthest 33 = .ok (.if_icmp .ge 46, 3) := by decide +kernel
theorem dX3_farthest_36 : decode cX3_farthest 36 = .ok (.iload 4, 2) := by decide +kernel
theorem dX3_farthest_38 : decode cX3_farthest 38 = .ok (.iload 5, 2) := by decide +kernel
theorem dX3_farthest_40 : decode cX3_farthest 40 = .ok (.iadd, 1) := by decide +kernel
theorem dX3_farthest_41 : decode cX3_farthest 41 = .ok (.iconst 1, 1) := by decide +kernel
theorem dX3_farthest_42 : decode cX3_farthest 42 = .ok (.iadd, 1) := by decide +kernel
theorem dX3_farthest_43 : decode cX3_farthest 43 = .ok (.iconst 2, 1) := by decide +kernel
theorem dX3_farthest_44 : decode cX3_farthest 44 = .ok (.idiv, 1) := by decide +kernel
theorem dX3_farthest_45 : decode cX3_farthest 45 = .ok (.istore 7, 2) := by decide +kernel
theorem dX3_farthest_47 : decode cX3_farthest 47 = .ok (.aload_n 0, 1) := by decide +kernel
theorem dX3_farthest_48 : decode cX3_farthest 48 = .ok (.aload_n 1, 1) := by decide +kernel
theorem dX3_farthest_49 : decode cX3_farthest 49 = .ok (.iload_n 3, 1) := by decide +kernel
theorem dX3_farthest_50 : decode cX3_farthest 50 = .ok (.iload 7, 2) := by decide +kernel
theorem dX3_farthest_52 : decode cX3_farthest 52 = .ok (.imul, 1) := by decide +kernel
theorem dX3_farthest_53 : decode cX3_farthest 53 = .ok (.iload_n 2, 1) := by decide +kernel
theorem dX3_farthest_54 : decode cX3_farthest 54 = .ok (.invokevirtual 218, 3) := by decide +kernel
theorem dX3_farthest_57 : decode cX3_farthest 57 = .ok (.ifCond .eq 10, 3) := by decide +kernel
theorem dX3_farthest_60 : decode cX3_farthest 60 = .ok (.iload 7, 2) := by decide +kernel
theorem dX3_farthest_62 : decode cX3_farthest 62 = .ok (.istore 4, 2) := by decide +kernel
theorem dX3_farthest_64 : decode cX3_farthest 64 = .ok (.goto 9, 3) := by decide +kernel
theorem dX3_farthest_67 : decode cX3_farthest 67 = .ok (.iload 7, 2) := by decide +kernel
theorem dX3_farthest_69 : decode cX3_farthest 69 = .ok (.iconst 1, 1) := by decide +kernel
theorem dX3_farthest_70 : decode cX3_farthest 70 = .ok (.isub, 1) := by decide +kernel
theorem dX3_farthest_71 : decode cX3_farthest 71 = .ok (.istore 5, 2) := by decide +kernel
theorem dX3_farthest_73 : decode cX3_farthest 73 = .ok (.iinc 6 1, 3) := by decide +kernel
theorem dX3_farthest_76 : decode cX3_farthest 76 = .ok (.goto (-54), 3) := by decide +kernel
theorem dX3_farthest_79 : decode cX3_farthest 79 = .ok (.iload_n 3, 1) := by decide +kernel
theorem dX3_farthest_80 : decode cX3_farthest 80 = .ok (.iload 4, 2) := by decide +kernel
theorem dX3_farthest_82 : decode cX3_farthest 82 = .ok (.imul, 1) := by decide +kernel
theorem dX3_farthest_83 : decode cX3_farthest 83 = .ok (.ireturn, 1) := by decide +kernel
set_option maxRecDepth 20000 in
theorem ggX3_ruleAt_X3_aboveLimit : GoodIn wsX3_ruleAt wsX3_aboveLimit := goodIn_r _ [5, 6, 7, 8, 9, 10, 11, 12, 13, 4, 14, 15, 16, 17, 18, 19, 20, 21, 22, 23, 24, 25, 26, 27, 28, 29, 30, 31, 32, 33, 34, 35, 36, 37, 38, 39, 40, 41, 42, 43, 44, 45, 46, 47, 48, 49, 50, 51, 52, 53, 54, 55, 56, 57, 58, 59, 60] (by decide +kernel) (by decide +kernel)
set_option maxRecDepth 20000 in
theorem gX3_ruleAt_X3_aboveLimit : GoodIn wsX3_ruleAt (wsV RX3 222 RX3 yX3_aboveLimit wsX3_aboveLimit) := goodIn_app (goodIn_of _ (by decide +kernel)) ggX3_ruleAt_X3_aboveLimit
theorem dX3_ruleAt_0 : decode cX3_ruleAt 0 = .ok (.iload_n 2, 1) := by decide +kernel
theorem dX3_ruleAt_1 : decode cX3_ruleAt 1 = .ok (.iload_n 3, 1) := by decide +kernel
theorem dX3_ruleAt_2 : decode cX3_ruleAt 2 = .ok (.if_icmp .ne 5, 3) := by decide +kernel
theorem dX3_ruleAt_5 : decode cX3_ruleAt 5 = .ok (.iconst 0, 1) := by decide +kernel
theorem dX3_ruleAt_6 : decode cX3_ruleAt 6 = .ok (.ireturn, 1) := by decide +kernel
theorem dX3_ruleAt_7 : decode cX3_ruleAt 7 = .ok (.iload_n 3, 1) := by decide +kernel
theorem dX3_ruleAt_8 : decode cX3_ruleAt 8 = .ok (.ifCond .ge 9, 3) := by decide +kernel
theorem dX3_ruleAt_11 : decode cX3_ruleAt 11 = .ok (.iload_n 2, 1) := by decide +kernel
theorem dX3_ruleAt_12 : decode cX3_ruleAt 12 = .ok (.iconst 1, 1) := by decide +kernel
theorem dX3_ruleAt_13 : decode cX3_ruleAt 13 = .ok (.isub, 1) := by decide +kernel
theorem dX3_ruleAt_14 : decode cX3_ruleAt 14 = .ok (.goto 6, 3) := by decide +kernel
theorem dX3_ruleAt_17 : decode cX3_ruleAt 17 = .ok (.iload_n 2, 1) := by decide +kernel
theorem dX3_ruleAt_18 : decode cX3_ruleAt 18 = .ok (.iconst 1, 1) := by decide +kernel
theorem dX3_ruleAt_19 : decode cX3_ruleAt 19 = .ok (.iadd, 1) := by decide +kernel
theorem dX3_ruleAt_20 : decode cX3_ruleAt 20 = .ok (.istore 4, 2) := by decide +kernel
theorem dX3_ruleAt_22 : decode cX3_ruleAt 22 = .ok (.aload_n 0, 1) := by decide +kernel
theorem dX3_ruleAt_23 : decode cX3_ruleAt 23 = .ok (.aload_n 1, 1) := by decide +kernel
theorem dX3_ruleAt_24 : decode cX3_ruleAt 24 = .ok (.iload 4, 2) := by decide +kernel
theorem dX3_ruleAt_26 : decode cX3_ruleAt 26 = .ok (.invokevirtual 222, 3) := by decide +kernel
theorem dX3_ruleAt_29 : decode cX3_ruleAt 29 = .ok (.ifCond .eq 7, 3) := by decide +kernel
theorem dX3_ruleAt_32 : decode cX3_ruleAt 32 = .ok (.iconst 1, 1) := by decide +kernel
theorem dX3_ruleAt_33 : decode cX3_ruleAt 33 = .ok (.goto 4, 3) := by decide +kernel
theorem dX3_ruleAt_36 : decode cX3_ruleAt 36 = .ok (.iconst 2, 1) := by decide +kernel
theorem dX3_ruleAt_37 : decode cX3_ruleAt 37 = .ok (.ireturn, 1) := by decide +kernel
set_option maxRecDepth 20000 in
theorem ggX3_readPulse_X3_farthest : GoodIn wsX3_readPulse wsX3_farthest := goodIn_r _ [7, 8, 9, 10, 11, 12, 13, 14, 6, 15, 16, 17, 18, 19, 20, 21, 22, 23, 24, 25, 26, 27, 28, 29, 30, 31, 32, 33, 34, 35, 36, 37, 38, 39, 40, 41, 42, 43, 44, 45, 46, 47, 48, 49, 50, 51, 52, 53, 54, 55, 56, 57, 58, 59, 60, 61, 62, 63, 64, 65, 66, 67, 68, 123, 124, 125, 126, 127, 128, 129, 111, 112, 113, 114, 115, 116, 117, 118, 119, 120, 121, 122] (by decide +kernel) (by decide +kernel)
set_option maxRecDepth 20000 in
theorem gX3_readPulse_X3_farthest : GoodIn wsX3_readPulse (wsV RX3 111 RX3 yX3_farthest wsX3_farthest) := goodIn_app (goodIn_of _ (by decide +kernel)) ggX3_readPulse_X3_farthest
set_option maxRecDepth 20000 in
theorem ggX3_readPulse_X3_owned : GoodIn wsX3_readPulse wsX3_owned := goodIn_r _ [24, 25, 26, 111, 112, 113, 114, 115, 116, 117, 118, 119, 120, 121, 122, 123, 124, 125, 126, 127, 128, 129] (by decide +kernel) (by decide +kernel)
set_option maxRecDepth 20000 in
theorem gX3_readPulse_X3_owned : GoodIn wsX3_readPulse (wsV RX3 209 RX3 yX3_owned wsX3_owned) := goodIn_app (goodIn_of _ (by decide +kernel)) ggX3_readPulse_X3_owned
set_option maxRecDepth 20000 in
theorem ggX3_readPulse_X1_snapsOpenAt : GoodIn wsX3_readPulse wsX1_snapsOpenAt := goodIn_r _ [72, 39, 40, 34, 43, 111, 112, 113, 114, 115, 116, 117, 118, 119, 120, 121, 122] (by decide +kernel) (by decide +kernel)
set_option maxRecDepth 20000 in
theorem gX3_readPulse_X1_snapsOpenAt : GoodIn wsX3_readPulse (wsV RX3 226 RX1 yX1_snapsOpenAt wsX1_snapsOpenAt) := goodIn_app (goodIn_of _ (by decide +kernel)) ggX3_readPulse_X1_snapsOpenAt
set_option maxRecDepth 20000 in
theorem ggX3_readPulse_X3_ampsAt : GoodIn wsX3_readPulse wsX3_ampsAt := goodIn_r _ [20, 21, 22, 23, 6, 24, 25, 26, 27, 28, 29, 30, 31, 32, 33, 34, 35, 36, 37, 38, 39, 40, 41, 42, 43, 44, 45, 46, 47, 111, 112, 113, 114, 115, 116, 117, 118, 119, 120, 121, 122, 123, 124, 125, 126, 127, 128, 129] (by decide +kernel) (by decide +kernel)
set_option maxRecDepth 20000 in
theorem gX3_readPulse_X3_ampsAt : GoodIn wsX3_readPulse (wsV RX3 115 RX3 yX3_ampsAt wsX3_ampsAt) := goodIn_app (goodIn_of _ (by decide +kernel)) ggX3_readPulse_X3_ampsAt
set_option maxRecDepth 20000 in
theorem ggX3_readPulse_X3_fourWires : GoodIn wsX3_readPulse wsX3_fourWires := goodIn_r _ [51, 26, 52, 53, 54, 6, 55, 56, 57, 58, 59, 60, 61, 62, 123, 124, 125, 126, 127, 128, 129] (by decide +kernel) (by decide +kernel)
set_option maxRecDepth 20000 in
theorem gX3_readPulse_X3_fourWires : GoodIn wsX3_readPulse (wsV RX3 99 RX3 yX3_fourWires wsX3_fourWires) := goodIn_app (goodIn_of _ (by decide +kernel)) ggX3_readPulse_X3_fourWires
set_option maxRecDepth 20000 in
theorem ggX3_readPulse_X3_drop : GoodIn wsX3_readPulse wsX3_drop := goodIn_r _ [66, 67, 68, 45, 46, 47, 123, 124, 125, 126, 127, 128, 129] (by decide +kernel) (by decide +kernel)
set_option maxRecDepth 20000 in
theorem gX3_readPulse_X3_drop : GoodIn wsX3_readPulse (wsV RX3 215 RX3 yX3_drop wsX3_drop) := goodIn_app (goodIn_of _ (by decide +kernel)) ggX3_readPulse_X3_drop
set_option maxRecDepth 20000 in
theorem ggX3_readPulse_X3_ruleAt : GoodIn wsX3_readPulse wsX3_ruleAt := goodIn_r _ [76, 77, 78, 79, 6, 80, 8, 9, 10, 11, 16, 17, 18, 19, 20, 21, 22, 23, 24, 25, 26, 27, 28, 29, 30, 31, 32, 33, 34, 35, 36, 37, 38, 39, 40, 41, 42, 43, 44, 45, 46, 47, 123, 124, 125, 126, 127, 128, 129, 111, 112, 113, 114, 115, 116, 117, 118, 119, 120, 121, 122] (by decide +kernel) (by decide +kernel)
set_option maxRecDepth 20000 in
theorem gX3_readPulse_X3_ruleAt : GoodIn wsX3_readPulse (wsV RX3 118 RX3 yX3_ruleAt wsX3_ruleAt) := goodIn_app (goodIn_of _ (by decide +kernel)) ggX3_readPulse_X3_ruleAt
set_option maxRecDepth 20000 in
theorem ggX3_readPulse_X2_add : GoodIn wsX3_readPulse wsX2_add := goodIn_r _ [85, 86, 87, 88, 89, 90, 91, 92, 93, 84, 94, 130, 131, 132, 133, 134] (by decide +kernel) (by decide +kernel)
set_option maxRecDepth 20000 in
theorem gX3_readPulse_X2_add : GoodIn wsX3_readPulse (wsV RX3 229 RX2 yX2_add wsX2_add) := goodIn_app (goodIn_of _ (by decide +kernel)) ggX3_readPulse_X2_add
set_option maxRecDepth 20000 in
theorem ggX3_readPulse_X1_warm : GoodIn wsX3_readPulse wsX1_warm := goodIn_r _ [98, 99, 100, 10, 101, 33, 102, 103, 104, 105, 34, 111, 112, 113, 114, 115, 116, 117, 118, 119, 120, 121, 122] (by decide +kernel) (by decide +kernel)
set_option maxRecDepth 20000 in
theorem gX3_readPulse_X1_warm : GoodIn wsX3_readPulse (wsV RX3 233 RX1 yX1_warm wsX1_warm) := goodIn_app (goodIn_of _ (by decide +kernel)) ggX3_readPulse_X1_warm
set_option maxRecDepth 20000 in
theorem ggX3_readPulse_X1_shutBelow : GoodIn wsX3_readPulse wsX1_shutBelow := goodIn_r _ [109, 39, 40, 110, 111, 112, 113, 114, 115, 116, 117, 118, 119, 120, 121, 122] (by decide +kernel) (by decide +kernel)
set_option maxRecDepth 20000 in
theorem gX3_readPulse_X1_shutBelow : GoodIn wsX3_readPulse (wsV RX3 237 RX1 yX1_shutBelow wsX1_shutBelow) := goodIn_app (goodIn_of _ (by decide +kernel)) ggX3_readPulse_X1_shutBelow
theorem dX3_readPulse_0 : decode cX3_readPulse 0 = .ok (.aload_n 0, 1) := by decide +kernel
theorem dX3_readPulse_1 : decode cX3_readPulse 1 = .ok (.aload_n 1, 1) := by decide +kernel
theorem dX3_readPulse_2 : decode cX3_readPulse 2 = .ok (.iload_n 2, 1) := by decide +kernel
theorem dX3_readPulse_3 : decode cX3_readPulse 3 = .ok (.invokevirtual 111, 3) := by decide +kernel
theorem dX3_readPulse_6 : decode cX3_readPulse 6 = .ok (.istore 4, 2) := by decide +kernel
theorem dX3_readPulse_8 : decode cX3_readPulse 8 = .ok (.aload_n 1, 1) := by decide +kernel
theorem dX3_readPulse_9 : decode cX3_readPulse 9 = .ok (.aload_n 0, 1) := by decide +kernel
theorem dX3_readPulse_10 : decode cX3_readPulse 10 = .ok (.aload_n 1, 1) := by decide +kernel
theorem dX3_readPulse_11 : decode cX3_readPulse 11 = .ok (.iload 4, 2) := by decide +kernel
theorem dX3_readPulse_13 : decode cX3_readPulse 13 = .ok (.invokevirtual 209, 3) := by decide +kernel
theorem dX3_readPulse_16 : decode cX3_readPulse 16 = .ok (.invokevirtual 226, 3) := by decide +kernel
theorem dX3_readPulse_19 : decode cX3_readPulse 19 = .ok (.ifCond .eq 16, 3) := by decide +kernel
theorem dX3_readPulse_22 : decode cX3_readPulse 22 = .ok (.aload_n 1, 1) := by decide +kernel
theorem dX3_readPulse_23 : decode cX3_readPulse 23 = .ok (.iconst 1, 1) := by decide +kernel
theorem dX3_readPulse_24 : decode cX3_readPulse 24 = .ok (.putfield 89, 3) := by decide +kernel
theorem dX3_readPulse_27 : decode cX3_readPulse 27 = .ok (.aload_n 0, 1) := by decide +kernel
theorem dX3_readPulse_28 : decode cX3_readPulse 28 = .ok (.aload_n 1, 1) := by decide +kernel
theorem dX3_readPulse_29 : decode cX3_readPulse 29 = .ok (.iload_n 2, 1) := by decide +kernel
theorem dX3_readPulse_30 : decode cX3_readPulse 30 = .ok (.invokevirtual 111, 3) := by decide +kernel
theorem dX3_readPulse_33 : decode cX3_readPulse 33 = .ok (.istore 4, 2) := by decide +kernel
theorem dX3_readPulse_35 : decode cX3_readPulse 35 = .ok (.aload_n 0, 1) := by decide +kernel
theorem dX3_readPulse_36 : decode cX3_readPulse 36 = .ok (.aload_n 1, 1) := by decide +kernel
theorem dX3_readPulse_37 : decode cX3_readPulse 37 = .ok (.iload 4, 2) := by decide +kernel
theorem dX3_readPulse_39 : decode cX3_readPulse 39 = .ok (.invokevirtual 115, 3) := by decide +kernel
theorem dX3_readPulse_42 : decode cX3_readPulse 42 = .ok (.istore 5, 2) := by decide +kernel
theorem dX3_readPulse_44 : decode cX3_readPulse 44 = .ok (.aload_n 0, 1) := by decide +kernel
theorem dX3_readPulse_45 : decode cX3_readPulse 45 = .ok (.invokevirtual 99, 3) := by decide +kernel
theorem dX3_readPulse_48 : decode cX3_readPulse 48 = .ok (.ifCond .eq 8, 3) := by decide +kernel
theorem dX3_readPulse_51 : decode cX3_readPulse 51 = .ok (.iload 4, 2) := by decide +kernel
theorem dX3_readPulse_53 : decode cX3_readPulse 53 = .ok (.goto 12, 3) := by decide +kernel
theorem dX3_readPulse_56 : decode cX3_readPulse 56 = .ok (.iload 4, 2) := by decide +kernel
theorem dX3_readPulse_58 : decode cX3_readPulse 58 = .ok (.aload_n 0, 1) := by decide +kernel
theorem dX3_readPulse_59 : decode cX3_readPulse 59 = .ok (.iload 5, 2) := by decide +kernel
theorem dX3_readPulse_61 : decode cX3_readPulse 61 = .ok (.invokevirtual 215, 3) := by decide +kernel
theorem dX3_readPulse_64 : decode cX3_readPulse 64 = .ok (.iadd, 1) := by decide +kernel
theorem dX3_readPulse_65 : decode cX3_readPulse 65 = .ok (.istore 6, 2) := by decide +kernel
theorem dX3_readPulse_67 : decode cX3_readPulse 67 = .ok (.aload_n 0, 1) := by decide +kernel
theorem dX3_readPulse_68 : decode cX3_readPulse 68 = .ok (.getfield 24, 3) := by decide +kernel
theorem dX3_readPulse_71 : decode cX3_readPulse 71 = .ok (.iload_n 2, 1) := by decide +kernel
theorem dX3_readPulse_72 : decode cX3_readPulse 72 = .ok (.iload 6, 2) := by decide +kernel
theorem dX3_readPulse_74 : decode cX3_readPulse 74 = .ok (.iload 5, 2) := by decide +kernel
theorem dX3_readPulse_76 : decode cX3_readPulse 76 = .ok (.aload_n 0, 1) := by decide +kernel
theorem dX3_readPulse_77 : decode cX3_readPulse 77 = .ok (.aload_n 1, 1) := by decide +kernel
theorem dX3_readPulse_78 : decode cX3_readPulse 78 = .ok (.iload 4, 2) := by decide +kernel
theorem dX3_readPulse_80 : decode cX3_readPulse 80 = .ok (.iload_n 2, 1) := by decide +kernel
theorem dX3_readPulse_81 : decode cX3_readPulse 81 = .ok (.invokevirtual 118, 3) := by decide +kernel
theorem dX3_readPulse_84 : decode cX3_readPulse 84 = .ok (.invokevirtual 229, 3) := by decide +kernel
theorem dX3_readPulse_87 : decode cX3_readPulse 87 = .ok (.aload_n 1, 1) := by decide +kernel
theorem dX3_readPulse_88 : decode cX3_readPulse 88 = .ok (.iload 4, 2) := by decide +kernel
theorem dX3_readPulse_90 : decode cX3_readPulse 90 = .ok (.iload 5, 2) := by decide +kernel
theorem dX3_readPulse_92 : decode cX3_readPulse 92 = .ok (.iload_n 3, 1) := by decide +kernel
theorem dX3_readPulse_93 : decode cX3_readPulse 93 = .ok (.invokevirtual 233, 3) := by decide +kernel
theorem dX3_readPulse_96 : decode cX3_readPulse 96 = .ok (.istore 7, 2) := by decide +kernel
theorem dX3_readPulse_98 : decode cX3_readPulse 98 = .ok (.aload_n 1, 1) := by decide +kernel
theorem dX3_readPulse_99 : decode cX3_readPulse 99 = .ok (.aload_n 0, 1) := by decide +kernel
theorem dX3_readPulse_100 : decode cX3_readPulse 100 = .ok (.aload_n 1, 1) := by decide +kernel
theorem dX3_readPulse_101 : decode cX3_readPulse 101 = .ok (.iload 5, 2) := by decide +kernel
theorem dX3_readPulse_103 : decode cX3_readPulse 103 = .ok (.invokevirtual 209, 3) := by decide +kernel
theorem dX3_readPulse_106 : decode cX3_readPulse 106 = .ok (.invokevirtual 237, 3) := by decide +kernel
theorem dX3_readPulse_109 : decode cX3_readPulse 109 = .ok (.iload 7, 2) := by decide +kernel
theorem dX3_readPulse_111 : decode cX3_readPulse 111 = .ok (.ireturn, 1) := by decide +kernel
set_option maxRecDepth 20000 in
theorem ggX3_tellBurnt_X0_put : GoodIn wsX3_tellBurnt wsX0_put := goodIn_r _ [6, 7, 8, 9, 17, 18, 19] (by decide +kernel) (by decide +kernel)
set_option maxRecDepth 20000 in
theorem gX3_tellBurnt_X0_put : GoodIn wsX3_tellBurnt (wsV RX3 150 RX0 yX0_put wsX0_put) := goodIn_app (goodIn_of _ (by decide +kernel)) ggX3_tellBurnt_X0_put
theorem dX3_tellBurnt_0 : decode cX3_tellBurnt 0 = .ok (.aload_n 0, 1) := by decide +kernel
theorem dX3_tellBurnt_1 : decode cX3_tellBurnt 1 = .ok (.getfield 31, 3) := by decide +kernel
theorem dX3_tellBurnt_4 : decode cX3_tellBurnt 4 = .ok (.iconst 2, 1) := by decide +kernel
theorem dX3_tellBurnt_5 : decode cX3_tellBurnt 5 = .ok (.iload_n 1, 1) := by decide +kernel
theorem dX3_tellBurnt_6 : decode cX3_tellBurnt 6 = .ok (.invokevirtual 150, 3) := by decide +kernel
theorem dX3_tellBurnt_9 : decode cX3_tellBurnt 9 = .ok (.aload_n 0, 1) := by decide +kernel
theorem dX3_tellBurnt_10 : decode cX3_tellBurnt 10 = .ok (.getfield 31, 3) := by decide +kernel
theorem dX3_tellBurnt_13 : decode cX3_tellBurnt 13 = .ok (.iconst 3, 1) := by decide +kernel
theorem dX3_tellBurnt_14 : decode cX3_tellBurnt 14 = .ok (.iload_n 2, 1) := by decide +kernel
theorem dX3_tellBurnt_15 : decode cX3_tellBurnt 15 = .ok (.invokevirtual 150, 3) := by decide +kernel
theorem dX3_tellBurnt_18 : decode cX3_tellBurnt 18 = .ok (.return_, 1) := by decide +kernel
set_option maxRecDepth 20000 in
theorem ggX3_coolAll_X1_cool : GoodIn wsX3_coolAll wsX1_cool := goodIn_r _ [6, 7, 15, 16, 17, 18, 19, 20, 21, 22, 23, 24, 25, 26] (by decide +kernel) (by decide +kernel)
set_option maxRecDepth 20000 in
theorem gX3_coolAll_X1_cool : GoodIn wsX3_coolAll (wsV RX3 240 RX1 yX1_cool wsX1_cool) := goodIn_app (goodIn_of _ (by decide +kernel)) ggX3_coolAll_X1_cool
theorem dX3_coolAll_0 : decode cX3_coolAll 0 = .ok (.iconst 0, 1) := by decide +kernel
theorem dX3_coolAll_1 : decode cX3_coolAll 1 = .ok (.istore_n 2, 1) := by decide +kernel
theorem dX3_coolAll_2 : decode cX3_coolAll 2 = .ok (.iload_n 2, 1) := by decide +kernel
theorem dX3_coolAll_3 : decode cX3_coolAll 3 = .ok (.aload_n 0, 1) := by decide +kernel
theorem dX3_coolAll_4 : decode cX3_coolAll 4 = .ok (.getfield 13, 3) := by decide +kernel
theorem dX3_coolAll_7 : decode cX3_coolAll 7 = .ok (.arraylength, 1) := by decide +kernel
theorem dX3_coolAll_8 : decode cX3_coolAll 8 = .ok (.if_icmp .ge 19, 3) := by decide +kernel
theorem dX3_coolAll_11 : decode cX3_coolAll 11 = .ok (.aload_n 0, 1) := by decide +kernel
theorem dX3_coolAll_12 : decode cX3_coolAll 12 = .ok (.getfield 13, 3) := by decide +kernel
theorem dX3_coolAll_15 : decode cX3_coolAll 15 = .ok (.iload_n 2, 1) := by decide +kernel
theorem dX3_coolAll_16 : decode cX3_coolAll 16 = .ok (.aaload, 1) := by decide +kernel
theorem dX3_coolAll_17 : decode cX3_coolAll 17 = .ok (.iload_n 1, 1) := by decide +kernel
theorem dX3_coolAll_18 : decode cX3_coolAll 18 = .ok (.invokevirtual 240, 3) := by decide +kernel
theorem dX3_coolAll_21 : decode cX3_coolAll 21 = .ok (.iinc 2 1, 3) := by decide +kernel
theorem dX3_coolAll_24 : decode cX3_coolAll 24 = .ok (.goto (-22), 3) := by decide +kernel
theorem dX3_coolAll_27 : decode cX3_coolAll 27 = .ok (.return_, 1) := by decide +kernel
theorem dJ6_bitCount_0f7a4_0 : decode cJ6_bitCount_0f7a4 0 = .ok (.iload_n 0, 1) := by decide +kernel
theorem dJ6_bitCount_0f7a4_1 : decode cJ6_bitCount_0f7a4 1 = .ok (.iload_n 0, 1) := by decide +kernel
theorem dJ6_bitCount_0f7a4_2 : decode cJ6_bitCount_0f7a4 2 = .ok (.iconst 1, 1) := by decide +kernel
theorem dJ6_bitCount_0f7a4_3 : decode cJ6_bitCount_0f7a4 3 = .ok (.iushr, 1) := by decide +kernel
theorem dJ6_bitCount_0f7a4_4 : decode cJ6_bitCount_0f7a4 4 = .ok (.ldc_w 265, 3) := by decide +kernel
theorem dJ6_bitCount_0f7a4_7 : decode cJ6_bitCount_0f7a4 7 = .ok (.iand, 1) := by decide +kernel
theorem dJ6_bitCount_0f7a4_8 : decode cJ6_bitCount_0f7a4 8 = .ok (.isub, 1) := by decide +kernel
theorem dJ6_bitCount_0f7a4_9 : decode cJ6_bitCount_0f7a4 9 = .ok (.istore_n 0, 1) := by decide +kernel
theorem dJ6_bitCount_0f7a4_10 : decode cJ6_bitCount_0f7a4 10 = .ok (.iload_n 0, 1) := by decide +kernel
theorem dJ6_bitCount_0f7a4_11 : decode cJ6_bitCount_0f7a4 11 = .ok (.ldc_w 266, 3) := by decide +kernel
theorem dJ6_bitCount_0f7a4_14 : decode cJ6_bitCount_0f7a4 14 = .ok (.iand, 1) := by decide +kernel
theorem dJ6_bitCount_0f7a4_15 : decode cJ6_bitCount_0f7a4 15 = .ok (.iload_n 0, 1) := by decide +kernel
theorem dJ6_bitCount_0f7a4_16 : decode cJ6_bitCount_0f7a4 16 = .ok (.iconst 2, 1) := by decide +kernel
theorem dJ6_bitCount_0f7a4_17 : decode cJ6_bitCount_0f7a4 17 = .ok (.iushr, 1) := by decide +kernel
theorem dJ6_bitCount_0f7a4_18 : decode cJ6_bitCount_0f7a4 18 = .ok (.ldc_w 266, 3) := by decide +kernel
theorem dJ6_bitCount_0f7a4_21 : decode cJ6_bitCount_0f7a4 21 = .ok (.iand, 1) := by decide +kernel
theorem dJ6_bitCount_0f7a4_22 : decode cJ6_bitCount_0f7a4 22 = .ok (.iadd, 1) := by decide +kernel
theorem dJ6_bitCount_0f7a4_23 : decode cJ6_bitCount_0f7a4 23 = .ok (.istore_n 0, 1) := by decide +kernel
theorem dJ6_bitCount_0f7a4_24 : decode cJ6_bitCount_0f7a4 24 = .ok (.iload_n 0, 1) := by decide +kernel
theorem dJ6_bitCount_0f7a4_25 : decode cJ6_bitCount_0f7a4 25 = .ok (.iload_n 0, 1) := by decide +kernel
theorem dJ6_bitCount_0f7a4_26 : decode cJ6_bitCount_0f7a4 26 = .ok (.iconst 4, 1) := by decide +kernel
theorem dJ6_bitCount_0f7a4_27 : decode cJ6_bitCount_0f7a4 27 = .ok (.iushr, 1) := by decide +kernel
theorem dJ6_bitCount_0f7a4_28 : decode cJ6_bitCount_0f7a4 28 = .ok (.iadd, 1) := by decide +kernel
theorem dJ6_bitCount_0f7a4_29 : decode cJ6_bitCount_0f7a4 29 = .ok (.ldc_w 267, 3) := by decide +kernel
theorem dJ6_bitCount_0f7a4_32 : decode cJ6_bitCount_0f7a4 32 = .ok (.iand, 1) := by decide +kernel
theorem dJ6_bitCount_0f7a4_33 : decode cJ6_bitCount_0f7a4 33 = .ok (.istore_n 0, 1) := by decide +kernel
theorem dJ6_bitCount_0f7a4_34 : decode cJ6_bitCount_0f7a4 34 = .ok (.iload_n 0, 1) := by decide +kernel
theorem dJ6_bitCount_0f7a4_35 : decode cJ6_bitCount_0f7a4 35 = .ok (.iload_n 0, 1) := by decide +kernel
theorem dJ6_bitCount_0f7a4_36 : decode cJ6_bitCount_0f7a4 36 = .ok (.bipush 8, 2) := by decide +kernel
theorem dJ6_bitCount_0f7a4_38 : decode cJ6_bitCount_0f7a4 38 = .ok (.iushr, 1) := by decide +kernel
theorem dJ6_bitCount_0f7a4_39 : decode cJ6_bitCount_0f7a4 39 = .ok (.iadd, 1) := by decide +kernel
theorem dJ6_bitCount_0f7a4_40 : decode cJ6_bitCount_0f7a4 40 = .ok (.istore_n 0, 1) := by decide +kernel
theorem dJ6_bitCount_0f7a4_41 : decode cJ6_bitCount_0f7a4 41 = .ok (.iload_n 0, 1) := by decide +kernel
theorem dJ6_bitCount_0f7a4_42 : decode cJ6_bitCount_0f7a4 42 = .ok (.iload_n 0, 1) := by decide +kernel
theorem dJ6_bitCount_0f7a4_43 : decode cJ6_bitCount_0f7a4 43 = .ok (.bipush 16, 2) := by decide +kernel
theorem dJ6_bitCount_0f7a4_45 : decode cJ6_bitCount_0f7a4 45 = .ok (.iushr, 1) := by decide +kernel
theorem dJ6_bitCount_0f7a4_46 : decode cJ6_bitCount_0f7a4 46 = .ok (.iadd, 1) := by decide +kernel
theorem dJ6_bitCount_0f7a4_47 : decode cJ6_bitCount_0f7a4 47 = .ok (.istore_n 0, 1) := by decide +kernel
theorem dJ6_bitCount_0f7a4_48 : decode cJ6_bitCount_0f7a4 48 = .ok (.iload_n 0, 1) := by decide +kernel
theorem dJ6_bitCount_0f7a4_49 : decode cJ6_bitCount_0f7a4 49 = .ok (.bipush 63, 2) := by decide +kernel
theorem dJ6_bitCount_0f7a4_51 : decode cJ6_bitCount_0f7a4 51 = .ok (.iand, 1) := by decide +kernel
theorem dJ6_bitCount_0f7a4_52 : decode cJ6_bitCount_0f7a4 52 = .ok (.ireturn, 1) := by decide +kernel
theorem dJ9_floorDiv_7cf53_0 : decode cJ9_floorDiv_7cf53 0 = .ok (.iload_n 0, 1) := by decide +kernel
theorem dJ9_floorDiv_7cf53_1 : decode cJ9_floorDiv_7cf53 1 = .ok (.iload_n 1, 1) := by decide +kernel
theorem dJ9_floorDiv_7cf53_2 : decode cJ9_floorDiv_7cf53 2 = .ok (.idiv, 1) := by decide +kernel
theorem dJ9_floorDiv_7cf53_3 : decode cJ9_floorDiv_7cf53 3 = .ok (.istore_n 2, 1) := by decide +kernel
theorem dJ9_floorDiv_7cf53_4 : decode cJ9_floorDiv_7cf53 4 = .ok (.iload_n 0, 1) := by decide +kernel
theorem dJ9_floorDiv_7cf53_5 : decode cJ9_floorDiv_7cf53 5 = .ok (.iload_n 1, 1) := by decide +kernel
theorem dJ9_floorDiv_7cf53_6 : decode cJ9_floorDiv_7cf53 6 = .ok (.ixor, 1) := by decide +kernel
theorem dJ9_floorDiv_7cf53_7 : decode cJ9_floorDiv_7cf53 7 = .ok (.ifCond .ge 14, 3) := by decide +kernel
theorem dJ9_floorDiv_7cf53_10 : decode cJ9_floorDiv_7cf53 10 = .ok (.iload_n 2, 1) := by decide +kernel
theorem dJ9_floorDiv_7cf53_11 : decode cJ9_floorDiv_7cf53 11 = .ok (.iload_n 1, 1) := by decide +kernel
theorem dJ9_floorDiv_7cf53_12 : decode cJ9_floorDiv_7cf53 12 = .ok (.imul, 1) := by decide +kernel
theorem dJ9_floorDiv_7cf53_13 : decode cJ9_floorDiv_7cf53 13 = .ok (.iload_n 0, 1) := by decide +kernel
theorem dJ9_floorDiv_7cf53_14 : decode cJ9_floorDiv_7cf53 14 = .ok (.if_icmp .eq 7, 3) := by decide +kernel
theorem dJ9_floorDiv_7cf53_17 : decode cJ9_floorDiv_7cf53 17 = .ok (.iload_n 2, 1) := by decide +kernel
theorem dJ9_floorDiv_7cf53_18 : decode cJ9_floorDiv_7cf53 18 = .ok (.iconst 1, 1) := by decide +kernel
theorem dJ9_floorDiv_7cf53_19 : decode cJ9_floorDiv_7cf53 19 = .ok (.isub, 1) := by decide +kernel
theorem dJ9_floorDiv_7cf53_20 : decode cJ9_floorDiv_7cf53 20 = .ok (.ireturn, 1) := by decide +kernel
theorem dJ9_floorDiv_7cf53_21 : decode cJ9_floorDiv_7cf53 21 = .ok (.iload_n 2, 1) := by decide +kernel
theorem dJ9_floorDiv_7cf53_22 : decode cJ9_floorDiv_7cf53 22 = .ok (.ireturn, 1) := by decide +kernel
theorem dJ9_abs_0f7a4_0 : decode cJ9_abs_0f7a4 0 = .ok (.iload_n 0, 1) := by decide +kernel
theorem dJ9_abs_0f7a4_1 : decode cJ9_abs_0f7a4 1 = .ok (.ifCond .ge 8, 3) := by decide +kernel
theorem dJ9_abs_0f7a4_4 : decode cJ9_abs_0f7a4 4 = .ok (.iload_n 0, 1) := by decide +kernel
theorem dJ9_abs_0f7a4_5 : decode cJ9_abs_0f7a4 5 = .ok (.ineg, 1) := by decide +kernel
theorem dJ9_abs_0f7a4_6 : decode cJ9_abs_0f7a4 6 = .ok (.goto 4, 3) := by decide +kernel
theorem dJ9_abs_0f7a4_9 : decode cJ9_abs_0f7a4 9 = .ok (.iload_n 0, 1) := by decide +kernel
theorem dJ9_abs_0f7a4_10 : decode cJ9_abs_0f7a4 10 = .ok (.ireturn, 1) := by decide +kernel
theorem dJ9_abs_067f4_0 : decode cJ9_abs_067f4 0 = .ok (.lload_n 0, 1) := by decide +kernel
theorem dJ9_abs_067f4_1 : decode cJ9_abs_067f4 1 = .ok (.lconst 0, 1) := by decide +kernel
theorem dJ9_abs_067f4_2 : decode cJ9_abs_067f4 2 = .ok (.lcmp, 1) := by decide +kernel
theorem dJ9_abs_067f4_3 : decode cJ9_abs_067f4 3 = .ok (.ifCond .ge 8, 3) := by decide +kernel
theorem dJ9_abs_067f4_6 : decode cJ9_abs_067f4 6 = .ok (.lload_n 0, 1) := by decide +kernel
theorem dJ9_abs_067f4_7 : decode cJ9_abs_067f4 7 = .ok (.lneg, 1) := by decide +kernel
theorem dJ9_abs_067f4_8 : decode cJ9_abs_067f4 8 = .ok (.goto 4, 3) := by decide +kernel
theorem dJ9_abs_067f4_11 : decode cJ9_abs_067f4 11 = .ok (.lload_n 0, 1) := by decide +kernel
theorem dJ9_abs_067f4_12 : decode cJ9_abs_067f4 12 = .ok (.lreturn, 1) := by decide +kernel
theorem dJ9_max_7cf53_0 : decode cJ9_max_7cf53 0 = .ok (.iload_n 0, 1) := by decide +kernel
theorem dJ9_max_7cf53_1 : decode cJ9_max_7cf53 1 = .ok (.iload_n 1, 1) := by decide +kernel
theorem dJ9_max_7cf53_2 : decode cJ9_max_7cf53 2 = .ok (.if_icmp .lt 7, 3) := by decide +kernel
theorem dJ9_max_7cf53_5 : decode cJ9_max_7cf53 5 = .ok (.iload_n 0, 1) := by decide +kernel
theorem dJ9_max_7cf53_6 : decode cJ9_max_7cf53 6 = .ok (.goto 4, 3) := by decide +kernel
theorem dJ9_max_7cf53_9 : decode cJ9_max_7cf53 9 = .ok (.iload_n 1, 1) := by decide +kernel
theorem dJ9_max_7cf53_10 : decode cJ9_max_7cf53 10 = .ok (.ireturn, 1) := by decide +kernel
theorem dJ9_min_7cf53_0 : decode cJ9_min_7cf53 0 = .ok (.iload_n 0, 1) := by decide +kernel
theorem dJ9_min_7cf53_1 : decode cJ9_min_7cf53 1 = .ok (.iload_n 1, 1) := by decide +kernel
theorem dJ9_min_7cf53_2 : decode cJ9_min_7cf53 2 = .ok (.if_icmp .gt 7, 3) := by decide +kernel
theorem dJ9_min_7cf53_5 : decode cJ9_min_7cf53 5 = .ok (.iload_n 0, 1) := by decide +kernel
theorem dJ9_min_7cf53_6 : decode cJ9_min_7cf53 6 = .ok (.goto 4, 3) := by decide +kernel
theorem dJ9_min_7cf53_9 : decode cJ9_min_7cf53 9 = .ok (.iload_n 1, 1) := by decide +kernel
theorem dJ9_min_7cf53_10 : decode cJ9_min_7cf53 10 = .ok (.ireturn, 1) := by decide +kernel
