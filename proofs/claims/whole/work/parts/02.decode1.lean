theorem dX0_init_0 : decode cX0_init 0 = .ok (.aload_n 0, 1) := by decide +kernel
theorem dX0_init_1 : decode cX0_init 1 = .ok (.invokespecial 3, 3) := by decide +kernel
theorem dX0_init_4 : decode cX0_init 4 = .ok (.aload_n 0, 1) := by decide +kernel
theorem dX0_init_5 : decode cX0_init 5 = .ok (.ldc 9, 2) := by decide +kernel
theorem dX0_init_7 : decode cX0_init 7 = .ok (.newarray .byte, 2) := by decide +kernel
theorem dX0_init_9 : decode cX0_init 9 = .ok (.putfield 10, 3) := by decide +kernel
theorem dX0_init_12 : decode cX0_init 12 = .ok (.aload_n 0, 1) := by decide +kernel
theorem dX0_init_13 : decode cX0_init 13 = .ok (.iconst 0, 1) := by decide +kernel
theorem dX0_init_14 : decode cX0_init 14 = .ok (.putfield 16, 3) := by decide +kernel
theorem dX0_init_17 : decode cX0_init 17 = .ok (.aload_n 0, 1) := by decide +kernel
theorem dX0_init_18 : decode cX0_init 18 = .ok (.iconst 0, 1) := by decide +kernel
theorem dX0_init_19 : decode cX0_init 19 = .ok (.putfield 20, 3) := by decide +kernel
theorem dX0_init_22 : decode cX0_init 22 = .ok (.aload_n 0, 1) := by decide +kernel
theorem dX0_init_23 : decode cX0_init 23 = .ok (.aconst_null, 1) := by decide +kernel
theorem dX0_init_24 : decode cX0_init 24 = .ok (.putfield 23, 3) := by decide +kernel
theorem dX0_init_27 : decode cX0_init 27 = .ok (.aload_n 0, 1) := by decide +kernel
theorem dX0_init_28 : decode cX0_init 28 = .ok (.aconst_null, 1) := by decide +kernel
theorem dX0_init_29 : decode cX0_init 29 = .ok (.putfield 27, 3) := by decide +kernel
theorem dX0_init_32 : decode cX0_init 32 = .ok (.return_, 1) := by decide +kernel
theorem dX0_hasRoomFor_0 : decode cX0_hasRoomFor 0 = .ok (.iload_n 1, 1) := by decide +kernel
theorem dX0_hasRoomFor_1 : decode cX0_hasRoomFor 1 = .ok (.ldc 9, 2) := by decide +kernel
theorem dX0_hasRoomFor_3 : decode cX0_hasRoomFor 3 = .ok (.aload_n 0, 1) := by decide +kernel
theorem dX0_hasRoomFor_4 : decode cX0_hasRoomFor 4 = .ok (.getfield 16, 3) := by decide +kernel
theorem dX0_hasRoomFor_7 : decode cX0_hasRoomFor 7 = .ok (.isub, 1) := by decide +kernel
theorem dX0_hasRoomFor_8 : decode cX0_hasRoomFor 8 = .ok (.if_icmp .gt 7, 3) := by decide +kernel
theorem dX0_hasRoomFor_11 : decode cX0_hasRoomFor 11 = .ok (.iconst 1, 1) := by decide +kernel
theorem dX0_hasRoomFor_12 : decode cX0_hasRoomFor 12 = .ok (.goto 4, 3) := by decide +kernel
theorem dX0_hasRoomFor_15 : decode cX0_hasRoomFor 15 = .ok (.iconst 0, 1) := by decide +kernel
theorem dX0_hasRoomFor_16 : decode cX0_hasRoomFor 16 = .ok (.ireturn, 1) := by decide +kernel
theorem dX0_lay_0 : decode cX0_lay 0 = .ok (.iload_n 2, 1) := by decide +kernel
theorem dX0_lay_1 : decode cX0_lay 1 = .ok (.invokestatic 30, 3) := by decide +kernel
theorem dX0_lay_4 : decode cX0_lay 4 = .ok (.istore_n 3, 1) := by decide +kernel
theorem dX0_lay_5 : decode cX0_lay 5 = .ok (.aload_n 1, 1) := by decide +kernel
theorem dX0_lay_6 : decode cX0_lay 6 = .ok (.aload_n 0, 1) := by decide +kernel
theorem dX0_lay_7 : decode cX0_lay 7 = .ok (.iload_n 3, 1) := by decide +kernel
theorem dX0_lay_8 : decode cX0_lay 8 = .ok (.invokevirtual 34, 3) := by decide +kernel
theorem dX0_lay_11 : decode cX0_lay 11 = .ok (.putfield 37, 3) := by decide +kernel
theorem dX0_lay_14 : decode cX0_lay 14 = .ok (.aload_n 1, 1) := by decide +kernel
theorem dX0_lay_15 : decode cX0_lay 15 = .ok (.iload_n 2, 1) := by decide +kernel
theorem dX0_lay_16 : decode cX0_lay 16 = .ok (.putfield 42, 3) := by decide +kernel
theorem dX0_lay_19 : decode cX0_lay 19 = .ok (.aload_n 0, 1) := by decide +kernel
theorem dX0_lay_20 : decode cX0_lay 20 = .ok (.dup, 1) := by decide +kernel
theorem dX0_lay_21 : decode cX0_lay 21 = .ok (.getfield 16, 3) := by decide +kernel
theorem dX0_lay_24 : decode cX0_lay 24 = .ok (.iload_n 3, 1) := by decide +kernel
theorem dX0_lay_25 : decode cX0_lay 25 = .ok (.iadd, 1) := by decide +kernel
theorem dX0_lay_26 : decode cX0_lay 26 = .ok (.putfield 16, 3) := by decide +kernel
theorem dX0_lay_29 : decode cX0_lay 29 = .ok (.aload_n 0, 1) := by decide +kernel
theorem dX0_lay_30 : decode cX0_lay 30 = .ok (.getfield 10, 3) := by decide +kernel
theorem dX0_lay_33 : decode cX0_lay 33 = .ok (.aload_n 1, 1) := by decide +kernel
theorem dX0_lay_34 : decode cX0_lay 34 = .ok (.getfield 37, 3) := by decide +kernel
theorem dX0_lay_37 : decode cX0_lay 37 = .ok (.aload_n 1, 1) := by decide +kernel
theorem dX0_lay_38 : decode cX0_lay 38 = .ok (.getfield 37, 3) := by decide +kernel
theorem dX0_lay_41 : decode cX0_lay 41 = .ok (.iload_n 2, 1) := by decide +kernel
theorem dX0_lay_42 : decode cX0_lay 42 = .ok (.iadd, 1) := by decide +kernel
theorem dX0_lay_43 : decode cX0_lay 43 = .ok (.iconst 0, 1) := by decide +kernel
theorem dX0_lay_44 : decode cX0_lay 44 = .ok (.invokestatic 45, 3) := by decide +kernel
theorem dX0_lay_47 : decode cX0_lay 47 = .ok (.aload_n 0, 1) := by decide +kernel
theorem dX0_lay_48 : decode cX0_lay 48 = .ok (.aload_n 1, 1) := by decide +kernel
theorem dX0_lay_49 : decode cX0_lay 49 = .ok (.invokevirtual 51, 3) := by decide +kernel
theorem dX0_lay_52 : decode cX0_lay 52 = .ok (.return_, 1) := by decide +kernel
theorem dX0_lift_0 : decode cX0_lift 0 = .ok (.aload_n 0, 1) := by decide +kernel
theorem dX0_lift_1 : decode cX0_lift 1 = .ok (.aload_n 1, 1) := by decide +kernel
theorem dX0_lift_2 : decode cX0_lift 2 = .ok (.invokevirtual 55, 3) := by decide +kernel
theorem dX0_lift_5 : decode cX0_lift 5 = .ok (.aload_n 0, 1) := by decide +kernel
theorem dX0_lift_6 : decode cX0_lift 6 = .ok (.dup, 1) := by decide +kernel
theorem dX0_lift_7 : decode cX0_lift 7 = .ok (.getfield 16, 3) := by decide +kernel
theorem dX0_lift_10 : decode cX0_lift 10 = .ok (.aload_n 1, 1) := by decide +kernel
theorem dX0_lift_11 : decode cX0_lift 11 = .ok (.getfield 42, 3) := by decide +kernel
theorem dX0_lift_14 : decode cX0_lift 14 = .ok (.invokestatic 30, 3) := by decide +kernel
theorem dX0_lift_17 : decode cX0_lift 17 = .ok (.isub, 1) := by decide +kernel
theorem dX0_lift_18 : decode cX0_lift 18 = .ok (.putfield 16, 3) := by decide +kernel
theorem dX0_lift_21 : decode cX0_lift 21 = .ok (.return_, 1) := by decide +kernel
theorem dX0_setLength_0 : decode cX0_setLength 0 = .ok (.aload_n 1, 1) := by decide +kernel
theorem dX0_setLength_1 : decode cX0_setLength 1 = .ok (.getfield 42, 3) := by decide +kernel
theorem dX0_setLength_4 : decode cX0_setLength 4 = .ok (.invokestatic 30, 3) := by decide +kernel
theorem dX0_setLength_7 : decode cX0_setLength 7 = .ok (.istore_n 3, 1) := by decide +kernel
theorem dX0_setLength_8 : decode cX0_setLength 8 = .ok (.iload_n 2, 1) := by decide +kernel
theorem dX0_setLength_9 : decode cX0_setLength 9 = .ok (.invokestatic 30, 3) := by decide +kernel
theorem dX0_setLength_12 : decode cX0_setLength 12 = .ok (.istore 4, 2) := by decide +kernel
theorem dX0_setLength_14 : decode cX0_setLength 14 = .ok (.iload 4, 2) := by decide +kernel
theorem dX0_setLength_16 : decode cX0_setLength 16 = .ok (.iload_n 3, 1) := by decide +kernel
theorem dX0_setLength_17 : decode cX0_setLength 17 = .ok (.if_icmp .le 21, 3) := by decide +kernel
theorem dX0_setLength_20 : decode cX0_setLength 20 = .ok (.aload_n 0, 1) := by decide +kernel
theorem dX0_setLength_21 : decode cX0_setLength 21 = .ok (.iload 4, 2) := by decide +kernel
theorem dX0_setLength_23 : decode cX0_setLength 23 = .ok (.invokevirtual 58, 3) := by decide +kernel
theorem dX0_setLength_26 : decode cX0_setLength 26 = .ok (.ifCond .ne 5, 3) := by decide +kernel
theorem dX0_setLength_29 : decode cX0_setLength 29 = .ok (.iconst 0, 1) := by decide +kernel
theorem dX0_setLength_30 : decode cX0_setLength 30 = .ok (.ireturn, 1) := by decide +kernel
theorem dX0_setLength_31 : decode cX0_setLength 31 = .ok (.aload_n 0, 1) := by decide +kernel
theorem dX0_setLength_32 : decode cX0_setLength 32 = .ok (.aload_n 1, 1) := by decide +kernel
theorem dX0_setLength_33 : decode cX0_setLength 33 = .ok (.iload 4, 2) := by decide +kernel
theorem dX0_setLength_35 : decode cX0_setLength 35 = .ok (.invokevirtual 62, 3) := by decide +kernel
theorem dX0_setLength_38 : decode cX0_setLength 38 = .ok (.iload_n 2, 1) := by decide +kernel
theorem dX0_setLength_39 : decode cX0_setLength 39 = .ok (.aload_n 1, 1) := by decide +kernel
theorem dX0_setLength_40 : decode cX0_setLength 40 = .ok (.getfield 42, 3) := by decide +kernel
theorem dX0_setLength_43 : decode cX0_setLength 43 = .ok (.if_icmp .le 26, 3) := by decide +kernel
theorem dX0_setLength_46 : decode cX0_setLength 46 = .ok (.aload_n 0, 1) := by decide +kernel
theorem dX0_setLength_47 : decode cX0_setLength 47 = .ok (.getfield 10, 3) := by decide +kernel
theorem dX0_setLength_50 : decode cX0_setLength 50 = .ok (.aload_n 1, 1) := by decide +kernel
theorem dX0_setLength_51 : decode cX0_setLength 51 = .ok (.getfield 37, 3) := by decide +kernel
theorem dX0_setLength_54 : decode cX0_setLength 54 = .ok (.aload_n 1, 1) := by decide +kernel
theorem dX0_setLength_55 : decode cX0_setLength 55 = .ok (.getfield 42, 3) := by decide +kernel
theorem dX0_setLength_58 : decode cX0_setLength 58 = .ok (.iadd, 1) := by decide +kernel
theorem dX0_setLength_59 : decode cX0_setLength 59 = .ok (.aload_n 1, 1) := by decide +kernel
theorem dX0_setLength_60 : decode cX0_setLength 60 = .ok (.getfield 37, 3) := by decide +kernel
theorem dX0_setLength_63 : decode cX0_setLength 63 = .ok (.iload_n 2, 1) := by decide +kernel
theorem dX0_setLength_64 : decode cX0_setLength 64 = .ok (.iadd, 1) := by decide +kernel
theorem dX0_setLength_65 : decode cX0_setLength 65 = .ok (.iconst 0, 1) := by decide +kernel
theorem dX0_setLength_66 : decode cX0_setLength 66 = .ok (.invokestatic 45, 3) := by decide +kernel
theorem dX0_setLength_69 : decode cX0_setLength 69 = .ok (.aload_n 1, 1) := by decide +kernel
theorem dX0_setLength_70 : decode cX0_setLength 70 = .ok (.iload_n 2, 1) := by decide +kernel
theorem dX0_setLength_71 : decode cX0_setLength 71 = .ok (.putfield 42, 3) := by decide +kernel
theorem dX0_setLength_74 : decode cX0_setLength 74 = .ok (.aload_n 0, 1) := by decide +kernel
theorem dX0_setLength_75 : decode cX0_setLength 75 = .ok (.dup, 1) := by decide +kernel
theorem dX0_setLength_76 : decode cX0_setLength 76 = .ok (.getfield 16, 3) := by decide +kernel
theorem dX0_setLength_79 : decode cX0_setLength 79 = .ok (.iload 4, 2) := by decide +kernel
theorem dX0_setLength_81 : decode cX0_setLength 81 = .ok (.iload_n 3, 1) := by decide +kernel
theorem dX0_setLength_82 : decode cX0_setLength 82 = .ok (.isub, 1) := by decide +kernel
theorem dX0_setLength_83 : decode cX0_setLength 83 = .ok (.iadd, 1) := by decide +kernel
theorem dX0_setLength_84 : decode cX0_setLength 84 = .ok (.putfield 16, 3) := by decide +kernel
theorem dX0_setLength_87 : decode cX0_setLength 87 = .ok (.iconst 1, 1) := by decide +kernel
theorem dX0_setLength_88 : decode cX0_setLength 88 = .ok (.ireturn, 1) := by decide +kernel
theorem dX0_move_0 : decode cX0_move 0 = .ok (.aload_n 0, 1) := by decide +kernel
theorem dX0_move_1 : decode cX0_move 1 = .ok (.iload_n 2, 1) := by decide +kernel
theorem dX0_move_2 : decode cX0_move 2 = .ok (.invokevirtual 34, 3) := by decide +kernel
theorem dX0_move_5 : decode cX0_move 5 = .ok (.istore_n 3, 1) := by decide +kernel
theorem dX0_move_6 : decode cX0_move 6 = .ok (.aload_n 0, 1) := by decide +kernel
theorem dX0_move_7 : decode cX0_move 7 = .ok (.getfield 10, 3) := by decide +kernel
theorem dX0_move_10 : decode cX0_move 10 = .ok (.aload_n 1, 1) := by decide +kernel
theorem dX0_move_11 : decode cX0_move 11 = .ok (.getfield 37, 3) := by decide +kernel
theorem dX0_move_14 : decode cX0_move 14 = .ok (.aload_n 0, 1) := by decide +kernel
theorem dX0_move_15 : decode cX0_move 15 = .ok (.getfield 10, 3) := by decide +kernel
theorem dX0_move_18 : decode cX0_move 18 = .ok (.iload_n 3, 1) := by decide +kernel
theorem dX0_move_19 : decode cX0_move 19 = .ok (.aload_n 1, 1) := by decide +kernel
theorem dX0_move_20 : decode cX0_move 20 = .ok (.getfield 42, 3) := by decide +kernel
theorem dX0_move_23 : decode cX0_move 23 = .ok (.invokestatic 66, 3) := by decide +kernel
theorem dX0_move_26 : decode cX0_move 26 = .ok (.aload_n 1, 1) := by decide +kernel
theorem dX0_move_27 : decode cX0_move 27 = .ok (.iload_n 3, 1) := by decide +kernel
theorem dX0_move_28 : decode cX0_move 28 = .ok (.putfield 37, 3) := by decide +kernel
theorem dX0_move_31 : decode cX0_move 31 = .ok (.aload_n 0, 1) := by decide +kernel
theorem dX0_move_32 : decode cX0_move 32 = .ok (.aload_n 1, 1) := by decide +kernel
theorem dX0_move_33 : decode cX0_move 33 = .ok (.invokevirtual 55, 3) := by decide +kernel
theorem dX0_move_36 : decode cX0_move 36 = .ok (.aload_n 0, 1) := by decide +kernel
theorem dX0_move_37 : decode cX0_move 37 = .ok (.aload_n 1, 1) := by decide +kernel
theorem dX0_move_38 : decode cX0_move 38 = .ok (.invokevirtual 51, 3) := by decide +kernel
theorem dX0_move_41 : decode cX0_move 41 = .ok (.return_, 1) := by decide +kernel
theorem dX0_cut_0 : decode cX0_cut 0 = .ok (.iload_n 1, 1) := by decide +kernel
theorem dX0_cut_1 : decode cX0_cut 1 = .ok (.ldc 9, 2) := by decide +kernel
theorem dX0_cut_3 : decode cX0_cut 3 = .ok (.aload_n 0, 1) := by decide +kernel
theorem dX0_cut_4 : decode cX0_cut 4 = .ok (.getfield 20, 3) := by decide +kernel
theorem dX0_cut_7 : decode cX0_cut 7 = .ok (.isub, 1) := by decide +kernel
theorem dX0_cut_8 : decode cX0_cut 8 = .ok (.if_icmp .le 7, 3) := by decide +kernel
theorem dX0_cut_11 : decode cX0_cut 11 = .ok (.aload_n 0, 1) := by decide +kernel
theorem dX0_cut_12 : decode cX0_cut 12 = .ok (.invokevirtual 72, 3) := by decide +kernel
theorem dX0_cut_15 : decode cX0_cut 15 = .ok (.aload_n 0, 1) := by decide +kernel
theorem dX0_cut_16 : decode cX0_cut 16 = .ok (.getfield 20, 3) := by decide +kernel
theorem dX0_cut_19 : decode cX0_cut 19 = .ok (.istore_n 2, 1) := by decide +kernel
theorem dX0_cut_20 : decode cX0_cut 20 = .ok (.aload_n 0, 1) := by decide +kernel
theorem dX0_cut_21 : decode cX0_cut 21 = .ok (.dup, 1) := by decide +kernel
theorem dX0_cut_22 : decode cX0_cut 22 = .ok (.getfield 20, 3) := by decide +kernel
theorem dX0_cut_25 : decode cX0_cut 25 = .ok (.iload_n 1, 1) := by decide +kernel
theorem dX0_cut_26 : decode cX0_cut 26 = .ok (.iadd, 1) := by decide +kernel
theorem dX0_cut_27 : decode cX0_cut 27 = .ok (.putfield 20, 3) := by decide +kernel
theorem dX0_cut_30 : decode cX0_cut 30 = .ok (.iload_n 2, 1) := by decide +kernel
theorem dX0_cut_31 : decode cX0_cut 31 = .ok (.ireturn, 1) := by decide +kernel
theorem dX0_pushTogether_0 : decode cX0_pushTogether 0 = .ok (.iconst 0, 1) := by decide +kernel
theorem dX0_pushTogether_1 : decode cX0_pushTogether 1 = .ok (.istore_n 1, 1) := by decide +kernel
theorem dX0_pushTogether_2 : decode cX0_pushTogether 2 = .ok (.aload_n 0, 1) := by decide +kernel
theorem dX0_pushTogether_3 : decode cX0_pushTogether 3 = .ok (.getfield 23, 3) := by decide +kernel
theorem dX0_pushTogether_6 : decode cX0_pushTogether 6 = .ok (.astore_n 2, 1) := by decide +kernel
theorem dX0_pushTogether_7 : decode cX0_pushTogether 7 = .ok (.aload_n 2, 1) := by decide +kernel
theorem dX0_pushTogether_8 : decode cX0_pushTogether 8 = .ok (.ifnull 54, 3) := by decide +kernel
theorem dX0_pushTogether_11 : decode cX0_pushTogether 11 = .ok (.aload_n 2, 1) := by decide +kernel
theorem dX0_pushTogether_12 : decode cX0_pushTogether 12 = .ok (.getfield 37, 3) := by decide +kernel
theorem dX0_pushTogether_15 : decode cX0_pushTogether 15 = .ok (.iload_n 1, 1) := by decide +kernel
theorem dX0_pushTogether_16 : decode cX0_pushTogether 16 = .ok (.if_icmp .eq 28, 3) := by decide +kernel
theorem dX0_pushTogether_19 : decode cX0_pushTogether 19 = .ok (.aload_n 0, 1) := by decide +kernel
theorem dX0_pushTogether_20 : decode cX0_pushTogether 20 = .ok (.getfield 10, 3) := by decide +kernel
theorem dX0_pushTogether_23 : decode cX0_pushTogether 23 = .ok (.aload_n 2, 1) := by decide +kernel
theorem dX0_pushTogether_24 : decode cX0_pushTogether 24 = .ok (.getfield 37, 3) := by decide +kernel
theorem dX0_pushTogether_27 : decode cX0_pushTogether 27 = .ok (.aload_n 0, 1) := by decide +kernel
theorem dX0_pushTogether_28 : decode cX0_pushTogether 28 = .ok (.getfield 10, 3) := by decide +kernel
theorem dX0_pushTogether_31 : decode cX0_pushTogether 31 = .ok (.iload_n 1, 1) := by decide +kernel
theorem dX0_pushTogether_32 : decode cX0_pushTogether 32 = .ok (.aload_n 2, 1) := by decide +kernel
theorem dX0_pushTogether_33 : decode cX0_pushTogether 33 = .ok (.getfield 42, 3) := by decide +kernel
theorem dX0_pushTogether_36 : decode cX0_pushTogether 36 = .ok (.invokestatic 66, 3) := by decide +kernel
theorem dX0_pushTogether_39 : decode cX0_pushTogether 39 = .ok (.aload_n 2, 1) := by decide +kernel
theorem dX0_pushTogether_40 : decode cX0_pushTogether 40 = .ok (.iload_n 1, 1) := by decide +kernel
theorem dX0_pushTogether_41 : decode cX0_pushTogether 41 = .ok (.putfield 37, 3) := by decide +kernel
theorem dX0_pushTogether_44 : decode cX0_pushTogether 44 = .ok (.iload_n 1, 1) := by decide +kernel
theorem dX0_pushTogether_45 : decode cX0_pushTogether 45 = .ok (.aload_n 2, 1) := by decide +kernel
theorem dX0_pushTogether_46 : decode cX0_pushTogether 46 = .ok (.getfield 42, 3) := by decide +kernel
theorem dX0_pushTogether_49 : decode cX0_pushTogether 49 = .ok (.invokestatic 30, 3) := by decide +kernel
theorem dX0_pushTogether_52 : decode cX0_pushTogether 52 = .ok (.iadd, 1) := by decide +kernel
theorem dX0_pushTogether_53 : decode cX0_pushTogether 53 = .ok (.istore_n 1, 1) := by decide +kernel
theorem dX0_pushTogether_54 : decode cX0_pushTogether 54 = .ok (.aload_n 2, 1) := by decide +kernel
theorem dX0_pushTogether_55 : decode cX0_pushTogether 55 = .ok (.getfield 75, 3) := by decide +kernel
theorem dX0_pushTogether_58 : decode cX0_pushTogether 58 = .ok (.astore_n 2, 1) := by decide +kernel
theorem dX0_pushTogether_59 : decode cX0_pushTogether 59 = .ok (.goto (-52), 3) := by decide +kernel
theorem dX0_pushTogether_62 : decode cX0_pushTogether 62 = .ok (.aload_n 0, 1) := by decide +kernel
theorem dX0_pushTogether_63 : decode cX0_pushTogether 63 = .ok (.iload_n 1, 1) := by decide +kernel
theorem dX0_pushTogether_64 : decode cX0_pushTogether 64 = .ok (.putfield 20, 3) := by decide +kernel
theorem dX0_pushTogether_67 : decode cX0_pushTogether 67 = .ok (.return_, 1) := by decide +kernel
theorem dX0_append_0 : decode cX0_append 0 = .ok (.aload_n 1, 1) := by decide +kernel
theorem dX0_append_1 : decode cX0_append 1 = .ok (.aload_n 0, 1) := by decide +kernel
theorem dX0_append_2 : decode cX0_append 2 = .ok (.getfield 27, 3) := by decide +kernel
theorem dX0_append_5 : decode cX0_append 5 = .ok (.putfield 78, 3) := by decide +kernel
theorem dX0_append_8 : decode cX0_append 8 = .ok (.aload_n 1, 1) := by decide +kernel
theorem dX0_append_9 : decode cX0_append 9 = .ok (.aconst_null, 1) := by decide +kernel
theorem dX0_append_10 : decode cX0_append 10 = .ok (.putfield 75, 3) := by decide +kernel
theorem dX0_append_13 : decode cX0_append 13 = .ok (.aload_n 0, 1) := by decide +kernel
theorem dX0_append_14 : decode cX0_append 14 = .ok (.getfield 27, 3) := by decide +kernel
theorem dX0_append_17 : decode cX0_append 17 = .ok (.ifnonnull 11, 3) := by decide +kernel
theorem dX0_append_20 : decode cX0_append 20 = .ok (.aload_n 0, 1) := by decide +kernel
theorem dX0_append_21 : decode cX0_append 21 = .ok (.aload_n 1, 1) := by decide +kernel
theorem dX0_append_22 : decode cX0_append 22 = .ok (.putfield 23, 3) := by decide +kernel
theorem dX0_append_25 : decode cX0_append 25 = .ok (.goto 11, 3) := by decide +kernel
theorem dX0_append_28 : decode cX0_append 28 = .ok (.aload_n 0, 1) := by decide +kernel
theorem dX0_append_29 : decode cX0_append 29 = .ok (.getfield 27, 3) := by decide +kernel
theorem dX0_append_32 : decode cX0_append 32 = .ok (.aload_n 1, 1) := by decide +kernel
theorem dX0_append_33 : decode cX0_append 33 = .ok (.putfield 75, 3) := by decide +kernel
theorem dX0_append_36 : decode cX0_append 36 = .ok (.aload_n 0, 1) := by decide +kernel
theorem dX0_append_37 : decode cX0_append 37 = .ok (.aload_n 1, 1) := by decide +kernel
theorem dX0_append_38 : decode cX0_append 38 = .ok (.putfield 27, 3) := by decide +kernel
theorem dX0_append_41 : decode cX0_append 41 = .ok (.return_, 1) := by decide +kernel
theorem dX0_unlink_0 : decode cX0_unlink 0 = .ok (.aload_n 1, 1) := by decide +kernel
theorem dX0_unlink_1 : decode cX0_unlink 1 = .ok (.getfield 78, 3) := by decide +kernel
theorem dX0_unlink_4 : decode cX0_unlink 4 = .ok (.astore_n 2, 1) := by decide +kernel
theorem dX0_unlink_5 : decode cX0_unlink 5 = .ok (.aload_n 1, 1) := by decide +kernel
theorem dX0_unlink_6 : decode cX0_unlink 6 = .ok (.getfield 75, 3) := by decide +kernel
theorem dX0_unlink_9 : decode cX0_unlink 9 = .ok (.astore_n 3, 1) := by decide +kernel
theorem dX0_unlink_10 : decode cX0_unlink 10 = .ok (.aload_n 2, 1) := by decide +kernel
theorem dX0_unlink_11 : decode cX0_unlink 11 = .ok (.ifnonnull 11, 3) := by decide +kernel
theorem dX0_unlink_14 : decode cX0_unlink 14 = .ok (.aload_n 0, 1) := by decide +kernel
theorem dX0_unlink_15 : decode cX0_unlink 15 = .ok (.aload_n 3, 1) := by decide +kernel
theorem dX0_unlink_16 : decode cX0_unlink 16 = .ok (.putfield 23, 3) := by decide +kernel
theorem dX0_unlink_19 : decode cX0_unlink 19 = .ok (.goto 8, 3) := by decide +kernel
theorem dX0_unlink_22 : decode cX0_unlink 22 = .ok (.aload_n 2, 1) := by decide +kernel
theorem dX0_unlink_23 : decode cX0_unlink 23 = .ok (.aload_n 3, 1) := by decide +kernel
theorem dX0_unlink_24 : decode cX0_unlink 24 = .ok (.putfield 75, 3) := by decide +kernel
theorem dX0_unlink_27 : decode cX0_unlink 27 = .ok (.aload_n 3, 1) := by decide +kernel
theorem dX0_unlink_28 : decode cX0_unlink 28 = .ok (.ifnonnull 11, 3) := by decide +kernel
theorem dX0_unlink_31 : decode cX0_unlink 31 = .ok (.aload_n 0, 1) := by decide +kernel
theorem dX0_unlink_32 : decode cX0_unlink 32 = .ok (.aload_n 2, 1) := by decide +kernel
theorem dX0_unlink_33 : decode cX0_unlink 33 = .ok (.putfield 27, 3) := by decide +kernel
theorem dX0_unlink_36 : decode cX0_unlink 36 = .ok (.goto 8, 3) := by decide +kernel
theorem dX0_unlink_39 : decode cX0_unlink 39 = .ok (.aload_n 3, 1) := by decide +kernel
theorem dX0_unlink_40 : decode cX0_unlink 40 = .ok (.aload_n 2, 1) := by decide +kernel
theorem dX0_unlink_41 : decode cX0_unlink 41 = .ok (.putfield 78, 3) := by decide +kernel
theorem dX0_unlink_44 : decode cX0_unlink 44 = .ok (.return_, 1) := by decide +kernel
theorem dX1_init_0 : decode cX1_init 0 = .ok (.aload_n 0, 1) := by decide +kernel
theorem dX1_init_1 : decode cX1_init 1 = .ok (.invokespecial 1, 3) := by decide +kernel
theorem dX1_init_4 : decode cX1_init 4 = .ok (.aload_n 0, 1) := by decide +kernel
theorem dX1_init_5 : decode cX1_init 5 = .ok (.iload_n 1, 1) := by decide +kernel
theorem dX1_init_6 : decode cX1_init 6 = .ok (.putfield 7, 3) := by decide +kernel
theorem dX1_init_9 : decode cX1_init 9 = .ok (.return_, 1) := by decide +kernel
theorem dX2_init_0 : decode cX2_init 0 = .ok (.aload_n 0, 1) := by decide +kernel
theorem dX2_init_1 : decode cX2_init 1 = .ok (.invokespecial 1, 3) := by decide +kernel
theorem dX2_init_4 : decode cX2_init 4 = .ok (.aload_n 0, 1) := by decide +kernel
theorem dX2_init_5 : decode cX2_init 5 = .ok (.new 7, 3) := by decide +kernel
theorem dX2_init_8 : decode cX2_init 8 = .ok (.dup, 1) := by decide +kernel
theorem dX2_init_9 : decode cX2_init 9 = .ok (.invokespecial 9, 3) := by decide +kernel
theorem dX2_init_12 : decode cX2_init 12 = .ok (.putfield 10, 3) := by decide +kernel
theorem dX2_init_15 : decode cX2_init 15 = .ok (.aload_n 0, 1) := by decide +kernel
theorem dX2_init_16 : decode cX2_init 16 = .ok (.sipush 20000, 3) := by decide +kernel
theorem dX2_init_19 : decode cX2_init 19 = .ok (.anewarray 16, 3) := by decide +kernel
theorem dX2_init_22 : decode cX2_init 22 = .ok (.putfield 18, 3) := by decide +kernel
theorem dX2_init_25 : decode cX2_init 25 = .ok (.aload_n 0, 1) := by decide +kernel
theorem dX2_init_26 : decode cX2_init 26 = .ok (.aconst_null, 1) := by decide +kernel
theorem dX2_init_27 : decode cX2_init 27 = .ok (.putfield 22, 3) := by decide +kernel
theorem dX2_init_30 : decode cX2_init 30 = .ok (.aload_n 0, 1) := by decide +kernel
theorem dX2_init_31 : decode cX2_init 31 = .ok (.iconst 0, 1) := by decide +kernel
theorem dX2_init_32 : decode cX2_init 32 = .ok (.putfield 26, 3) := by decide +kernel
theorem dX2_init_35 : decode cX2_init 35 = .ok (.aload_n 0, 1) := by decide +kernel
theorem dX2_init_36 : decode cX2_init 36 = .ok (.iconst 0, 1) := by decide +kernel
theorem dX2_init_37 : decode cX2_init 37 = .ok (.putfield 30, 3) := by decide +kernel
theorem dX2_init_40 : decode cX2_init 40 = .ok (.return_, 1) := by decide +kernel
theorem dX2_take_0 : decode cX2_take 0 = .ok (.iload_n 1, 1) := by decide +kernel
theorem dX2_take_1 : decode cX2_take 1 = .ok (.invokestatic 33, 3) := by decide +kernel
theorem dX2_take_4 : decode cX2_take 4 = .ok (.ifCond .ne 5, 3) := by decide +kernel
theorem dX2_take_7 : decode cX2_take 7 = .ok (.iconst (-1), 1) := by decide +kernel
theorem dX2_take_8 : decode cX2_take 8 = .ok (.ireturn, 1) := by decide +kernel
theorem dX2_take_9 : decode cX2_take 9 = .ok (.aload_n 0, 1) := by decide +kernel
theorem dX2_take_10 : decode cX2_take 10 = .ok (.getfield 10, 3) := by decide +kernel
theorem dX2_take_13 : decode cX2_take 13 = .ok (.iload_n 1, 1) := by decide +kernel
theorem dX2_take_14 : decode cX2_take 14 = .ok (.invokestatic 37, 3) := by decide +kernel
theorem dX2_take_17 : decode cX2_take 17 = .ok (.invokevirtual 41, 3) := by decide +kernel
theorem dX2_take_20 : decode cX2_take 20 = .ok (.ifCond .ne 6, 3) := by decide +kernel
theorem dX2_take_23 : decode cX2_take 23 = .ok (.bipush (-2), 2) := by decide +kernel
theorem dX2_take_25 : decode cX2_take 25 = .ok (.ireturn, 1) := by decide +kernel
theorem dX2_take_26 : decode cX2_take 26 = .ok (.aload_n 0, 1) := by decide +kernel
theorem dX2_take_27 : decode cX2_take 27 = .ok (.invokevirtual 44, 3) := by decide +kernel
theorem dX2_take_30 : decode cX2_take 30 = .ok (.astore_n 2, 1) := by decide +kernel
theorem dX2_take_31 : decode cX2_take 31 = .ok (.aload_n 2, 1) := by decide +kernel
theorem dX2_take_32 : decode cX2_take 32 = .ok (.ifnonnull 6, 3) := by decide +kernel
theorem dX2_take_35 : decode cX2_take 35 = .ok (.bipush (-2), 2) := by decide +kernel
theorem dX2_take_37 : decode cX2_take 37 = .ok (.ireturn, 1) := by decide +kernel
theorem dX2_take_38 : decode cX2_take 38 = .ok (.aload_n 0, 1) := by decide +kernel
theorem dX2_take_39 : decode cX2_take 39 = .ok (.getfield 10, 3) := by decide +kernel
theorem dX2_take_42 : decode cX2_take 42 = .ok (.aload_n 2, 1) := by decide +kernel
theorem dX2_take_43 : decode cX2_take 43 = .ok (.iload_n 1, 1) := by decide +kernel
theorem dX2_take_44 : decode cX2_take 44 = .ok (.invokevirtual 48, 3) := by decide +kernel
theorem dX2_take_47 : decode cX2_take 47 = .ok (.aload_n 2, 1) := by decide +kernel
theorem dX2_take_48 : decode cX2_take 48 = .ok (.iconst 1, 1) := by decide +kernel
theorem dX2_take_49 : decode cX2_take 49 = .ok (.putfield 52, 3) := by decide +kernel
theorem dX2_take_52 : decode cX2_take 52 = .ok (.aload_n 0, 1) := by decide +kernel
theorem dX2_take_53 : decode cX2_take 53 = .ok (.dup, 1) := by decide +kernel
theorem dX2_take_54 : decode cX2_take 54 = .ok (.getfield 30, 3) := by decide +kernel
theorem dX2_take_57 : decode cX2_take 57 = .ok (.iconst 1, 1) := by decide +kernel
theorem dX2_take_58 : decode cX2_take 58 = .ok (.iadd, 1) := by decide +kernel
theorem dX2_take_59 : decode cX2_take 59 = .ok (.putfield 30, 3) := by decide +kernel
theorem dX2_take_62 : decode cX2_take 62 = .ok (.aload_n 2, 1) := by decide +kernel
theorem dX2_take_63 : decode cX2_take 63 = .ok (.getfield 56, 3) := by decide +kernel
theorem dX2_take_66 : decode cX2_take 66 = .ok (.ireturn, 1) := by decide +kernel
theorem dX2_give_0 : decode cX2_give 0 = .ok (.aload_n 0, 1) := by decide +kernel
theorem dX2_give_1 : decode cX2_give 1 = .ok (.iload_n 1, 1) := by decide +kernel
theorem dX2_give_2 : decode cX2_give 2 = .ok (.invokevirtual 59, 3) := by decide +kernel
theorem dX2_give_5 : decode cX2_give 5 = .ok (.astore_n 2, 1) := by decide +kernel
theorem dX2_give_6 : decode cX2_give 6 = .ok (.aload_n 2, 1) := by decide +kernel
theorem dX2_give_7 : decode cX2_give 7 = .ok (.ifnonnull 5, 3) := by decide +kernel
theorem dX2_give_10 : decode cX2_give 10 = .ok (.iconst 0, 1) := by decide +kernel
theorem dX2_give_11 : decode cX2_give 11 = .ok (.ireturn, 1) := by decide +kernel
theorem dX2_give_12 : decode cX2_give 12 = .ok (.aload_n 0, 1) := by decide +kernel
theorem dX2_give_13 : decode cX2_give 13 = .ok (.getfield 10, 3) := by decide +kernel
theorem dX2_give_16 : decode cX2_give 16 = .ok (.aload_n 2, 1) := by decide +kernel
theorem dX2_give_17 : decode cX2_give 17 = .ok (.invokevirtual 63, 3) := by decide +kernel
theorem dX2_give_20 : decode cX2_give 20 = .ok (.aload_n 2, 1) := by decide +kernel
theorem dX2_give_21 : decode cX2_give 21 = .ok (.iconst 0, 1) := by decide +kernel
theorem dX2_give_22 : decode cX2_give 22 = .ok (.putfield 52, 3) := by decide +kernel
theorem dX2_give_25 : decode cX2_give 25 = .ok (.aload_n 2, 1) := by decide +kernel
theorem dX2_give_26 : decode cX2_give 26 = .ok (.aload_n 0, 1) := by decide +kernel
theorem dX2_give_27 : decode cX2_give 27 = .ok (.getfield 22, 3) := by decide +kernel
theorem dX2_give_30 : decode cX2_give 30 = .ok (.putfield 67, 3) := by decide +kernel
theorem dX2_give_33 : decode cX2_give 33 = .ok (.aload_n 0, 1) := by decide +kernel
theorem dX2_give_34 : decode cX2_give 34 = .ok (.aload_n 2, 1) := by decide +kernel
theorem dX2_give_35 : decode cX2_give 35 = .ok (.putfield 22, 3) := by decide +kernel
theorem dX2_give_38 : decode cX2_give 38 = .ok (.aload_n 0, 1) := by decide +kernel
theorem dX2_give_39 : decode cX2_give 39 = .ok (.dup, 1) := by decide +kernel
theorem dX2_give_40 : decode cX2_give 40 = .ok (.getfield 30, 3) := by decide +kernel
theorem dX2_give_43 : decode cX2_give 43 = .ok (.iconst 1, 1) := by decide +kernel
theorem dX2_give_44 : decode cX2_give 44 = .ok (.isub, 1) := by decide +kernel
theorem dX2_give_45 : decode cX2_give 45 = .ok (.putfield 30, 3) := by decide +kernel
theorem dX2_give_48 : decode cX2_give 48 = .ok (.iconst 1, 1) := by decide +kernel
theorem dX2_give_49 : decode cX2_give 49 = .ok (.ireturn, 1) := by decide +kernel
theorem dX2_resize_0 : decode cX2_resize 0 = .ok (.aload_n 0, 1) := by decide +kernel
theorem dX2_resize_1 : decode cX2_resize 1 = .ok (.iload_n 1, 1) := by decide +kernel
theorem dX2_resize_2 : decode cX2_resize 2 = .ok (.invokevirtual 59, 3) := by decide +kernel
theorem dX2_resize_5 : decode cX2_resize 5 = .ok (.astore_n 3, 1) := by decide +kernel
theorem dX2_resize_6 : decode cX2_resize 6 = .ok (.aload_n 3, 1) := by decide +kernel
theorem dX2_resize_7 : decode cX2_resize 7 = .ok (.ifnull 10, 3) := by decide +kernel
theorem dX2_resize_10 : decode cX2_resize 10 = .ok (.iload_n 2, 1) := by decide +kernel
theorem dX2_resize_11 : decode cX2_resize 11 = .ok (.invokestatic 33, 3) := by decide +kernel
theorem dX2_resize_14 : decode cX2_resize 14 = .ok (.ifCond .ne 5, 3) := by decide +kernel
theorem dX2_resize_17 : decode cX2_resize 17 = .ok (.iconst (-1), 1) := by decide +kernel
theorem dX2_resize_18 : decode cX2_resize 18 = .ok (.ireturn, 1) := by decide +kernel
theorem dX2_resize_19 : decode cX2_resize 19 = .ok (.aload_n 0, 1) := by decide +kernel
theorem dX2_resize_20 : decode cX2_resize 20 = .ok (.getfield 10, 3) := by decide +kernel
theorem dX2_resize_23 : decode cX2_resize 23 = .ok (.aload_n 3, 1) := by decide +kernel
theorem dX2_resize_24 : decode cX2_resize 24 = .ok (.iload_n 2, 1) := by decide +kernel
theorem dX2_resize_25 : decode cX2_resize 25 = .ok (.invokevirtual 70, 3) := by decide +kernel
theorem dX2_resize_28 : decode cX2_resize 28 = .ok (.ifCond .eq 7, 3) := by decide +kernel
theorem dX2_resize_31 : decode cX2_resize 31 = .ok (.iload_n 2, 1) := by decide +kernel
theorem dX2_resize_32 : decode cX2_resize 32 = .ok (.goto 5, 3) := by decide +kernel
theorem dX2_resize_35 : decode cX2_resize 35 = .ok (.bipush (-2), 2) := by decide +kernel
theorem dX2_resize_37 : decode cX2_resize 37 = .ok (.ireturn, 1) := by decide +kernel
theorem dX2_put_0 : decode cX2_put 0 = .ok (.aload_n 0, 1) := by decide +kernel
theorem dX2_put_1 : decode cX2_put 1 = .ok (.iload_n 1, 1) := by decide +kernel
theorem dX2_put_2 : decode cX2_put 2 = .ok (.invokevirtual 59, 3) := by decide +kernel
theorem dX2_put_5 : decode cX2_put 5 = .ok (.astore 4, 2) := by decide +kernel
theorem dX2_put_7 : decode cX2_put 7 = .ok (.aload 4, 2) := by decide +kernel
theorem dX2_put_9 : decode cX2_put 9 = .ok (.ifnull 12, 3) := by decide +kernel
theorem dX2_put_12 : decode cX2_put 12 = .ok (.aload 4, 2) := by decide +kernel
theorem dX2_put_14 : decode cX2_put 14 = .ok (.iload_n 2, 1) := by decide +kernel
theorem dX2_put_15 : decode cX2_put 15 = .ok (.invokestatic 74, 3) := by decide +kernel
theorem dX2_put_18 : decode cX2_put 18 = .ok (.ifCond .ne 5, 3) := by decide +kernel
theorem dX2_put_21 : decode cX2_put 21 = .ok (.iconst 0, 1) := by decide +kernel
theorem dX2_put_22 : decode cX2_put 22 = .ok (.ireturn, 1) := by decide +kernel
theorem dX2_put_23 : decode cX2_put 23 = .ok (.aload_n 0, 1) := by decide +kernel
theorem dX2_put_24 : decode cX2_put 24 = .ok (.getfield 10, 3) := by decide +kernel
theorem dX2_put_27 : decode cX2_put 27 = .ok (.getfield 77, 3) := by decide +kernel
theorem dX2_put_30 : decode cX2_put 30 = .ok (.aload 4, 2) := by decide +kernel
theorem dX2_put_32 : decode cX2_put 32 = .ok (.getfield 81, 3) := by decide +kernel
theorem dX2_put_35 : decode cX2_put 35 = .ok (.iload_n 2, 1) := by decide +kernel
theorem dX2_put_36 : decode cX2_put 36 = .ok (.iadd, 1) := by decide +kernel
theorem dX2_put_37 : decode cX2_put 37 = .ok (.iload_n 3, 1) := by decide +kernel
theorem dX2_put_38 : decode cX2_put 38 = .ok (.i2b, 1) := by decide +kernel
theorem dX2_put_39 : decode cX2_put 39 = .ok (.bastore, 1) := by decide +kernel
theorem dX2_put_40 : decode cX2_put 40 = .ok (.iconst 1, 1) := by decide +kernel
theorem dX2_put_41 : decode cX2_put 41 = .ok (.ireturn, 1) := by decide +kernel
theorem dX2_fill_0 : decode cX2_fill 0 = .ok (.aload_n 0, 1) := by decide +kernel
theorem dX2_fill_1 : decode cX2_fill 1 = .ok (.iload_n 1, 1) := by decide +kernel
theorem dX2_fill_2 : decode cX2_fill 2 = .ok (.invokevirtual 59, 3) := by decide +kernel
theorem dX2_fill_5 : decode cX2_fill 5 = .ok (.astore 5, 2) := by decide +kernel
theorem dX2_fill_7 : decode cX2_fill 7 = .ok (.aload 5, 2) := by decide +kernel
theorem dX2_fill_9 : decode cX2_fill 9 = .ok (.ifnull 13, 3) := by decide +kernel
theorem dX2_fill_12 : decode cX2_fill 12 = .ok (.aload 5, 2) := by decide +kernel
theorem dX2_fill_14 : decode cX2_fill 14 = .ok (.iload_n 2, 1) := by decide +kernel
theorem dX2_fill_15 : decode cX2_fill 15 = .ok (.iload_n 3, 1) := by decide +kernel
theorem dX2_fill_16 : decode cX2_fill 16 = .ok (.invokestatic 84, 3) := by decide +kernel
theorem dX2_fill_19 : decode cX2_fill 19 = .ok (.ifCond .ne 5, 3) := by decide +kernel
theorem dX2_fill_22 : decode cX2_fill 22 = .ok (.iconst 0, 1) := by decide +kernel
theorem dX2_fill_23 : decode cX2_fill 23 = .ok (.ireturn, 1) := by decide +kernel
theorem dX2_fill_24 : decode cX2_fill 24 = .ok (.aload_n 0, 1) := by decide +kernel
theorem dX2_fill_25 : decode cX2_fill 25 = .ok (.getfield 10, 3) := by decide +kernel
theorem dX2_fill_28 : decode cX2_fill 28 = .ok (.getfield 77, 3) := by decide +kernel
theorem dX2_fill_31 : decode cX2_fill 31 = .ok (.astore 6, 2) := by decide +kernel
theorem dX2_fill_33 : decode cX2_fill 33 = .ok (.aload 5, 2) := by decide +kernel
theorem dX2_fill_35 : decode cX2_fill 35 = .ok (.getfield 81, 3) := by decide +kernel
theorem dX2_fill_38 : decode cX2_fill 38 = .ok (.iload_n 2, 1) := by decide +kernel
theorem dX2_fill_39 : decode cX2_fill 39 = .ok (.iadd, 1) := by decide +kernel
theorem dX2_fill_40 : decode cX2_fill 40 = .ok (.istore 7, 2) := by decide +kernel
theorem dX2_fill_42 : decode cX2_fill 42 = .ok (.iconst 0, 1) := by decide +kernel
theorem dX2_fill_43 : decode cX2_fill 43 = .ok (.istore 8, 2) := by decide +kernel
theorem dX2_fill_45 : decode cX2_fill 45 = .ok (.iload 8, 2) := by decide +kernel
theorem dX2_fill_47 : decode cX2_fill 47 = .ok (.iload_n 3, 1) := by decide +kernel
theorem dX2_fill_48 : decode cX2_fill 48 = .ok (.if_icmp .ge 33, 3) := by decide +kernel
theorem dX2_fill_51 : decode cX2_fill 51 = .ok (.aload 6, 2) := by decide +kernel
theorem dX2_fill_53 : decode cX2_fill 53 = .ok (.iload 7, 2) := by decide +kernel
theorem dX2_fill_55 : decode cX2_fill 55 = .ok (.iload 8, 2) := by decide +kernel
theorem dX2_fill_57 : decode cX2_fill 57 = .ok (.iadd, 1) := by decide +kernel
theorem dX2_fill_58 : decode cX2_fill 58 = .ok (.iload 4, 2) := by decide +kernel
theorem dX2_fill_60 : decode cX2_fill 60 = .ok (.bipush 7, 2) := by decide +kernel
theorem dX2_fill_62 : decode cX2_fill 62 = .ok (.iload 8, 2) := by decide +kernel
theorem dX2_fill_64 : decode cX2_fill 64 = .ok (.imul, 1) := by decide +kernel
theorem dX2_fill_65 : decode cX2_fill 65 = .ok (.iadd, 1) := by decide +kernel
theorem dX2_fill_66 : decode cX2_fill 66 = .ok (.iload 8, 2) := by decide +kernel
theorem dX2_fill_68 : decode cX2_fill 68 = .ok (.sipush 250, 3) := by decide +kernel
theorem dX2_fill_71 : decode cX2_fill 71 = .ok (.idiv, 1) := by decide +kernel
theorem dX2_fill_72 : decode cX2_fill 72 = .ok (.iadd, 1) := by decide +kernel
theorem dX2_fill_73 : decode cX2_fill 73 = .ok (.i2b, 1) := by decide +kernel
theorem dX2_fill_74 : decode cX2_fill 74 = .ok (.bastore, 1) := by decide +kernel
theorem dX2_fill_75 : decode cX2_fill 75 = .ok (.iinc 8 1, 3) := by decide +kernel
theorem dX2_fill_78 : decode cX2_fill 78 = .ok (.goto (-33), 3) := by decide +kernel
theorem dX2_fill_81 : decode cX2_fill 81 = .ok (.iconst 1, 1) := by decide +kernel
theorem dX2_fill_82 : decode cX2_fill 82 = .ok (.ireturn, 1) := by decide +kernel
theorem dX2_copy_0 : decode cX2_copy 0 = .ok (.aload_n 0, 1) := by decide +kernel
theorem dX2_copy_1 : decode cX2_copy 1 = .ok (.iload_n 1, 1) := by decide +kernel
theorem dX2_copy_2 : decode cX2_copy 2 = .ok (.invokevirtual 59, 3) := by decide +kernel
theorem dX2_copy_5 : decode cX2_copy 5 = .ok (.astore_n 3, 1) := by decide +kernel
theorem dX2_copy_6 : decode cX2_copy 6 = .ok (.aload_n 0, 1) := by decide +kernel
theorem dX2_copy_7 : decode cX2_copy 7 = .ok (.iload_n 2, 1) := by decide +kernel
theorem dX2_copy_8 : decode cX2_copy 8 = .ok (.invokevirtual 59, 3) := by decide +kernel
theorem dX2_copy_11 : decode cX2_copy 11 = .ok (.astore 4, 2) := by decide +kernel
theorem dX2_copy_13 : decode cX2_copy 13 = .ok (.aload_n 3, 1) := by decide +kernel
theorem dX2_copy_14 : decode cX2_copy 14 = .ok (.ifnull 8, 3) := by decide +kernel
theorem dX2_copy_17 : decode cX2_copy 17 = .ok (.aload 4, 2) := by decide +kernel
theorem dX2_copy_19 : decode cX2_copy 19 = .ok (.ifnonnull 5, 3) := by decide +kernel
theorem dX2_copy_22 : decode cX2_copy 22 = .ok (.iconst (-1), 1) := by decide +kernel
theorem dX2_copy_23 : decode cX2_copy 23 = .ok (.ireturn, 1) := by decide +kernel
theorem dX2_copy_24 : decode cX2_copy 24 = .ok (.aload_n 0, 1) := by decide +kernel
theorem dX2_copy_25 : decode cX2_copy 25 = .ok (.getfield 10, 3) := by decide +kernel
theorem dX2_copy_28 : decode cX2_copy 28 = .ok (.aload_n 3, 1) := by decide +kernel
theorem dX2_copy_29 : decode cX2_copy 29 = .ok (.aload 4, 2) := by decide +kernel
theorem dX2_copy_31 : decode cX2_copy 31 = .ok (.getfield 88, 3) := by decide +kernel
theorem dX2_copy_34 : decode cX2_copy 34 = .ok (.invokevirtual 70, 3) := by decide +kernel
theorem dX2_copy_37 : decode cX2_copy 37 = .ok (.ifCond .ne 6, 3) := by decide +kernel
theorem dX2_copy_40 : decode cX2_copy 40 = .ok (.bipush (-2), 2) := by decide +kernel
theorem dX2_copy_42 : decode cX2_copy 42 = .ok (.ireturn, 1) := by decide +kernel
theorem dX2_copy_43 : decode cX2_copy 43 = .ok (.aload_n 0, 1) := by decide +kernel
theorem dX2_copy_44 : decode cX2_copy 44 = .ok (.getfield 10, 3) := by decide +kernel
theorem dX2_copy_47 : decode cX2_copy 47 = .ok (.getfield 77, 3) := by decide +kernel
theorem dX2_copy_50 : decode cX2_copy 50 = .ok (.aload 4, 2) := by decide +kernel
theorem dX2_copy_52 : decode cX2_copy 52 = .ok (.getfield 81, 3) := by decide +kernel
theorem dX2_copy_55 : decode cX2_copy 55 = .ok (.aload_n 0, 1) := by decide +kernel
theorem dX2_copy_56 : decode cX2_copy 56 = .ok (.getfield 10, 3) := by decide +kernel
theorem dX2_copy_59 : decode cX2_copy 59 = .ok (.getfield 77, 3) := by decide +kernel
theorem dX2_copy_62 : decode cX2_copy 62 = .ok (.aload_n 3, 1) := by decide +kernel
theorem dX2_copy_63 : decode cX2_copy 63 = .ok (.getfield 81, 3) := by decide +kernel
theorem dX2_copy_66 : decode cX2_copy 66 = .ok (.aload 4, 2) := by decide +kernel
theorem dX2_copy_68 : decode cX2_copy 68 = .ok (.getfield 88, 3) := by decide +kernel
theorem dX2_copy_71 : decode cX2_copy 71 = .ok (.invokestatic 91, 3) := by decide +kernel
theorem dX2_copy_74 : decode cX2_copy 74 = .ok (.aload 4, 2) := by decide +kernel
theorem dX2_copy_76 : decode cX2_copy 76 = .ok (.getfield 88, 3) := by decide +kernel
theorem dX2_copy_79 : decode cX2_copy 79 = .ok (.ireturn, 1) := by decide +kernel
theorem dX2_get_0 : decode cX2_get 0 = .ok (.aload_n 0, 1) := by decide +kernel
theorem dX2_get_1 : decode cX2_get 1 = .ok (.iload_n 1, 1) := by decide +kernel
theorem dX2_get_2 : decode cX2_get 2 = .ok (.invokevirtual 59, 3) := by decide +kernel
theorem dX2_get_5 : decode cX2_get 5 = .ok (.astore_n 3, 1) := by decide +kernel
theorem dX2_get_6 : decode cX2_get 6 = .ok (.aload_n 3, 1) := by decide +kernel
theorem dX2_get_7 : decode cX2_get 7 = .ok (.ifnull 11, 3) := by decide +kernel
theorem dX2_get_10 : decode cX2_get 10 = .ok (.aload_n 3, 1) := by decide +kernel
theorem dX2_get_11 : decode cX2_get 11 = .ok (.iload_n 2, 1) := by decide +kernel
theorem dX2_get_12 : decode cX2_get 12 = .ok (.invokestatic 74, 3) := by decide +kernel
theorem dX2_get_15 : decode cX2_get 15 = .ok (.ifCond .ne 5, 3) := by decide +kernel
theorem dX2_get_18 : decode cX2_get 18 = .ok (.iconst (-1), 1) := by decide +kernel
theorem dX2_get_19 : decode cX2_get 19 = .ok (.ireturn, 1) := by decide +kernel
theorem dX2_get_20 : decode cX2_get 20 = .ok (.aload_n 0, 1) := by decide +kernel
theorem dX2_get_21 : decode cX2_get 21 = .ok (.getfield 10, 3) := by decide +kernel
theorem dX2_get_24 : decode cX2_get 24 = .ok (.getfield 77, 3) := by decide +kernel
theorem dX2_get_27 : decode cX2_get 27 = .ok (.aload_n 3, 1) := by decide +kernel
theorem dX2_get_28 : decode cX2_get 28 = .ok (.getfield 81, 3) := by decide +kernel
theorem dX2_get_31 : decode cX2_get 31 = .ok (.iload_n 2, 1) := by decide +kernel
theorem dX2_get_32 : decode cX2_get 32 = .ok (.iadd, 1) := by decide +kernel
theorem dX2_get_33 : decode cX2_get 33 = .ok (.baload, 1) := by decide +kernel
theorem dX2_get_34 : decode cX2_get 34 = .ok (.sipush 255, 3) := by decide +kernel
theorem dX2_get_37 : decode cX2_get 37 = .ok (.iand, 1) := by decide +kernel
theorem dX2_get_38 : decode cX2_get 38 = .ok (.ireturn, 1) := by decide +kernel
theorem dX2_size_0 : decode cX2_size 0 = .ok (.aload_n 0, 1) := by decide +kernel
theorem dX2_size_1 : decode cX2_size 1 = .ok (.iload_n 1, 1) := by decide +kernel
theorem dX2_size_2 : decode cX2_size 2 = .ok (.invokevirtual 59, 3) := by decide +kernel
theorem dX2_size_5 : decode cX2_size 5 = .ok (.astore_n 2, 1) := by decide +kernel
theorem dX2_size_6 : decode cX2_size 6 = .ok (.aload_n 2, 1) := by decide +kernel
theorem dX2_size_7 : decode cX2_size 7 = .ok (.ifnonnull 7, 3) := by decide +kernel
theorem dX2_size_10 : decode cX2_size 10 = .ok (.iconst (-1), 1) := by decide +kernel
theorem dX2_size_11 : decode cX2_size 11 = .ok (.goto 7, 3) := by decide +kernel
theorem dX2_size_14 : decode cX2_size 14 = .ok (.aload_n 2, 1) := by decide +kernel
theorem dX2_size_15 : decode cX2_size 15 = .ok (.getfield 88, 3) := by decide +kernel
theorem dX2_size_18 : decode cX2_size 18 = .ok (.ireturn, 1) := by decide +kernel
theorem dX2_compare_0 : decode cX2_compare 0 = .ok (.aload_n 0, 1) := by decide +kernel
theorem dX2_compare_1 : decode cX2_compare 1 = .ok (.iload_n 1, 1) := by decide +kernel
theorem dX2_compare_2 : decode cX2_compare 2 = .ok (.invokevirtual 59, 3) := by decide +kernel
theorem dX2_compare_5 : decode cX2_compare 5 = .ok (.astore_n 3, 1) := by decide +kernel
theorem dX2_compare_6 : decode cX2_compare 6 = .ok (.aload_n 0, 1) := by decide +kernel
theorem dX2_compare_7 : decode cX2_compare 7 = .ok (.iload_n 2, 1) := by decide +kernel
theorem dX2_compare_8 : decode cX2_compare 8 = .ok (.invokevirtual 59, 3) := by decide +kernel
theorem dX2_compare_11 : decode cX2_compare 11 = .ok (.astore 4, 2) := by decide +kernel
theorem dX2_compare_13 : decode cX2_compare 13 = .ok (.aload_n 3, 1) := by decide +kernel
theorem dX2_compare_14 : decode cX2_compare 14 = .ok (.ifnull 8, 3) := by decide +kernel
theorem dX2_compare_17 : decode cX2_compare 17 = .ok (.aload 4, 2) := by decide +kernel
theorem dX2_compare_19 : decode cX2_compare 19 = .ok (.ifnonnull 6, 3) := by decide +kernel
theorem dX2_compare_22 : decode cX2_compare 22 = .ok (.bipush (-2), 2) := by decide +kernel
theorem dX2_compare_24 : decode cX2_compare 24 = .ok (.ireturn, 1) := by decide +kernel
theorem dX2_compare_25 : decode cX2_compare 25 = .ok (.aload_n 0, 1) := by decide +kernel
theorem dX2_compare_26 : decode cX2_compare 26 = .ok (.getfield 10, 3) := by decide +kernel
theorem dX2_compare_29 : decode cX2_compare 29 = .ok (.getfield 77, 3) := by decide +kernel
theorem dX2_compare_32 : decode cX2_compare 32 = .ok (.astore 5, 2) := by decide +kernel
theorem dX2_compare_34 : decode cX2_compare 34 = .ok (.aload_n 3, 1) := by decide +kernel
theorem dX2_compare_35 : decode cX2_compare 35 = .ok (.getfield 81, 3) := by decide +kernel
theorem dX2_compare_38 : decode cX2_compare 38 = .ok (.istore 6, 2) := by decide +kernel
theorem dX2_compare_40 : decode cX2_compare 40 = .ok (.aload 4, 2) := by decide +kernel
theorem dX2_compare_42 : decode cX2_compare 42 = .ok (.getfield 81, 3) := by decide +kernel
theorem dX2_compare_45 : decode cX2_compare 45 = .ok (.istore 7, 2) := by decide +kernel
theorem dX2_compare_47 : decode cX2_compare 47 = .ok (.aload_n 3, 1) := by decide +kernel
theorem dX2_compare_48 : decode cX2_compare 48 = .ok (.getfield 88, 3) := by decide +kernel
theorem dX2_compare_51 : decode cX2_compare 51 = .ok (.aload 4, 2) := by decide +kernel
theorem dX2_compare_53 : decode cX2_compare 53 = .ok (.getfield 88, 3) := by decide +kernel
theorem dX2_compare_56 : decode cX2_compare 56 = .ok (.invokestatic 97, 3) := by decide +kernel
theorem dX2_compare_59 : decode cX2_compare 59 = .ok (.istore 8, 2) := by decide +kernel
theorem dX2_compare_61 : decode cX2_compare 61 = .ok (.iconst 0, 1) := by decide +kernel
theorem dX2_compare_62 : decode cX2_compare 62 = .ok (.istore 9, 2) := by decide +kernel
theorem dX2_compare_64 : decode cX2_compare 64 = .ok (.iload 9, 2) := by decide +kernel
theorem dX2_compare_66 : decode cX2_compare 66 = .ok (.iload 8, 2) := by decide +kernel
theorem dX2_compare_68 : decode cX2_compare 68 = .ok (.if_icmp .ge 56, 3) := by decide +kernel
theorem dX2_compare_71 : decode cX2_compare 71 = .ok (.aload 5, 2) := by decide +kernel
theorem dX2_compare_73 : decode cX2_compare 73 = .ok (.iload 6, 2) := by decide +kernel
theorem dX2_compare_75 : decode cX2_compare 75 = .ok (.iload 9, 2) := by decide +kernel
theorem dX2_compare_77 : decode cX2_compare 77 = .ok (.iadd, 1) := by decide +kernel
theorem dX2_compare_78 : decode cX2_compare 78 = .ok (.baload, 1) := by decide +kernel
theorem dX2_compare_79 : decode cX2_compare 79 = .ok (.aload 5, 2) := by decide +kernel
theorem dX2_compare_81 : decode cX2_compare 81 = .ok (.iload 7, 2) := by decide +kernel
theorem dX2_compare_83 : decode cX2_compare 83 = .ok (.iload 9, 2) := by decide +kernel
theorem dX2_compare_85 : decode cX2_compare 85 = .ok (.iadd, 1) := by decide +kernel
theorem dX2_compare_86 : decode cX2_compare 86 = .ok (.baload, 1) := by decide +kernel
theorem dX2_compare_87 : decode cX2_compare 87 = .ok (.if_icmp .eq 31, 3) := by decide +kernel
theorem dX2_compare_90 : decode cX2_compare 90 = .ok (.aload 5, 2) := by decide +kernel
theorem dX2_compare_92 : decode cX2_compare 92 = .ok (.iload 6, 2) := by decide +kernel
theorem dX2_compare_94 : decode cX2_compare 94 = .ok (.iload 9, 2) := by decide +kernel
theorem dX2_compare_96 : decode cX2_compare 96 = .ok (.iadd, 1) := by decide +kernel
theorem dX2_compare_97 : decode cX2_compare 97 = .ok (.baload, 1) := by decide +kernel
theorem dX2_compare_98 : decode cX2_compare 98 = .ok (.sipush 255, 3) := by decide +kernel
theorem dX2_compare_101 : decode cX2_compare 101 = .ok (.iand, 1) := by decide +kernel
theorem dX2_compare_102 : decode cX2_compare 102 = .ok (.aload 5, 2) := by decide +kernel
theorem dX2_compare_104 : decode cX2_compare 104 = .ok (.iload 7, 2) := by decide +kernel
theorem dX2_compare_106 : decode cX2_compare 106 = .ok (.iload 9, 2) := by decide +kernel
theorem dX2_compare_108 : decode cX2_compare 108 = .ok (.iadd, 1) := by decide +kernel
theorem dX2_compare_109 : decode cX2_compare 109 = .ok (.baload, 1) := by decide +kernel
theorem dX2_compare_110 : decode cX2_compare 110 = .ok (.sipush 255, 3) := by decide +kernel
theorem dX2_compare_113 : decode cX2_compare 113 = .ok (.iand, 1) := by decide +kernel
theorem dX2_compare_114 : decode cX2_compare 114 = .ok (.invokestatic 103, 3) := by decide +kernel
theorem dX2_compare_117 : decode cX2_compare 117 = .ok (.ireturn, 1) := by decide +kernel
theorem dX2_compare_118 : decode cX2_compare 118 = .ok (.iinc 9 1, 3) := by decide +kernel
theorem dX2_compare_121 : decode cX2_compare 121 = .ok (.goto (-57), 3) := by decide +kernel
theorem dX2_compare_124 : decode cX2_compare 124 = .ok (.aload_n 3, 1) := by decide +kernel
theorem dX2_compare_125 : decode cX2_compare 125 = .ok (.getfield 88, 3) := by decide +kernel
theorem dX2_compare_128 : decode cX2_compare 128 = .ok (.aload 4, 2) := by decide +kernel
theorem dX2_compare_130 : decode cX2_compare 130 = .ok (.getfield 88, 3) := by decide +kernel
theorem dX2_compare_133 : decode cX2_compare 133 = .ok (.invokestatic 103, 3) := by decide +kernel
theorem dX2_compare_136 : decode cX2_compare 136 = .ok (.ireturn, 1) := by decide +kernel
theorem dX2_sum_0 : decode cX2_sum 0 = .ok (.aload_n 0, 1) := by decide +kernel
theorem dX2_sum_1 : decode cX2_sum 1 = .ok (.iload_n 1, 1) := by decide +kernel
theorem dX2_sum_2 : decode cX2_sum 2 = .ok (.invokevirtual 59, 3) := by decide +kernel
theorem dX2_sum_5 : decode cX2_sum 5 = .ok (.astore_n 2, 1) := by decide +kernel
theorem dX2_sum_6 : decode cX2_sum 6 = .ok (.aload_n 2, 1) := by decide +kernel
theorem dX2_sum_7 : decode cX2_sum 7 = .ok (.ifnonnull 5, 3) := by decide +kernel
theorem dX2_sum_10 : decode cX2_sum 10 = .ok (.iconst 0, 1) := by decide +kernel
theorem dX2_sum_11 : decode cX2_sum 11 = .ok (.ireturn, 1) := by decide +kernel
theorem dX2_sum_12 : decode cX2_sum 12 = .ok (.aload_n 0, 1) := by decide +kernel
theorem dX2_sum_13 : decode cX2_sum 13 = .ok (.getfield 10, 3) := by decide +kernel
theorem dX2_sum_16 : decode cX2_sum 16 = .ok (.getfield 77, 3) := by decide +kernel
theorem dX2_sum_19 : decode cX2_sum 19 = .ok (.astore_n 3, 1) := by decide +kernel
theorem dX2_sum_20 : decode cX2_sum 20 = .ok (.aload_n 2, 1) := by decide +kernel
theorem dX2_sum_21 : decode cX2_sum 21 = .ok (.getfield 81, 3) := by decide +kernel
theorem dX2_sum_24 : decode cX2_sum 24 = .ok (.aload_n 2, 1) := by decide +kernel
theorem dX2_sum_25 : decode cX2_sum 25 = .ok (.getfield 88, 3) := by decide +kernel
theorem dX2_sum_28 : decode cX2_sum 28 = .ok (.iadd, 1) := by decide +kernel
theorem dX2_sum_29 : decode cX2_sum 29 = .ok (.istore 4, 2) := by decide +kernel
theorem dX2_sum_31 : decode cX2_sum 31 = .ok (.bipush 7, 2) := by decide +kernel
theorem dX2_sum_33 : decode cX2_sum 33 = .ok (.istore 5, 2) := by decide +kernel
theorem dX2_sum_35 : decode cX2_sum 35 = .ok (.aload_n 2, 1) := by decide +kernel
theorem dX2_sum_36 : decode cX2_sum 36 = .ok (.getfield 81, 3) := by decide +kernel
