theorem dX10_image_0 : decode cX10_image 0 = .ok (.iload_n 1, 1) := by decide +kernel
theorem dX10_image_1 : decode cX10_image 1 = .ok (.ifCond .lt 17, 3) := by decide +kernel
theorem dX10_image_4 : decode cX10_image 4 = .ok (.iload_n 1, 1) := by decide +kernel
theorem dX10_image_5 : decode cX10_image 5 = .ok (.iconst 2, 1) := by decide +kernel
theorem dX10_image_6 : decode cX10_image 6 = .ok (.if_icmp .ge 12, 3) := by decide +kernel
theorem dX10_image_9 : decode cX10_image 9 = .ok (.aload_n 0, 1) := by decide +kernel
theorem dX10_image_10 : decode cX10_image 10 = .ok (.getfield 46, 3) := by decide +kernel
theorem dX10_image_13 : decode cX10_image 13 = .ok (.iload_n 1, 1) := by decide +kernel
theorem dX10_image_14 : decode cX10_image 14 = .ok (.aaload, 1) := by decide +kernel
theorem dX10_image_15 : decode cX10_image 15 = .ok (.ifnonnull 5, 3) := by decide +kernel
theorem dX10_image_18 : decode cX10_image 18 = .ok (.iconst 0, 1) := by decide +kernel
theorem dX10_image_19 : decode cX10_image 19 = .ok (.ireturn, 1) := by decide +kernel
theorem dX10_image_20 : decode cX10_image 20 = .ok (.aload_n 0, 1) := by decide +kernel
theorem dX10_image_21 : decode cX10_image 21 = .ok (.getfield 46, 3) := by decide +kernel
theorem dX10_image_24 : decode cX10_image 24 = .ok (.iload_n 1, 1) := by decide +kernel
theorem dX10_image_25 : decode cX10_image 25 = .ok (.aaload, 1) := by decide +kernel
theorem dX10_image_26 : decode cX10_image 26 = .ok (.aload_n 0, 1) := by decide +kernel
theorem dX10_image_27 : decode cX10_image 27 = .ok (.getfield 19, 3) := by decide +kernel
theorem dX10_image_30 : decode cX10_image 30 = .ok (.aload_n 0, 1) := by decide +kernel
theorem dX10_image_31 : decode cX10_image 31 = .ok (.getfield 26, 3) := by decide +kernel
theorem dX10_image_34 : decode cX10_image 34 = .ok (.aload_n 0, 1) := by decide +kernel
theorem dX10_image_35 : decode cX10_image 35 = .ok (.getfield 33, 3) := by decide +kernel
theorem dX10_image_38 : decode cX10_image 38 = .ok (.invokevirtual 349, 3) := by decide +kernel
theorem dX10_image_41 : decode cX10_image 41 = .ok (.iconst 1, 1) := by decide +kernel
theorem dX10_image_42 : decode cX10_image 42 = .ok (.ireturn, 1) := by decide +kernel
theorem dX10_restore_0 : decode cX10_restore 0 = .ok (.iload_n 1, 1) := by decide +kernel
theorem dX10_restore_1 : decode cX10_restore 1 = .ok (.ifCond .lt 29, 3) := by decide +kernel
theorem dX10_restore_4 : decode cX10_restore 4 = .ok (.iload_n 1, 1) := by decide +kernel
theorem dX10_restore_5 : decode cX10_restore 5 = .ok (.iconst 2, 1) := by decide +kernel
theorem dX10_restore_6 : decode cX10_restore 6 = .ok (.if_icmp .ge 24, 3) := by decide +kernel
theorem dX10_restore_9 : decode cX10_restore 9 = .ok (.aload_n 0, 1) := by decide +kernel
theorem dX10_restore_10 : decode cX10_restore 10 = .ok (.getfield 46, 3) := by decide +kernel
theorem dX10_restore_13 : decode cX10_restore 13 = .ok (.iload_n 1, 1) := by decide +kernel
theorem dX10_restore_14 : decode cX10_restore 14 = .ok (.aaload, 1) := by decide +kernel
theorem dX10_restore_15 : decode cX10_restore 15 = .ok (.ifnull 15, 3) := by decide +kernel
theorem dX10_restore_18 : decode cX10_restore 18 = .ok (.aload_n 0, 1) := by decide +kernel
theorem dX10_restore_19 : decode cX10_restore 19 = .ok (.getfield 46, 3) := by decide +kernel
theorem dX10_restore_22 : decode cX10_restore 22 = .ok (.iload_n 1, 1) := by decide +kernel
theorem dX10_restore_23 : decode cX10_restore 23 = .ok (.aaload, 1) := by decide +kernel
theorem dX10_restore_24 : decode cX10_restore 24 = .ok (.getfield 352, 3) := by decide +kernel
theorem dX10_restore_27 : decode cX10_restore 27 = .ok (.ifCond .ne 5, 3) := by decide +kernel
theorem dX10_restore_30 : decode cX10_restore 30 = .ok (.iconst 0, 1) := by decide +kernel
theorem dX10_restore_31 : decode cX10_restore 31 = .ok (.ireturn, 1) := by decide +kernel
theorem dX10_restore_32 : decode cX10_restore 32 = .ok (.aload_n 0, 1) := by decide +kernel
theorem dX10_restore_33 : decode cX10_restore 33 = .ok (.getfield 46, 3) := by decide +kernel
theorem dX10_restore_36 : decode cX10_restore 36 = .ok (.iload_n 1, 1) := by decide +kernel
theorem dX10_restore_37 : decode cX10_restore 37 = .ok (.aaload, 1) := by decide +kernel
theorem dX10_restore_38 : decode cX10_restore 38 = .ok (.aload_n 0, 1) := by decide +kernel
theorem dX10_restore_39 : decode cX10_restore 39 = .ok (.getfield 19, 3) := by decide +kernel
theorem dX10_restore_42 : decode cX10_restore 42 = .ok (.aload_n 0, 1) := by decide +kernel
theorem dX10_restore_43 : decode cX10_restore 43 = .ok (.getfield 26, 3) := by decide +kernel
theorem dX10_restore_46 : decode cX10_restore 46 = .ok (.aload_n 0, 1) := by decide +kernel
theorem dX10_restore_47 : decode cX10_restore 47 = .ok (.getfield 33, 3) := by decide +kernel
theorem dX10_restore_50 : decode cX10_restore 50 = .ok (.invokevirtual 355, 3) := by decide +kernel
theorem dX10_restore_53 : decode cX10_restore 53 = .ok (.aload_n 0, 1) := by decide +kernel
theorem dX10_restore_54 : decode cX10_restore 54 = .ok (.getfield 40, 3) := by decide +kernel
theorem dX10_restore_57 : decode cX10_restore 57 = .ok (.invokevirtual 121, 3) := by decide +kernel
theorem dX10_restore_60 : decode cX10_restore 60 = .ok (.iconst 1, 1) := by decide +kernel
theorem dX10_restore_61 : decode cX10_restore 61 = .ok (.ireturn, 1) := by decide +kernel
theorem dX10_count_0 : decode cX10_count 0 = .ok (.iload_n 1, 1) := by decide +kernel
theorem dX10_count_1 : decode cX10_count 1 = .ok (.tableswitch 87 0 5 #[39, 47, 55, 63, 71, 79], 39) := by decide +kernel
theorem dX10_count_40 : decode cX10_count 40 = .ok (.aload_n 0, 1) := by decide +kernel
theorem dX10_count_41 : decode cX10_count 41 = .ok (.getfield 19, 3) := by decide +kernel
theorem dX10_count_44 : decode cX10_count 44 = .ok (.getfield 358, 3) := by decide +kernel
theorem dX10_count_47 : decode cX10_count 47 = .ok (.ireturn, 1) := by decide +kernel
theorem dX10_count_48 : decode cX10_count 48 = .ok (.aload_n 0, 1) := by decide +kernel
theorem dX10_count_49 : decode cX10_count 49 = .ok (.getfield 19, 3) := by decide +kernel
theorem dX10_count_52 : decode cX10_count 52 = .ok (.getfield 286, 3) := by decide +kernel
theorem dX10_count_55 : decode cX10_count 55 = .ok (.ireturn, 1) := by decide +kernel
theorem dX10_count_56 : decode cX10_count 56 = .ok (.aload_n 0, 1) := by decide +kernel
theorem dX10_count_57 : decode cX10_count 57 = .ok (.getfield 19, 3) := by decide +kernel
theorem dX10_count_60 : decode cX10_count 60 = .ok (.getfield 361, 3) := by decide +kernel
theorem dX10_count_63 : decode cX10_count 63 = .ok (.ireturn, 1) := by decide +kernel
theorem dX10_count_64 : decode cX10_count 64 = .ok (.aload_n 0, 1) := by decide +kernel
theorem dX10_count_65 : decode cX10_count 65 = .ok (.getfield 19, 3) := by decide +kernel
theorem dX10_count_68 : decode cX10_count 68 = .ok (.getfield 364, 3) := by decide +kernel
theorem dX10_count_71 : decode cX10_count 71 = .ok (.ireturn, 1) := by decide +kernel
theorem dX10_count_72 : decode cX10_count 72 = .ok (.aload_n 0, 1) := by decide +kernel
theorem dX10_count_73 : decode cX10_count 73 = .ok (.getfield 19, 3) := by decide +kernel
theorem dX10_count_76 : decode cX10_count 76 = .ok (.getfield 367, 3) := by decide +kernel
theorem dX10_count_79 : decode cX10_count 79 = .ok (.ireturn, 1) := by decide +kernel
theorem dX10_count_80 : decode cX10_count 80 = .ok (.aload_n 0, 1) := by decide +kernel
theorem dX10_count_81 : decode cX10_count 81 = .ok (.getfield 10, 3) := by decide +kernel
theorem dX10_count_84 : decode cX10_count 84 = .ok (.getfield 94, 3) := by decide +kernel
theorem dX10_count_87 : decode cX10_count 87 = .ok (.ireturn, 1) := by decide +kernel
theorem dX10_count_88 : decode cX10_count 88 = .ok (.iconst (-1), 1) := by decide +kernel
theorem dX10_count_89 : decode cX10_count 89 = .ok (.ireturn, 1) := by decide +kernel
theorem dX11_thrown_0 : decode cX11_thrown 0 = .ok (.aload_n 0, 1) := by decide +kernel
theorem dX11_thrown_1 : decode cX11_thrown 1 = .ok (.getfield 1, 3) := by decide +kernel
theorem dX11_thrown_4 : decode cX11_thrown 4 = .ok (.ireturn, 1) := by decide +kernel
theorem dX11_throwsIf_0 : decode cX11_throwsIf 0 = .ok (.aload_n 0, 1) := by decide +kernel
theorem dX11_throwsIf_1 : decode cX11_throwsIf 1 = .ok (.iload_n 1, 1) := by decide +kernel
theorem dX11_throwsIf_2 : decode cX11_throwsIf 2 = .ok (.ifCond .eq 7, 3) := by decide +kernel
theorem dX11_throwsIf_5 : decode cX11_throwsIf 5 = .ok (.iconst 1, 1) := by decide +kernel
theorem dX11_throwsIf_6 : decode cX11_throwsIf 6 = .ok (.goto 4, 3) := by decide +kernel
theorem dX11_throwsIf_9 : decode cX11_throwsIf 9 = .ok (.iconst 0, 1) := by decide +kernel
theorem dX11_throwsIf_10 : decode cX11_throwsIf 10 = .ok (.putfield 1, 3) := by decide +kernel
theorem dX11_throwsIf_13 : decode cX11_throwsIf 13 = .ok (.iload_n 1, 1) := by decide +kernel
theorem dX11_throwsIf_14 : decode cX11_throwsIf 14 = .ok (.ireturn, 1) := by decide +kernel
theorem dX11_four_0 : decode cX11_four 0 = .ok (.bipush 24, 2) := by decide +kernel
theorem dX11_four_2 : decode cX11_four 2 = .ok (.istore_n 2, 1) := by decide +kernel
theorem dX11_four_3 : decode cX11_four 3 = .ok (.iload_n 2, 1) := by decide +kernel
theorem dX11_four_4 : decode cX11_four 4 = .ok (.ifCond .lt 32, 3) := by decide +kernel
theorem dX11_four_7 : decode cX11_four 7 = .ok (.aload_n 0, 1) := by decide +kernel
theorem dX11_four_8 : decode cX11_four 8 = .ok (.getfield 14, 3) := by decide +kernel
theorem dX11_four_11 : decode cX11_four 11 = .ok (.aload_n 0, 1) := by decide +kernel
theorem dX11_four_12 : decode cX11_four 12 = .ok (.getfield 7, 3) := by decide +kernel
theorem dX11_four_15 : decode cX11_four 15 = .ok (.iload_n 1, 1) := by decide +kernel
theorem dX11_four_16 : decode cX11_four 16 = .ok (.iload_n 2, 1) := by decide +kernel
theorem dX11_four_17 : decode cX11_four 17 = .ok (.ishr, 1) := by decide +kernel
theorem dX11_four_18 : decode cX11_four 18 = .ok (.i2b, 1) := by decide +kernel
theorem dX11_four_19 : decode cX11_four 19 = .ok (.bastore, 1) := by decide +kernel
theorem dX11_four_20 : decode cX11_four 20 = .ok (.aload_n 0, 1) := by decide +kernel
theorem dX11_four_21 : decode cX11_four 21 = .ok (.dup, 1) := by decide +kernel
theorem dX11_four_22 : decode cX11_four 22 = .ok (.getfield 7, 3) := by decide +kernel
theorem dX11_four_25 : decode cX11_four 25 = .ok (.iconst 1, 1) := by decide +kernel
theorem dX11_four_26 : decode cX11_four 26 = .ok (.iadd, 1) := by decide +kernel
theorem dX11_four_27 : decode cX11_four 27 = .ok (.putfield 7, 3) := by decide +kernel
theorem dX11_four_30 : decode cX11_four 30 = .ok (.iinc 2 (-8), 3) := by decide +kernel
theorem dX11_four_33 : decode cX11_four 33 = .ok (.goto (-30), 3) := by decide +kernel
theorem dX11_four_36 : decode cX11_four 36 = .ok (.return_, 1) := by decide +kernel
theorem dX11_feed_0 : decode cX11_feed 0 = .ok (.aload_n 0, 1) := by decide +kernel
theorem dX11_feed_1 : decode cX11_feed 1 = .ok (.iconst 0, 1) := by decide +kernel
theorem dX11_feed_2 : decode cX11_feed 2 = .ok (.putfield 1, 3) := by decide +kernel
theorem dX11_feed_5 : decode cX11_feed 5 = .ok (.aload_n 0, 1) := by decide +kernel
theorem dX11_feed_6 : decode cX11_feed 6 = .ok (.getfield 7, 3) := by decide +kernel
theorem dX11_feed_9 : decode cX11_feed 9 = .ok (.bipush 20, 2) := by decide +kernel
theorem dX11_feed_11 : decode cX11_feed 11 = .ok (.iadd, 1) := by decide +kernel
theorem dX11_feed_12 : decode cX11_feed 12 = .ok (.sipush 940, 3) := by decide +kernel
theorem dX11_feed_15 : decode cX11_feed 15 = .ok (.if_icmp .le 5, 3) := by decide +kernel
theorem dX11_feed_18 : decode cX11_feed 18 = .ok (.iconst (-1), 1) := by decide +kernel
theorem dX11_feed_19 : decode cX11_feed 19 = .ok (.ireturn, 1) := by decide +kernel
theorem dX11_feed_20 : decode cX11_feed 20 = .ok (.aload_n 0, 1) := by decide +kernel
theorem dX11_feed_21 : decode cX11_feed 21 = .ok (.iload_n 1, 1) := by decide +kernel
theorem dX11_feed_22 : decode cX11_feed 22 = .ok (.invokevirtual 10, 3) := by decide +kernel
theorem dX11_feed_25 : decode cX11_feed 25 = .ok (.aload_n 0, 1) := by decide +kernel
theorem dX11_feed_26 : decode cX11_feed 26 = .ok (.iload_n 2, 1) := by decide +kernel
theorem dX11_feed_27 : decode cX11_feed 27 = .ok (.invokevirtual 10, 3) := by decide +kernel
theorem dX11_feed_30 : decode cX11_feed 30 = .ok (.aload_n 0, 1) := by decide +kernel
theorem dX11_feed_31 : decode cX11_feed 31 = .ok (.iload_n 3, 1) := by decide +kernel
theorem dX11_feed_32 : decode cX11_feed 32 = .ok (.invokevirtual 10, 3) := by decide +kernel
theorem dX11_feed_35 : decode cX11_feed 35 = .ok (.aload_n 0, 1) := by decide +kernel
theorem dX11_feed_36 : decode cX11_feed 36 = .ok (.iload 4, 2) := by decide +kernel
theorem dX11_feed_38 : decode cX11_feed 38 = .ok (.invokevirtual 10, 3) := by decide +kernel
theorem dX11_feed_41 : decode cX11_feed 41 = .ok (.aload_n 0, 1) := by decide +kernel
theorem dX11_feed_42 : decode cX11_feed 42 = .ok (.iload 5, 2) := by decide +kernel
theorem dX11_feed_44 : decode cX11_feed 44 = .ok (.invokevirtual 10, 3) := by decide +kernel
theorem dX11_feed_47 : decode cX11_feed 47 = .ok (.aload_n 0, 1) := by decide +kernel
theorem dX11_feed_48 : decode cX11_feed 48 = .ok (.getfield 7, 3) := by decide +kernel
theorem dX11_feed_51 : decode cX11_feed 51 = .ok (.ireturn, 1) := by decide +kernel
theorem dX11_end_0 : decode cX11_end 0 = .ok (.aload_n 0, 1) := by decide +kernel
theorem dX11_end_1 : decode cX11_end 1 = .ok (.iconst 0, 1) := by decide +kernel
theorem dX11_end_2 : decode cX11_end 2 = .ok (.putfield 1, 3) := by decide +kernel
theorem dX11_end_5 : decode cX11_end 5 = .ok (.iload_n 1, 1) := by decide +kernel
theorem dX11_end_6 : decode cX11_end 6 = .ok (.ifCond .lt 11, 3) := by decide +kernel
theorem dX11_end_9 : decode cX11_end 9 = .ok (.iload_n 1, 1) := by decide +kernel
theorem dX11_end_10 : decode cX11_end 10 = .ok (.aload_n 0, 1) := by decide +kernel
theorem dX11_end_11 : decode cX11_end 11 = .ok (.getfield 7, 3) := by decide +kernel
theorem dX11_end_14 : decode cX11_end 14 = .ok (.if_icmp .le 5, 3) := by decide +kernel
theorem dX11_end_17 : decode cX11_end 17 = .ok (.iconst 0, 1) := by decide +kernel
theorem dX11_end_18 : decode cX11_end 18 = .ok (.ireturn, 1) := by decide +kernel
theorem dX11_end_19 : decode cX11_end 19 = .ok (.aload_n 0, 1) := by decide +kernel
theorem dX11_end_20 : decode cX11_end 20 = .ok (.iload_n 1, 1) := by decide +kernel
theorem dX11_end_21 : decode cX11_end 21 = .ok (.putfield 7, 3) := by decide +kernel
theorem dX11_end_24 : decode cX11_end 24 = .ok (.iconst 1, 1) := by decide +kernel
theorem dX11_end_25 : decode cX11_end 25 = .ok (.ireturn, 1) := by decide +kernel
theorem dX11_taken_0 : decode cX11_taken 0 = .ok (.aload_n 0, 1) := by decide +kernel
theorem dX11_taken_1 : decode cX11_taken 1 = .ok (.aload_n 0, 1) := by decide +kernel
theorem dX11_taken_2 : decode cX11_taken 2 = .ok (.getfield 7, 3) := by decide +kernel
theorem dX11_taken_5 : decode cX11_taken 5 = .ok (.putfield 18, 3) := by decide +kernel
theorem dX11_taken_8 : decode cX11_taken 8 = .ok (.aload_n 0, 1) := by decide +kernel
theorem dX11_taken_9 : decode cX11_taken 9 = .ok (.iconst 0, 1) := by decide +kernel
theorem dX11_taken_10 : decode cX11_taken 10 = .ok (.putfield 7, 3) := by decide +kernel
theorem dX11_taken_13 : decode cX11_taken 13 = .ok (.aload_n 0, 1) := by decide +kernel
theorem dX11_taken_14 : decode cX11_taken 14 = .ok (.iconst 0, 1) := by decide +kernel
theorem dX11_taken_15 : decode cX11_taken 15 = .ok (.putfield 21, 3) := by decide +kernel
theorem dX11_taken_18 : decode cX11_taken 18 = .ok (.aload_n 0, 1) := by decide +kernel
theorem dX11_taken_19 : decode cX11_taken 19 = .ok (.iload_n 1, 1) := by decide +kernel
theorem dX11_taken_20 : decode cX11_taken 20 = .ok (.putfield 24, 3) := by decide +kernel
theorem dX11_taken_23 : decode cX11_taken 23 = .ok (.return_, 1) := by decide +kernel
theorem dX11_isIn_0 : decode cX11_isIn 0 = .ok (.iload_n 0, 1) := by decide +kernel
theorem dX11_isIn_1 : decode cX11_isIn 1 = .ok (.iload_n 1, 1) := by decide +kernel
theorem dX11_isIn_2 : decode cX11_isIn 2 = .ok (.if_icmp .lt 12, 3) := by decide +kernel
theorem dX11_isIn_5 : decode cX11_isIn 5 = .ok (.iload_n 0, 1) := by decide +kernel
theorem dX11_isIn_6 : decode cX11_isIn 6 = .ok (.iload_n 2, 1) := by decide +kernel
theorem dX11_isIn_7 : decode cX11_isIn 7 = .ok (.if_icmp .gt 7, 3) := by decide +kernel
theorem dX11_isIn_10 : decode cX11_isIn 10 = .ok (.iconst 1, 1) := by decide +kernel
theorem dX11_isIn_11 : decode cX11_isIn 11 = .ok (.goto 4, 3) := by decide +kernel
theorem dX11_isIn_14 : decode cX11_isIn 14 = .ok (.iconst 0, 1) := by decide +kernel
theorem dX11_isIn_15 : decode cX11_isIn 15 = .ok (.ireturn, 1) := by decide +kernel
theorem dX11_bitOf_0 : decode cX11_bitOf 0 = .ok (.iload_n 0, 1) := by decide +kernel
theorem dX11_bitOf_1 : decode cX11_bitOf 1 = .ok (.iload_n 1, 1) := by decide +kernel
theorem dX11_bitOf_2 : decode cX11_bitOf 2 = .ok (.ishr, 1) := by decide +kernel
theorem dX11_bitOf_3 : decode cX11_bitOf 3 = .ok (.iconst 1, 1) := by decide +kernel
theorem dX11_bitOf_4 : decode cX11_bitOf 4 = .ok (.iand, 1) := by decide +kernel
theorem dX11_bitOf_5 : decode cX11_bitOf 5 = .ok (.iconst 1, 1) := by decide +kernel
theorem dX11_bitOf_6 : decode cX11_bitOf 6 = .ok (.if_icmp .ne 7, 3) := by decide +kernel
theorem dX11_bitOf_9 : decode cX11_bitOf 9 = .ok (.iconst 1, 1) := by decide +kernel
theorem dX11_bitOf_10 : decode cX11_bitOf 10 = .ok (.goto 4, 3) := by decide +kernel
theorem dX11_bitOf_13 : decode cX11_bitOf 13 = .ok (.iconst 0, 1) := by decide +kernel
theorem dX11_bitOf_14 : decode cX11_bitOf 14 = .ok (.ireturn, 1) := by decide +kernel
theorem dX11_lesser_0 : decode cX11_lesser 0 = .ok (.iload_n 0, 1) := by decide +kernel
theorem dX11_lesser_1 : decode cX11_lesser 1 = .ok (.iload_n 1, 1) := by decide +kernel
theorem dX11_lesser_2 : decode cX11_lesser 2 = .ok (.if_icmp .ge 7, 3) := by decide +kernel
theorem dX11_lesser_5 : decode cX11_lesser 5 = .ok (.iload_n 0, 1) := by decide +kernel
theorem dX11_lesser_6 : decode cX11_lesser 6 = .ok (.goto 4, 3) := by decide +kernel
theorem dX11_lesser_9 : decode cX11_lesser 9 = .ok (.iload_n 1, 1) := by decide +kernel
theorem dX11_lesser_10 : decode cX11_lesser 10 = .ok (.ireturn, 1) := by decide +kernel
theorem dX11_greater_0 : decode cX11_greater 0 = .ok (.iload_n 0, 1) := by decide +kernel
theorem dX11_greater_1 : decode cX11_greater 1 = .ok (.iload_n 1, 1) := by decide +kernel
theorem dX11_greater_2 : decode cX11_greater 2 = .ok (.if_icmp .le 7, 3) := by decide +kernel
theorem dX11_greater_5 : decode cX11_greater 5 = .ok (.iload_n 0, 1) := by decide +kernel
theorem dX11_greater_6 : decode cX11_greater 6 = .ok (.goto 4, 3) := by decide +kernel
theorem dX11_greater_9 : decode cX11_greater 9 = .ok (.iload_n 1, 1) := by decide +kernel
theorem dX11_greater_10 : decode cX11_greater 10 = .ok (.ireturn, 1) := by decide +kernel
theorem dX11_bits_0 : decode cX11_bits 0 = .ok (.iconst 0, 1) := by decide +kernel
theorem dX11_bits_1 : decode cX11_bits 1 = .ok (.istore_n 1, 1) := by decide +kernel
theorem dX11_bits_2 : decode cX11_bits 2 = .ok (.iload_n 0, 1) := by decide +kernel
theorem dX11_bits_3 : decode cX11_bits 3 = .ok (.istore_n 2, 1) := by decide +kernel
theorem dX11_bits_4 : decode cX11_bits 4 = .ok (.iload_n 2, 1) := by decide +kernel
theorem dX11_bits_5 : decode cX11_bits 5 = .ok (.ifCond .eq 15, 3) := by decide +kernel
theorem dX11_bits_8 : decode cX11_bits 8 = .ok (.iinc 1 1, 3) := by decide +kernel
theorem dX11_bits_11 : decode cX11_bits 11 = .ok (.iload_n 2, 1) := by decide +kernel
theorem dX11_bits_12 : decode cX11_bits 12 = .ok (.iload_n 2, 1) := by decide +kernel
theorem dX11_bits_13 : decode cX11_bits 13 = .ok (.iconst 1, 1) := by decide +kernel
theorem dX11_bits_14 : decode cX11_bits 14 = .ok (.isub, 1) := by decide +kernel
theorem dX11_bits_15 : decode cX11_bits 15 = .ok (.iand, 1) := by decide +kernel
theorem dX11_bits_16 : decode cX11_bits 16 = .ok (.istore_n 2, 1) := by decide +kernel
theorem dX11_bits_17 : decode cX11_bits 17 = .ok (.goto (-13), 3) := by decide +kernel
theorem dX11_bits_20 : decode cX11_bits 20 = .ok (.iload_n 1, 1) := by decide +kernel
theorem dX11_bits_21 : decode cX11_bits 21 = .ok (.ireturn, 1) := by decide +kernel
theorem dX11_octet_0 : decode cX11_octet 0 = .ok (.aload_n 0, 1) := by decide +kernel
theorem dX11_octet_1 : decode cX11_octet 1 = .ok (.getfield 14, 3) := by decide +kernel
theorem dX11_octet_4 : decode cX11_octet 4 = .ok (.iload_n 1, 1) := by decide +kernel
theorem dX11_octet_5 : decode cX11_octet 5 = .ok (.baload, 1) := by decide +kernel
theorem dX11_octet_6 : decode cX11_octet 6 = .ok (.sipush 255, 3) := by decide +kernel
theorem dX11_octet_9 : decode cX11_octet 9 = .ok (.iand, 1) := by decide +kernel
theorem dX11_octet_10 : decode cX11_octet 10 = .ok (.ireturn, 1) := by decide +kernel
theorem dX11_clears_0 : decode cX11_clears 0 = .ok (.iconst 0, 1) := by decide +kernel
theorem dX11_clears_1 : decode cX11_clears 1 = .ok (.istore_n 1, 1) := by decide +kernel
theorem dX11_clears_2 : decode cX11_clears 2 = .ok (.iload_n 1, 1) := by decide +kernel
theorem dX11_clears_3 : decode cX11_clears 3 = .ok (.bipush 121, 2) := by decide +kernel
theorem dX11_clears_5 : decode cX11_clears 5 = .ok (.if_icmp .ge 16, 3) := by decide +kernel
theorem dX11_clears_8 : decode cX11_clears 8 = .ok (.aload_n 0, 1) := by decide +kernel
theorem dX11_clears_9 : decode cX11_clears 9 = .ok (.getfield 37, 3) := by decide +kernel
theorem dX11_clears_12 : decode cX11_clears 12 = .ok (.iload_n 1, 1) := by decide +kernel
theorem dX11_clears_13 : decode cX11_clears 13 = .ok (.iconst 0, 1) := by decide +kernel
theorem dX11_clears_14 : decode cX11_clears 14 = .ok (.iastore, 1) := by decide +kernel
theorem dX11_clears_15 : decode cX11_clears 15 = .ok (.iinc 1 1, 3) := by decide +kernel
theorem dX11_clears_18 : decode cX11_clears 18 = .ok (.goto (-16), 3) := by decide +kernel
theorem dX11_clears_21 : decode cX11_clears 21 = .ok (.aload_n 0, 1) := by decide +kernel
theorem dX11_clears_22 : decode cX11_clears 22 = .ok (.getfield 37, 3) := by decide +kernel
theorem dX11_clears_25 : decode cX11_clears 25 = .ok (.iconst 4, 1) := by decide +kernel
theorem dX11_clears_26 : decode cX11_clears 26 = .ok (.bipush 9, 2) := by decide +kernel
theorem dX11_clears_28 : decode cX11_clears 28 = .ok (.iastore, 1) := by decide +kernel
theorem dX11_clears_29 : decode cX11_clears 29 = .ok (.return_, 1) := by decide +kernel
theorem dX11_peek_0 : decode cX11_peek 0 = .ok (.aload_n 0, 1) := by decide +kernel
theorem dX11_peek_1 : decode cX11_peek 1 = .ok (.getfield 21, 3) := by decide +kernel
theorem dX11_peek_4 : decode cX11_peek 4 = .ok (.aload_n 0, 1) := by decide +kernel
theorem dX11_peek_5 : decode cX11_peek 5 = .ok (.getfield 18, 3) := by decide +kernel
theorem dX11_peek_8 : decode cX11_peek 8 = .ok (.if_icmp .ge 19, 3) := by decide +kernel
theorem dX11_peek_11 : decode cX11_peek 11 = .ok (.aload_n 0, 1) := by decide +kernel
theorem dX11_peek_12 : decode cX11_peek 12 = .ok (.getfield 14, 3) := by decide +kernel
theorem dX11_peek_15 : decode cX11_peek 15 = .ok (.aload_n 0, 1) := by decide +kernel
theorem dX11_peek_16 : decode cX11_peek 16 = .ok (.getfield 21, 3) := by decide +kernel
theorem dX11_peek_19 : decode cX11_peek 19 = .ok (.baload, 1) := by decide +kernel
theorem dX11_peek_20 : decode cX11_peek 20 = .ok (.sipush 255, 3) := by decide +kernel
theorem dX11_peek_23 : decode cX11_peek 23 = .ok (.iand, 1) := by decide +kernel
theorem dX11_peek_24 : decode cX11_peek 24 = .ok (.goto 4, 3) := by decide +kernel
theorem dX11_peek_27 : decode cX11_peek 27 = .ok (.iconst (-1), 1) := by decide +kernel
theorem dX11_peek_28 : decode cX11_peek 28 = .ok (.ireturn, 1) := by decide +kernel
theorem dX11_isSmall_0 : decode cX11_isSmall 0 = .ok (.iload_n 0, 1) := by decide +kernel
theorem dX11_isSmall_1 : decode cX11_isSmall 1 = .ok (.bipush 97, 2) := by decide +kernel
theorem dX11_isSmall_3 : decode cX11_isSmall 3 = .ok (.if_icmp .lt 13, 3) := by decide +kernel
theorem dX11_isSmall_6 : decode cX11_isSmall 6 = .ok (.iload_n 0, 1) := by decide +kernel
theorem dX11_isSmall_7 : decode cX11_isSmall 7 = .ok (.bipush 122, 2) := by decide +kernel
theorem dX11_isSmall_9 : decode cX11_isSmall 9 = .ok (.if_icmp .gt 7, 3) := by decide +kernel
theorem dX11_isSmall_12 : decode cX11_isSmall 12 = .ok (.iconst 1, 1) := by decide +kernel
theorem dX11_isSmall_13 : decode cX11_isSmall 13 = .ok (.goto 4, 3) := by decide +kernel
theorem dX11_isSmall_16 : decode cX11_isSmall 16 = .ok (.iconst 0, 1) := by decide +kernel
theorem dX11_isSmall_17 : decode cX11_isSmall 17 = .ok (.ireturn, 1) := by decide +kernel
theorem dX11_isDigit_0 : decode cX11_isDigit 0 = .ok (.iload_n 0, 1) := by decide +kernel
theorem dX11_isDigit_1 : decode cX11_isDigit 1 = .ok (.bipush 48, 2) := by decide +kernel
theorem dX11_isDigit_3 : decode cX11_isDigit 3 = .ok (.if_icmp .lt 13, 3) := by decide +kernel
theorem dX11_isDigit_6 : decode cX11_isDigit 6 = .ok (.iload_n 0, 1) := by decide +kernel
theorem dX11_isDigit_7 : decode cX11_isDigit 7 = .ok (.bipush 57, 2) := by decide +kernel
theorem dX11_isDigit_9 : decode cX11_isDigit 9 = .ok (.if_icmp .gt 7, 3) := by decide +kernel
theorem dX11_isDigit_12 : decode cX11_isDigit 12 = .ok (.iconst 1, 1) := by decide +kernel
theorem dX11_isDigit_13 : decode cX11_isDigit 13 = .ok (.goto 4, 3) := by decide +kernel
theorem dX11_isDigit_16 : decode cX11_isDigit 16 = .ok (.iconst 0, 1) := by decide +kernel
theorem dX11_isDigit_17 : decode cX11_isDigit 17 = .ok (.ireturn, 1) := by decide +kernel
theorem dX11_next_0 : decode cX11_next 0 = .ok (.aload_n 0, 1) := by decide +kernel
theorem dX11_next_1 : decode cX11_next 1 = .ok (.invokevirtual 134, 3) := by decide +kernel
theorem dX11_next_4 : decode cX11_next 4 = .ok (.bipush 32, 2) := by decide +kernel
theorem dX11_next_6 : decode cX11_next 6 = .ok (.if_icmp .eq 12, 3) := by decide +kernel
theorem dX11_next_9 : decode cX11_next 9 = .ok (.aload_n 0, 1) := by decide +kernel
theorem dX11_next_10 : decode cX11_next 10 = .ok (.invokevirtual 134, 3) := by decide +kernel
theorem dX11_next_13 : decode cX11_next 13 = .ok (.bipush 10, 2) := by decide +kernel
theorem dX11_next_15 : decode cX11_next 15 = .ok (.if_icmp .ne 16, 3) := by decide +kernel
theorem dX11_next_18 : decode cX11_next 18 = .ok (.aload_n 0, 1) := by decide +kernel
theorem dX11_next_19 : decode cX11_next 19 = .ok (.dup, 1) := by decide +kernel
theorem dX11_next_20 : decode cX11_next 20 = .ok (.getfield 21, 3) := by decide +kernel
theorem dX11_next_23 : decode cX11_next 23 = .ok (.iconst 1, 1) := by decide +kernel
theorem dX11_next_24 : decode cX11_next 24 = .ok (.iadd, 1) := by decide +kernel
theorem dX11_next_25 : decode cX11_next 25 = .ok (.putfield 21, 3) := by decide +kernel
theorem dX11_next_28 : decode cX11_next 28 = .ok (.goto (-28), 3) := by decide +kernel
theorem dX11_next_31 : decode cX11_next 31 = .ok (.aload_n 0, 1) := by decide +kernel
theorem dX11_next_32 : decode cX11_next 32 = .ok (.aload_n 0, 1) := by decide +kernel
theorem dX11_next_33 : decode cX11_next 33 = .ok (.getfield 21, 3) := by decide +kernel
theorem dX11_next_36 : decode cX11_next 36 = .ok (.putfield 138, 3) := by decide +kernel
theorem dX11_next_39 : decode cX11_next 39 = .ok (.aload_n 0, 1) := by decide +kernel
theorem dX11_next_40 : decode cX11_next 40 = .ok (.iconst 0, 1) := by decide +kernel
theorem dX11_next_41 : decode cX11_next 41 = .ok (.putfield 141, 3) := by decide +kernel
theorem dX11_next_44 : decode cX11_next 44 = .ok (.aload_n 0, 1) := by decide +kernel
theorem dX11_next_45 : decode cX11_next 45 = .ok (.getfield 18, 3) := by decide +kernel
theorem dX11_next_48 : decode cX11_next 48 = .ok (.aload_n 0, 1) := by decide +kernel
theorem dX11_next_49 : decode cX11_next 49 = .ok (.getfield 24, 3) := by decide +kernel
theorem dX11_next_52 : decode cX11_next 52 = .ok (.if_icmp .le 28, 3) := by decide +kernel
theorem dX11_next_55 : decode cX11_next 55 = .ok (.aload_n 0, 1) := by decide +kernel
theorem dX11_next_56 : decode cX11_next 56 = .ok (.getfield 21, 3) := by decide +kernel
theorem dX11_next_59 : decode cX11_next 59 = .ok (.aload_n 0, 1) := by decide +kernel
theorem dX11_next_60 : decode cX11_next 60 = .ok (.getfield 24, 3) := by decide +kernel
theorem dX11_next_63 : decode cX11_next 63 = .ok (.if_icmp .lt 17, 3) := by decide +kernel
theorem dX11_next_66 : decode cX11_next 66 = .ok (.aload_n 0, 1) := by decide +kernel
theorem dX11_next_67 : decode cX11_next 67 = .ok (.aload_n 0, 1) := by decide +kernel
theorem dX11_next_68 : decode cX11_next 68 = .ok (.getfield 24, 3) := by decide +kernel
theorem dX11_next_71 : decode cX11_next 71 = .ok (.putfield 138, 3) := by decide +kernel
theorem dX11_next_74 : decode cX11_next 74 = .ok (.aload_n 0, 1) := by decide +kernel
theorem dX11_next_75 : decode cX11_next 75 = .ok (.iconst 4, 1) := by decide +kernel
theorem dX11_next_76 : decode cX11_next 76 = .ok (.putfield 144, 3) := by decide +kernel
theorem dX11_next_79 : decode cX11_next 79 = .ok (.return_, 1) := by decide +kernel
theorem dX11_next_80 : decode cX11_next 80 = .ok (.aload_n 0, 1) := by decide +kernel
theorem dX11_next_81 : decode cX11_next 81 = .ok (.invokevirtual 134, 3) := by decide +kernel
theorem dX11_next_84 : decode cX11_next 84 = .ok (.istore_n 1, 1) := by decide +kernel
theorem dX11_next_85 : decode cX11_next 85 = .ok (.iload_n 1, 1) := by decide +kernel
theorem dX11_next_86 : decode cX11_next 86 = .ok (.ifCond .ge 9, 3) := by decide +kernel
theorem dX11_next_89 : decode cX11_next 89 = .ok (.aload_n 0, 1) := by decide +kernel
theorem dX11_next_90 : decode cX11_next 90 = .ok (.iconst 0, 1) := by decide +kernel
theorem dX11_next_91 : decode cX11_next 91 = .ok (.putfield 144, 3) := by decide +kernel
theorem dX11_next_94 : decode cX11_next 94 = .ok (.return_, 1) := by decide +kernel
theorem dX11_next_95 : decode cX11_next 95 = .ok (.iload_n 1, 1) := by decide +kernel
theorem dX11_next_96 : decode cX11_next 96 = .ok (.invokestatic 147, 3) := by decide +kernel
theorem dX11_next_99 : decode cX11_next 99 = .ok (.ifCond .ne 65, 3) := by decide +kernel
theorem dX11_next_102 : decode cX11_next 102 = .ok (.iload_n 1, 1) := by decide +kernel
theorem dX11_next_103 : decode cX11_next 103 = .ok (.invokestatic 151, 3) := by decide +kernel
theorem dX11_next_106 : decode cX11_next 106 = .ok (.ifCond .ne 58, 3) := by decide +kernel
theorem dX11_next_109 : decode cX11_next 109 = .ok (.aload_n 0, 1) := by decide +kernel
theorem dX11_next_110 : decode cX11_next 110 = .ok (.iload_n 1, 1) := by decide +kernel
theorem dX11_next_111 : decode cX11_next 111 = .ok (.bipush 59, 2) := by decide +kernel
theorem dX11_next_113 : decode cX11_next 113 = .ok (.if_icmp .eq 27, 3) := by decide +kernel
theorem dX11_next_116 : decode cX11_next 116 = .ok (.iload_n 1, 1) := by decide +kernel
theorem dX11_next_117 : decode cX11_next 117 = .ok (.bipush 40, 2) := by decide +kernel
theorem dX11_next_119 : decode cX11_next 119 = .ok (.if_icmp .eq 21, 3) := by decide +kernel
theorem dX11_next_122 : decode cX11_next 122 = .ok (.iload_n 1, 1) := by decide +kernel
theorem dX11_next_123 : decode cX11_next 123 = .ok (.bipush 41, 2) := by decide +kernel
theorem dX11_next_125 : decode cX11_next 125 = .ok (.if_icmp .eq 15, 3) := by decide +kernel
theorem dX11_next_128 : decode cX11_next 128 = .ok (.iload_n 1, 1) := by decide +kernel
theorem dX11_next_129 : decode cX11_next 129 = .ok (.bipush 60, 2) := by decide +kernel
theorem dX11_next_131 : decode cX11_next 131 = .ok (.if_icmp .lt 13, 3) := by decide +kernel
theorem dX11_next_134 : decode cX11_next 134 = .ok (.iload_n 1, 1) := by decide +kernel
theorem dX11_next_135 : decode cX11_next 135 = .ok (.bipush 62, 2) := by decide +kernel
theorem dX11_next_137 : decode cX11_next 137 = .ok (.if_icmp .gt 7, 3) := by decide +kernel
theorem dX11_next_140 : decode cX11_next 140 = .ok (.iconst 3, 1) := by decide +kernel
theorem dX11_next_141 : decode cX11_next 141 = .ok (.goto 4, 3) := by decide +kernel
theorem dX11_next_144 : decode cX11_next 144 = .ok (.iconst 4, 1) := by decide +kernel
theorem dX11_next_145 : decode cX11_next 145 = .ok (.putfield 144, 3) := by decide +kernel
theorem dX11_next_148 : decode cX11_next 148 = .ok (.aload_n 0, 1) := by decide +kernel
theorem dX11_next_149 : decode cX11_next 149 = .ok (.iload_n 1, 1) := by decide +kernel
theorem dX11_next_150 : decode cX11_next 150 = .ok (.putfield 154, 3) := by decide +kernel
theorem dX11_next_153 : decode cX11_next 153 = .ok (.aload_n 0, 1) := by decide +kernel
theorem dX11_next_154 : decode cX11_next 154 = .ok (.dup, 1) := by decide +kernel
theorem dX11_next_155 : decode cX11_next 155 = .ok (.getfield 21, 3) := by decide +kernel
theorem dX11_next_158 : decode cX11_next 158 = .ok (.iconst 1, 1) := by decide +kernel
theorem dX11_next_159 : decode cX11_next 159 = .ok (.iadd, 1) := by decide +kernel
theorem dX11_next_160 : decode cX11_next 160 = .ok (.putfield 21, 3) := by decide +kernel
theorem dX11_next_163 : decode cX11_next 163 = .ok (.return_, 1) := by decide +kernel
theorem dX11_next_164 : decode cX11_next 164 = .ok (.iload_n 1, 1) := by decide +kernel
theorem dX11_next_165 : decode cX11_next 165 = .ok (.invokestatic 147, 3) := by decide +kernel
theorem dX11_next_168 : decode cX11_next 168 = .ok (.istore_n 2, 1) := by decide +kernel
theorem dX11_next_169 : decode cX11_next 169 = .ok (.iconst 1, 1) := by decide +kernel
theorem dX11_next_170 : decode cX11_next 170 = .ok (.istore_n 3, 1) := by decide +kernel
theorem dX11_next_171 : decode cX11_next 171 = .ok (.aload_n 0, 1) := by decide +kernel
theorem dX11_next_172 : decode cX11_next 172 = .ok (.lconst 0, 1) := by decide +kernel
theorem dX11_next_173 : decode cX11_next 173 = .ok (.putfield 157, 3) := by decide +kernel
theorem dX11_next_176 : decode cX11_next 176 = .ok (.aload_n 0, 1) := by decide +kernel
theorem dX11_next_177 : decode cX11_next 177 = .ok (.iconst 0, 1) := by decide +kernel
theorem dX11_next_178 : decode cX11_next 178 = .ok (.putfield 154, 3) := by decide +kernel
theorem dX11_next_181 : decode cX11_next 181 = .ok (.aload_n 0, 1) := by decide +kernel
theorem dX11_next_182 : decode cX11_next 182 = .ok (.invokevirtual 134, 3) := by decide +kernel
theorem dX11_next_185 : decode cX11_next 185 = .ok (.invokestatic 147, 3) := by decide +kernel
theorem dX11_next_188 : decode cX11_next 188 = .ok (.ifCond .ne 13, 3) := by decide +kernel
theorem dX11_next_191 : decode cX11_next 191 = .ok (.aload_n 0, 1) := by decide +kernel
theorem dX11_next_192 : decode cX11_next 192 = .ok (.invokevirtual 134, 3) := by decide +kernel
theorem dX11_next_195 : decode cX11_next 195 = .ok (.invokestatic 151, 3) := by decide +kernel
theorem dX11_next_198 : decode cX11_next 198 = .ok (.ifCond .eq 100, 3) := by decide +kernel
theorem dX11_next_201 : decode cX11_next 201 = .ok (.iload_n 3, 1) := by decide +kernel
theorem dX11_next_202 : decode cX11_next 202 = .ok (.ifCond .eq 18, 3) := by decide +kernel
theorem dX11_next_205 : decode cX11_next 205 = .ok (.aload_n 0, 1) := by decide +kernel
theorem dX11_next_206 : decode cX11_next 206 = .ok (.invokevirtual 134, 3) := by decide +kernel
theorem dX11_next_209 : decode cX11_next 209 = .ok (.invokestatic 147, 3) := by decide +kernel
theorem dX11_next_212 : decode cX11_next 212 = .ok (.iload_n 2, 1) := by decide +kernel
theorem dX11_next_213 : decode cX11_next 213 = .ok (.if_icmp .ne 7, 3) := by decide +kernel
theorem dX11_next_216 : decode cX11_next 216 = .ok (.iconst 1, 1) := by decide +kernel
theorem dX11_next_217 : decode cX11_next 217 = .ok (.goto 4, 3) := by decide +kernel
theorem dX11_next_220 : decode cX11_next 220 = .ok (.iconst 0, 1) := by decide +kernel
theorem dX11_next_221 : decode cX11_next 221 = .ok (.istore_n 3, 1) := by decide +kernel
theorem dX11_next_222 : decode cX11_next 222 = .ok (.aload_n 0, 1) := by decide +kernel
theorem dX11_next_223 : decode cX11_next 223 = .ok (.getfield 141, 3) := by decide +kernel
theorem dX11_next_226 : decode cX11_next 226 = .ok (.bipush 7, 2) := by decide +kernel
theorem dX11_next_228 : decode cX11_next 228 = .ok (.if_icmp .ge 20, 3) := by decide +kernel
theorem dX11_next_231 : decode cX11_next 231 = .ok (.aload_n 0, 1) := by decide +kernel
theorem dX11_next_232 : decode cX11_next 232 = .ok (.aload_n 0, 1) := by decide +kernel
theorem dX11_next_233 : decode cX11_next 233 = .ok (.getfield 157, 3) := by decide +kernel
theorem dX11_next_236 : decode cX11_next 236 = .ok (.bipush 8, 2) := by decide +kernel
theorem dX11_next_238 : decode cX11_next 238 = .ok (.lshl, 1) := by decide +kernel
theorem dX11_next_239 : decode cX11_next 239 = .ok (.aload_n 0, 1) := by decide +kernel
theorem dX11_next_240 : decode cX11_next 240 = .ok (.invokevirtual 134, 3) := by decide +kernel
theorem dX11_next_243 : decode cX11_next 243 = .ok (.i2l, 1) := by decide +kernel
theorem dX11_next_244 : decode cX11_next 244 = .ok (.lor, 1) := by decide +kernel
theorem dX11_next_245 : decode cX11_next 245 = .ok (.putfield 157, 3) := by decide +kernel
theorem dX11_next_248 : decode cX11_next 248 = .ok (.aload_n 0, 1) := by decide +kernel
theorem dX11_next_249 : decode cX11_next 249 = .ok (.getfield 141, 3) := by decide +kernel
theorem dX11_next_252 : decode cX11_next 252 = .ok (.iconst 3, 1) := by decide +kernel
theorem dX11_next_253 : decode cX11_next 253 = .ok (.if_icmp .ge 22, 3) := by decide +kernel
theorem dX11_next_256 : decode cX11_next 256 = .ok (.aload_n 0, 1) := by decide +kernel
theorem dX11_next_257 : decode cX11_next 257 = .ok (.bipush 10, 2) := by decide +kernel
theorem dX11_next_259 : decode cX11_next 259 = .ok (.aload_n 0, 1) := by decide +kernel
theorem dX11_next_260 : decode cX11_next 260 = .ok (.getfield 154, 3) := by decide +kernel
theorem dX11_next_263 : decode cX11_next 263 = .ok (.imul, 1) := by decide +kernel
theorem dX11_next_264 : decode cX11_next 264 = .ok (.aload_n 0, 1) := by decide +kernel
theorem dX11_next_265 : decode cX11_next 265 = .ok (.invokevirtual 134, 3) := by decide +kernel
theorem dX11_next_268 : decode cX11_next 268 = .ok (.iadd, 1) := by decide +kernel
theorem dX11_next_269 : decode cX11_next 269 = .ok (.bipush 48, 2) := by decide +kernel
theorem dX11_next_271 : decode cX11_next 271 = .ok (.isub, 1) := by decide +kernel
theorem dX11_next_272 : decode cX11_next 272 = .ok (.putfield 154, 3) := by decide +kernel
theorem dX11_next_275 : decode cX11_next 275 = .ok (.aload_n 0, 1) := by decide +kernel
theorem dX11_next_276 : decode cX11_next 276 = .ok (.dup, 1) := by decide +kernel
theorem dX11_next_277 : decode cX11_next 277 = .ok (.getfield 141, 3) := by decide +kernel
theorem dX11_next_280 : decode cX11_next 280 = .ok (.iconst 1, 1) := by decide +kernel
theorem dX11_next_281 : decode cX11_next 281 = .ok (.iadd, 1) := by decide +kernel
theorem dX11_next_282 : decode cX11_next 282 = .ok (.putfield 141, 3) := by decide +kernel
theorem dX11_next_285 : decode cX11_next 285 = .ok (.aload_n 0, 1) := by decide +kernel
theorem dX11_next_286 : decode cX11_next 286 = .ok (.dup, 1) := by decide +kernel
theorem dX11_next_287 : decode cX11_next 287 = .ok (.getfield 21, 3) := by decide +kernel
theorem dX11_next_290 : decode cX11_next 290 = .ok (.iconst 1, 1) := by decide +kernel
theorem dX11_next_291 : decode cX11_next 291 = .ok (.iadd, 1) := by decide +kernel
theorem dX11_next_292 : decode cX11_next 292 = .ok (.putfield 21, 3) := by decide +kernel
theorem dX11_next_295 : decode cX11_next 295 = .ok (.goto (-114), 3) := by decide +kernel
theorem dX11_next_298 : decode cX11_next 298 = .ok (.aload_n 0, 1) := by decide +kernel
theorem dX11_next_299 : decode cX11_next 299 = .ok (.iload_n 3, 1) := by decide +kernel
theorem dX11_next_300 : decode cX11_next 300 = .ok (.ifCond .eq 20, 3) := by decide +kernel
theorem dX11_next_303 : decode cX11_next 303 = .ok (.aload_n 0, 1) := by decide +kernel
theorem dX11_next_304 : decode cX11_next 304 = .ok (.getfield 141, 3) := by decide +kernel
theorem dX11_next_307 : decode cX11_next 307 = .ok (.iload_n 2, 1) := by decide +kernel
theorem dX11_next_308 : decode cX11_next 308 = .ok (.ifCond .eq 8, 3) := by decide +kernel
theorem dX11_next_311 : decode cX11_next 311 = .ok (.bipush 7, 2) := by decide +kernel
theorem dX11_next_313 : decode cX11_next 313 = .ok (.goto 4, 3) := by decide +kernel
theorem dX11_next_316 : decode cX11_next 316 = .ok (.iconst 3, 1) := by decide +kernel
theorem dX11_next_317 : decode cX11_next 317 = .ok (.if_icmp .le 7, 3) := by decide +kernel
theorem dX11_next_320 : decode cX11_next 320 = .ok (.iconst 4, 1) := by decide +kernel
theorem dX11_next_321 : decode cX11_next 321 = .ok (.goto 12, 3) := by decide +kernel
theorem dX11_next_324 : decode cX11_next 324 = .ok (.iload_n 2, 1) := by decide +kernel
theorem dX11_next_325 : decode cX11_next 325 = .ok (.ifCond .eq 7, 3) := by decide +kernel
theorem dX11_next_328 : decode cX11_next 328 = .ok (.iconst 1, 1) := by decide +kernel
theorem dX11_next_329 : decode cX11_next 329 = .ok (.goto 4, 3) := by decide +kernel
theorem dX11_next_332 : decode cX11_next 332 = .ok (.iconst 2, 1) := by decide +kernel
theorem dX11_next_333 : decode cX11_next 333 = .ok (.putfield 144, 3) := by decide +kernel
theorem dX11_next_336 : decode cX11_next 336 = .ok (.return_, 1) := by decide +kernel
theorem dX11_bad_0 : decode cX11_bad 0 = .ok (.aload_n 0, 1) := by decide +kernel
theorem dX11_bad_1 : decode cX11_bad 1 = .ok (.iload_n 1, 1) := by decide +kernel
theorem dX11_bad_2 : decode cX11_bad 2 = .ok (.putfield 161, 3) := by decide +kernel
theorem dX11_bad_5 : decode cX11_bad 5 = .ok (.aload_n 0, 1) := by decide +kernel
theorem dX11_bad_6 : decode cX11_bad 6 = .ok (.aload_n 0, 1) := by decide +kernel
theorem dX11_bad_7 : decode cX11_bad 7 = .ok (.getfield 138, 3) := by decide +kernel
theorem dX11_bad_10 : decode cX11_bad 10 = .ok (.putfield 164, 3) := by decide +kernel
theorem dX11_bad_13 : decode cX11_bad 13 = .ok (.iconst 0, 1) := by decide +kernel
theorem dX11_bad_14 : decode cX11_bad 14 = .ok (.ireturn, 1) := by decide +kernel
theorem dX11_isWord_0 : decode cX11_isWord 0 = .ok (.aload_n 0, 1) := by decide +kernel
theorem dX11_isWord_1 : decode cX11_isWord 1 = .ok (.getfield 144, 3) := by decide +kernel
theorem dX11_isWord_4 : decode cX11_isWord 4 = .ok (.iconst 1, 1) := by decide +kernel
theorem dX11_isWord_5 : decode cX11_isWord 5 = .ok (.if_icmp .ne 16, 3) := by decide +kernel
theorem dX11_isWord_8 : decode cX11_isWord 8 = .ok (.aload_n 0, 1) := by decide +kernel
theorem dX11_isWord_9 : decode cX11_isWord 9 = .ok (.getfield 157, 3) := by decide +kernel
theorem dX11_isWord_12 : decode cX11_isWord 12 = .ok (.lload_n 1, 1) := by decide +kernel
theorem dX11_isWord_13 : decode cX11_isWord 13 = .ok (.lcmp, 1) := by decide +kernel
theorem dX11_isWord_14 : decode cX11_isWord 14 = .ok (.ifCond .ne 7, 3) := by decide +kernel
theorem dX11_isWord_17 : decode cX11_isWord 17 = .ok (.iconst 1, 1) := by decide +kernel
theorem dX11_isWord_18 : decode cX11_isWord 18 = .ok (.goto 4, 3) := by decide +kernel
theorem dX11_isWord_21 : decode cX11_isWord 21 = .ok (.iconst 0, 1) := by decide +kernel
theorem dX11_isWord_22 : decode cX11_isWord 22 = .ok (.ireturn, 1) := by decide +kernel
theorem dX11_isSign_0 : decode cX11_isSign 0 = .ok (.aload_n 0, 1) := by decide +kernel
theorem dX11_isSign_1 : decode cX11_isSign 1 = .ok (.getfield 144, 3) := by decide +kernel
theorem dX11_isSign_4 : decode cX11_isSign 4 = .ok (.iconst 3, 1) := by decide +kernel
theorem dX11_isSign_5 : decode cX11_isSign 5 = .ok (.if_icmp .ne 15, 3) := by decide +kernel
theorem dX11_isSign_8 : decode cX11_isSign 8 = .ok (.aload_n 0, 1) := by decide +kernel
theorem dX11_isSign_9 : decode cX11_isSign 9 = .ok (.getfield 154, 3) := by decide +kernel
theorem dX11_isSign_12 : decode cX11_isSign 12 = .ok (.iload_n 1, 1) := by decide +kernel
theorem dX11_isSign_13 : decode cX11_isSign 13 = .ok (.if_icmp .ne 7, 3) := by decide +kernel
theorem dX11_isSign_16 : decode cX11_isSign 16 = .ok (.iconst 1, 1) := by decide +kernel
theorem dX11_isSign_17 : decode cX11_isSign 17 = .ok (.goto 4, 3) := by decide +kernel
theorem dX11_isSign_20 : decode cX11_isSign 20 = .ok (.iconst 0, 1) := by decide +kernel
theorem dX11_isSign_21 : decode cX11_isSign 21 = .ok (.ireturn, 1) := by decide +kernel
theorem dX11_sign_0 : decode cX11_sign 0 = .ok (.aload_n 0, 1) := by decide +kernel
theorem dX11_sign_1 : decode cX11_sign 1 = .ok (.iload_n 1, 1) := by decide +kernel
theorem dX11_sign_2 : decode cX11_sign 2 = .ok (.invokevirtual 167, 3) := by decide +kernel
theorem dX11_sign_5 : decode cX11_sign 5 = .ok (.ifCond .ne 9, 3) := by decide +kernel
theorem dX11_sign_8 : decode cX11_sign 8 = .ok (.aload_n 0, 1) := by decide +kernel
theorem dX11_sign_9 : decode cX11_sign 9 = .ok (.iconst 1, 1) := by decide +kernel
theorem dX11_sign_10 : decode cX11_sign 10 = .ok (.invokevirtual 170, 3) := by decide +kernel
theorem dX11_sign_13 : decode cX11_sign 13 = .ok (.ireturn, 1) := by decide +kernel
theorem dX11_sign_14 : decode cX11_sign 14 = .ok (.aload_n 0, 1) := by decide +kernel
theorem dX11_sign_15 : decode cX11_sign 15 = .ok (.invokevirtual 173, 3) := by decide +kernel
theorem dX11_sign_18 : decode cX11_sign 18 = .ok (.iconst 1, 1) := by decide +kernel
theorem dX11_sign_19 : decode cX11_sign 19 = .ok (.ireturn, 1) := by decide +kernel
theorem dX11_isName_0 : decode cX11_isName 0 = .ok (.aload_n 0, 1) := by decide +kernel
theorem dX11_isName_1 : decode cX11_isName 1 = .ok (.getfield 144, 3) := by decide +kernel
theorem dX11_isName_4 : decode cX11_isName 4 = .ok (.iconst 1, 1) := by decide +kernel
theorem dX11_isName_5 : decode cX11_isName 5 = .ok (.if_icmp .ne 7, 3) := by decide +kernel
theorem dX11_isName_8 : decode cX11_isName 8 = .ok (.iconst 1, 1) := by decide +kernel
theorem dX11_isName_9 : decode cX11_isName 9 = .ok (.goto 4, 3) := by decide +kernel
theorem dX11_isName_12 : decode cX11_isName 12 = .ok (.iconst 0, 1) := by decide +kernel
theorem dX11_isName_13 : decode cX11_isName 13 = .ok (.istore_n 1, 1) := by decide +kernel
theorem dX11_isName_14 : decode cX11_isName 14 = .ok (.iconst 0, 1) := by decide +kernel
theorem dX11_isName_15 : decode cX11_isName 15 = .ok (.istore_n 2, 1) := by decide +kernel
theorem dX11_isName_16 : decode cX11_isName 16 = .ok (.iload_n 2, 1) := by decide +kernel
theorem dX11_isName_17 : decode cX11_isName 17 = .ok (.bipush 22, 2) := by decide +kernel
theorem dX11_isName_19 : decode cX11_isName 19 = .ok (.if_icmp .ge 33, 3) := by decide +kernel
theorem dX11_isName_22 : decode cX11_isName 22 = .ok (.iload_n 1, 1) := by decide +kernel
theorem dX11_isName_23 : decode cX11_isName 23 = .ok (.ifCond .eq 21, 3) := by decide +kernel
theorem dX11_isName_26 : decode cX11_isName 26 = .ok (.aload_n 0, 1) := by decide +kernel
theorem dX11_isName_27 : decode cX11_isName 27 = .ok (.getfield 157, 3) := by decide +kernel
theorem dX11_isName_30 : decode cX11_isName 30 = .ok (.aload_n 0, 1) := by decide +kernel
theorem dX11_isName_31 : decode cX11_isName 31 = .ok (.getfield 47, 3) := by decide +kernel
theorem dX11_isName_34 : decode cX11_isName 34 = .ok (.iload_n 2, 1) := by decide +kernel
theorem dX11_isName_35 : decode cX11_isName 35 = .ok (.laload, 1) := by decide +kernel
theorem dX11_isName_36 : decode cX11_isName 36 = .ok (.lcmp, 1) := by decide +kernel
theorem dX11_isName_37 : decode cX11_isName 37 = .ok (.ifCond .eq 7, 3) := by decide +kernel
theorem dX11_isName_40 : decode cX11_isName 40 = .ok (.iconst 1, 1) := by decide +kernel
theorem dX11_isName_41 : decode cX11_isName 41 = .ok (.goto 4, 3) := by decide +kernel
theorem dX11_isName_44 : decode cX11_isName 44 = .ok (.iconst 0, 1) := by decide +kernel
theorem dX11_isName_45 : decode cX11_isName 45 = .ok (.istore_n 1, 1) := by decide +kernel
theorem dX11_isName_46 : decode cX11_isName 46 = .ok (.iinc 2 1, 3) := by decide +kernel
theorem dX11_isName_49 : decode cX11_isName 49 = .ok (.goto (-33), 3) := by decide +kernel
theorem dX11_isName_52 : decode cX11_isName 52 = .ok (.iload_n 1, 1) := by decide +kernel
theorem dX11_isName_53 : decode cX11_isName 53 = .ok (.ireturn, 1) := by decide +kernel
theorem dX11_takes_0 : decode cX11_takes 0 = .ok (.aload_n 0, 1) := by decide +kernel
theorem dX11_takes_1 : decode cX11_takes 1 = .ok (.getfield 144, 3) := by decide +kernel
theorem dX11_takes_4 : decode cX11_takes 4 = .ok (.iconst 2, 1) := by decide +kernel
theorem dX11_takes_5 : decode cX11_takes 5 = .ok (.if_icmp .eq 9, 3) := by decide +kernel
theorem dX11_takes_8 : decode cX11_takes 8 = .ok (.aload_n 0, 1) := by decide +kernel
theorem dX11_takes_9 : decode cX11_takes 9 = .ok (.iconst 1, 1) := by decide +kernel
theorem dX11_takes_10 : decode cX11_takes 10 = .ok (.invokevirtual 170, 3) := by decide +kernel
theorem dX11_takes_13 : decode cX11_takes 13 = .ok (.ireturn, 1) := by decide +kernel
theorem dX11_takes_14 : decode cX11_takes 14 = .ok (.aload_n 0, 1) := by decide +kernel
theorem dX11_takes_15 : decode cX11_takes 15 = .ok (.getfield 154, 3) := by decide +kernel
theorem dX11_takes_18 : decode cX11_takes 18 = .ok (.iload_n 1, 1) := by decide +kernel
theorem dX11_takes_19 : decode cX11_takes 19 = .ok (.iload_n 2, 1) := by decide +kernel
theorem dX11_takes_20 : decode cX11_takes 20 = .ok (.invokestatic 176, 3) := by decide +kernel
theorem dX11_takes_23 : decode cX11_takes 23 = .ok (.ifCond .ne 9, 3) := by decide +kernel
theorem dX11_takes_26 : decode cX11_takes 26 = .ok (.aload_n 0, 1) := by decide +kernel
theorem dX11_takes_27 : decode cX11_takes 27 = .ok (.iconst 2, 1) := by decide +kernel
theorem dX11_takes_28 : decode cX11_takes 28 = .ok (.invokevirtual 170, 3) := by decide +kernel
theorem dX11_takes_31 : decode cX11_takes 31 = .ok (.ireturn, 1) := by decide +kernel
theorem dX11_takes_32 : decode cX11_takes 32 = .ok (.aload_n 0, 1) := by decide +kernel
theorem dX11_takes_33 : decode cX11_takes 33 = .ok (.aload_n 0, 1) := by decide +kernel
theorem dX11_takes_34 : decode cX11_takes 34 = .ok (.getfield 154, 3) := by decide +kernel
theorem dX11_takes_37 : decode cX11_takes 37 = .ok (.putfield 180, 3) := by decide +kernel
theorem dX11_takes_40 : decode cX11_takes 40 = .ok (.aload_n 0, 1) := by decide +kernel
theorem dX11_takes_41 : decode cX11_takes 41 = .ok (.invokevirtual 173, 3) := by decide +kernel
theorem dX11_takes_44 : decode cX11_takes 44 = .ok (.iconst 1, 1) := by decide +kernel
theorem dX11_takes_45 : decode cX11_takes 45 = .ok (.ireturn, 1) := by decide +kernel
theorem dX11_puts_0 : decode cX11_puts 0 = .ok (.aload_n 0, 1) := by decide +kernel
theorem dX11_puts_1 : decode cX11_puts 1 = .ok (.iload_n 2, 1) := by decide +kernel
theorem dX11_puts_2 : decode cX11_puts 2 = .ok (.iload_n 3, 1) := by decide +kernel
theorem dX11_puts_3 : decode cX11_puts 3 = .ok (.invokevirtual 183, 3) := by decide +kernel
theorem dX11_puts_6 : decode cX11_puts 6 = .ok (.ifCond .ne 5, 3) := by decide +kernel
theorem dX11_puts_9 : decode cX11_puts 9 = .ok (.iconst 0, 1) := by decide +kernel
theorem dX11_puts_10 : decode cX11_puts 10 = .ok (.ireturn, 1) := by decide +kernel
theorem dX11_puts_11 : decode cX11_puts 11 = .ok (.aload_n 0, 1) := by decide +kernel
theorem dX11_puts_12 : decode cX11_puts 12 = .ok (.getfield 37, 3) := by decide +kernel
theorem dX11_puts_15 : decode cX11_puts 15 = .ok (.iload_n 1, 1) := by decide +kernel
theorem dX11_puts_16 : decode cX11_puts 16 = .ok (.aload_n 0, 1) := by decide +kernel
theorem dX11_puts_17 : decode cX11_puts 17 = .ok (.getfield 180, 3) := by decide +kernel
theorem dX11_puts_20 : decode cX11_puts 20 = .ok (.iastore, 1) := by decide +kernel
theorem dX11_puts_21 : decode cX11_puts 21 = .ok (.iconst 1, 1) := by decide +kernel
theorem dX11_puts_22 : decode cX11_puts 22 = .ok (.ireturn, 1) := by decide +kernel
theorem dX11_seek_0 : decode cX11_seek 0 = .ok (.iconst 0, 1) := by decide +kernel
theorem dX11_seek_1 : decode cX11_seek 1 = .ok (.istore_n 3, 1) := by decide +kernel
theorem dX11_seek_2 : decode cX11_seek 2 = .ok (.iload_n 3, 1) := by decide +kernel
theorem dX11_seek_3 : decode cX11_seek 3 = .ok (.iload_n 2, 1) := by decide +kernel
theorem dX11_seek_4 : decode cX11_seek 4 = .ok (.if_icmp .ge 27, 3) := by decide +kernel
theorem dX11_seek_7 : decode cX11_seek 7 = .ok (.aload_n 0, 1) := by decide +kernel
theorem dX11_seek_8 : decode cX11_seek 8 = .ok (.getfield 43, 3) := by decide +kernel
theorem dX11_seek_11 : decode cX11_seek 11 = .ok (.iload_n 1, 1) := by decide +kernel
theorem dX11_seek_12 : decode cX11_seek 12 = .ok (.iload_n 3, 1) := by decide +kernel
theorem dX11_seek_13 : decode cX11_seek 13 = .ok (.iadd, 1) := by decide +kernel
theorem dX11_seek_14 : decode cX11_seek 14 = .ok (.laload, 1) := by decide +kernel
theorem dX11_seek_15 : decode cX11_seek 15 = .ok (.aload_n 0, 1) := by decide +kernel
theorem dX11_seek_16 : decode cX11_seek 16 = .ok (.getfield 157, 3) := by decide +kernel
theorem dX11_seek_19 : decode cX11_seek 19 = .ok (.lcmp, 1) := by decide +kernel
theorem dX11_seek_20 : decode cX11_seek 20 = .ok (.ifCond .ne 5, 3) := by decide +kernel
theorem dX11_seek_23 : decode cX11_seek 23 = .ok (.iload_n 3, 1) := by decide +kernel
theorem dX11_seek_24 : decode cX11_seek 24 = .ok (.ireturn, 1) := by decide +kernel
theorem dX11_seek_25 : decode cX11_seek 25 = .ok (.iinc 3 1, 3) := by decide +kernel
theorem dX11_seek_28 : decode cX11_seek 28 = .ok (.goto (-26), 3) := by decide +kernel
theorem dX11_seek_31 : decode cX11_seek 31 = .ok (.iconst (-1), 1) := by decide +kernel
theorem dX11_seek_32 : decode cX11_seek 32 = .ok (.ireturn, 1) := by decide +kernel
theorem dX11_fresh_0 : decode cX11_fresh 0 = .ok (.aload_n 0, 1) := by decide +kernel
theorem dX11_fresh_1 : decode cX11_fresh 1 = .ok (.invokevirtual 187, 3) := by decide +kernel
theorem dX11_fresh_4 : decode cX11_fresh 4 = .ok (.ifCond .ne 9, 3) := by decide +kernel
theorem dX11_fresh_7 : decode cX11_fresh 7 = .ok (.aload_n 0, 1) := by decide +kernel
theorem dX11_fresh_8 : decode cX11_fresh 8 = .ok (.iconst 1, 1) := by decide +kernel
theorem dX11_fresh_9 : decode cX11_fresh 9 = .ok (.invokevirtual 170, 3) := by decide +kernel
theorem dX11_fresh_12 : decode cX11_fresh 12 = .ok (.ireturn, 1) := by decide +kernel
theorem dX11_fresh_13 : decode cX11_fresh 13 = .ok (.aload_n 0, 1) := by decide +kernel
theorem dX11_fresh_14 : decode cX11_fresh 14 = .ok (.bipush 18, 2) := by decide +kernel
theorem dX11_fresh_16 : decode cX11_fresh 16 = .ok (.aload_n 0, 1) := by decide +kernel
theorem dX11_fresh_17 : decode cX11_fresh 17 = .ok (.getfield 37, 3) := by decide +kernel
theorem dX11_fresh_20 : decode cX11_fresh 20 = .ok (.iconst 0, 1) := by decide +kernel
theorem dX11_fresh_21 : decode cX11_fresh 21 = .ok (.iaload, 1) := by decide +kernel
theorem dX11_fresh_22 : decode cX11_fresh 22 = .ok (.invokevirtual 191, 3) := by decide +kernel
theorem dX11_fresh_25 : decode cX11_fresh 25 = .ok (.ifCond .ge 33, 3) := by decide +kernel
theorem dX11_fresh_28 : decode cX11_fresh 28 = .ok (.aload_n 0, 1) := by decide +kernel
theorem dX11_fresh_29 : decode cX11_fresh 29 = .ok (.bipush 26, 2) := by decide +kernel
theorem dX11_fresh_31 : decode cX11_fresh 31 = .ok (.aload_n 0, 1) := by decide +kernel
theorem dX11_fresh_32 : decode cX11_fresh 32 = .ok (.getfield 37, 3) := by decide +kernel
theorem dX11_fresh_35 : decode cX11_fresh 35 = .ok (.iconst 1, 1) := by decide +kernel
theorem dX11_fresh_36 : decode cX11_fresh 36 = .ok (.iaload, 1) := by decide +kernel
theorem dX11_fresh_37 : decode cX11_fresh 37 = .ok (.invokevirtual 191, 3) := by decide +kernel
theorem dX11_fresh_40 : decode cX11_fresh 40 = .ok (.ifCond .ge 18, 3) := by decide +kernel
theorem dX11_fresh_43 : decode cX11_fresh 43 = .ok (.aload_n 0, 1) := by decide +kernel
theorem dX11_fresh_44 : decode cX11_fresh 44 = .ok (.bipush 32, 2) := by decide +kernel
theorem dX11_fresh_46 : decode cX11_fresh 46 = .ok (.aload_n 0, 1) := by decide +kernel
theorem dX11_fresh_47 : decode cX11_fresh 47 = .ok (.getfield 37, 3) := by decide +kernel
theorem dX11_fresh_50 : decode cX11_fresh 50 = .ok (.iconst 3, 1) := by decide +kernel
theorem dX11_fresh_51 : decode cX11_fresh 51 = .ok (.iaload, 1) := by decide +kernel
theorem dX11_fresh_52 : decode cX11_fresh 52 = .ok (.invokevirtual 191, 3) := by decide +kernel
theorem dX11_fresh_55 : decode cX11_fresh 55 = .ok (.ifCond .lt 9, 3) := by decide +kernel
theorem dX11_fresh_58 : decode cX11_fresh 58 = .ok (.aload_n 0, 1) := by decide +kernel
theorem dX11_fresh_59 : decode cX11_fresh 59 = .ok (.iconst 3, 1) := by decide +kernel
theorem dX11_fresh_60 : decode cX11_fresh 60 = .ok (.invokevirtual 170, 3) := by decide +kernel
theorem dX11_fresh_63 : decode cX11_fresh 63 = .ok (.ireturn, 1) := by decide +kernel
theorem dX11_fresh_64 : decode cX11_fresh 64 = .ok (.aload_n 0, 1) := by decide +kernel
theorem dX11_fresh_65 : decode cX11_fresh 65 = .ok (.getfield 43, 3) := by decide +kernel
theorem dX11_fresh_68 : decode cX11_fresh 68 = .ok (.iload_n 1, 1) := by decide +kernel
theorem dX11_fresh_69 : decode cX11_fresh 69 = .ok (.aload_n 0, 1) := by decide +kernel
theorem dX11_fresh_70 : decode cX11_fresh 70 = .ok (.getfield 157, 3) := by decide +kernel
theorem dX11_fresh_73 : decode cX11_fresh 73 = .ok (.lastore, 1) := by decide +kernel
theorem dX11_fresh_74 : decode cX11_fresh 74 = .ok (.aload_n 0, 1) := by decide +kernel
theorem dX11_fresh_75 : decode cX11_fresh 75 = .ok (.invokevirtual 173, 3) := by decide +kernel
theorem dX11_fresh_78 : decode cX11_fresh 78 = .ok (.iconst 1, 1) := by decide +kernel
theorem dX11_fresh_79 : decode cX11_fresh 79 = .ok (.ireturn, 1) := by decide +kernel
theorem dX11_looksAt_0 : decode cX11_looksAt 0 = .ok (.aload_n 0, 1) := by decide +kernel
theorem dX11_looksAt_1 : decode cX11_looksAt 1 = .ok (.invokevirtual 187, 3) := by decide +kernel
theorem dX11_looksAt_4 : decode cX11_looksAt 4 = .ok (.ifCond .ne 9, 3) := by decide +kernel
theorem dX11_looksAt_7 : decode cX11_looksAt 7 = .ok (.aload_n 0, 1) := by decide +kernel
theorem dX11_looksAt_8 : decode cX11_looksAt 8 = .ok (.iconst 1, 1) := by decide +kernel
theorem dX11_looksAt_9 : decode cX11_looksAt 9 = .ok (.invokevirtual 170, 3) := by decide +kernel
theorem dX11_looksAt_12 : decode cX11_looksAt 12 = .ok (.ireturn, 1) := by decide +kernel
theorem dX11_looksAt_13 : decode cX11_looksAt 13 = .ok (.aload_n 0, 1) := by decide +kernel
theorem dX11_looksAt_14 : decode cX11_looksAt 14 = .ok (.aload_n 0, 1) := by decide +kernel
theorem dX11_looksAt_15 : decode cX11_looksAt 15 = .ok (.iload_n 1, 1) := by decide +kernel
theorem dX11_looksAt_16 : decode cX11_looksAt 16 = .ok (.iload_n 2, 1) := by decide +kernel
theorem dX11_looksAt_17 : decode cX11_looksAt 17 = .ok (.invokevirtual 191, 3) := by decide +kernel
theorem dX11_looksAt_20 : decode cX11_looksAt 20 = .ok (.putfield 180, 3) := by decide +kernel
theorem dX11_looksAt_23 : decode cX11_looksAt 23 = .ok (.aload_n 0, 1) := by decide +kernel
theorem dX11_looksAt_24 : decode cX11_looksAt 24 = .ok (.getfield 180, 3) := by decide +kernel
theorem dX11_looksAt_27 : decode cX11_looksAt 27 = .ok (.ifCond .ge 11, 3) := by decide +kernel
theorem dX11_looksAt_30 : decode cX11_looksAt 30 = .ok (.aload_n 0, 1) := by decide +kernel
theorem dX11_looksAt_31 : decode cX11_looksAt 31 = .ok (.iconst 3, 1) := by decide +kernel
theorem dX11_looksAt_32 : decode cX11_looksAt 32 = .ok (.invokevirtual 170, 3) := by decide +kernel
theorem dX11_looksAt_35 : decode cX11_looksAt 35 = .ok (.ifCond .eq 7, 3) := by decide +kernel
theorem dX11_looksAt_38 : decode cX11_looksAt 38 = .ok (.iconst 1, 1) := by decide +kernel
theorem dX11_looksAt_39 : decode cX11_looksAt 39 = .ok (.goto 4, 3) := by decide +kernel
theorem dX11_looksAt_42 : decode cX11_looksAt 42 = .ok (.iconst 0, 1) := by decide +kernel
theorem dX11_looksAt_43 : decode cX11_looksAt 43 = .ok (.ireturn, 1) := by decide +kernel
theorem dX11_takesName_0 : decode cX11_takesName 0 = .ok (.aload_n 0, 1) := by decide +kernel
theorem dX11_takesName_1 : decode cX11_takesName 1 = .ok (.iload_n 1, 1) := by decide +kernel
theorem dX11_takesName_2 : decode cX11_takesName 2 = .ok (.iload_n 2, 1) := by decide +kernel
theorem dX11_takesName_3 : decode cX11_takesName 3 = .ok (.invokevirtual 195, 3) := by decide +kernel
theorem dX11_takesName_6 : decode cX11_takesName 6 = .ok (.ifCond .ne 5, 3) := by decide +kernel
theorem dX11_takesName_9 : decode cX11_takesName 9 = .ok (.iconst 0, 1) := by decide +kernel
theorem dX11_takesName_10 : decode cX11_takesName 10 = .ok (.ireturn, 1) := by decide +kernel
theorem dX11_takesName_11 : decode cX11_takesName 11 = .ok (.aload_n 0, 1) := by decide +kernel
theorem dX11_takesName_12 : decode cX11_takesName 12 = .ok (.invokevirtual 173, 3) := by decide +kernel
theorem dX11_takesName_15 : decode cX11_takesName 15 = .ok (.iconst 1, 1) := by decide +kernel
theorem dX11_takesName_16 : decode cX11_takesName 16 = .ok (.ireturn, 1) := by decide +kernel
theorem dX11_readBed_0 : decode cX11_readBed 0 = .ok (.aload_n 0, 1) := by decide +kernel
theorem dX11_readBed_1 : decode cX11_readBed 1 = .ok (.getfield 37, 3) := by decide +kernel
theorem dX11_readBed_4 : decode cX11_readBed 4 = .ok (.iconst 3, 1) := by decide +kernel
theorem dX11_readBed_5 : decode cX11_readBed 5 = .ok (.iaload, 1) := by decide +kernel
theorem dX11_readBed_6 : decode cX11_readBed 6 = .ok (.istore_n 1, 1) := by decide +kernel
theorem dX11_readBed_7 : decode cX11_readBed 7 = .ok (.iload_n 1, 1) := by decide +kernel
theorem dX11_readBed_8 : decode cX11_readBed 8 = .ok (.iconst 4, 1) := by decide +kernel
theorem dX11_readBed_9 : decode cX11_readBed 9 = .ok (.if_icmp .ne 9, 3) := by decide +kernel
theorem dX11_readBed_12 : decode cX11_readBed 12 = .ok (.aload_n 0, 1) := by decide +kernel
theorem dX11_readBed_13 : decode cX11_readBed 13 = .ok (.iconst 4, 1) := by decide +kernel
theorem dX11_readBed_14 : decode cX11_readBed 14 = .ok (.invokevirtual 170, 3) := by decide +kernel
theorem dX11_readBed_17 : decode cX11_readBed 17 = .ok (.ireturn, 1) := by decide +kernel
theorem dX11_readBed_18 : decode cX11_readBed 18 = .ok (.aload_n 0, 1) := by decide +kernel
theorem dX11_readBed_19 : decode cX11_readBed 19 = .ok (.invokevirtual 173, 3) := by decide +kernel
theorem dX11_readBed_22 : decode cX11_readBed 22 = .ok (.aload_n 0, 1) := by decide +kernel
theorem dX11_readBed_23 : decode cX11_readBed 23 = .ok (.bipush 32, 2) := by decide +kernel
theorem dX11_readBed_25 : decode cX11_readBed 25 = .ok (.iload_n 1, 1) := by decide +kernel
theorem dX11_readBed_26 : decode cX11_readBed 26 = .ok (.iadd, 1) := by decide +kernel
theorem dX11_readBed_27 : decode cX11_readBed 27 = .ok (.invokevirtual 224, 3) := by decide +kernel
theorem dX11_readBed_30 : decode cX11_readBed 30 = .ok (.ifCond .eq 17, 3) := by decide +kernel
theorem dX11_readBed_33 : decode cX11_readBed 33 = .ok (.aload_n 0, 1) := by decide +kernel
theorem dX11_readBed_34 : decode cX11_readBed 34 = .ok (.bipush 117, 2) := by decide +kernel
theorem dX11_readBed_36 : decode cX11_readBed 36 = .ok (.iload_n 1, 1) := by decide +kernel
theorem dX11_readBed_37 : decode cX11_readBed 37 = .ok (.iadd, 1) := by decide +kernel
theorem dX11_readBed_38 : decode cX11_readBed 38 = .ok (.iconst 1, 1) := by decide +kernel
theorem dX11_readBed_39 : decode cX11_readBed 39 = .ok (.bipush 99, 2) := by decide +kernel
theorem dX11_readBed_41 : decode cX11_readBed 41 = .ok (.invokevirtual 221, 3) := by decide +kernel
theorem dX11_readBed_44 : decode cX11_readBed 44 = .ok (.ifCond .ne 5, 3) := by decide +kernel
theorem dX11_readBed_47 : decode cX11_readBed 47 = .ok (.iconst 0, 1) := by decide +kernel
theorem dX11_readBed_48 : decode cX11_readBed 48 = .ok (.ireturn, 1) := by decide +kernel
theorem dX11_readBed_49 : decode cX11_readBed 49 = .ok (.aload_n 0, 1) := by decide +kernel
theorem dX11_readBed_50 : decode cX11_readBed 50 = .ok (.getfield 37, 3) := by decide +kernel
theorem dX11_readBed_53 : decode cX11_readBed 53 = .ok (.iconst 3, 1) := by decide +kernel
theorem dX11_readBed_54 : decode cX11_readBed 54 = .ok (.dup2, 1) := by decide +kernel
theorem dX11_readBed_55 : decode cX11_readBed 55 = .ok (.iaload, 1) := by decide +kernel
theorem dX11_readBed_56 : decode cX11_readBed 56 = .ok (.iconst 1, 1) := by decide +kernel
theorem dX11_readBed_57 : decode cX11_readBed 57 = .ok (.iadd, 1) := by decide +kernel
theorem dX11_readBed_58 : decode cX11_readBed 58 = .ok (.iastore, 1) := by decide +kernel
theorem dX11_readBed_59 : decode cX11_readBed 59 = .ok (.iconst 1, 1) := by decide +kernel
theorem dX11_readBed_60 : decode cX11_readBed 60 = .ok (.ireturn, 1) := by decide +kernel
theorem dX11_readDaily_0 : decode cX11_readDaily 0 = .ok (.aload_n 0, 1) := by decide +kernel
theorem dX11_readDaily_1 : decode cX11_readDaily 1 = .ok (.getfield 37, 3) := by decide +kernel
theorem dX11_readDaily_4 : decode cX11_readDaily 4 = .ok (.iconst 2, 1) := by decide +kernel
theorem dX11_readDaily_5 : decode cX11_readDaily 5 = .ok (.iaload, 1) := by decide +kernel
theorem dX11_readDaily_6 : decode cX11_readDaily 6 = .ok (.istore_n 1, 1) := by decide +kernel
theorem dX11_readDaily_7 : decode cX11_readDaily 7 = .ok (.iload_n 1, 1) := by decide +kernel
theorem dX11_readDaily_8 : decode cX11_readDaily 8 = .ok (.bipush 12, 2) := by decide +kernel
theorem dX11_readDaily_10 : decode cX11_readDaily 10 = .ok (.if_icmp .ne 9, 3) := by decide +kernel
theorem dX11_readDaily_13 : decode cX11_readDaily 13 = .ok (.aload_n 0, 1) := by decide +kernel
theorem dX11_readDaily_14 : decode cX11_readDaily 14 = .ok (.iconst 4, 1) := by decide +kernel
theorem dX11_readDaily_15 : decode cX11_readDaily 15 = .ok (.invokevirtual 170, 3) := by decide +kernel
theorem dX11_readDaily_18 : decode cX11_readDaily 18 = .ok (.ireturn, 1) := by decide +kernel
theorem dX11_readDaily_19 : decode cX11_readDaily 19 = .ok (.aload_n 0, 1) := by decide +kernel
theorem dX11_readDaily_20 : decode cX11_readDaily 20 = .ok (.invokevirtual 173, 3) := by decide +kernel
theorem dX11_readDaily_23 : decode cX11_readDaily 23 = .ok (.aload_n 0, 1) := by decide +kernel
theorem dX11_readDaily_24 : decode cX11_readDaily 24 = .ok (.bipush 26, 2) := by decide +kernel
theorem dX11_readDaily_26 : decode cX11_readDaily 26 = .ok (.aload_n 0, 1) := by decide +kernel
theorem dX11_readDaily_27 : decode cX11_readDaily 27 = .ok (.getfield 37, 3) := by decide +kernel
theorem dX11_readDaily_30 : decode cX11_readDaily 30 = .ok (.iconst 1, 1) := by decide +kernel
theorem dX11_readDaily_31 : decode cX11_readDaily 31 = .ok (.iaload, 1) := by decide +kernel
theorem dX11_readDaily_32 : decode cX11_readDaily 32 = .ok (.invokevirtual 227, 3) := by decide +kernel
theorem dX11_readDaily_35 : decode cX11_readDaily 35 = .ok (.ifCond .ne 5, 3) := by decide +kernel
theorem dX11_readDaily_38 : decode cX11_readDaily 38 = .ok (.iconst 0, 1) := by decide +kernel
theorem dX11_readDaily_39 : decode cX11_readDaily 39 = .ok (.ireturn, 1) := by decide +kernel
theorem dX11_readDaily_40 : decode cX11_readDaily 40 = .ok (.aload_n 0, 1) := by decide +kernel
theorem dX11_readDaily_41 : decode cX11_readDaily 41 = .ok (.getfield 37, 3) := by decide +kernel
theorem dX11_readDaily_44 : decode cX11_readDaily 44 = .ok (.bipush 81, 2) := by decide +kernel
theorem dX11_readDaily_46 : decode cX11_readDaily 46 = .ok (.iload_n 1, 1) := by decide +kernel
theorem dX11_readDaily_47 : decode cX11_readDaily 47 = .ok (.iadd, 1) := by decide +kernel
theorem dX11_readDaily_48 : decode cX11_readDaily 48 = .ok (.aload_n 0, 1) := by decide +kernel
theorem dX11_readDaily_49 : decode cX11_readDaily 49 = .ok (.getfield 180, 3) := by decide +kernel
theorem dX11_readDaily_52 : decode cX11_readDaily 52 = .ok (.iastore, 1) := by decide +kernel
theorem dX11_readDaily_53 : decode cX11_readDaily 53 = .ok (.aload_n 0, 1) := by decide +kernel
theorem dX11_readDaily_54 : decode cX11_readDaily 54 = .ok (.bipush 18, 2) := by decide +kernel
theorem dX11_readDaily_56 : decode cX11_readDaily 56 = .ok (.aload_n 0, 1) := by decide +kernel
theorem dX11_readDaily_57 : decode cX11_readDaily 57 = .ok (.getfield 37, 3) := by decide +kernel
theorem dX11_readDaily_60 : decode cX11_readDaily 60 = .ok (.iconst 0, 1) := by decide +kernel
theorem dX11_readDaily_61 : decode cX11_readDaily 61 = .ok (.iaload, 1) := by decide +kernel
theorem dX11_readDaily_62 : decode cX11_readDaily 62 = .ok (.invokevirtual 227, 3) := by decide +kernel
theorem dX11_readDaily_65 : decode cX11_readDaily 65 = .ok (.ifCond .ne 5, 3) := by decide +kernel
theorem dX11_readDaily_68 : decode cX11_readDaily 68 = .ok (.iconst 0, 1) := by decide +kernel
theorem dX11_readDaily_69 : decode cX11_readDaily 69 = .ok (.ireturn, 1) := by decide +kernel
theorem dX11_readDaily_70 : decode cX11_readDaily 70 = .ok (.aload_n 0, 1) := by decide +kernel
theorem dX11_readDaily_71 : decode cX11_readDaily 71 = .ok (.getfield 37, 3) := by decide +kernel
theorem dX11_readDaily_74 : decode cX11_readDaily 74 = .ok (.bipush 93, 2) := by decide +kernel
theorem dX11_readDaily_76 : decode cX11_readDaily 76 = .ok (.iload_n 1, 1) := by decide +kernel
theorem dX11_readDaily_77 : decode cX11_readDaily 77 = .ok (.iadd, 1) := by decide +kernel
theorem dX11_readDaily_78 : decode cX11_readDaily 78 = .ok (.aload_n 0, 1) := by decide +kernel
theorem dX11_readDaily_79 : decode cX11_readDaily 79 = .ok (.getfield 180, 3) := by decide +kernel
theorem dX11_readDaily_82 : decode cX11_readDaily 82 = .ok (.iastore, 1) := by decide +kernel
theorem dX11_readDaily_83 : decode cX11_readDaily 83 = .ok (.aload_n 0, 1) := by decide +kernel
theorem dX11_readDaily_84 : decode cX11_readDaily 84 = .ok (.bipush 105, 2) := by decide +kernel
theorem dX11_readDaily_86 : decode cX11_readDaily 86 = .ok (.iload_n 1, 1) := by decide +kernel
theorem dX11_readDaily_87 : decode cX11_readDaily 87 = .ok (.iadd, 1) := by decide +kernel
theorem dX11_readDaily_88 : decode cX11_readDaily 88 = .ok (.iconst 1, 1) := by decide +kernel
theorem dX11_readDaily_89 : decode cX11_readDaily 89 = .ok (.bipush 9, 2) := by decide +kernel
theorem dX11_readDaily_91 : decode cX11_readDaily 91 = .ok (.invokevirtual 221, 3) := by decide +kernel
theorem dX11_readDaily_94 : decode cX11_readDaily 94 = .ok (.ifCond .ne 5, 3) := by decide +kernel
theorem dX11_readDaily_97 : decode cX11_readDaily 97 = .ok (.iconst 0, 1) := by decide +kernel
theorem dX11_readDaily_98 : decode cX11_readDaily 98 = .ok (.ireturn, 1) := by decide +kernel
theorem dX11_readDaily_99 : decode cX11_readDaily 99 = .ok (.aload_n 0, 1) := by decide +kernel
theorem dX11_readDaily_100 : decode cX11_readDaily 100 = .ok (.getfield 37, 3) := by decide +kernel
theorem dX11_readDaily_103 : decode cX11_readDaily 103 = .ok (.iconst 2, 1) := by decide +kernel
theorem dX11_readDaily_104 : decode cX11_readDaily 104 = .ok (.dup2, 1) := by decide +kernel
theorem dX11_readDaily_105 : decode cX11_readDaily 105 = .ok (.iaload, 1) := by decide +kernel
theorem dX11_readDaily_106 : decode cX11_readDaily 106 = .ok (.iconst 1, 1) := by decide +kernel
theorem dX11_readDaily_107 : decode cX11_readDaily 107 = .ok (.iadd, 1) := by decide +kernel
theorem dX11_readDaily_108 : decode cX11_readDaily 108 = .ok (.iastore, 1) := by decide +kernel
theorem dX11_readDaily_109 : decode cX11_readDaily 109 = .ok (.iconst 1, 1) := by decide +kernel
theorem dX11_readDaily_110 : decode cX11_readDaily 110 = .ok (.ireturn, 1) := by decide +kernel
theorem dX11_readCaught_0 : decode cX11_readCaught 0 = .ok (.aload_n 0, 1) := by decide +kernel
theorem dX11_readCaught_1 : decode cX11_readCaught 1 = .ok (.invokevirtual 173, 3) := by decide +kernel
theorem dX11_readCaught_4 : decode cX11_readCaught 4 = .ok (.aload_n 0, 1) := by decide +kernel
theorem dX11_readCaught_5 : decode cX11_readCaught 5 = .ok (.bipush 26, 2) := by decide +kernel
theorem dX11_readCaught_7 : decode cX11_readCaught 7 = .ok (.aload_n 0, 1) := by decide +kernel
theorem dX11_readCaught_8 : decode cX11_readCaught 8 = .ok (.getfield 37, 3) := by decide +kernel
theorem dX11_readCaught_11 : decode cX11_readCaught 11 = .ok (.iconst 1, 1) := by decide +kernel
theorem dX11_readCaught_12 : decode cX11_readCaught 12 = .ok (.iaload, 1) := by decide +kernel
theorem dX11_readCaught_13 : decode cX11_readCaught 13 = .ok (.invokevirtual 195, 3) := by decide +kernel
theorem dX11_readCaught_16 : decode cX11_readCaught 16 = .ok (.ifCond .ne 5, 3) := by decide +kernel
theorem dX11_readCaught_19 : decode cX11_readCaught 19 = .ok (.iconst 0, 1) := by decide +kernel
theorem dX11_readCaught_20 : decode cX11_readCaught 20 = .ok (.ireturn, 1) := by decide +kernel
theorem dX11_readCaught_21 : decode cX11_readCaught 21 = .ok (.aload_n 0, 1) := by decide +kernel
theorem dX11_readCaught_22 : decode cX11_readCaught 22 = .ok (.getfield 180, 3) := by decide +kernel
theorem dX11_readCaught_25 : decode cX11_readCaught 25 = .ok (.istore_n 1, 1) := by decide +kernel
theorem dX11_readCaught_26 : decode cX11_readCaught 26 = .ok (.aload_n 0, 1) := by decide +kernel
theorem dX11_readCaught_27 : decode cX11_readCaught 27 = .ok (.getfield 37, 3) := by decide +kernel
theorem dX11_readCaught_30 : decode cX11_readCaught 30 = .ok (.bipush 27, 2) := by decide +kernel
theorem dX11_readCaught_32 : decode cX11_readCaught 32 = .ok (.iload_n 1, 1) := by decide +kernel
theorem dX11_readCaught_33 : decode cX11_readCaught 33 = .ok (.iadd, 1) := by decide +kernel
theorem dX11_readCaught_34 : decode cX11_readCaught 34 = .ok (.iaload, 1) := by decide +kernel
theorem dX11_readCaught_35 : decode cX11_readCaught 35 = .ok (.bipush 8, 2) := by decide +kernel
theorem dX11_readCaught_37 : decode cX11_readCaught 37 = .ok (.if_icmp .ne 9, 3) := by decide +kernel
theorem dX11_readCaught_40 : decode cX11_readCaught 40 = .ok (.aload_n 0, 1) := by decide +kernel
theorem dX11_readCaught_41 : decode cX11_readCaught 41 = .ok (.iconst 4, 1) := by decide +kernel
theorem dX11_readCaught_42 : decode cX11_readCaught 42 = .ok (.invokevirtual 170, 3) := by decide +kernel
theorem dX11_readCaught_45 : decode cX11_readCaught 45 = .ok (.ireturn, 1) := by decide +kernel
theorem dX11_readCaught_46 : decode cX11_readCaught 46 = .ok (.aload_n 0, 1) := by decide +kernel
theorem dX11_readCaught_47 : decode cX11_readCaught 47 = .ok (.invokevirtual 173, 3) := by decide +kernel
theorem dX11_readCaught_50 : decode cX11_readCaught 50 = .ok (.aload_n 0, 1) := by decide +kernel
theorem dX11_readCaught_51 : decode cX11_readCaught 51 = .ok (.bipush 18, 2) := by decide +kernel
theorem dX11_readCaught_53 : decode cX11_readCaught 53 = .ok (.aload_n 0, 1) := by decide +kernel
theorem dX11_readCaught_54 : decode cX11_readCaught 54 = .ok (.getfield 37, 3) := by decide +kernel
theorem dX11_readCaught_57 : decode cX11_readCaught 57 = .ok (.iconst 0, 1) := by decide +kernel
theorem dX11_readCaught_58 : decode cX11_readCaught 58 = .ok (.iaload, 1) := by decide +kernel
theorem dX11_readCaught_59 : decode cX11_readCaught 59 = .ok (.invokevirtual 227, 3) := by decide +kernel
theorem dX11_readCaught_62 : decode cX11_readCaught 62 = .ok (.ifCond .ne 5, 3) := by decide +kernel
theorem dX11_readCaught_65 : decode cX11_readCaught 65 = .ok (.iconst 0, 1) := by decide +kernel
theorem dX11_readCaught_66 : decode cX11_readCaught 66 = .ok (.ireturn, 1) := by decide +kernel
theorem dX11_readCaught_67 : decode cX11_readCaught 67 = .ok (.aload_n 0, 1) := by decide +kernel
theorem dX11_readCaught_68 : decode cX11_readCaught 68 = .ok (.getfield 37, 3) := by decide +kernel
theorem dX11_readCaught_71 : decode cX11_readCaught 71 = .ok (.bipush 33, 2) := by decide +kernel
theorem dX11_readCaught_73 : decode cX11_readCaught 73 = .ok (.bipush 8, 2) := by decide +kernel
theorem dX11_readCaught_75 : decode cX11_readCaught 75 = .ok (.iload_n 1, 1) := by decide +kernel
theorem dX11_readCaught_76 : decode cX11_readCaught 76 = .ok (.imul, 1) := by decide +kernel
theorem dX11_readCaught_77 : decode cX11_readCaught 77 = .ok (.iadd, 1) := by decide +kernel
theorem dX11_readCaught_78 : decode cX11_readCaught 78 = .ok (.aload_n 0, 1) := by decide +kernel
theorem dX11_readCaught_79 : decode cX11_readCaught 79 = .ok (.getfield 37, 3) := by decide +kernel
theorem dX11_readCaught_82 : decode cX11_readCaught 82 = .ok (.bipush 27, 2) := by decide +kernel
theorem dX11_readCaught_84 : decode cX11_readCaught 84 = .ok (.iload_n 1, 1) := by decide +kernel
theorem dX11_readCaught_85 : decode cX11_readCaught 85 = .ok (.iadd, 1) := by decide +kernel
theorem dX11_readCaught_86 : decode cX11_readCaught 86 = .ok (.iaload, 1) := by decide +kernel
theorem dX11_readCaught_87 : decode cX11_readCaught 87 = .ok (.iadd, 1) := by decide +kernel
theorem dX11_readCaught_88 : decode cX11_readCaught 88 = .ok (.aload_n 0, 1) := by decide +kernel
theorem dX11_readCaught_89 : decode cX11_readCaught 89 = .ok (.getfield 180, 3) := by decide +kernel
theorem dX11_readCaught_92 : decode cX11_readCaught 92 = .ok (.iastore, 1) := by decide +kernel
theorem dX11_readCaught_93 : decode cX11_readCaught 93 = .ok (.aload_n 0, 1) := by decide +kernel
theorem dX11_readCaught_94 : decode cX11_readCaught 94 = .ok (.getfield 37, 3) := by decide +kernel
theorem dX11_readCaught_97 : decode cX11_readCaught 97 = .ok (.bipush 27, 2) := by decide +kernel
theorem dX11_readCaught_99 : decode cX11_readCaught 99 = .ok (.iload_n 1, 1) := by decide +kernel
theorem dX11_readCaught_100 : decode cX11_readCaught 100 = .ok (.iadd, 1) := by decide +kernel
theorem dX11_readCaught_101 : decode cX11_readCaught 101 = .ok (.dup2, 1) := by decide +kernel
theorem dX11_readCaught_102 : decode cX11_readCaught 102 = .ok (.iaload, 1) := by decide +kernel
theorem dX11_readCaught_103 : decode cX11_readCaught 103 = .ok (.iconst 1, 1) := by decide +kernel
theorem dX11_readCaught_104 : decode cX11_readCaught 104 = .ok (.iadd, 1) := by decide +kernel
theorem dX11_readCaught_105 : decode cX11_readCaught 105 = .ok (.iastore, 1) := by decide +kernel
theorem dX11_readCaught_106 : decode cX11_readCaught 106 = .ok (.iconst 1, 1) := by decide +kernel
theorem dX11_readCaught_107 : decode cX11_readCaught 107 = .ok (.ireturn, 1) := by decide +kernel
theorem dX11_readPerson_0 : decode cX11_readPerson 0 = .ok (.aload_n 0, 1) := by decide +kernel
theorem dX11_readPerson_1 : decode cX11_readPerson 1 = .ok (.getfield 37, 3) := by decide +kernel
theorem dX11_readPerson_4 : decode cX11_readPerson 4 = .ok (.iconst 1, 1) := by decide +kernel
theorem dX11_readPerson_5 : decode cX11_readPerson 5 = .ok (.iaload, 1) := by decide +kernel
theorem dX11_readPerson_6 : decode cX11_readPerson 6 = .ok (.istore_n 1, 1) := by decide +kernel
theorem dX11_readPerson_7 : decode cX11_readPerson 7 = .ok (.iload_n 1, 1) := by decide +kernel
theorem dX11_readPerson_8 : decode cX11_readPerson 8 = .ok (.bipush 6, 2) := by decide +kernel
theorem dX11_readPerson_10 : decode cX11_readPerson 10 = .ok (.if_icmp .ne 9, 3) := by decide +kernel
theorem dX11_readPerson_13 : decode cX11_readPerson 13 = .ok (.aload_n 0, 1) := by decide +kernel
theorem dX11_readPerson_14 : decode cX11_readPerson 14 = .ok (.iconst 4, 1) := by decide +kernel
theorem dX11_readPerson_15 : decode cX11_readPerson 15 = .ok (.invokevirtual 170, 3) := by decide +kernel
theorem dX11_readPerson_18 : decode cX11_readPerson 18 = .ok (.ireturn, 1) := by decide +kernel
theorem dX11_readPerson_19 : decode cX11_readPerson 19 = .ok (.aload_n 0, 1) := by decide +kernel
theorem dX11_readPerson_20 : decode cX11_readPerson 20 = .ok (.invokevirtual 173, 3) := by decide +kernel
theorem dX11_readPerson_23 : decode cX11_readPerson 23 = .ok (.aload_n 0, 1) := by decide +kernel
theorem dX11_readPerson_24 : decode cX11_readPerson 24 = .ok (.bipush 26, 2) := by decide +kernel
theorem dX11_readPerson_26 : decode cX11_readPerson 26 = .ok (.iload_n 1, 1) := by decide +kernel
theorem dX11_readPerson_27 : decode cX11_readPerson 27 = .ok (.iadd, 1) := by decide +kernel
theorem dX11_readPerson_28 : decode cX11_readPerson 28 = .ok (.invokevirtual 224, 3) := by decide +kernel
theorem dX11_readPerson_31 : decode cX11_readPerson 31 = .ok (.ifCond .eq 17, 3) := by decide +kernel
theorem dX11_readPerson_34 : decode cX11_readPerson 34 = .ok (.aload_n 0, 1) := by decide +kernel
theorem dX11_readPerson_35 : decode cX11_readPerson 35 = .ok (.bipush 21, 2) := by decide +kernel
theorem dX11_readPerson_37 : decode cX11_readPerson 37 = .ok (.iload_n 1, 1) := by decide +kernel
theorem dX11_readPerson_38 : decode cX11_readPerson 38 = .ok (.iadd, 1) := by decide +kernel
theorem dX11_readPerson_39 : decode cX11_readPerson 39 = .ok (.iconst 1, 1) := by decide +kernel
theorem dX11_readPerson_40 : decode cX11_readPerson 40 = .ok (.bipush 99, 2) := by decide +kernel
theorem dX11_readPerson_42 : decode cX11_readPerson 42 = .ok (.invokevirtual 221, 3) := by decide +kernel
theorem dX11_readPerson_45 : decode cX11_readPerson 45 = .ok (.ifCond .ne 5, 3) := by decide +kernel
theorem dX11_readPerson_48 : decode cX11_readPerson 48 = .ok (.iconst 0, 1) := by decide +kernel
theorem dX11_readPerson_49 : decode cX11_readPerson 49 = .ok (.ireturn, 1) := by decide +kernel
theorem dX11_readPerson_50 : decode cX11_readPerson 50 = .ok (.aload_n 0, 1) := by decide +kernel
theorem dX11_readPerson_51 : decode cX11_readPerson 51 = .ok (.getfield 37, 3) := by decide +kernel
theorem dX11_readPerson_54 : decode cX11_readPerson 54 = .ok (.iconst 1, 1) := by decide +kernel
theorem dX11_readPerson_55 : decode cX11_readPerson 55 = .ok (.dup2, 1) := by decide +kernel
theorem dX11_readPerson_56 : decode cX11_readPerson 56 = .ok (.iaload, 1) := by decide +kernel
theorem dX11_readPerson_57 : decode cX11_readPerson 57 = .ok (.iconst 1, 1) := by decide +kernel
theorem dX11_readPerson_58 : decode cX11_readPerson 58 = .ok (.iadd, 1) := by decide +kernel
theorem dX11_readPerson_59 : decode cX11_readPerson 59 = .ok (.iastore, 1) := by decide +kernel
theorem dX11_readPerson_60 : decode cX11_readPerson 60 = .ok (.iconst 1, 1) := by decide +kernel
theorem dX11_readPerson_61 : decode cX11_readPerson 61 = .ok (.ireturn, 1) := by decide +kernel
theorem dX11_readThing_0 : decode cX11_readThing 0 = .ok (.aload_n 0, 1) := by decide +kernel
theorem dX11_readThing_1 : decode cX11_readThing 1 = .ok (.getfield 37, 3) := by decide +kernel
theorem dX11_readThing_4 : decode cX11_readThing 4 = .ok (.iconst 0, 1) := by decide +kernel
theorem dX11_readThing_5 : decode cX11_readThing 5 = .ok (.iaload, 1) := by decide +kernel
theorem dX11_readThing_6 : decode cX11_readThing 6 = .ok (.istore_n 1, 1) := by decide +kernel
theorem dX11_readThing_7 : decode cX11_readThing 7 = .ok (.iload_n 1, 1) := by decide +kernel
theorem dX11_readThing_8 : decode cX11_readThing 8 = .ok (.bipush 8, 2) := by decide +kernel
theorem dX11_readThing_10 : decode cX11_readThing 10 = .ok (.if_icmp .ne 9, 3) := by decide +kernel
theorem dX11_readThing_13 : decode cX11_readThing 13 = .ok (.aload_n 0, 1) := by decide +kernel
theorem dX11_readThing_14 : decode cX11_readThing 14 = .ok (.iconst 4, 1) := by decide +kernel
theorem dX11_readThing_15 : decode cX11_readThing 15 = .ok (.invokevirtual 170, 3) := by decide +kernel
theorem dX11_readThing_18 : decode cX11_readThing 18 = .ok (.ireturn, 1) := by decide +kernel
theorem dX11_readThing_19 : decode cX11_readThing 19 = .ok (.aload_n 0, 1) := by decide +kernel
theorem dX11_readThing_20 : decode cX11_readThing 20 = .ok (.invokevirtual 173, 3) := by decide +kernel
theorem dX11_readThing_23 : decode cX11_readThing 23 = .ok (.aload_n 0, 1) := by decide +kernel
theorem dX11_readThing_24 : decode cX11_readThing 24 = .ok (.bipush 18, 2) := by decide +kernel
theorem dX11_readThing_26 : decode cX11_readThing 26 = .ok (.iload_n 1, 1) := by decide +kernel
theorem dX11_readThing_27 : decode cX11_readThing 27 = .ok (.iadd, 1) := by decide +kernel
theorem dX11_readThing_28 : decode cX11_readThing 28 = .ok (.invokevirtual 224, 3) := by decide +kernel
theorem dX11_readThing_31 : decode cX11_readThing 31 = .ok (.ifCond .eq 30, 3) := by decide +kernel
theorem dX11_readThing_34 : decode cX11_readThing 34 = .ok (.aload_n 0, 1) := by decide +kernel
theorem dX11_readThing_35 : decode cX11_readThing 35 = .ok (.iconst 5, 1) := by decide +kernel
theorem dX11_readThing_36 : decode cX11_readThing 36 = .ok (.iload_n 1, 1) := by decide +kernel
theorem dX11_readThing_37 : decode cX11_readThing 37 = .ok (.iadd, 1) := by decide +kernel
theorem dX11_readThing_38 : decode cX11_readThing 38 = .ok (.iconst 1, 1) := by decide +kernel
theorem dX11_readThing_39 : decode cX11_readThing 39 = .ok (.bipush 9, 2) := by decide +kernel
theorem dX11_readThing_41 : decode cX11_readThing 41 = .ok (.invokevirtual 221, 3) := by decide +kernel
theorem dX11_readThing_44 : decode cX11_readThing 44 = .ok (.ifCond .eq 17, 3) := by decide +kernel
theorem dX11_readThing_47 : decode cX11_readThing 47 = .ok (.aload_n 0, 1) := by decide +kernel
theorem dX11_readThing_48 : decode cX11_readThing 48 = .ok (.bipush 13, 2) := by decide +kernel
theorem dX11_readThing_50 : decode cX11_readThing 50 = .ok (.iload_n 1, 1) := by decide +kernel
theorem dX11_readThing_51 : decode cX11_readThing 51 = .ok (.iadd, 1) := by decide +kernel
theorem dX11_readThing_52 : decode cX11_readThing 52 = .ok (.iconst 0, 1) := by decide +kernel
theorem dX11_readThing_53 : decode cX11_readThing 53 = .ok (.bipush 9, 2) := by decide +kernel
theorem dX11_readThing_55 : decode cX11_readThing 55 = .ok (.invokevirtual 221, 3) := by decide +kernel
theorem dX11_readThing_58 : decode cX11_readThing 58 = .ok (.ifCond .ne 5, 3) := by decide +kernel
theorem dX11_readThing_61 : decode cX11_readThing 61 = .ok (.iconst 0, 1) := by decide +kernel
theorem dX11_readThing_62 : decode cX11_readThing 62 = .ok (.ireturn, 1) := by decide +kernel
theorem dX11_readThing_63 : decode cX11_readThing 63 = .ok (.aload_n 0, 1) := by decide +kernel
theorem dX11_readThing_64 : decode cX11_readThing 64 = .ok (.getfield 37, 3) := by decide +kernel
theorem dX11_readThing_67 : decode cX11_readThing 67 = .ok (.iconst 0, 1) := by decide +kernel
theorem dX11_readThing_68 : decode cX11_readThing 68 = .ok (.dup2, 1) := by decide +kernel
theorem dX11_readThing_69 : decode cX11_readThing 69 = .ok (.iaload, 1) := by decide +kernel
theorem dX11_readThing_70 : decode cX11_readThing 70 = .ok (.iconst 1, 1) := by decide +kernel
theorem dX11_readThing_71 : decode cX11_readThing 71 = .ok (.iadd, 1) := by decide +kernel
theorem dX11_readThing_72 : decode cX11_readThing 72 = .ok (.iastore, 1) := by decide +kernel
theorem dX11_readThing_73 : decode cX11_readThing 73 = .ok (.iconst 1, 1) := by decide +kernel
theorem dX11_readThing_74 : decode cX11_readThing 74 = .ok (.ireturn, 1) := by decide +kernel
theorem dX11_readLine_0 : decode cX11_readLine 0 = .ok (.aload_n 0, 1) := by decide +kernel
theorem dX11_readLine_1 : decode cX11_readLine 1 = .ok (.ldc2_w 87, 3) := by decide +kernel
theorem dX11_readLine_4 : decode cX11_readLine 4 = .ok (.invokevirtual 198, 3) := by decide +kernel
theorem dX11_readLine_7 : decode cX11_readLine 7 = .ok (.ifCond .eq 8, 3) := by decide +kernel
theorem dX11_readLine_10 : decode cX11_readLine 10 = .ok (.aload_n 0, 1) := by decide +kernel
theorem dX11_readLine_11 : decode cX11_readLine 11 = .ok (.invokevirtual 202, 3) := by decide +kernel
theorem dX11_readLine_14 : decode cX11_readLine 14 = .ok (.ireturn, 1) := by decide +kernel
theorem dX11_readLine_15 : decode cX11_readLine 15 = .ok (.aload_n 0, 1) := by decide +kernel
theorem dX11_readLine_16 : decode cX11_readLine 16 = .ok (.ldc2_w 89, 3) := by decide +kernel
theorem dX11_readLine_19 : decode cX11_readLine 19 = .ok (.invokevirtual 198, 3) := by decide +kernel
theorem dX11_readLine_22 : decode cX11_readLine 22 = .ok (.ifCond .eq 8, 3) := by decide +kernel
theorem dX11_readLine_25 : decode cX11_readLine 25 = .ok (.aload_n 0, 1) := by decide +kernel
theorem dX11_readLine_26 : decode cX11_readLine 26 = .ok (.invokevirtual 205, 3) := by decide +kernel
theorem dX11_readLine_29 : decode cX11_readLine 29 = .ok (.ireturn, 1) := by decide +kernel
theorem dX11_readLine_30 : decode cX11_readLine 30 = .ok (.aload_n 0, 1) := by decide +kernel
theorem dX11_readLine_31 : decode cX11_readLine 31 = .ok (.ldc2_w 91, 3) := by decide +kernel
theorem dX11_readLine_34 : decode cX11_readLine 34 = .ok (.invokevirtual 198, 3) := by decide +kernel
theorem dX11_readLine_37 : decode cX11_readLine 37 = .ok (.ifCond .eq 8, 3) := by decide +kernel
theorem dX11_readLine_40 : decode cX11_readLine 40 = .ok (.aload_n 0, 1) := by decide +kernel
theorem dX11_readLine_41 : decode cX11_readLine 41 = .ok (.invokevirtual 208, 3) := by decide +kernel
theorem dX11_readLine_44 : decode cX11_readLine 44 = .ok (.ireturn, 1) := by decide +kernel
theorem dX11_readLine_45 : decode cX11_readLine 45 = .ok (.aload_n 0, 1) := by decide +kernel
theorem dX11_readLine_46 : decode cX11_readLine 46 = .ok (.ldc2_w 93, 3) := by decide +kernel
theorem dX11_readLine_49 : decode cX11_readLine 49 = .ok (.invokevirtual 198, 3) := by decide +kernel
theorem dX11_readLine_52 : decode cX11_readLine 52 = .ok (.ifCond .eq 8, 3) := by decide +kernel
theorem dX11_readLine_55 : decode cX11_readLine 55 = .ok (.aload_n 0, 1) := by decide +kernel
theorem dX11_readLine_56 : decode cX11_readLine 56 = .ok (.invokevirtual 211, 3) := by decide +kernel
theorem dX11_readLine_59 : decode cX11_readLine 59 = .ok (.ireturn, 1) := by decide +kernel
theorem dX11_readLine_60 : decode cX11_readLine 60 = .ok (.aload_n 0, 1) := by decide +kernel
theorem dX11_readLine_61 : decode cX11_readLine 61 = .ok (.ldc2_w 95, 3) := by decide +kernel
theorem dX11_readLine_64 : decode cX11_readLine 64 = .ok (.invokevirtual 198, 3) := by decide +kernel
theorem dX11_readLine_67 : decode cX11_readLine 67 = .ok (.ifCond .eq 8, 3) := by decide +kernel
theorem dX11_readLine_70 : decode cX11_readLine 70 = .ok (.aload_n 0, 1) := by decide +kernel
theorem dX11_readLine_71 : decode cX11_readLine 71 = .ok (.invokevirtual 214, 3) := by decide +kernel
theorem dX11_readLine_74 : decode cX11_readLine 74 = .ok (.ireturn, 1) := by decide +kernel
theorem dX11_readLine_75 : decode cX11_readLine 75 = .ok (.aload_n 0, 1) := by decide +kernel
theorem dX11_readLine_76 : decode cX11_readLine 76 = .ok (.ldc2_w 97, 3) := by decide +kernel
theorem dX11_readLine_79 : decode cX11_readLine 79 = .ok (.invokevirtual 198, 3) := by decide +kernel
theorem dX11_readLine_82 : decode cX11_readLine 82 = .ok (.ifCond .ne 9, 3) := by decide +kernel
theorem dX11_readLine_85 : decode cX11_readLine 85 = .ok (.aload_n 0, 1) := by decide +kernel
theorem dX11_readLine_86 : decode cX11_readLine 86 = .ok (.iconst 1, 1) := by decide +kernel
theorem dX11_readLine_87 : decode cX11_readLine 87 = .ok (.invokevirtual 170, 3) := by decide +kernel
theorem dX11_readLine_90 : decode cX11_readLine 90 = .ok (.ireturn, 1) := by decide +kernel
theorem dX11_readLine_91 : decode cX11_readLine 91 = .ok (.aload_n 0, 1) := by decide +kernel
theorem dX11_readLine_92 : decode cX11_readLine 92 = .ok (.getfield 217, 3) := by decide +kernel
theorem dX11_readLine_95 : decode cX11_readLine 95 = .ok (.ifCond .eq 9, 3) := by decide +kernel
theorem dX11_readLine_98 : decode cX11_readLine 98 = .ok (.aload_n 0, 1) := by decide +kernel
theorem dX11_readLine_99 : decode cX11_readLine 99 = .ok (.iconst 3, 1) := by decide +kernel
theorem dX11_readLine_100 : decode cX11_readLine 100 = .ok (.invokevirtual 170, 3) := by decide +kernel
theorem dX11_readLine_103 : decode cX11_readLine 103 = .ok (.ireturn, 1) := by decide +kernel
theorem dX11_readLine_104 : decode cX11_readLine 104 = .ok (.aload_n 0, 1) := by decide +kernel
theorem dX11_readLine_105 : decode cX11_readLine 105 = .ok (.iconst 1, 1) := by decide +kernel
theorem dX11_readLine_106 : decode cX11_readLine 106 = .ok (.putfield 217, 3) := by decide +kernel
theorem dX11_readLine_109 : decode cX11_readLine 109 = .ok (.aload_n 0, 1) := by decide +kernel
theorem dX11_readLine_110 : decode cX11_readLine 110 = .ok (.invokevirtual 173, 3) := by decide +kernel
theorem dX11_readLine_113 : decode cX11_readLine 113 = .ok (.aload_n 0, 1) := by decide +kernel
theorem dX11_readLine_114 : decode cX11_readLine 114 = .ok (.iconst 4, 1) := by decide +kernel
theorem dX11_readLine_115 : decode cX11_readLine 115 = .ok (.iconst 1, 1) := by decide +kernel
theorem dX11_readLine_116 : decode cX11_readLine 116 = .ok (.bipush 20, 2) := by decide +kernel
theorem dX11_readLine_118 : decode cX11_readLine 118 = .ok (.invokevirtual 221, 3) := by decide +kernel
theorem dX11_readLine_121 : decode cX11_readLine 121 = .ok (.ireturn, 1) := by decide +kernel
theorem dX11_quarter_0 : decode cX11_quarter 0 = .ok (.aload_n 0, 1) := by decide +kernel
theorem dX11_quarter_1 : decode cX11_quarter 1 = .ok (.iconst 0, 1) := by decide +kernel
theorem dX11_quarter_2 : decode cX11_quarter 2 = .ok (.putfield 1, 3) := by decide +kernel
theorem dX11_quarter_5 : decode cX11_quarter 5 = .ok (.aload_n 0, 1) := by decide +kernel
theorem dX11_quarter_6 : decode cX11_quarter 6 = .ok (.sipush 900, 3) := by decide +kernel
theorem dX11_quarter_9 : decode cX11_quarter 9 = .ok (.invokevirtual 230, 3) := by decide +kernel
theorem dX11_quarter_12 : decode cX11_quarter 12 = .ok (.aload_n 0, 1) := by decide +kernel
theorem dX11_quarter_13 : decode cX11_quarter 13 = .ok (.iconst 0, 1) := by decide +kernel
theorem dX11_quarter_14 : decode cX11_quarter 14 = .ok (.putfield 161, 3) := by decide +kernel
theorem dX11_quarter_17 : decode cX11_quarter 17 = .ok (.aload_n 0, 1) := by decide +kernel
theorem dX11_quarter_18 : decode cX11_quarter 18 = .ok (.iconst 0, 1) := by decide +kernel
theorem dX11_quarter_19 : decode cX11_quarter 19 = .ok (.putfield 233, 3) := by decide +kernel
theorem dX11_quarter_22 : decode cX11_quarter 22 = .ok (.aload_n 0, 1) := by decide +kernel
theorem dX11_quarter_23 : decode cX11_quarter 23 = .ok (.iconst 0, 1) := by decide +kernel
theorem dX11_quarter_24 : decode cX11_quarter 24 = .ok (.putfield 217, 3) := by decide +kernel
theorem dX11_quarter_27 : decode cX11_quarter 27 = .ok (.aload_n 0, 1) := by decide +kernel
theorem dX11_quarter_28 : decode cX11_quarter 28 = .ok (.invokevirtual 131, 3) := by decide +kernel
theorem dX11_quarter_31 : decode cX11_quarter 31 = .ok (.aload_n 0, 1) := by decide +kernel
theorem dX11_quarter_32 : decode cX11_quarter 32 = .ok (.invokevirtual 173, 3) := by decide +kernel
theorem dX11_quarter_35 : decode cX11_quarter 35 = .ok (.aload_n 0, 1) := by decide +kernel
theorem dX11_quarter_36 : decode cX11_quarter 36 = .ok (.getfield 144, 3) := by decide +kernel
theorem dX11_quarter_39 : decode cX11_quarter 39 = .ok (.ifCond .eq 39, 3) := by decide +kernel
theorem dX11_quarter_42 : decode cX11_quarter 42 = .ok (.aload_n 0, 1) := by decide +kernel
theorem dX11_quarter_43 : decode cX11_quarter 43 = .ok (.invokevirtual 236, 3) := by decide +kernel
theorem dX11_quarter_46 : decode cX11_quarter 46 = .ok (.ifCond .eq 12, 3) := by decide +kernel
theorem dX11_quarter_49 : decode cX11_quarter 49 = .ok (.aload_n 0, 1) := by decide +kernel
theorem dX11_quarter_50 : decode cX11_quarter 50 = .ok (.bipush 59, 2) := by decide +kernel
theorem dX11_quarter_52 : decode cX11_quarter 52 = .ok (.invokevirtual 239, 3) := by decide +kernel
theorem dX11_quarter_55 : decode cX11_quarter 55 = .ok (.ifCond .ne 10, 3) := by decide +kernel
theorem dX11_quarter_58 : decode cX11_quarter 58 = .ok (.iconst (-1), 1) := by decide +kernel
theorem dX11_quarter_59 : decode cX11_quarter 59 = .ok (.aload_n 0, 1) := by decide +kernel
theorem dX11_quarter_60 : decode cX11_quarter 60 = .ok (.getfield 164, 3) := by decide +kernel
theorem dX11_quarter_63 : decode cX11_quarter 63 = .ok (.isub, 1) := by decide +kernel
theorem dX11_quarter_64 : decode cX11_quarter 64 = .ok (.ireturn, 1) := by decide +kernel
theorem dX11_quarter_65 : decode cX11_quarter 65 = .ok (.aload_n 0, 1) := by decide +kernel
theorem dX11_quarter_66 : decode cX11_quarter 66 = .ok (.dup, 1) := by decide +kernel
theorem dX11_quarter_67 : decode cX11_quarter 67 = .ok (.getfield 233, 3) := by decide +kernel
theorem dX11_quarter_70 : decode cX11_quarter 70 = .ok (.iconst 1, 1) := by decide +kernel
theorem dX11_quarter_71 : decode cX11_quarter 71 = .ok (.iadd, 1) := by decide +kernel
theorem dX11_quarter_72 : decode cX11_quarter 72 = .ok (.putfield 233, 3) := by decide +kernel
theorem dX11_quarter_75 : decode cX11_quarter 75 = .ok (.goto (-40), 3) := by decide +kernel
theorem dX11_quarter_78 : decode cX11_quarter 78 = .ok (.iconst 0, 1) := by decide +kernel
theorem dX11_quarter_79 : decode cX11_quarter 79 = .ok (.istore_n 1, 1) := by decide +kernel
theorem dX11_quarter_80 : decode cX11_quarter 80 = .ok (.iload_n 1, 1) := by decide +kernel
theorem dX11_quarter_81 : decode cX11_quarter 81 = .ok (.sipush 390, 3) := by decide +kernel
theorem dX11_quarter_84 : decode cX11_quarter 84 = .ok (.if_icmp .ge 31, 3) := by decide +kernel
theorem dX11_quarter_87 : decode cX11_quarter 87 = .ok (.aload_n 0, 1) := by decide +kernel
theorem dX11_quarter_88 : decode cX11_quarter 88 = .ok (.getfield 33, 3) := by decide +kernel
theorem dX11_quarter_91 : decode cX11_quarter 91 = .ok (.iload_n 1, 1) := by decide +kernel
theorem dX11_quarter_92 : decode cX11_quarter 92 = .ok (.iload_n 1, 1) := by decide +kernel
theorem dX11_quarter_93 : decode cX11_quarter 93 = .ok (.bipush 121, 2) := by decide +kernel
theorem dX11_quarter_95 : decode cX11_quarter 95 = .ok (.if_icmp .ge 12, 3) := by decide +kernel
theorem dX11_quarter_98 : decode cX11_quarter 98 = .ok (.aload_n 0, 1) := by decide +kernel
theorem dX11_quarter_99 : decode cX11_quarter 99 = .ok (.getfield 37, 3) := by decide +kernel
theorem dX11_quarter_102 : decode cX11_quarter 102 = .ok (.iload_n 1, 1) := by decide +kernel
theorem dX11_quarter_103 : decode cX11_quarter 103 = .ok (.iaload, 1) := by decide +kernel
theorem dX11_quarter_104 : decode cX11_quarter 104 = .ok (.goto 4, 3) := by decide +kernel
theorem dX11_quarter_107 : decode cX11_quarter 107 = .ok (.iconst 0, 1) := by decide +kernel
theorem dX11_quarter_108 : decode cX11_quarter 108 = .ok (.iastore, 1) := by decide +kernel
theorem dX11_quarter_109 : decode cX11_quarter 109 = .ok (.iinc 1 1, 3) := by decide +kernel
theorem dX11_quarter_112 : decode cX11_quarter 112 = .ok (.goto (-32), 3) := by decide +kernel
theorem dX11_quarter_115 : decode cX11_quarter 115 = .ok (.iconst 0, 1) := by decide +kernel
theorem dX11_quarter_116 : decode cX11_quarter 116 = .ok (.istore_n 1, 1) := by decide +kernel
theorem dX11_quarter_117 : decode cX11_quarter 117 = .ok (.iload_n 1, 1) := by decide +kernel
theorem dX11_quarter_118 : decode cX11_quarter 118 = .ok (.bipush 18, 2) := by decide +kernel
theorem dX11_quarter_120 : decode cX11_quarter 120 = .ok (.if_icmp .ge 24, 3) := by decide +kernel
theorem dX11_quarter_123 : decode cX11_quarter 123 = .ok (.aload_n 0, 1) := by decide +kernel
theorem dX11_quarter_124 : decode cX11_quarter 124 = .ok (.getfield 43, 3) := by decide +kernel
theorem dX11_quarter_127 : decode cX11_quarter 127 = .ok (.iload_n 1, 1) := by decide +kernel
theorem dX11_quarter_128 : decode cX11_quarter 128 = .ok (.aload_n 0, 1) := by decide +kernel
theorem dX11_quarter_129 : decode cX11_quarter 129 = .ok (.getfield 43, 3) := by decide +kernel
theorem dX11_quarter_132 : decode cX11_quarter 132 = .ok (.bipush 18, 2) := by decide +kernel
theorem dX11_quarter_134 : decode cX11_quarter 134 = .ok (.iload_n 1, 1) := by decide +kernel
theorem dX11_quarter_135 : decode cX11_quarter 135 = .ok (.iadd, 1) := by decide +kernel
theorem dX11_quarter_136 : decode cX11_quarter 136 = .ok (.laload, 1) := by decide +kernel
theorem dX11_quarter_137 : decode cX11_quarter 137 = .ok (.lastore, 1) := by decide +kernel
theorem dX11_quarter_138 : decode cX11_quarter 138 = .ok (.iinc 1 1, 3) := by decide +kernel
theorem dX11_quarter_141 : decode cX11_quarter 141 = .ok (.goto (-24), 3) := by decide +kernel
theorem dX11_quarter_144 : decode cX11_quarter 144 = .ok (.iconst 0, 1) := by decide +kernel
theorem dX11_quarter_145 : decode cX11_quarter 145 = .ok (.istore_n 1, 1) := by decide +kernel
theorem dX11_quarter_146 : decode cX11_quarter 146 = .ok (.iload_n 1, 1) := by decide +kernel
theorem dX11_quarter_147 : decode cX11_quarter 147 = .ok (.bipush 6, 2) := by decide +kernel
theorem dX11_quarter_149 : decode cX11_quarter 149 = .ok (.if_icmp .ge 27, 3) := by decide +kernel
theorem dX11_quarter_152 : decode cX11_quarter 152 = .ok (.aload_n 0, 1) := by decide +kernel
theorem dX11_quarter_153 : decode cX11_quarter 153 = .ok (.getfield 33, 3) := by decide +kernel
theorem dX11_quarter_156 : decode cX11_quarter 156 = .ok (.bipush 125, 2) := by decide +kernel
theorem dX11_quarter_158 : decode cX11_quarter 158 = .ok (.iload_n 1, 1) := by decide +kernel
theorem dX11_quarter_159 : decode cX11_quarter 159 = .ok (.iadd, 1) := by decide +kernel
theorem dX11_quarter_160 : decode cX11_quarter 160 = .ok (.aload_n 0, 1) := by decide +kernel
theorem dX11_quarter_161 : decode cX11_quarter 161 = .ok (.getfield 33, 3) := by decide +kernel
theorem dX11_quarter_164 : decode cX11_quarter 164 = .ok (.bipush 27, 2) := by decide +kernel
theorem dX11_quarter_166 : decode cX11_quarter 166 = .ok (.iload_n 1, 1) := by decide +kernel
theorem dX11_quarter_167 : decode cX11_quarter 167 = .ok (.iadd, 1) := by decide +kernel
theorem dX11_quarter_168 : decode cX11_quarter 168 = .ok (.iaload, 1) := by decide +kernel
theorem dX11_quarter_169 : decode cX11_quarter 169 = .ok (.iastore, 1) := by decide +kernel
theorem dX11_quarter_170 : decode cX11_quarter 170 = .ok (.iinc 1 1, 3) := by decide +kernel
theorem dX11_quarter_173 : decode cX11_quarter 173 = .ok (.goto (-27), 3) := by decide +kernel
theorem dX11_quarter_176 : decode cX11_quarter 176 = .ok (.iconst 0, 1) := by decide +kernel
theorem dX11_quarter_177 : decode cX11_quarter 177 = .ok (.istore_n 1, 1) := by decide +kernel
theorem dX11_quarter_178 : decode cX11_quarter 178 = .ok (.iload_n 1, 1) := by decide +kernel
theorem dX11_quarter_179 : decode cX11_quarter 179 = .ok (.bipush 48, 2) := by decide +kernel
theorem dX11_quarter_181 : decode cX11_quarter 181 = .ok (.if_icmp .ge 28, 3) := by decide +kernel
theorem dX11_quarter_184 : decode cX11_quarter 184 = .ok (.aload_n 0, 1) := by decide +kernel
theorem dX11_quarter_185 : decode cX11_quarter 185 = .ok (.getfield 33, 3) := by decide +kernel
theorem dX11_quarter_188 : decode cX11_quarter 188 = .ok (.sipush 131, 3) := by decide +kernel
theorem dX11_quarter_191 : decode cX11_quarter 191 = .ok (.iload_n 1, 1) := by decide +kernel
theorem dX11_quarter_192 : decode cX11_quarter 192 = .ok (.iadd, 1) := by decide +kernel
theorem dX11_quarter_193 : decode cX11_quarter 193 = .ok (.aload_n 0, 1) := by decide +kernel
theorem dX11_quarter_194 : decode cX11_quarter 194 = .ok (.getfield 33, 3) := by decide +kernel
theorem dX11_quarter_197 : decode cX11_quarter 197 = .ok (.bipush 33, 2) := by decide +kernel
theorem dX11_quarter_199 : decode cX11_quarter 199 = .ok (.iload_n 1, 1) := by decide +kernel
theorem dX11_quarter_200 : decode cX11_quarter 200 = .ok (.iadd, 1) := by decide +kernel
theorem dX11_quarter_201 : decode cX11_quarter 201 = .ok (.iaload, 1) := by decide +kernel
theorem dX11_quarter_202 : decode cX11_quarter 202 = .ok (.iastore, 1) := by decide +kernel
theorem dX11_quarter_203 : decode cX11_quarter 203 = .ok (.iinc 1 1, 3) := by decide +kernel
theorem dX11_quarter_206 : decode cX11_quarter 206 = .ok (.goto (-28), 3) := by decide +kernel
theorem dX11_quarter_209 : decode cX11_quarter 209 = .ok (.aload_n 0, 1) := by decide +kernel
theorem dX11_quarter_210 : decode cX11_quarter 210 = .ok (.iconst 0, 1) := by decide +kernel
theorem dX11_quarter_211 : decode cX11_quarter 211 = .ok (.putfield 242, 3) := by decide +kernel
theorem dX11_quarter_214 : decode cX11_quarter 214 = .ok (.aload_n 0, 1) := by decide +kernel
theorem dX11_quarter_215 : decode cX11_quarter 215 = .ok (.getfield 233, 3) := by decide +kernel
theorem dX11_quarter_218 : decode cX11_quarter 218 = .ok (.ireturn, 1) := by decide +kernel
theorem dX11_fault_0 : decode cX11_fault 0 = .ok (.aload_n 0, 1) := by decide +kernel
theorem dX11_fault_1 : decode cX11_fault 1 = .ok (.iconst 0, 1) := by decide +kernel
theorem dX11_fault_2 : decode cX11_fault 2 = .ok (.putfield 1, 3) := by decide +kernel
theorem dX11_fault_5 : decode cX11_fault 5 = .ok (.aload_n 0, 1) := by decide +kernel
theorem dX11_fault_6 : decode cX11_fault 6 = .ok (.getfield 161, 3) := by decide +kernel
theorem dX11_fault_9 : decode cX11_fault 9 = .ok (.ireturn, 1) := by decide +kernel
theorem dX11_isPerson_0 : decode cX11_isPerson 0 = .ok (.iload_n 1, 1) := by decide +kernel
theorem dX11_isPerson_1 : decode cX11_isPerson 1 = .ok (.iconst 0, 1) := by decide +kernel
theorem dX11_isPerson_2 : decode cX11_isPerson 2 = .ok (.aload_n 0, 1) := by decide +kernel
theorem dX11_isPerson_3 : decode cX11_isPerson 3 = .ok (.getfield 33, 3) := by decide +kernel
theorem dX11_isPerson_6 : decode cX11_isPerson 6 = .ok (.iconst 1, 1) := by decide +kernel
theorem dX11_isPerson_7 : decode cX11_isPerson 7 = .ok (.iaload, 1) := by decide +kernel
theorem dX11_isPerson_8 : decode cX11_isPerson 8 = .ok (.iconst 1, 1) := by decide +kernel
theorem dX11_isPerson_9 : decode cX11_isPerson 9 = .ok (.isub, 1) := by decide +kernel
theorem dX11_isPerson_10 : decode cX11_isPerson 10 = .ok (.invokestatic 176, 3) := by decide +kernel
theorem dX11_isPerson_13 : decode cX11_isPerson 13 = .ok (.ireturn, 1) := by decide +kernel
theorem dX11_isThing_0 : decode cX11_isThing 0 = .ok (.iload_n 1, 1) := by decide +kernel
theorem dX11_isThing_1 : decode cX11_isThing 1 = .ok (.iconst 0, 1) := by decide +kernel
theorem dX11_isThing_2 : decode cX11_isThing 2 = .ok (.aload_n 0, 1) := by decide +kernel
theorem dX11_isThing_3 : decode cX11_isThing 3 = .ok (.getfield 33, 3) := by decide +kernel
theorem dX11_isThing_6 : decode cX11_isThing 6 = .ok (.iconst 0, 1) := by decide +kernel
theorem dX11_isThing_7 : decode cX11_isThing 7 = .ok (.iaload, 1) := by decide +kernel
theorem dX11_isThing_8 : decode cX11_isThing 8 = .ok (.iconst 1, 1) := by decide +kernel
theorem dX11_isThing_9 : decode cX11_isThing 9 = .ok (.isub, 1) := by decide +kernel
theorem dX11_isThing_10 : decode cX11_isThing 10 = .ok (.invokestatic 176, 3) := by decide +kernel
theorem dX11_isThing_13 : decode cX11_isThing 13 = .ok (.ireturn, 1) := by decide +kernel
theorem dX11_isBed_0 : decode cX11_isBed 0 = .ok (.iload_n 1, 1) := by decide +kernel
theorem dX11_isBed_1 : decode cX11_isBed 1 = .ok (.iconst 0, 1) := by decide +kernel
theorem dX11_isBed_2 : decode cX11_isBed 2 = .ok (.aload_n 0, 1) := by decide +kernel
theorem dX11_isBed_3 : decode cX11_isBed 3 = .ok (.getfield 33, 3) := by decide +kernel
theorem dX11_isBed_6 : decode cX11_isBed 6 = .ok (.iconst 3, 1) := by decide +kernel
theorem dX11_isBed_7 : decode cX11_isBed 7 = .ok (.iaload, 1) := by decide +kernel
theorem dX11_isBed_8 : decode cX11_isBed 8 = .ok (.iconst 1, 1) := by decide +kernel
theorem dX11_isBed_9 : decode cX11_isBed 9 = .ok (.isub, 1) := by decide +kernel
theorem dX11_isBed_10 : decode cX11_isBed 10 = .ok (.invokestatic 176, 3) := by decide +kernel
theorem dX11_isBed_13 : decode cX11_isBed 13 = .ok (.ireturn, 1) := by decide +kernel
theorem dX11_fromOutside_0 : decode cX11_fromOutside 0 = .ok (.iload_n 2, 1) := by decide +kernel
theorem dX11_fromOutside_1 : decode cX11_fromOutside 1 = .ok (.aload_n 0, 1) := by decide +kernel
theorem dX11_fromOutside_2 : decode cX11_fromOutside 2 = .ok (.getfield 33, 3) := by decide +kernel
theorem dX11_fromOutside_5 : decode cX11_fromOutside 5 = .ok (.bipush 125, 2) := by decide +kernel
theorem dX11_fromOutside_7 : decode cX11_fromOutside 7 = .ok (.iload_n 1, 1) := by decide +kernel
theorem dX11_fromOutside_8 : decode cX11_fromOutside 8 = .ok (.iadd, 1) := by decide +kernel
theorem dX11_fromOutside_9 : decode cX11_fromOutside 9 = .ok (.iaload, 1) := by decide +kernel
theorem dX11_fromOutside_10 : decode cX11_fromOutside 10 = .ok (.if_icmp .ge 33, 3) := by decide +kernel
theorem dX11_fromOutside_13 : decode cX11_fromOutside 13 = .ok (.aload_n 0, 1) := by decide +kernel
theorem dX11_fromOutside_14 : decode cX11_fromOutside 14 = .ok (.getfield 33, 3) := by decide +kernel
theorem dX11_fromOutside_17 : decode cX11_fromOutside 17 = .ok (.sipush 131, 3) := by decide +kernel
theorem dX11_fromOutside_20 : decode cX11_fromOutside 20 = .ok (.bipush 8, 2) := by decide +kernel
theorem dX11_fromOutside_22 : decode cX11_fromOutside 22 = .ok (.iload_n 1, 1) := by decide +kernel
theorem dX11_fromOutside_23 : decode cX11_fromOutside 23 = .ok (.imul, 1) := by decide +kernel
theorem dX11_fromOutside_24 : decode cX11_fromOutside 24 = .ok (.iadd, 1) := by decide +kernel
theorem dX11_fromOutside_25 : decode cX11_fromOutside 25 = .ok (.aload_n 0, 1) := by decide +kernel
theorem dX11_fromOutside_26 : decode cX11_fromOutside 26 = .ok (.getfield 33, 3) := by decide +kernel
theorem dX11_fromOutside_29 : decode cX11_fromOutside 29 = .ok (.bipush 125, 2) := by decide +kernel
theorem dX11_fromOutside_31 : decode cX11_fromOutside 31 = .ok (.iload_n 1, 1) := by decide +kernel
theorem dX11_fromOutside_32 : decode cX11_fromOutside 32 = .ok (.iadd, 1) := by decide +kernel
theorem dX11_fromOutside_33 : decode cX11_fromOutside 33 = .ok (.iaload, 1) := by decide +kernel
theorem dX11_fromOutside_34 : decode cX11_fromOutside 34 = .ok (.iadd, 1) := by decide +kernel
theorem dX11_fromOutside_35 : decode cX11_fromOutside 35 = .ok (.iconst 1, 1) := by decide +kernel
theorem dX11_fromOutside_36 : decode cX11_fromOutside 36 = .ok (.isub, 1) := by decide +kernel
theorem dX11_fromOutside_37 : decode cX11_fromOutside 37 = .ok (.iload_n 2, 1) := by decide +kernel
theorem dX11_fromOutside_38 : decode cX11_fromOutside 38 = .ok (.isub, 1) := by decide +kernel
theorem dX11_fromOutside_39 : decode cX11_fromOutside 39 = .ok (.iaload, 1) := by decide +kernel
theorem dX11_fromOutside_40 : decode cX11_fromOutside 40 = .ok (.goto 4, 3) := by decide +kernel
theorem dX11_fromOutside_43 : decode cX11_fromOutside 43 = .ok (.iconst (-1), 1) := by decide +kernel
theorem dX11_fromOutside_44 : decode cX11_fromOutside 44 = .ok (.ireturn, 1) := by decide +kernel
theorem dX11_knotAt_0 : decode cX11_knotAt 0 = .ok (.iconst 0, 1) := by decide +kernel
theorem dX11_knotAt_1 : decode cX11_knotAt 1 = .ok (.istore_n 3, 1) := by decide +kernel
theorem dX11_knotAt_2 : decode cX11_knotAt 2 = .ok (.iload_n 2, 1) := by decide +kernel
theorem dX11_knotAt_3 : decode cX11_knotAt 3 = .ok (.iload_n 3, 1) := by decide +kernel
theorem dX11_knotAt_4 : decode cX11_knotAt 4 = .ok (.iadd, 1) := by decide +kernel
theorem dX11_knotAt_5 : decode cX11_knotAt 5 = .ok (.aload_n 0, 1) := by decide +kernel
theorem dX11_knotAt_6 : decode cX11_knotAt 6 = .ok (.getfield 33, 3) := by decide +kernel
theorem dX11_knotAt_9 : decode cX11_knotAt 9 = .ok (.bipush 125, 2) := by decide +kernel
theorem dX11_knotAt_11 : decode cX11_knotAt 11 = .ok (.iload_n 1, 1) := by decide +kernel
theorem dX11_knotAt_12 : decode cX11_knotAt 12 = .ok (.iadd, 1) := by decide +kernel
theorem dX11_knotAt_13 : decode cX11_knotAt 13 = .ok (.iaload, 1) := by decide +kernel
theorem dX11_knotAt_14 : decode cX11_knotAt 14 = .ok (.if_icmp .ge 26, 3) := by decide +kernel
theorem dX11_knotAt_17 : decode cX11_knotAt 17 = .ok (.aload_n 0, 1) := by decide +kernel
theorem dX11_knotAt_18 : decode cX11_knotAt 18 = .ok (.iload_n 1, 1) := by decide +kernel
theorem dX11_knotAt_19 : decode cX11_knotAt 19 = .ok (.iload_n 2, 1) := by decide +kernel
theorem dX11_knotAt_20 : decode cX11_knotAt 20 = .ok (.iload_n 3, 1) := by decide +kernel
theorem dX11_knotAt_21 : decode cX11_knotAt 21 = .ok (.iadd, 1) := by decide +kernel
theorem dX11_knotAt_22 : decode cX11_knotAt 22 = .ok (.invokevirtual 245, 3) := by decide +kernel
theorem dX11_knotAt_25 : decode cX11_knotAt 25 = .ok (.aload_n 0, 1) := by decide +kernel
theorem dX11_knotAt_26 : decode cX11_knotAt 26 = .ok (.iload_n 1, 1) := by decide +kernel
theorem dX11_knotAt_27 : decode cX11_knotAt 27 = .ok (.iload_n 2, 1) := by decide +kernel
theorem dX11_knotAt_28 : decode cX11_knotAt 28 = .ok (.invokevirtual 245, 3) := by decide +kernel
theorem dX11_knotAt_31 : decode cX11_knotAt 31 = .ok (.if_icmp .ne 9, 3) := by decide +kernel
theorem dX11_knotAt_34 : decode cX11_knotAt 34 = .ok (.iinc 3 1, 3) := by decide +kernel
theorem dX11_knotAt_37 : decode cX11_knotAt 37 = .ok (.goto (-35), 3) := by decide +kernel
theorem dX11_knotAt_40 : decode cX11_knotAt 40 = .ok (.iload_n 3, 1) := by decide +kernel
theorem dX11_knotAt_41 : decode cX11_knotAt 41 = .ok (.ireturn, 1) := by decide +kernel
theorem dX11_knotHolds_0 : decode cX11_knotHolds 0 = .ok (.iload_n 2, 1) := by decide +kernel
theorem dX11_knotHolds_1 : decode cX11_knotHolds 1 = .ok (.aload_n 0, 1) := by decide +kernel
theorem dX11_knotHolds_2 : decode cX11_knotHolds 2 = .ok (.getfield 33, 3) := by decide +kernel
theorem dX11_knotHolds_5 : decode cX11_knotHolds 5 = .ok (.bipush 125, 2) := by decide +kernel
theorem dX11_knotHolds_7 : decode cX11_knotHolds 7 = .ok (.iload_n 1, 1) := by decide +kernel
theorem dX11_knotHolds_8 : decode cX11_knotHolds 8 = .ok (.iadd, 1) := by decide +kernel
theorem dX11_knotHolds_9 : decode cX11_knotHolds 9 = .ok (.iaload, 1) := by decide +kernel
theorem dX11_knotHolds_10 : decode cX11_knotHolds 10 = .ok (.if_icmp .ge 26, 3) := by decide +kernel
theorem dX11_knotHolds_13 : decode cX11_knotHolds 13 = .ok (.aload_n 0, 1) := by decide +kernel
theorem dX11_knotHolds_14 : decode cX11_knotHolds 14 = .ok (.iload_n 1, 1) := by decide +kernel
theorem dX11_knotHolds_15 : decode cX11_knotHolds 15 = .ok (.iload_n 2, 1) := by decide +kernel
theorem dX11_knotHolds_16 : decode cX11_knotHolds 16 = .ok (.invokevirtual 248, 3) := by decide +kernel
theorem dX11_knotHolds_19 : decode cX11_knotHolds 19 = .ok (.aload_n 0, 1) := by decide +kernel
theorem dX11_knotHolds_20 : decode cX11_knotHolds 20 = .ok (.getfield 33, 3) := by decide +kernel
theorem dX11_knotHolds_23 : decode cX11_knotHolds 23 = .ok (.iconst 5, 1) := by decide +kernel
theorem dX11_knotHolds_24 : decode cX11_knotHolds 24 = .ok (.aload_n 0, 1) := by decide +kernel
theorem dX11_knotHolds_25 : decode cX11_knotHolds 25 = .ok (.iload_n 1, 1) := by decide +kernel
theorem dX11_knotHolds_26 : decode cX11_knotHolds 26 = .ok (.iload_n 2, 1) := by decide +kernel
theorem dX11_knotHolds_27 : decode cX11_knotHolds 27 = .ok (.invokevirtual 245, 3) := by decide +kernel
theorem dX11_knotHolds_30 : decode cX11_knotHolds 30 = .ok (.iadd, 1) := by decide +kernel
theorem dX11_knotHolds_31 : decode cX11_knotHolds 31 = .ok (.iaload, 1) := by decide +kernel
theorem dX11_knotHolds_32 : decode cX11_knotHolds 32 = .ok (.imul, 1) := by decide +kernel
theorem dX11_knotHolds_33 : decode cX11_knotHolds 33 = .ok (.goto 4, 3) := by decide +kernel
theorem dX11_knotHolds_36 : decode cX11_knotHolds 36 = .ok (.iconst 0, 1) := by decide +kernel
theorem dX11_knotHolds_37 : decode cX11_knotHolds 37 = .ok (.ireturn, 1) := by decide +kernel
theorem dX11_knotsOf_0 : decode cX11_knotsOf 0 = .ok (.iconst 0, 1) := by decide +kernel
theorem dX11_knotsOf_1 : decode cX11_knotsOf 1 = .ok (.istore_n 2, 1) := by decide +kernel
theorem dX11_knotsOf_2 : decode cX11_knotsOf 2 = .ok (.iconst 0, 1) := by decide +kernel
theorem dX11_knotsOf_3 : decode cX11_knotsOf 3 = .ok (.istore_n 3, 1) := by decide +kernel
theorem dX11_knotsOf_4 : decode cX11_knotsOf 4 = .ok (.iload_n 3, 1) := by decide +kernel
theorem dX11_knotsOf_5 : decode cX11_knotsOf 5 = .ok (.aload_n 0, 1) := by decide +kernel
theorem dX11_knotsOf_6 : decode cX11_knotsOf 6 = .ok (.getfield 33, 3) := by decide +kernel
theorem dX11_knotsOf_9 : decode cX11_knotsOf 9 = .ok (.bipush 125, 2) := by decide +kernel
theorem dX11_knotsOf_11 : decode cX11_knotsOf 11 = .ok (.iload_n 1, 1) := by decide +kernel
theorem dX11_knotsOf_12 : decode cX11_knotsOf 12 = .ok (.iadd, 1) := by decide +kernel
theorem dX11_knotsOf_13 : decode cX11_knotsOf 13 = .ok (.iaload, 1) := by decide +kernel
theorem dX11_knotsOf_14 : decode cX11_knotsOf 14 = .ok (.if_icmp .ge 18, 3) := by decide +kernel
theorem dX11_knotsOf_17 : decode cX11_knotsOf 17 = .ok (.iinc 2 1, 3) := by decide +kernel
theorem dX11_knotsOf_20 : decode cX11_knotsOf 20 = .ok (.iload_n 3, 1) := by decide +kernel
theorem dX11_knotsOf_21 : decode cX11_knotsOf 21 = .ok (.aload_n 0, 1) := by decide +kernel
theorem dX11_knotsOf_22 : decode cX11_knotsOf 22 = .ok (.iload_n 1, 1) := by decide +kernel
theorem dX11_knotsOf_23 : decode cX11_knotsOf 23 = .ok (.iload_n 3, 1) := by decide +kernel
theorem dX11_knotsOf_24 : decode cX11_knotsOf 24 = .ok (.invokevirtual 248, 3) := by decide +kernel
theorem dX11_knotsOf_27 : decode cX11_knotsOf 27 = .ok (.iadd, 1) := by decide +kernel
theorem dX11_knotsOf_28 : decode cX11_knotsOf 28 = .ok (.istore_n 3, 1) := by decide +kernel
theorem dX11_knotsOf_29 : decode cX11_knotsOf 29 = .ok (.goto (-25), 3) := by decide +kernel
theorem dX11_knotsOf_32 : decode cX11_knotsOf 32 = .ok (.iload_n 2, 1) := by decide +kernel
theorem dX11_knotsOf_33 : decode cX11_knotsOf 33 = .ok (.ireturn, 1) := by decide +kernel
theorem dX11_holdsOf_0 : decode cX11_holdsOf 0 = .ok (.iconst 0, 1) := by decide +kernel
theorem dX11_holdsOf_1 : decode cX11_holdsOf 1 = .ok (.istore_n 2, 1) := by decide +kernel
theorem dX11_holdsOf_2 : decode cX11_holdsOf 2 = .ok (.iconst 0, 1) := by decide +kernel
theorem dX11_holdsOf_3 : decode cX11_holdsOf 3 = .ok (.istore_n 3, 1) := by decide +kernel
theorem dX11_holdsOf_4 : decode cX11_holdsOf 4 = .ok (.iload_n 3, 1) := by decide +kernel
theorem dX11_holdsOf_5 : decode cX11_holdsOf 5 = .ok (.aload_n 0, 1) := by decide +kernel
theorem dX11_holdsOf_6 : decode cX11_holdsOf 6 = .ok (.getfield 33, 3) := by decide +kernel
theorem dX11_holdsOf_9 : decode cX11_holdsOf 9 = .ok (.bipush 125, 2) := by decide +kernel
theorem dX11_holdsOf_11 : decode cX11_holdsOf 11 = .ok (.iload_n 1, 1) := by decide +kernel
theorem dX11_holdsOf_12 : decode cX11_holdsOf 12 = .ok (.iadd, 1) := by decide +kernel
theorem dX11_holdsOf_13 : decode cX11_holdsOf 13 = .ok (.iaload, 1) := by decide +kernel
theorem dX11_holdsOf_14 : decode cX11_holdsOf 14 = .ok (.if_icmp .ge 25, 3) := by decide +kernel
theorem dX11_holdsOf_17 : decode cX11_holdsOf 17 = .ok (.iload_n 2, 1) := by decide +kernel
theorem dX11_holdsOf_18 : decode cX11_holdsOf 18 = .ok (.aload_n 0, 1) := by decide +kernel
theorem dX11_holdsOf_19 : decode cX11_holdsOf 19 = .ok (.getfield 33, 3) := by decide +kernel
theorem dX11_holdsOf_22 : decode cX11_holdsOf 22 = .ok (.iconst 5, 1) := by decide +kernel
theorem dX11_holdsOf_23 : decode cX11_holdsOf 23 = .ok (.aload_n 0, 1) := by decide +kernel
theorem dX11_holdsOf_24 : decode cX11_holdsOf 24 = .ok (.iload_n 1, 1) := by decide +kernel
theorem dX11_holdsOf_25 : decode cX11_holdsOf 25 = .ok (.iload_n 3, 1) := by decide +kernel
theorem dX11_holdsOf_26 : decode cX11_holdsOf 26 = .ok (.invokevirtual 245, 3) := by decide +kernel
theorem dX11_holdsOf_29 : decode cX11_holdsOf 29 = .ok (.iadd, 1) := by decide +kernel
theorem dX11_holdsOf_30 : decode cX11_holdsOf 30 = .ok (.iaload, 1) := by decide +kernel
theorem dX11_holdsOf_31 : decode cX11_holdsOf 31 = .ok (.iadd, 1) := by decide +kernel
theorem dX11_holdsOf_32 : decode cX11_holdsOf 32 = .ok (.istore_n 2, 1) := by decide +kernel
theorem dX11_holdsOf_33 : decode cX11_holdsOf 33 = .ok (.iinc 3 1, 3) := by decide +kernel
theorem dX11_holdsOf_36 : decode cX11_holdsOf 36 = .ok (.goto (-32), 3) := by decide +kernel
theorem dX11_holdsOf_39 : decode cX11_holdsOf 39 = .ok (.iload_n 2, 1) := by decide +kernel
theorem dX11_holdsOf_40 : decode cX11_holdsOf 40 = .ok (.ireturn, 1) := by decide +kernel
theorem dX11_isNest_0 : decode cX11_isNest 0 = .ok (.aload_n 0, 1) := by decide +kernel
theorem dX11_isNest_1 : decode cX11_isNest 1 = .ok (.getfield 33, 3) := by decide +kernel
theorem dX11_isNest_4 : decode cX11_isNest 4 = .ok (.bipush 125, 2) := by decide +kernel
theorem dX11_isNest_6 : decode cX11_isNest 6 = .ok (.iload_n 1, 1) := by decide +kernel
theorem dX11_isNest_7 : decode cX11_isNest 7 = .ok (.iadd, 1) := by decide +kernel
theorem dX11_isNest_8 : decode cX11_isNest 8 = .ok (.iaload, 1) := by decide +kernel
theorem dX11_isNest_9 : decode cX11_isNest 9 = .ok (.bipush 8, 2) := by decide +kernel
theorem dX11_isNest_11 : decode cX11_isNest 11 = .ok (.if_icmp .ne 7, 3) := by decide +kernel
theorem dX11_isNest_14 : decode cX11_isNest 14 = .ok (.iconst 1, 1) := by decide +kernel
theorem dX11_isNest_15 : decode cX11_isNest 15 = .ok (.goto 4, 3) := by decide +kernel
theorem dX11_isNest_18 : decode cX11_isNest 18 = .ok (.iconst 0, 1) := by decide +kernel
theorem dX11_isNest_19 : decode cX11_isNest 19 = .ok (.ireturn, 1) := by decide +kernel
theorem dX11_hasThing_0 : decode cX11_hasThing 0 = .ok (.iconst 0, 1) := by decide +kernel
theorem dX11_hasThing_1 : decode cX11_hasThing 1 = .ok (.istore_n 3, 1) := by decide +kernel
theorem dX11_hasThing_2 : decode cX11_hasThing 2 = .ok (.iconst 0, 1) := by decide +kernel
theorem dX11_hasThing_3 : decode cX11_hasThing 3 = .ok (.istore 4, 2) := by decide +kernel
theorem dX11_hasThing_5 : decode cX11_hasThing 5 = .ok (.iload 4, 2) := by decide +kernel
theorem dX11_hasThing_7 : decode cX11_hasThing 7 = .ok (.aload_n 0, 1) := by decide +kernel
theorem dX11_hasThing_8 : decode cX11_hasThing 8 = .ok (.getfield 33, 3) := by decide +kernel
theorem dX11_hasThing_11 : decode cX11_hasThing 11 = .ok (.bipush 125, 2) := by decide +kernel
theorem dX11_hasThing_13 : decode cX11_hasThing 13 = .ok (.iload_n 1, 1) := by decide +kernel
theorem dX11_hasThing_14 : decode cX11_hasThing 14 = .ok (.iadd, 1) := by decide +kernel
theorem dX11_hasThing_15 : decode cX11_hasThing 15 = .ok (.iaload, 1) := by decide +kernel
theorem dX11_hasThing_16 : decode cX11_hasThing 16 = .ok (.if_icmp .ge 39, 3) := by decide +kernel
theorem dX11_hasThing_19 : decode cX11_hasThing 19 = .ok (.iload_n 3, 1) := by decide +kernel
theorem dX11_hasThing_20 : decode cX11_hasThing 20 = .ok (.ifCond .ne 23, 3) := by decide +kernel
theorem dX11_hasThing_23 : decode cX11_hasThing 23 = .ok (.aload_n 0, 1) := by decide +kernel
theorem dX11_hasThing_24 : decode cX11_hasThing 24 = .ok (.getfield 33, 3) := by decide +kernel
theorem dX11_hasThing_27 : decode cX11_hasThing 27 = .ok (.sipush 131, 3) := by decide +kernel
theorem dX11_hasThing_30 : decode cX11_hasThing 30 = .ok (.bipush 8, 2) := by decide +kernel
theorem dX11_hasThing_32 : decode cX11_hasThing 32 = .ok (.iload_n 1, 1) := by decide +kernel
theorem dX11_hasThing_33 : decode cX11_hasThing 33 = .ok (.imul, 1) := by decide +kernel
theorem dX11_hasThing_34 : decode cX11_hasThing 34 = .ok (.iadd, 1) := by decide +kernel
theorem dX11_hasThing_35 : decode cX11_hasThing 35 = .ok (.iload 4, 2) := by decide +kernel
theorem dX11_hasThing_37 : decode cX11_hasThing 37 = .ok (.iadd, 1) := by decide +kernel
theorem dX11_hasThing_38 : decode cX11_hasThing 38 = .ok (.iaload, 1) := by decide +kernel
theorem dX11_hasThing_39 : decode cX11_hasThing 39 = .ok (.iload_n 2, 1) := by decide +kernel
theorem dX11_hasThing_40 : decode cX11_hasThing 40 = .ok (.if_icmp .ne 7, 3) := by decide +kernel
theorem dX11_hasThing_43 : decode cX11_hasThing 43 = .ok (.iconst 1, 1) := by decide +kernel
theorem dX11_hasThing_44 : decode cX11_hasThing 44 = .ok (.goto 4, 3) := by decide +kernel
theorem dX11_hasThing_47 : decode cX11_hasThing 47 = .ok (.iconst 0, 1) := by decide +kernel
theorem dX11_hasThing_48 : decode cX11_hasThing 48 = .ok (.istore_n 3, 1) := by decide +kernel
theorem dX11_hasThing_49 : decode cX11_hasThing 49 = .ok (.iinc 4 1, 3) := by decide +kernel
theorem dX11_hasThing_52 : decode cX11_hasThing 52 = .ok (.goto (-47), 3) := by decide +kernel
theorem dX11_hasThing_55 : decode cX11_hasThing 55 = .ok (.iload_n 3, 1) := by decide +kernel
theorem dX11_hasThing_56 : decode cX11_hasThing 56 = .ok (.ireturn, 1) := by decide +kernel
theorem dX11_bagged_0 : decode cX11_bagged 0 = .ok (.iconst 0, 1) := by decide +kernel
theorem dX11_bagged_1 : decode cX11_bagged 1 = .ok (.istore_n 1, 1) := by decide +kernel
theorem dX11_bagged_2 : decode cX11_bagged 2 = .ok (.iconst 0, 1) := by decide +kernel
theorem dX11_bagged_3 : decode cX11_bagged 3 = .ok (.istore_n 2, 1) := by decide +kernel
theorem dX11_bagged_4 : decode cX11_bagged 4 = .ok (.iload_n 2, 1) := by decide +kernel
theorem dX11_bagged_5 : decode cX11_bagged 5 = .ok (.bipush 8, 2) := by decide +kernel
theorem dX11_bagged_7 : decode cX11_bagged 7 = .ok (.if_icmp .ge 22, 3) := by decide +kernel
theorem dX11_bagged_10 : decode cX11_bagged 10 = .ok (.iload_n 1, 1) := by decide +kernel
theorem dX11_bagged_11 : decode cX11_bagged 11 = .ok (.aload_n 0, 1) := by decide +kernel
theorem dX11_bagged_12 : decode cX11_bagged 12 = .ok (.getfield 33, 3) := by decide +kernel
theorem dX11_bagged_15 : decode cX11_bagged 15 = .ok (.sipush 185, 3) := by decide +kernel
theorem dX11_bagged_18 : decode cX11_bagged 18 = .ok (.iload_n 2, 1) := by decide +kernel
theorem dX11_bagged_19 : decode cX11_bagged 19 = .ok (.iadd, 1) := by decide +kernel
theorem dX11_bagged_20 : decode cX11_bagged 20 = .ok (.iaload, 1) := by decide +kernel
theorem dX11_bagged_21 : decode cX11_bagged 21 = .ok (.iadd, 1) := by decide +kernel
theorem dX11_bagged_22 : decode cX11_bagged 22 = .ok (.istore_n 1, 1) := by decide +kernel
theorem dX11_bagged_23 : decode cX11_bagged 23 = .ok (.iinc 2 1, 3) := by decide +kernel
theorem dX11_bagged_26 : decode cX11_bagged 26 = .ok (.goto (-22), 3) := by decide +kernel
theorem dX11_bagged_29 : decode cX11_bagged 29 = .ok (.iload_n 1, 1) := by decide +kernel
theorem dX11_bagged_30 : decode cX11_bagged 30 = .ok (.ireturn, 1) := by decide +kernel
theorem dX11_isSlept_0 : decode cX11_isSlept 0 = .ok (.aload_n 0, 1) := by decide +kernel
theorem dX11_isSlept_1 : decode cX11_isSlept 1 = .ok (.getfield 33, 3) := by decide +kernel
theorem dX11_isSlept_4 : decode cX11_isSlept 4 = .ok (.sipush 193, 3) := by decide +kernel
theorem dX11_isSlept_7 : decode cX11_isSlept 7 = .ok (.iload_n 1, 1) := by decide +kernel
theorem dX11_isSlept_8 : decode cX11_isSlept 8 = .ok (.iadd, 1) := by decide +kernel
theorem dX11_isSlept_9 : decode cX11_isSlept 9 = .ok (.iaload, 1) := by decide +kernel
theorem dX11_isSlept_10 : decode cX11_isSlept 10 = .ok (.aload_n 0, 1) := by decide +kernel
theorem dX11_isSlept_11 : decode cX11_isSlept 11 = .ok (.getfield 33, 3) := by decide +kernel
theorem dX11_isSlept_14 : decode cX11_isSlept 14 = .ok (.bipush 117, 2) := by decide +kernel
theorem dX11_isSlept_16 : decode cX11_isSlept 16 = .ok (.iload_n 1, 1) := by decide +kernel
theorem dX11_isSlept_17 : decode cX11_isSlept 17 = .ok (.iadd, 1) := by decide +kernel
theorem dX11_isSlept_18 : decode cX11_isSlept 18 = .ok (.iaload, 1) := by decide +kernel
theorem dX11_isSlept_19 : decode cX11_isSlept 19 = .ok (.if_icmp .lt 7, 3) := by decide +kernel
theorem dX11_isSlept_22 : decode cX11_isSlept 22 = .ok (.iconst 1, 1) := by decide +kernel
theorem dX11_isSlept_23 : decode cX11_isSlept 23 = .ok (.goto 4, 3) := by decide +kernel
theorem dX11_isSlept_26 : decode cX11_isSlept 26 = .ok (.iconst 0, 1) := by decide +kernel
theorem dX11_isSlept_27 : decode cX11_isSlept 27 = .ok (.ireturn, 1) := by decide +kernel
theorem dX11_sleptOn_0 : decode cX11_sleptOn 0 = .ok (.iconst 0, 1) := by decide +kernel
theorem dX11_sleptOn_1 : decode cX11_sleptOn 1 = .ok (.istore_n 1, 1) := by decide +kernel
theorem dX11_sleptOn_2 : decode cX11_sleptOn 2 = .ok (.iconst 0, 1) := by decide +kernel
theorem dX11_sleptOn_3 : decode cX11_sleptOn 3 = .ok (.istore_n 2, 1) := by decide +kernel
theorem dX11_sleptOn_4 : decode cX11_sleptOn 4 = .ok (.iload_n 2, 1) := by decide +kernel
theorem dX11_sleptOn_5 : decode cX11_sleptOn 5 = .ok (.aload_n 0, 1) := by decide +kernel
theorem dX11_sleptOn_6 : decode cX11_sleptOn 6 = .ok (.getfield 33, 3) := by decide +kernel
theorem dX11_sleptOn_9 : decode cX11_sleptOn 9 = .ok (.iconst 3, 1) := by decide +kernel
theorem dX11_sleptOn_10 : decode cX11_sleptOn 10 = .ok (.iaload, 1) := by decide +kernel
theorem dX11_sleptOn_11 : decode cX11_sleptOn 11 = .ok (.if_icmp .ge 27, 3) := by decide +kernel
theorem dX11_sleptOn_14 : decode cX11_sleptOn 14 = .ok (.iload_n 1, 1) := by decide +kernel
theorem dX11_sleptOn_15 : decode cX11_sleptOn 15 = .ok (.aload_n 0, 1) := by decide +kernel
theorem dX11_sleptOn_16 : decode cX11_sleptOn 16 = .ok (.iload_n 2, 1) := by decide +kernel
theorem dX11_sleptOn_17 : decode cX11_sleptOn 17 = .ok (.invokevirtual 251, 3) := by decide +kernel
theorem dX11_sleptOn_20 : decode cX11_sleptOn 20 = .ok (.ifCond .eq 9, 3) := by decide +kernel
theorem dX11_sleptOn_23 : decode cX11_sleptOn 23 = .ok (.iconst 1, 1) := by decide +kernel
theorem dX11_sleptOn_24 : decode cX11_sleptOn 24 = .ok (.iload_n 2, 1) := by decide +kernel
theorem dX11_sleptOn_25 : decode cX11_sleptOn 25 = .ok (.ishl, 1) := by decide +kernel
theorem dX11_sleptOn_26 : decode cX11_sleptOn 26 = .ok (.goto 4, 3) := by decide +kernel
theorem dX11_sleptOn_29 : decode cX11_sleptOn 29 = .ok (.iconst 0, 1) := by decide +kernel
theorem dX11_sleptOn_30 : decode cX11_sleptOn 30 = .ok (.ior, 1) := by decide +kernel
theorem dX11_sleptOn_31 : decode cX11_sleptOn 31 = .ok (.istore_n 1, 1) := by decide +kernel
theorem dX11_sleptOn_32 : decode cX11_sleptOn 32 = .ok (.iinc 2 1, 3) := by decide +kernel
theorem dX11_sleptOn_35 : decode cX11_sleptOn 35 = .ok (.goto (-31), 3) := by decide +kernel
theorem dX11_sleptOn_38 : decode cX11_sleptOn 38 = .ok (.iload_n 1, 1) := by decide +kernel
theorem dX11_sleptOn_39 : decode cX11_sleptOn 39 = .ok (.ireturn, 1) := by decide +kernel
theorem dX11_stillOf_0 : decode cX11_stillOf 0 = .ok (.aload_n 0, 1) := by decide +kernel
theorem dX11_stillOf_1 : decode cX11_stillOf 1 = .ok (.getfield 33, 3) := by decide +kernel
theorem dX11_stillOf_4 : decode cX11_stillOf 4 = .ok (.sipush 185, 3) := by decide +kernel
theorem dX11_stillOf_7 : decode cX11_stillOf 7 = .ok (.iload_n 1, 1) := by decide +kernel
theorem dX11_stillOf_8 : decode cX11_stillOf 8 = .ok (.iadd, 1) := by decide +kernel
theorem dX11_stillOf_9 : decode cX11_stillOf 9 = .ok (.iaload, 1) := by decide +kernel
theorem dX11_stillOf_10 : decode cX11_stillOf 10 = .ok (.aload_n 0, 1) := by decide +kernel
theorem dX11_stillOf_11 : decode cX11_stillOf 11 = .ok (.getfield 33, 3) := by decide +kernel
theorem dX11_stillOf_14 : decode cX11_stillOf 14 = .ok (.sipush 201, 3) := by decide +kernel
theorem dX11_stillOf_17 : decode cX11_stillOf 17 = .ok (.iload_n 1, 1) := by decide +kernel
theorem dX11_stillOf_18 : decode cX11_stillOf 18 = .ok (.iadd, 1) := by decide +kernel
theorem dX11_stillOf_19 : decode cX11_stillOf 19 = .ok (.iaload, 1) := by decide +kernel
theorem dX11_stillOf_20 : decode cX11_stillOf 20 = .ok (.iadd, 1) := by decide +kernel
theorem dX11_stillOf_21 : decode cX11_stillOf 21 = .ok (.istore_n 2, 1) := by decide +kernel
theorem dX11_stillOf_22 : decode cX11_stillOf 22 = .ok (.iconst 0, 1) := by decide +kernel
theorem dX11_stillOf_23 : decode cX11_stillOf 23 = .ok (.istore_n 3, 1) := by decide +kernel
theorem dX11_stillOf_24 : decode cX11_stillOf 24 = .ok (.iload_n 3, 1) := by decide +kernel
theorem dX11_stillOf_25 : decode cX11_stillOf 25 = .ok (.aload_n 0, 1) := by decide +kernel
theorem dX11_stillOf_26 : decode cX11_stillOf 26 = .ok (.getfield 33, 3) := by decide +kernel
theorem dX11_stillOf_29 : decode cX11_stillOf 29 = .ok (.iconst 1, 1) := by decide +kernel
theorem dX11_stillOf_30 : decode cX11_stillOf 30 = .ok (.iaload, 1) := by decide +kernel
theorem dX11_stillOf_31 : decode cX11_stillOf 31 = .ok (.if_icmp .ge 60, 3) := by decide +kernel
theorem dX11_stillOf_34 : decode cX11_stillOf 34 = .ok (.iconst 0, 1) := by decide +kernel
theorem dX11_stillOf_35 : decode cX11_stillOf 35 = .ok (.istore 4, 2) := by decide +kernel
theorem dX11_stillOf_37 : decode cX11_stillOf 37 = .ok (.iload 4, 2) := by decide +kernel
theorem dX11_stillOf_39 : decode cX11_stillOf 39 = .ok (.aload_n 0, 1) := by decide +kernel
theorem dX11_stillOf_40 : decode cX11_stillOf 40 = .ok (.getfield 33, 3) := by decide +kernel
theorem dX11_stillOf_43 : decode cX11_stillOf 43 = .ok (.bipush 125, 2) := by decide +kernel
theorem dX11_stillOf_45 : decode cX11_stillOf 45 = .ok (.iload_n 3, 1) := by decide +kernel
theorem dX11_stillOf_46 : decode cX11_stillOf 46 = .ok (.iadd, 1) := by decide +kernel
theorem dX11_stillOf_47 : decode cX11_stillOf 47 = .ok (.iaload, 1) := by decide +kernel
theorem dX11_stillOf_48 : decode cX11_stillOf 48 = .ok (.if_icmp .ge 37, 3) := by decide +kernel
theorem dX11_stillOf_51 : decode cX11_stillOf 51 = .ok (.iload_n 2, 1) := by decide +kernel
theorem dX11_stillOf_52 : decode cX11_stillOf 52 = .ok (.aload_n 0, 1) := by decide +kernel
theorem dX11_stillOf_53 : decode cX11_stillOf 53 = .ok (.getfield 33, 3) := by decide +kernel
theorem dX11_stillOf_56 : decode cX11_stillOf 56 = .ok (.sipush 131, 3) := by decide +kernel
theorem dX11_stillOf_59 : decode cX11_stillOf 59 = .ok (.bipush 8, 2) := by decide +kernel
theorem dX11_stillOf_61 : decode cX11_stillOf 61 = .ok (.iload_n 3, 1) := by decide +kernel
theorem dX11_stillOf_62 : decode cX11_stillOf 62 = .ok (.imul, 1) := by decide +kernel
theorem dX11_stillOf_63 : decode cX11_stillOf 63 = .ok (.iadd, 1) := by decide +kernel
theorem dX11_stillOf_64 : decode cX11_stillOf 64 = .ok (.iload 4, 2) := by decide +kernel
theorem dX11_stillOf_66 : decode cX11_stillOf 66 = .ok (.iadd, 1) := by decide +kernel
theorem dX11_stillOf_67 : decode cX11_stillOf 67 = .ok (.iaload, 1) := by decide +kernel
theorem dX11_stillOf_68 : decode cX11_stillOf 68 = .ok (.iload_n 1, 1) := by decide +kernel
theorem dX11_stillOf_69 : decode cX11_stillOf 69 = .ok (.if_icmp .ne 7, 3) := by decide +kernel
theorem dX11_stillOf_72 : decode cX11_stillOf 72 = .ok (.iconst 1, 1) := by decide +kernel
theorem dX11_stillOf_73 : decode cX11_stillOf 73 = .ok (.goto 4, 3) := by decide +kernel
theorem dX11_stillOf_76 : decode cX11_stillOf 76 = .ok (.iconst 0, 1) := by decide +kernel
theorem dX11_stillOf_77 : decode cX11_stillOf 77 = .ok (.iadd, 1) := by decide +kernel
theorem dX11_stillOf_78 : decode cX11_stillOf 78 = .ok (.istore_n 2, 1) := by decide +kernel
theorem dX11_stillOf_79 : decode cX11_stillOf 79 = .ok (.iinc 4 1, 3) := by decide +kernel
theorem dX11_stillOf_82 : decode cX11_stillOf 82 = .ok (.goto (-45), 3) := by decide +kernel
theorem dX11_stillOf_85 : decode cX11_stillOf 85 = .ok (.iinc 3 1, 3) := by decide +kernel
theorem dX11_stillOf_88 : decode cX11_stillOf 88 = .ok (.goto (-64), 3) := by decide +kernel
theorem dX11_stillOf_91 : decode cX11_stillOf 91 = .ok (.iload_n 2, 1) := by decide +kernel
theorem dX11_stillOf_92 : decode cX11_stillOf 92 = .ok (.ireturn, 1) := by decide +kernel
theorem dX11_person_0 : decode cX11_person 0 = .ok (.aload_n 0, 1) := by decide +kernel
theorem dX11_person_1 : decode cX11_person 1 = .ok (.aload_n 0, 1) := by decide +kernel
theorem dX11_person_2 : decode cX11_person 2 = .ok (.iload_n 1, 1) := by decide +kernel
theorem dX11_person_3 : decode cX11_person 3 = .ok (.invokevirtual 254, 3) := by decide +kernel
theorem dX11_person_6 : decode cX11_person 6 = .ok (.ifCond .eq 13, 3) := by decide +kernel
theorem dX11_person_9 : decode cX11_person 9 = .ok (.iload_n 2, 1) := by decide +kernel
theorem dX11_person_10 : decode cX11_person 10 = .ok (.iconst 0, 1) := by decide +kernel
theorem dX11_person_11 : decode cX11_person 11 = .ok (.bipush 6, 2) := by decide +kernel
theorem dX11_person_13 : decode cX11_person 13 = .ok (.invokestatic 176, 3) := by decide +kernel
theorem dX11_person_16 : decode cX11_person 16 = .ok (.ifCond .ne 7, 3) := by decide +kernel
theorem dX11_person_19 : decode cX11_person 19 = .ok (.iconst 1, 1) := by decide +kernel
theorem dX11_person_20 : decode cX11_person 20 = .ok (.goto 4, 3) := by decide +kernel
theorem dX11_person_23 : decode cX11_person 23 = .ok (.iconst 0, 1) := by decide +kernel
theorem dX11_person_24 : decode cX11_person 24 = .ok (.invokevirtual 257, 3) := by decide +kernel
theorem dX11_person_27 : decode cX11_person 27 = .ok (.ifCond .eq 5, 3) := by decide +kernel
theorem dX11_person_30 : decode cX11_person 30 = .ok (.iconst 0, 1) := by decide +kernel
theorem dX11_person_31 : decode cX11_person 31 = .ok (.ireturn, 1) := by decide +kernel
theorem dX11_person_32 : decode cX11_person 32 = .ok (.iload_n 2, 1) := by decide +kernel
theorem dX11_person_33 : decode cX11_person 33 = .ok (.tableswitch 89 0 5 #[39, 49, 60, 70, 76, 83], 39) := by decide +kernel
theorem dX11_person_72 : decode cX11_person 72 = .ok (.aload_n 0, 1) := by decide +kernel
theorem dX11_person_73 : decode cX11_person 73 = .ok (.getfield 33, 3) := by decide +kernel
theorem dX11_person_76 : decode cX11_person 76 = .ok (.bipush 21, 2) := by decide +kernel
theorem dX11_person_78 : decode cX11_person 78 = .ok (.iload_n 1, 1) := by decide +kernel
theorem dX11_person_79 : decode cX11_person 79 = .ok (.iadd, 1) := by decide +kernel
theorem dX11_person_80 : decode cX11_person 80 = .ok (.iaload, 1) := by decide +kernel
theorem dX11_person_81 : decode cX11_person 81 = .ok (.ireturn, 1) := by decide +kernel
theorem dX11_person_82 : decode cX11_person 82 = .ok (.aload_n 0, 1) := by decide +kernel
theorem dX11_person_83 : decode cX11_person 83 = .ok (.getfield 33, 3) := by decide +kernel
theorem dX11_person_86 : decode cX11_person 86 = .ok (.sipush 179, 3) := by decide +kernel
theorem dX11_person_89 : decode cX11_person 89 = .ok (.iload_n 1, 1) := by decide +kernel
theorem dX11_person_90 : decode cX11_person 90 = .ok (.iadd, 1) := by decide +kernel
theorem dX11_person_91 : decode cX11_person 91 = .ok (.iaload, 1) := by decide +kernel
theorem dX11_person_92 : decode cX11_person 92 = .ok (.ireturn, 1) := by decide +kernel
theorem dX11_person_93 : decode cX11_person 93 = .ok (.aload_n 0, 1) := by decide +kernel
theorem dX11_person_94 : decode cX11_person 94 = .ok (.getfield 33, 3) := by decide +kernel
theorem dX11_person_97 : decode cX11_person 97 = .ok (.bipush 125, 2) := by decide +kernel
theorem dX11_person_99 : decode cX11_person 99 = .ok (.iload_n 1, 1) := by decide +kernel
theorem dX11_person_100 : decode cX11_person 100 = .ok (.iadd, 1) := by decide +kernel
theorem dX11_person_101 : decode cX11_person 101 = .ok (.iaload, 1) := by decide +kernel
theorem dX11_person_102 : decode cX11_person 102 = .ok (.ireturn, 1) := by decide +kernel
theorem dX11_person_103 : decode cX11_person 103 = .ok (.aload_n 0, 1) := by decide +kernel
theorem dX11_person_104 : decode cX11_person 104 = .ok (.iload_n 1, 1) := by decide +kernel
theorem dX11_person_105 : decode cX11_person 105 = .ok (.invokevirtual 261, 3) := by decide +kernel
theorem dX11_person_108 : decode cX11_person 108 = .ok (.ireturn, 1) := by decide +kernel
theorem dX11_person_109 : decode cX11_person 109 = .ok (.aload_n 0, 1) := by decide +kernel
theorem dX11_person_110 : decode cX11_person 110 = .ok (.iload_n 1, 1) := by decide +kernel
theorem dX11_person_111 : decode cX11_person 111 = .ok (.iconst 0, 1) := by decide +kernel
theorem dX11_person_112 : decode cX11_person 112 = .ok (.invokevirtual 265, 3) := by decide +kernel
theorem dX11_person_115 : decode cX11_person 115 = .ok (.ireturn, 1) := by decide +kernel
theorem dX11_person_116 : decode cX11_person 116 = .ok (.aload_n 0, 1) := by decide +kernel
theorem dX11_person_117 : decode cX11_person 117 = .ok (.iload_n 1, 1) := by decide +kernel
theorem dX11_person_118 : decode cX11_person 118 = .ok (.invokevirtual 268, 3) := by decide +kernel
theorem dX11_person_121 : decode cX11_person 121 = .ok (.ireturn, 1) := by decide +kernel
theorem dX11_person_122 : decode cX11_person 122 = .ok (.aload_n 0, 1) := by decide +kernel
theorem dX11_person_123 : decode cX11_person 123 = .ok (.iload_n 1, 1) := by decide +kernel
theorem dX11_person_124 : decode cX11_person 124 = .ok (.invokevirtual 271, 3) := by decide +kernel
theorem dX11_person_127 : decode cX11_person 127 = .ok (.ifCond .eq 7, 3) := by decide +kernel
theorem dX11_person_130 : decode cX11_person 130 = .ok (.iconst 1, 1) := by decide +kernel
theorem dX11_person_131 : decode cX11_person 131 = .ok (.goto 4, 3) := by decide +kernel
theorem dX11_person_134 : decode cX11_person 134 = .ok (.iconst 0, 1) := by decide +kernel
theorem dX11_person_135 : decode cX11_person 135 = .ok (.ireturn, 1) := by decide +kernel
theorem dX11_layer_0 : decode cX11_layer 0 = .ok (.aload_n 0, 1) := by decide +kernel
theorem dX11_layer_1 : decode cX11_layer 1 = .ok (.iconst 0, 1) := by decide +kernel
theorem dX11_layer_2 : decode cX11_layer 2 = .ok (.putfield 1, 3) := by decide +kernel
theorem dX11_layer_5 : decode cX11_layer 5 = .ok (.aload_n 0, 1) := by decide +kernel
theorem dX11_layer_6 : decode cX11_layer 6 = .ok (.iload_n 1, 1) := by decide +kernel
theorem dX11_layer_7 : decode cX11_layer 7 = .ok (.invokevirtual 254, 3) := by decide +kernel
theorem dX11_layer_10 : decode cX11_layer 10 = .ok (.ifCond .eq 40, 3) := by decide +kernel
theorem dX11_layer_13 : decode cX11_layer 13 = .ok (.iload_n 2, 1) := by decide +kernel
theorem dX11_layer_14 : decode cX11_layer 14 = .ok (.iconst 0, 1) := by decide +kernel
theorem dX11_layer_15 : decode cX11_layer 15 = .ok (.aload_n 0, 1) := by decide +kernel
theorem dX11_layer_16 : decode cX11_layer 16 = .ok (.getfield 33, 3) := by decide +kernel
theorem dX11_layer_19 : decode cX11_layer 19 = .ok (.bipush 125, 2) := by decide +kernel
theorem dX11_layer_21 : decode cX11_layer 21 = .ok (.iload_n 1, 1) := by decide +kernel
theorem dX11_layer_22 : decode cX11_layer 22 = .ok (.iadd, 1) := by decide +kernel
theorem dX11_layer_23 : decode cX11_layer 23 = .ok (.iaload, 1) := by decide +kernel
theorem dX11_layer_24 : decode cX11_layer 24 = .ok (.iconst 1, 1) := by decide +kernel
theorem dX11_layer_25 : decode cX11_layer 25 = .ok (.isub, 1) := by decide +kernel
theorem dX11_layer_26 : decode cX11_layer 26 = .ok (.invokestatic 176, 3) := by decide +kernel
theorem dX11_layer_29 : decode cX11_layer 29 = .ok (.ifCond .eq 21, 3) := by decide +kernel
theorem dX11_layer_32 : decode cX11_layer 32 = .ok (.aload_n 0, 1) := by decide +kernel
theorem dX11_layer_33 : decode cX11_layer 33 = .ok (.getfield 33, 3) := by decide +kernel
theorem dX11_layer_36 : decode cX11_layer 36 = .ok (.sipush 131, 3) := by decide +kernel
theorem dX11_layer_39 : decode cX11_layer 39 = .ok (.bipush 8, 2) := by decide +kernel
theorem dX11_layer_41 : decode cX11_layer 41 = .ok (.iload_n 1, 1) := by decide +kernel
theorem dX11_layer_42 : decode cX11_layer 42 = .ok (.imul, 1) := by decide +kernel
theorem dX11_layer_43 : decode cX11_layer 43 = .ok (.iadd, 1) := by decide +kernel
theorem dX11_layer_44 : decode cX11_layer 44 = .ok (.iload_n 2, 1) := by decide +kernel
theorem dX11_layer_45 : decode cX11_layer 45 = .ok (.iadd, 1) := by decide +kernel
theorem dX11_layer_46 : decode cX11_layer 46 = .ok (.iaload, 1) := by decide +kernel
theorem dX11_layer_47 : decode cX11_layer 47 = .ok (.goto 4, 3) := by decide +kernel
theorem dX11_layer_50 : decode cX11_layer 50 = .ok (.iconst (-1), 1) := by decide +kernel
theorem dX11_layer_51 : decode cX11_layer 51 = .ok (.ireturn, 1) := by decide +kernel
theorem dX11_thing_0 : decode cX11_thing 0 = .ok (.aload_n 0, 1) := by decide +kernel
theorem dX11_thing_1 : decode cX11_thing 1 = .ok (.iconst 0, 1) := by decide +kernel
theorem dX11_thing_2 : decode cX11_thing 2 = .ok (.putfield 1, 3) := by decide +kernel
theorem dX11_thing_5 : decode cX11_thing 5 = .ok (.aload_n 0, 1) := by decide +kernel
theorem dX11_thing_6 : decode cX11_thing 6 = .ok (.iload_n 1, 1) := by decide +kernel
theorem dX11_thing_7 : decode cX11_thing 7 = .ok (.invokevirtual 274, 3) := by decide +kernel
theorem dX11_thing_10 : decode cX11_thing 10 = .ok (.ifCond .ne 5, 3) := by decide +kernel
theorem dX11_thing_13 : decode cX11_thing 13 = .ok (.iconst (-1), 1) := by decide +kernel
theorem dX11_thing_14 : decode cX11_thing 14 = .ok (.ireturn, 1) := by decide +kernel
theorem dX11_thing_15 : decode cX11_thing 15 = .ok (.iconst 0, 1) := by decide +kernel
theorem dX11_thing_16 : decode cX11_thing 16 = .ok (.istore_n 3, 1) := by decide +kernel
theorem dX11_thing_17 : decode cX11_thing 17 = .ok (.iconst 0, 1) := by decide +kernel
theorem dX11_thing_18 : decode cX11_thing 18 = .ok (.istore 4, 2) := by decide +kernel
theorem dX11_thing_20 : decode cX11_thing 20 = .ok (.iload 4, 2) := by decide +kernel
theorem dX11_thing_22 : decode cX11_thing 22 = .ok (.aload_n 0, 1) := by decide +kernel
theorem dX11_thing_23 : decode cX11_thing 23 = .ok (.getfield 33, 3) := by decide +kernel
theorem dX11_thing_26 : decode cX11_thing 26 = .ok (.iconst 1, 1) := by decide +kernel
theorem dX11_thing_27 : decode cX11_thing 27 = .ok (.iaload, 1) := by decide +kernel
theorem dX11_thing_28 : decode cX11_thing 28 = .ok (.if_icmp .ge 30, 3) := by decide +kernel
theorem dX11_thing_31 : decode cX11_thing 31 = .ok (.iload_n 3, 1) := by decide +kernel
theorem dX11_thing_32 : decode cX11_thing 32 = .ok (.aload_n 0, 1) := by decide +kernel
theorem dX11_thing_33 : decode cX11_thing 33 = .ok (.iload 4, 2) := by decide +kernel
theorem dX11_thing_35 : decode cX11_thing 35 = .ok (.iload_n 1, 1) := by decide +kernel
theorem dX11_thing_36 : decode cX11_thing 36 = .ok (.invokevirtual 277, 3) := by decide +kernel
theorem dX11_thing_39 : decode cX11_thing 39 = .ok (.ifCond .eq 10, 3) := by decide +kernel
theorem dX11_thing_42 : decode cX11_thing 42 = .ok (.iconst 1, 1) := by decide +kernel
theorem dX11_thing_43 : decode cX11_thing 43 = .ok (.iload 4, 2) := by decide +kernel
theorem dX11_thing_45 : decode cX11_thing 45 = .ok (.ishl, 1) := by decide +kernel
theorem dX11_thing_46 : decode cX11_thing 46 = .ok (.goto 4, 3) := by decide +kernel
theorem dX11_thing_49 : decode cX11_thing 49 = .ok (.iconst 0, 1) := by decide +kernel
theorem dX11_thing_50 : decode cX11_thing 50 = .ok (.ior, 1) := by decide +kernel
theorem dX11_thing_51 : decode cX11_thing 51 = .ok (.istore_n 3, 1) := by decide +kernel
theorem dX11_thing_52 : decode cX11_thing 52 = .ok (.iinc 4 1, 3) := by decide +kernel
theorem dX11_thing_55 : decode cX11_thing 55 = .ok (.goto (-35), 3) := by decide +kernel
theorem dX11_thing_58 : decode cX11_thing 58 = .ok (.iload_n 2, 1) := by decide +kernel
theorem dX11_thing_59 : decode cX11_thing 59 = .ok (.tableswitch 71 0 4 #[33, 42, 52, 63, 65], 33) := by decide +kernel
theorem dX11_thing_92 : decode cX11_thing 92 = .ok (.aload_n 0, 1) := by decide +kernel
theorem dX11_thing_93 : decode cX11_thing 93 = .ok (.getfield 33, 3) := by decide +kernel
theorem dX11_thing_96 : decode cX11_thing 96 = .ok (.iconst 5, 1) := by decide +kernel
theorem dX11_thing_97 : decode cX11_thing 97 = .ok (.iload_n 1, 1) := by decide +kernel
theorem dX11_thing_98 : decode cX11_thing 98 = .ok (.iadd, 1) := by decide +kernel
theorem dX11_thing_99 : decode cX11_thing 99 = .ok (.iaload, 1) := by decide +kernel
theorem dX11_thing_100 : decode cX11_thing 100 = .ok (.ireturn, 1) := by decide +kernel
theorem dX11_thing_101 : decode cX11_thing 101 = .ok (.aload_n 0, 1) := by decide +kernel
theorem dX11_thing_102 : decode cX11_thing 102 = .ok (.getfield 33, 3) := by decide +kernel
theorem dX11_thing_105 : decode cX11_thing 105 = .ok (.bipush 13, 2) := by decide +kernel
theorem dX11_thing_107 : decode cX11_thing 107 = .ok (.iload_n 1, 1) := by decide +kernel
theorem dX11_thing_108 : decode cX11_thing 108 = .ok (.iadd, 1) := by decide +kernel
theorem dX11_thing_109 : decode cX11_thing 109 = .ok (.iaload, 1) := by decide +kernel
theorem dX11_thing_110 : decode cX11_thing 110 = .ok (.ireturn, 1) := by decide +kernel
theorem dX11_thing_111 : decode cX11_thing 111 = .ok (.aload_n 0, 1) := by decide +kernel
theorem dX11_thing_112 : decode cX11_thing 112 = .ok (.getfield 33, 3) := by decide +kernel
theorem dX11_thing_115 : decode cX11_thing 115 = .ok (.sipush 185, 3) := by decide +kernel
theorem dX11_thing_118 : decode cX11_thing 118 = .ok (.iload_n 1, 1) := by decide +kernel
theorem dX11_thing_119 : decode cX11_thing 119 = .ok (.iadd, 1) := by decide +kernel
theorem dX11_thing_120 : decode cX11_thing 120 = .ok (.iaload, 1) := by decide +kernel
theorem dX11_thing_121 : decode cX11_thing 121 = .ok (.ireturn, 1) := by decide +kernel
theorem dX11_thing_122 : decode cX11_thing 122 = .ok (.iload_n 3, 1) := by decide +kernel
theorem dX11_thing_123 : decode cX11_thing 123 = .ok (.ireturn, 1) := by decide +kernel
theorem dX11_thing_124 : decode cX11_thing 124 = .ok (.aload_n 0, 1) := by decide +kernel
theorem dX11_thing_125 : decode cX11_thing 125 = .ok (.iload_n 1, 1) := by decide +kernel
theorem dX11_thing_126 : decode cX11_thing 126 = .ok (.invokevirtual 280, 3) := by decide +kernel
theorem dX11_thing_129 : decode cX11_thing 129 = .ok (.ireturn, 1) := by decide +kernel
theorem dX11_thing_130 : decode cX11_thing 130 = .ok (.iconst (-1), 1) := by decide +kernel
theorem dX11_thing_131 : decode cX11_thing 131 = .ok (.ireturn, 1) := by decide +kernel
theorem dX11_bed_0 : decode cX11_bed 0 = .ok (.aload_n 0, 1) := by decide +kernel
theorem dX11_bed_1 : decode cX11_bed 1 = .ok (.iconst 0, 1) := by decide +kernel
theorem dX11_bed_2 : decode cX11_bed 2 = .ok (.putfield 1, 3) := by decide +kernel
theorem dX11_bed_5 : decode cX11_bed 5 = .ok (.aload_n 0, 1) := by decide +kernel
theorem dX11_bed_6 : decode cX11_bed 6 = .ok (.iload_n 1, 1) := by decide +kernel
theorem dX11_bed_7 : decode cX11_bed 7 = .ok (.invokevirtual 283, 3) := by decide +kernel
theorem dX11_bed_10 : decode cX11_bed 10 = .ok (.ifCond .ne 5, 3) := by decide +kernel
theorem dX11_bed_13 : decode cX11_bed 13 = .ok (.iconst (-1), 1) := by decide +kernel
theorem dX11_bed_14 : decode cX11_bed 14 = .ok (.ireturn, 1) := by decide +kernel
theorem dX11_bed_15 : decode cX11_bed 15 = .ok (.iload_n 2, 1) := by decide +kernel
theorem dX11_bed_16 : decode cX11_bed 16 = .ok (.ifCond .ne 15, 3) := by decide +kernel
theorem dX11_bed_19 : decode cX11_bed 19 = .ok (.aload_n 0, 1) := by decide +kernel
theorem dX11_bed_20 : decode cX11_bed 20 = .ok (.getfield 33, 3) := by decide +kernel
theorem dX11_bed_23 : decode cX11_bed 23 = .ok (.bipush 117, 2) := by decide +kernel
theorem dX11_bed_25 : decode cX11_bed 25 = .ok (.iload_n 1, 1) := by decide +kernel
theorem dX11_bed_26 : decode cX11_bed 26 = .ok (.iadd, 1) := by decide +kernel
theorem dX11_bed_27 : decode cX11_bed 27 = .ok (.iaload, 1) := by decide +kernel
theorem dX11_bed_28 : decode cX11_bed 28 = .ok (.goto 61, 3) := by decide +kernel
theorem dX11_bed_31 : decode cX11_bed 31 = .ok (.iload_n 2, 1) := by decide +kernel
theorem dX11_bed_32 : decode cX11_bed 32 = .ok (.iconst 1, 1) := by decide +kernel
theorem dX11_bed_33 : decode cX11_bed 33 = .ok (.if_icmp .ne 16, 3) := by decide +kernel
theorem dX11_bed_36 : decode cX11_bed 36 = .ok (.aload_n 0, 1) := by decide +kernel
theorem dX11_bed_37 : decode cX11_bed 37 = .ok (.getfield 33, 3) := by decide +kernel
theorem dX11_bed_40 : decode cX11_bed 40 = .ok (.sipush 193, 3) := by decide +kernel
theorem dX11_bed_43 : decode cX11_bed 43 = .ok (.iload_n 1, 1) := by decide +kernel
theorem dX11_bed_44 : decode cX11_bed 44 = .ok (.iadd, 1) := by decide +kernel
theorem dX11_bed_45 : decode cX11_bed 45 = .ok (.iaload, 1) := by decide +kernel
theorem dX11_bed_46 : decode cX11_bed 46 = .ok (.goto 43, 3) := by decide +kernel
theorem dX11_bed_49 : decode cX11_bed 49 = .ok (.iload_n 2, 1) := by decide +kernel
theorem dX11_bed_50 : decode cX11_bed 50 = .ok (.iconst 2, 1) := by decide +kernel
theorem dX11_bed_51 : decode cX11_bed 51 = .ok (.if_icmp .ne 19, 3) := by decide +kernel
theorem dX11_bed_54 : decode cX11_bed 54 = .ok (.aload_n 0, 1) := by decide +kernel
theorem dX11_bed_55 : decode cX11_bed 55 = .ok (.iload_n 1, 1) := by decide +kernel
theorem dX11_bed_56 : decode cX11_bed 56 = .ok (.invokevirtual 251, 3) := by decide +kernel
theorem dX11_bed_59 : decode cX11_bed 59 = .ok (.ifCond .eq 7, 3) := by decide +kernel
theorem dX11_bed_62 : decode cX11_bed 62 = .ok (.iconst 1, 1) := by decide +kernel
theorem dX11_bed_63 : decode cX11_bed 63 = .ok (.goto 26, 3) := by decide +kernel
theorem dX11_bed_66 : decode cX11_bed 66 = .ok (.iconst 0, 1) := by decide +kernel
theorem dX11_bed_67 : decode cX11_bed 67 = .ok (.goto 22, 3) := by decide +kernel
theorem dX11_bed_70 : decode cX11_bed 70 = .ok (.iload_n 2, 1) := by decide +kernel
theorem dX11_bed_71 : decode cX11_bed 71 = .ok (.iconst 3, 1) := by decide +kernel
theorem dX11_bed_72 : decode cX11_bed 72 = .ok (.if_icmp .ne 16, 3) := by decide +kernel
theorem dX11_bed_75 : decode cX11_bed 75 = .ok (.aload_n 0, 1) := by decide +kernel
theorem dX11_bed_76 : decode cX11_bed 76 = .ok (.getfield 33, 3) := by decide +kernel
theorem dX11_bed_79 : decode cX11_bed 79 = .ok (.sipush 197, 3) := by decide +kernel
theorem dX11_bed_82 : decode cX11_bed 82 = .ok (.iload_n 1, 1) := by decide +kernel
theorem dX11_bed_83 : decode cX11_bed 83 = .ok (.iadd, 1) := by decide +kernel
theorem dX11_bed_84 : decode cX11_bed 84 = .ok (.iaload, 1) := by decide +kernel
theorem dX11_bed_85 : decode cX11_bed 85 = .ok (.goto 4, 3) := by decide +kernel
theorem dX11_bed_88 : decode cX11_bed 88 = .ok (.iconst (-1), 1) := by decide +kernel
theorem dX11_bed_89 : decode cX11_bed 89 = .ok (.ireturn, 1) := by decide +kernel
theorem dX11_now_0 : decode cX11_now 0 = .ok (.aload_n 0, 1) := by decide +kernel
theorem dX11_now_1 : decode cX11_now 1 = .ok (.iconst 0, 1) := by decide +kernel
theorem dX11_now_2 : decode cX11_now 2 = .ok (.putfield 1, 3) := by decide +kernel
theorem dX11_now_5 : decode cX11_now 5 = .ok (.iconst 0, 1) := by decide +kernel
theorem dX11_now_6 : decode cX11_now 6 = .ok (.istore_n 2, 1) := by decide +kernel
theorem dX11_now_7 : decode cX11_now 7 = .ok (.iconst 0, 1) := by decide +kernel
theorem dX11_now_8 : decode cX11_now 8 = .ok (.istore_n 3, 1) := by decide +kernel
theorem dX11_now_9 : decode cX11_now 9 = .ok (.iload_n 3, 1) := by decide +kernel
theorem dX11_now_10 : decode cX11_now 10 = .ok (.aload_n 0, 1) := by decide +kernel
theorem dX11_now_11 : decode cX11_now 11 = .ok (.getfield 33, 3) := by decide +kernel
theorem dX11_now_14 : decode cX11_now 14 = .ok (.iconst 1, 1) := by decide +kernel
theorem dX11_now_15 : decode cX11_now 15 = .ok (.iaload, 1) := by decide +kernel
theorem dX11_now_16 : decode cX11_now 16 = .ok (.if_icmp .ge 27, 3) := by decide +kernel
theorem dX11_now_19 : decode cX11_now 19 = .ok (.iload_n 2, 1) := by decide +kernel
theorem dX11_now_20 : decode cX11_now 20 = .ok (.aload_n 0, 1) := by decide +kernel
theorem dX11_now_21 : decode cX11_now 21 = .ok (.iload_n 3, 1) := by decide +kernel
theorem dX11_now_22 : decode cX11_now 22 = .ok (.invokevirtual 271, 3) := by decide +kernel
theorem dX11_now_25 : decode cX11_now 25 = .ok (.ifCond .eq 9, 3) := by decide +kernel
theorem dX11_now_28 : decode cX11_now 28 = .ok (.iconst 1, 1) := by decide +kernel
theorem dX11_now_29 : decode cX11_now 29 = .ok (.iload_n 3, 1) := by decide +kernel
theorem dX11_now_30 : decode cX11_now 30 = .ok (.ishl, 1) := by decide +kernel
theorem dX11_now_31 : decode cX11_now 31 = .ok (.goto 4, 3) := by decide +kernel
theorem dX11_now_34 : decode cX11_now 34 = .ok (.iconst 0, 1) := by decide +kernel
theorem dX11_now_35 : decode cX11_now 35 = .ok (.ior, 1) := by decide +kernel
theorem dX11_now_36 : decode cX11_now 36 = .ok (.istore_n 2, 1) := by decide +kernel
theorem dX11_now_37 : decode cX11_now 37 = .ok (.iinc 3 1, 3) := by decide +kernel
theorem dX11_now_40 : decode cX11_now 40 = .ok (.goto (-31), 3) := by decide +kernel
theorem dX11_now_43 : decode cX11_now 43 = .ok (.iload_n 1, 1) := by decide +kernel
theorem dX11_now_44 : decode cX11_now 44 = .ok (.tableswitch 88 0 6 #[44, 52, 57, 62, 64, 72, 80], 44) := by decide +kernel
theorem dX11_now_88 : decode cX11_now 88 = .ok (.aload_n 0, 1) := by decide +kernel
theorem dX11_now_89 : decode cX11_now 89 = .ok (.getfield 33, 3) := by decide +kernel
theorem dX11_now_92 : decode cX11_now 92 = .ok (.bipush 121, 2) := by decide +kernel
theorem dX11_now_94 : decode cX11_now 94 = .ok (.iaload, 1) := by decide +kernel
theorem dX11_now_95 : decode cX11_now 95 = .ok (.ireturn, 1) := by decide +kernel
theorem dX11_now_96 : decode cX11_now 96 = .ok (.aload_n 0, 1) := by decide +kernel
theorem dX11_now_97 : decode cX11_now 97 = .ok (.invokevirtual 286, 3) := by decide +kernel
theorem dX11_now_100 : decode cX11_now 100 = .ok (.ireturn, 1) := by decide +kernel
theorem dX11_now_101 : decode cX11_now 101 = .ok (.aload_n 0, 1) := by decide +kernel
theorem dX11_now_102 : decode cX11_now 102 = .ok (.invokevirtual 289, 3) := by decide +kernel
theorem dX11_now_105 : decode cX11_now 105 = .ok (.ireturn, 1) := by decide +kernel
theorem dX11_now_106 : decode cX11_now 106 = .ok (.iload_n 2, 1) := by decide +kernel
theorem dX11_now_107 : decode cX11_now 107 = .ok (.ireturn, 1) := by decide +kernel
theorem dX11_now_108 : decode cX11_now 108 = .ok (.aload_n 0, 1) := by decide +kernel
theorem dX11_now_109 : decode cX11_now 109 = .ok (.getfield 33, 3) := by decide +kernel
theorem dX11_now_112 : decode cX11_now 112 = .ok (.bipush 122, 2) := by decide +kernel
theorem dX11_now_114 : decode cX11_now 114 = .ok (.iaload, 1) := by decide +kernel
theorem dX11_now_115 : decode cX11_now 115 = .ok (.ireturn, 1) := by decide +kernel
theorem dX11_now_116 : decode cX11_now 116 = .ok (.aload_n 0, 1) := by decide +kernel
theorem dX11_now_117 : decode cX11_now 117 = .ok (.getfield 33, 3) := by decide +kernel
theorem dX11_now_120 : decode cX11_now 120 = .ok (.bipush 123, 2) := by decide +kernel
theorem dX11_now_122 : decode cX11_now 122 = .ok (.iaload, 1) := by decide +kernel
theorem dX11_now_123 : decode cX11_now 123 = .ok (.ireturn, 1) := by decide +kernel
theorem dX11_now_124 : decode cX11_now 124 = .ok (.aload_n 0, 1) := by decide +kernel
theorem dX11_now_125 : decode cX11_now 125 = .ok (.getfield 33, 3) := by decide +kernel
theorem dX11_now_128 : decode cX11_now 128 = .ok (.bipush 124, 2) := by decide +kernel
theorem dX11_now_130 : decode cX11_now 130 = .ok (.iaload, 1) := by decide +kernel
theorem dX11_now_131 : decode cX11_now 131 = .ok (.ireturn, 1) := by decide +kernel
theorem dX11_now_132 : decode cX11_now 132 = .ok (.iconst (-1), 1) := by decide +kernel
theorem dX11_now_133 : decode cX11_now 133 = .ok (.ireturn, 1) := by decide +kernel
theorem dX11_whyStroke_0 : decode cX11_whyStroke 0 = .ok (.aload_n 0, 1) := by decide +kernel
theorem dX11_whyStroke_1 : decode cX11_whyStroke 1 = .ok (.getfield 33, 3) := by decide +kernel
theorem dX11_whyStroke_4 : decode cX11_whyStroke 4 = .ok (.bipush 125, 2) := by decide +kernel
theorem dX11_whyStroke_6 : decode cX11_whyStroke 6 = .ok (.iload_n 1, 1) := by decide +kernel
theorem dX11_whyStroke_7 : decode cX11_whyStroke 7 = .ok (.iadd, 1) := by decide +kernel
theorem dX11_whyStroke_8 : decode cX11_whyStroke 8 = .ok (.iaload, 1) := by decide +kernel
theorem dX11_whyStroke_9 : decode cX11_whyStroke 9 = .ok (.ifCond .ne 5, 3) := by decide +kernel
theorem dX11_whyStroke_12 : decode cX11_whyStroke 12 = .ok (.iconst 1, 1) := by decide +kernel
theorem dX11_whyStroke_13 : decode cX11_whyStroke 13 = .ok (.ireturn, 1) := by decide +kernel
theorem dX11_whyStroke_14 : decode cX11_whyStroke 14 = .ok (.aload_n 0, 1) := by decide +kernel
theorem dX11_whyStroke_15 : decode cX11_whyStroke 15 = .ok (.iload_n 1, 1) := by decide +kernel
theorem dX11_whyStroke_16 : decode cX11_whyStroke 16 = .ok (.iconst 0, 1) := by decide +kernel
theorem dX11_whyStroke_17 : decode cX11_whyStroke 17 = .ok (.invokevirtual 265, 3) := by decide +kernel
theorem dX11_whyStroke_20 : decode cX11_whyStroke 20 = .ok (.iload_n 2, 1) := by decide +kernel
theorem dX11_whyStroke_21 : decode cX11_whyStroke 21 = .ok (.if_icmp .le 5, 3) := by decide +kernel
theorem dX11_whyStroke_24 : decode cX11_whyStroke 24 = .ok (.iconst 2, 1) := by decide +kernel
theorem dX11_whyStroke_25 : decode cX11_whyStroke 25 = .ok (.ireturn, 1) := by decide +kernel
theorem dX11_whyStroke_26 : decode cX11_whyStroke 26 = .ok (.iload_n 2, 1) := by decide +kernel
theorem dX11_whyStroke_27 : decode cX11_whyStroke 27 = .ok (.aload_n 0, 1) := by decide +kernel
theorem dX11_whyStroke_28 : decode cX11_whyStroke 28 = .ok (.getfield 33, 3) := by decide +kernel
theorem dX11_whyStroke_31 : decode cX11_whyStroke 31 = .ok (.iconst 4, 1) := by decide +kernel
theorem dX11_whyStroke_32 : decode cX11_whyStroke 32 = .ok (.iaload, 1) := by decide +kernel
theorem dX11_whyStroke_33 : decode cX11_whyStroke 33 = .ok (.if_icmp .le 5, 3) := by decide +kernel
theorem dX11_whyStroke_36 : decode cX11_whyStroke 36 = .ok (.iconst 3, 1) := by decide +kernel
theorem dX11_whyStroke_37 : decode cX11_whyStroke 37 = .ok (.ireturn, 1) := by decide +kernel
theorem dX11_whyStroke_38 : decode cX11_whyStroke 38 = .ok (.aload_n 0, 1) := by decide +kernel
theorem dX11_whyStroke_39 : decode cX11_whyStroke 39 = .ok (.getfield 33, 3) := by decide +kernel
theorem dX11_whyStroke_42 : decode cX11_whyStroke 42 = .ok (.sipush 179, 3) := by decide +kernel
theorem dX11_whyStroke_45 : decode cX11_whyStroke 45 = .ok (.iload_n 1, 1) := by decide +kernel
theorem dX11_whyStroke_46 : decode cX11_whyStroke 46 = .ok (.iadd, 1) := by decide +kernel
theorem dX11_whyStroke_47 : decode cX11_whyStroke 47 = .ok (.iaload, 1) := by decide +kernel
theorem dX11_whyStroke_48 : decode cX11_whyStroke 48 = .ok (.iload_n 2, 1) := by decide +kernel
theorem dX11_whyStroke_49 : decode cX11_whyStroke 49 = .ok (.iadd, 1) := by decide +kernel
theorem dX11_whyStroke_50 : decode cX11_whyStroke 50 = .ok (.aload_n 0, 1) := by decide +kernel
theorem dX11_whyStroke_51 : decode cX11_whyStroke 51 = .ok (.getfield 33, 3) := by decide +kernel
theorem dX11_whyStroke_54 : decode cX11_whyStroke 54 = .ok (.bipush 21, 2) := by decide +kernel
theorem dX11_whyStroke_56 : decode cX11_whyStroke 56 = .ok (.iload_n 1, 1) := by decide +kernel
theorem dX11_whyStroke_57 : decode cX11_whyStroke 57 = .ok (.iadd, 1) := by decide +kernel
theorem dX11_whyStroke_58 : decode cX11_whyStroke 58 = .ok (.iaload, 1) := by decide +kernel
theorem dX11_whyStroke_59 : decode cX11_whyStroke 59 = .ok (.if_icmp .le 7, 3) := by decide +kernel
theorem dX11_whyStroke_62 : decode cX11_whyStroke 62 = .ok (.iconst 4, 1) := by decide +kernel
theorem dX11_whyStroke_63 : decode cX11_whyStroke 63 = .ok (.goto 4, 3) := by decide +kernel
theorem dX11_whyStroke_66 : decode cX11_whyStroke 66 = .ok (.iconst 0, 1) := by decide +kernel
theorem dX11_whyStroke_67 : decode cX11_whyStroke 67 = .ok (.ireturn, 1) := by decide +kernel
theorem dX11_draws_0 : decode cX11_draws 0 = .ok (.aload_n 0, 1) := by decide +kernel
theorem dX11_draws_1 : decode cX11_draws 1 = .ok (.iload_n 1, 1) := by decide +kernel
theorem dX11_draws_2 : decode cX11_draws 2 = .ok (.iconst 0, 1) := by decide +kernel
theorem dX11_draws_3 : decode cX11_draws 3 = .ok (.invokevirtual 245, 3) := by decide +kernel
theorem dX11_draws_6 : decode cX11_draws 6 = .ok (.istore_n 3, 1) := by decide +kernel
theorem dX11_draws_7 : decode cX11_draws 7 = .ok (.aload_n 0, 1) := by decide +kernel
theorem dX11_draws_8 : decode cX11_draws 8 = .ok (.iload_n 1, 1) := by decide +kernel
theorem dX11_draws_9 : decode cX11_draws 9 = .ok (.iconst 0, 1) := by decide +kernel
theorem dX11_draws_10 : decode cX11_draws 10 = .ok (.invokevirtual 248, 3) := by decide +kernel
theorem dX11_draws_13 : decode cX11_draws 13 = .ok (.istore 4, 2) := by decide +kernel
theorem dX11_draws_15 : decode cX11_draws 15 = .ok (.iload_n 2, 1) := by decide +kernel
theorem dX11_draws_16 : decode cX11_draws 16 = .ok (.ifCond .eq 18, 3) := by decide +kernel
theorem dX11_draws_19 : decode cX11_draws 19 = .ok (.iload 4, 2) := by decide +kernel
theorem dX11_draws_21 : decode cX11_draws 21 = .ok (.bipush 10, 2) := by decide +kernel
theorem dX11_draws_23 : decode cX11_draws 23 = .ok (.aload_n 0, 1) := by decide +kernel
theorem dX11_draws_24 : decode cX11_draws 24 = .ok (.invokevirtual 286, 3) := by decide +kernel
theorem dX11_draws_27 : decode cX11_draws 27 = .ok (.isub, 1) := by decide +kernel
theorem dX11_draws_28 : decode cX11_draws 28 = .ok (.invokestatic 292, 3) := by decide +kernel
theorem dX11_draws_31 : decode cX11_draws 31 = .ok (.goto 4, 3) := by decide +kernel
theorem dX11_draws_34 : decode cX11_draws 34 = .ok (.iconst 0, 1) := by decide +kernel
theorem dX11_draws_35 : decode cX11_draws 35 = .ok (.istore 5, 2) := by decide +kernel
theorem dX11_draws_37 : decode cX11_draws 37 = .ok (.aload_n 0, 1) := by decide +kernel
theorem dX11_draws_38 : decode cX11_draws 38 = .ok (.getfield 33, 3) := by decide +kernel
theorem dX11_draws_41 : decode cX11_draws 41 = .ok (.sipush 185, 3) := by decide +kernel
theorem dX11_draws_44 : decode cX11_draws 44 = .ok (.iload_n 3, 1) := by decide +kernel
theorem dX11_draws_45 : decode cX11_draws 45 = .ok (.iadd, 1) := by decide +kernel
theorem dX11_draws_46 : decode cX11_draws 46 = .ok (.dup2, 1) := by decide +kernel
theorem dX11_draws_47 : decode cX11_draws 47 = .ok (.iaload, 1) := by decide +kernel
theorem dX11_draws_48 : decode cX11_draws 48 = .ok (.iload 5, 2) := by decide +kernel
theorem dX11_draws_50 : decode cX11_draws 50 = .ok (.iadd, 1) := by decide +kernel
theorem dX11_draws_51 : decode cX11_draws 51 = .ok (.iastore, 1) := by decide +kernel
theorem dX11_draws_52 : decode cX11_draws 52 = .ok (.aload_n 0, 1) := by decide +kernel
theorem dX11_draws_53 : decode cX11_draws 53 = .ok (.getfield 33, 3) := by decide +kernel
theorem dX11_draws_56 : decode cX11_draws 56 = .ok (.bipush 124, 2) := by decide +kernel
theorem dX11_draws_58 : decode cX11_draws 58 = .ok (.dup2, 1) := by decide +kernel
theorem dX11_draws_59 : decode cX11_draws 59 = .ok (.iaload, 1) := by decide +kernel
theorem dX11_draws_60 : decode cX11_draws 60 = .ok (.iload 4, 2) := by decide +kernel
theorem dX11_draws_62 : decode cX11_draws 62 = .ok (.iload 5, 2) := by decide +kernel
theorem dX11_draws_64 : decode cX11_draws 64 = .ok (.isub, 1) := by decide +kernel
theorem dX11_draws_65 : decode cX11_draws 65 = .ok (.iadd, 1) := by decide +kernel
theorem dX11_draws_66 : decode cX11_draws 66 = .ok (.iastore, 1) := by decide +kernel
theorem dX11_draws_67 : decode cX11_draws 67 = .ok (.aload_n 0, 1) := by decide +kernel
theorem dX11_draws_68 : decode cX11_draws 68 = .ok (.getfield 33, 3) := by decide +kernel
theorem dX11_draws_71 : decode cX11_draws 71 = .ok (.bipush 125, 2) := by decide +kernel
theorem dX11_draws_73 : decode cX11_draws 73 = .ok (.iload_n 1, 1) := by decide +kernel
theorem dX11_draws_74 : decode cX11_draws 74 = .ok (.iadd, 1) := by decide +kernel
theorem dX11_draws_75 : decode cX11_draws 75 = .ok (.dup2, 1) := by decide +kernel
theorem dX11_draws_76 : decode cX11_draws 76 = .ok (.iaload, 1) := by decide +kernel
theorem dX11_draws_77 : decode cX11_draws 77 = .ok (.iload 4, 2) := by decide +kernel
theorem dX11_draws_79 : decode cX11_draws 79 = .ok (.isub, 1) := by decide +kernel
theorem dX11_draws_80 : decode cX11_draws 80 = .ok (.iastore, 1) := by decide +kernel
theorem dX11_draws_81 : decode cX11_draws 81 = .ok (.return_, 1) := by decide +kernel
theorem dX11_strokes_0 : decode cX11_strokes 0 = .ok (.iconst 0, 1) := by decide +kernel
theorem dX11_strokes_1 : decode cX11_strokes 1 = .ok (.istore_n 3, 1) := by decide +kernel
theorem dX11_strokes_2 : decode cX11_strokes 2 = .ok (.aload_n 0, 1) := by decide +kernel
theorem dX11_strokes_3 : decode cX11_strokes 3 = .ok (.getfield 33, 3) := by decide +kernel
theorem dX11_strokes_6 : decode cX11_strokes 6 = .ok (.bipush 125, 2) := by decide +kernel
theorem dX11_strokes_8 : decode cX11_strokes 8 = .ok (.iload_n 1, 1) := by decide +kernel
theorem dX11_strokes_9 : decode cX11_strokes 9 = .ok (.iadd, 1) := by decide +kernel
theorem dX11_strokes_10 : decode cX11_strokes 10 = .ok (.iaload, 1) := by decide +kernel
theorem dX11_strokes_11 : decode cX11_strokes 11 = .ok (.ifCond .le 33, 3) := by decide +kernel
theorem dX11_strokes_14 : decode cX11_strokes 14 = .ok (.iload_n 3, 1) := by decide +kernel
theorem dX11_strokes_15 : decode cX11_strokes 15 = .ok (.aload_n 0, 1) := by decide +kernel
theorem dX11_strokes_16 : decode cX11_strokes 16 = .ok (.iload_n 1, 1) := by decide +kernel
theorem dX11_strokes_17 : decode cX11_strokes 17 = .ok (.iconst 0, 1) := by decide +kernel
theorem dX11_strokes_18 : decode cX11_strokes 18 = .ok (.invokevirtual 265, 3) := by decide +kernel
theorem dX11_strokes_21 : decode cX11_strokes 21 = .ok (.iadd, 1) := by decide +kernel
theorem dX11_strokes_22 : decode cX11_strokes 22 = .ok (.iload_n 2, 1) := by decide +kernel
theorem dX11_strokes_23 : decode cX11_strokes 23 = .ok (.if_icmp .gt 21, 3) := by decide +kernel
theorem dX11_strokes_26 : decode cX11_strokes 26 = .ok (.iload_n 3, 1) := by decide +kernel
theorem dX11_strokes_27 : decode cX11_strokes 27 = .ok (.aload_n 0, 1) := by decide +kernel
theorem dX11_strokes_28 : decode cX11_strokes 28 = .ok (.iload_n 1, 1) := by decide +kernel
theorem dX11_strokes_29 : decode cX11_strokes 29 = .ok (.iconst 0, 1) := by decide +kernel
theorem dX11_strokes_30 : decode cX11_strokes 30 = .ok (.invokevirtual 265, 3) := by decide +kernel
theorem dX11_strokes_33 : decode cX11_strokes 33 = .ok (.iadd, 1) := by decide +kernel
theorem dX11_strokes_34 : decode cX11_strokes 34 = .ok (.istore_n 3, 1) := by decide +kernel
theorem dX11_strokes_35 : decode cX11_strokes 35 = .ok (.aload_n 0, 1) := by decide +kernel
theorem dX11_strokes_36 : decode cX11_strokes 36 = .ok (.iload_n 1, 1) := by decide +kernel
theorem dX11_strokes_37 : decode cX11_strokes 37 = .ok (.iconst 1, 1) := by decide +kernel
theorem dX11_strokes_38 : decode cX11_strokes 38 = .ok (.invokevirtual 295, 3) := by decide +kernel
theorem dX11_strokes_41 : decode cX11_strokes 41 = .ok (.goto (-39), 3) := by decide +kernel
theorem dX11_strokes_44 : decode cX11_strokes 44 = .ok (.aload_n 0, 1) := by decide +kernel
theorem dX11_strokes_45 : decode cX11_strokes 45 = .ok (.getfield 33, 3) := by decide +kernel
theorem dX11_strokes_48 : decode cX11_strokes 48 = .ok (.sipush 179, 3) := by decide +kernel
theorem dX11_strokes_51 : decode cX11_strokes 51 = .ok (.iload_n 1, 1) := by decide +kernel
theorem dX11_strokes_52 : decode cX11_strokes 52 = .ok (.iadd, 1) := by decide +kernel
theorem dX11_strokes_53 : decode cX11_strokes 53 = .ok (.dup2, 1) := by decide +kernel
theorem dX11_strokes_54 : decode cX11_strokes 54 = .ok (.iaload, 1) := by decide +kernel
theorem dX11_strokes_55 : decode cX11_strokes 55 = .ok (.iload_n 2, 1) := by decide +kernel
theorem dX11_strokes_56 : decode cX11_strokes 56 = .ok (.iadd, 1) := by decide +kernel
theorem dX11_strokes_57 : decode cX11_strokes 57 = .ok (.iastore, 1) := by decide +kernel
theorem dX11_strokes_58 : decode cX11_strokes 58 = .ok (.aload_n 0, 1) := by decide +kernel
theorem dX11_strokes_59 : decode cX11_strokes 59 = .ok (.getfield 33, 3) := by decide +kernel
theorem dX11_strokes_62 : decode cX11_strokes 62 = .ok (.bipush 122, 2) := by decide +kernel
theorem dX11_strokes_64 : decode cX11_strokes 64 = .ok (.dup2, 1) := by decide +kernel
theorem dX11_strokes_65 : decode cX11_strokes 65 = .ok (.iaload, 1) := by decide +kernel
theorem dX11_strokes_66 : decode cX11_strokes 66 = .ok (.iconst 1, 1) := by decide +kernel
theorem dX11_strokes_67 : decode cX11_strokes 67 = .ok (.iadd, 1) := by decide +kernel
theorem dX11_strokes_68 : decode cX11_strokes 68 = .ok (.iastore, 1) := by decide +kernel
theorem dX11_strokes_69 : decode cX11_strokes 69 = .ok (.return_, 1) := by decide +kernel
theorem dX11_cuts_0 : decode cX11_cuts 0 = .ok (.aload_n 0, 1) := by decide +kernel
theorem dX11_cuts_1 : decode cX11_cuts 1 = .ok (.iload_n 1, 1) := by decide +kernel
theorem dX11_cuts_2 : decode cX11_cuts 2 = .ok (.iconst 0, 1) := by decide +kernel
theorem dX11_cuts_3 : decode cX11_cuts 3 = .ok (.invokevirtual 295, 3) := by decide +kernel
theorem dX11_cuts_6 : decode cX11_cuts 6 = .ok (.aload_n 0, 1) := by decide +kernel
theorem dX11_cuts_7 : decode cX11_cuts 7 = .ok (.getfield 33, 3) := by decide +kernel
theorem dX11_cuts_10 : decode cX11_cuts 10 = .ok (.bipush 123, 2) := by decide +kernel
theorem dX11_cuts_12 : decode cX11_cuts 12 = .ok (.dup2, 1) := by decide +kernel
theorem dX11_cuts_13 : decode cX11_cuts 13 = .ok (.iaload, 1) := by decide +kernel
theorem dX11_cuts_14 : decode cX11_cuts 14 = .ok (.iconst 1, 1) := by decide +kernel
theorem dX11_cuts_15 : decode cX11_cuts 15 = .ok (.iadd, 1) := by decide +kernel
theorem dX11_cuts_16 : decode cX11_cuts 16 = .ok (.iastore, 1) := by decide +kernel
theorem dX11_cuts_17 : decode cX11_cuts 17 = .ok (.return_, 1) := by decide +kernel
theorem dX11_catches_0 : decode cX11_catches 0 = .ok (.aload_n 0, 1) := by decide +kernel
theorem dX11_catches_1 : decode cX11_catches 1 = .ok (.getfield 33, 3) := by decide +kernel
theorem dX11_catches_4 : decode cX11_catches 4 = .ok (.sipush 131, 3) := by decide +kernel
theorem dX11_catches_7 : decode cX11_catches 7 = .ok (.bipush 8, 2) := by decide +kernel
theorem dX11_catches_9 : decode cX11_catches 9 = .ok (.iload_n 1, 1) := by decide +kernel
theorem dX11_catches_10 : decode cX11_catches 10 = .ok (.imul, 1) := by decide +kernel
theorem dX11_catches_11 : decode cX11_catches 11 = .ok (.iadd, 1) := by decide +kernel
theorem dX11_catches_12 : decode cX11_catches 12 = .ok (.aload_n 0, 1) := by decide +kernel
theorem dX11_catches_13 : decode cX11_catches 13 = .ok (.getfield 33, 3) := by decide +kernel
theorem dX11_catches_16 : decode cX11_catches 16 = .ok (.bipush 125, 2) := by decide +kernel
theorem dX11_catches_18 : decode cX11_catches 18 = .ok (.iload_n 1, 1) := by decide +kernel
theorem dX11_catches_19 : decode cX11_catches 19 = .ok (.iadd, 1) := by decide +kernel
theorem dX11_catches_20 : decode cX11_catches 20 = .ok (.iaload, 1) := by decide +kernel
theorem dX11_catches_21 : decode cX11_catches 21 = .ok (.iadd, 1) := by decide +kernel
theorem dX11_catches_22 : decode cX11_catches 22 = .ok (.iload_n 2, 1) := by decide +kernel
theorem dX11_catches_23 : decode cX11_catches 23 = .ok (.iastore, 1) := by decide +kernel
theorem dX11_catches_24 : decode cX11_catches 24 = .ok (.aload_n 0, 1) := by decide +kernel
theorem dX11_catches_25 : decode cX11_catches 25 = .ok (.getfield 33, 3) := by decide +kernel
theorem dX11_catches_28 : decode cX11_catches 28 = .ok (.bipush 125, 2) := by decide +kernel
theorem dX11_catches_30 : decode cX11_catches 30 = .ok (.iload_n 1, 1) := by decide +kernel
theorem dX11_catches_31 : decode cX11_catches 31 = .ok (.iadd, 1) := by decide +kernel
theorem dX11_catches_32 : decode cX11_catches 32 = .ok (.dup2, 1) := by decide +kernel
theorem dX11_catches_33 : decode cX11_catches 33 = .ok (.iaload, 1) := by decide +kernel
theorem dX11_catches_34 : decode cX11_catches 34 = .ok (.iconst 1, 1) := by decide +kernel
theorem dX11_catches_35 : decode cX11_catches 35 = .ok (.iadd, 1) := by decide +kernel
theorem dX11_catches_36 : decode cX11_catches 36 = .ok (.iastore, 1) := by decide +kernel
theorem dX11_catches_37 : decode cX11_catches 37 = .ok (.return_, 1) := by decide +kernel
theorem dX11_stuffs_0 : decode cX11_stuffs 0 = .ok (.aload_n 0, 1) := by decide +kernel
theorem dX11_stuffs_1 : decode cX11_stuffs 1 = .ok (.getfield 33, 3) := by decide +kernel
theorem dX11_stuffs_4 : decode cX11_stuffs 4 = .ok (.sipush 185, 3) := by decide +kernel
theorem dX11_stuffs_7 : decode cX11_stuffs 7 = .ok (.iload_n 2, 1) := by decide +kernel
theorem dX11_stuffs_8 : decode cX11_stuffs 8 = .ok (.iadd, 1) := by decide +kernel
theorem dX11_stuffs_9 : decode cX11_stuffs 9 = .ok (.dup2, 1) := by decide +kernel
theorem dX11_stuffs_10 : decode cX11_stuffs 10 = .ok (.iaload, 1) := by decide +kernel
theorem dX11_stuffs_11 : decode cX11_stuffs 11 = .ok (.iconst 1, 1) := by decide +kernel
theorem dX11_stuffs_12 : decode cX11_stuffs 12 = .ok (.isub, 1) := by decide +kernel
theorem dX11_stuffs_13 : decode cX11_stuffs 13 = .ok (.iastore, 1) := by decide +kernel
theorem dX11_stuffs_14 : decode cX11_stuffs 14 = .ok (.aload_n 0, 1) := by decide +kernel
theorem dX11_stuffs_15 : decode cX11_stuffs 15 = .ok (.getfield 33, 3) := by decide +kernel
theorem dX11_stuffs_18 : decode cX11_stuffs 18 = .ok (.sipush 193, 3) := by decide +kernel
theorem dX11_stuffs_21 : decode cX11_stuffs 21 = .ok (.iload_n 1, 1) := by decide +kernel
theorem dX11_stuffs_22 : decode cX11_stuffs 22 = .ok (.iadd, 1) := by decide +kernel
theorem dX11_stuffs_23 : decode cX11_stuffs 23 = .ok (.dup2, 1) := by decide +kernel
theorem dX11_stuffs_24 : decode cX11_stuffs 24 = .ok (.iaload, 1) := by decide +kernel
theorem dX11_stuffs_25 : decode cX11_stuffs 25 = .ok (.aload_n 0, 1) := by decide +kernel
theorem dX11_stuffs_26 : decode cX11_stuffs 26 = .ok (.getfield 33, 3) := by decide +kernel
theorem dX11_stuffs_29 : decode cX11_stuffs 29 = .ok (.bipush 13, 2) := by decide +kernel
theorem dX11_stuffs_31 : decode cX11_stuffs 31 = .ok (.iload_n 2, 1) := by decide +kernel
theorem dX11_stuffs_32 : decode cX11_stuffs 32 = .ok (.iadd, 1) := by decide +kernel
theorem dX11_stuffs_33 : decode cX11_stuffs 33 = .ok (.iaload, 1) := by decide +kernel
theorem dX11_stuffs_34 : decode cX11_stuffs 34 = .ok (.iadd, 1) := by decide +kernel
theorem dX11_stuffs_35 : decode cX11_stuffs 35 = .ok (.iastore, 1) := by decide +kernel
theorem dX11_stuffs_36 : decode cX11_stuffs 36 = .ok (.aload_n 0, 1) := by decide +kernel
theorem dX11_stuffs_37 : decode cX11_stuffs 37 = .ok (.getfield 33, 3) := by decide +kernel
theorem dX11_stuffs_40 : decode cX11_stuffs 40 = .ok (.sipush 197, 3) := by decide +kernel
theorem dX11_stuffs_43 : decode cX11_stuffs 43 = .ok (.iload_n 1, 1) := by decide +kernel
theorem dX11_stuffs_44 : decode cX11_stuffs 44 = .ok (.iadd, 1) := by decide +kernel
theorem dX11_stuffs_45 : decode cX11_stuffs 45 = .ok (.dup2, 1) := by decide +kernel
theorem dX11_stuffs_46 : decode cX11_stuffs 46 = .ok (.iaload, 1) := by decide +kernel
theorem dX11_stuffs_47 : decode cX11_stuffs 47 = .ok (.iconst 1, 1) := by decide +kernel
theorem dX11_stuffs_48 : decode cX11_stuffs 48 = .ok (.iadd, 1) := by decide +kernel
theorem dX11_stuffs_49 : decode cX11_stuffs 49 = .ok (.iastore, 1) := by decide +kernel
theorem dX11_stuffs_50 : decode cX11_stuffs 50 = .ok (.aload_n 0, 1) := by decide +kernel
theorem dX11_stuffs_51 : decode cX11_stuffs 51 = .ok (.getfield 33, 3) := by decide +kernel
theorem dX11_stuffs_54 : decode cX11_stuffs 54 = .ok (.sipush 201, 3) := by decide +kernel
theorem dX11_stuffs_57 : decode cX11_stuffs 57 = .ok (.iload_n 2, 1) := by decide +kernel
theorem dX11_stuffs_58 : decode cX11_stuffs 58 = .ok (.iadd, 1) := by decide +kernel
theorem dX11_stuffs_59 : decode cX11_stuffs 59 = .ok (.dup2, 1) := by decide +kernel
theorem dX11_stuffs_60 : decode cX11_stuffs 60 = .ok (.iaload, 1) := by decide +kernel
theorem dX11_stuffs_61 : decode cX11_stuffs 61 = .ok (.iconst 1, 1) := by decide +kernel
theorem dX11_stuffs_62 : decode cX11_stuffs 62 = .ok (.iadd, 1) := by decide +kernel
theorem dX11_stuffs_63 : decode cX11_stuffs 63 = .ok (.iastore, 1) := by decide +kernel
theorem dX11_stuffs_64 : decode cX11_stuffs 64 = .ok (.return_, 1) := by decide +kernel
theorem dX11_day_0 : decode cX11_day 0 = .ok (.iconst 0, 1) := by decide +kernel
theorem dX11_day_1 : decode cX11_day 1 = .ok (.istore_n 1, 1) := by decide +kernel
theorem dX11_day_2 : decode cX11_day 2 = .ok (.iload_n 1, 1) := by decide +kernel
theorem dX11_day_3 : decode cX11_day 3 = .ok (.bipush 6, 2) := by decide +kernel
theorem dX11_day_5 : decode cX11_day 5 = .ok (.if_icmp .ge 20, 3) := by decide +kernel
theorem dX11_day_8 : decode cX11_day 8 = .ok (.aload_n 0, 1) := by decide +kernel
theorem dX11_day_9 : decode cX11_day 9 = .ok (.getfield 33, 3) := by decide +kernel
theorem dX11_day_12 : decode cX11_day 12 = .ok (.sipush 179, 3) := by decide +kernel
theorem dX11_day_15 : decode cX11_day 15 = .ok (.iload_n 1, 1) := by decide +kernel
theorem dX11_day_16 : decode cX11_day 16 = .ok (.iadd, 1) := by decide +kernel
theorem dX11_day_17 : decode cX11_day 17 = .ok (.iconst 0, 1) := by decide +kernel
theorem dX11_day_18 : decode cX11_day 18 = .ok (.iastore, 1) := by decide +kernel
theorem dX11_day_19 : decode cX11_day 19 = .ok (.iinc 1 1, 3) := by decide +kernel
theorem dX11_day_22 : decode cX11_day 22 = .ok (.goto (-20), 3) := by decide +kernel
theorem dX11_day_25 : decode cX11_day 25 = .ok (.iconst 0, 1) := by decide +kernel
theorem dX11_day_26 : decode cX11_day 26 = .ok (.istore_n 1, 1) := by decide +kernel
theorem dX11_day_27 : decode cX11_day 27 = .ok (.iload_n 1, 1) := by decide +kernel
theorem dX11_day_28 : decode cX11_day 28 = .ok (.aload_n 0, 1) := by decide +kernel
theorem dX11_day_29 : decode cX11_day 29 = .ok (.getfield 33, 3) := by decide +kernel
theorem dX11_day_32 : decode cX11_day 32 = .ok (.iconst 2, 1) := by decide +kernel
theorem dX11_day_33 : decode cX11_day 33 = .ok (.iaload, 1) := by decide +kernel
theorem dX11_day_34 : decode cX11_day 34 = .ok (.if_icmp .ge 69, 3) := by decide +kernel
theorem dX11_day_37 : decode cX11_day 37 = .ok (.aload_n 0, 1) := by decide +kernel
theorem dX11_day_38 : decode cX11_day 38 = .ok (.getfield 33, 3) := by decide +kernel
theorem dX11_day_41 : decode cX11_day 41 = .ok (.bipush 121, 2) := by decide +kernel
theorem dX11_day_43 : decode cX11_day 43 = .ok (.iaload, 1) := by decide +kernel
theorem dX11_day_44 : decode cX11_day 44 = .ok (.iconst 1, 1) := by decide +kernel
theorem dX11_day_45 : decode cX11_day 45 = .ok (.iadd, 1) := by decide +kernel
theorem dX11_day_46 : decode cX11_day 46 = .ok (.aload_n 0, 1) := by decide +kernel
theorem dX11_day_47 : decode cX11_day 47 = .ok (.getfield 33, 3) := by decide +kernel
theorem dX11_day_50 : decode cX11_day 50 = .ok (.bipush 105, 2) := by decide +kernel
theorem dX11_day_52 : decode cX11_day 52 = .ok (.iload_n 1, 1) := by decide +kernel
theorem dX11_day_53 : decode cX11_day 53 = .ok (.iadd, 1) := by decide +kernel
theorem dX11_day_54 : decode cX11_day 54 = .ok (.iaload, 1) := by decide +kernel
theorem dX11_day_55 : decode cX11_day 55 = .ok (.irem, 1) := by decide +kernel
theorem dX11_day_56 : decode cX11_day 56 = .ok (.ifCond .ne 41, 3) := by decide +kernel
theorem dX11_day_59 : decode cX11_day 59 = .ok (.aload_n 0, 1) := by decide +kernel
theorem dX11_day_60 : decode cX11_day 60 = .ok (.aload_n 0, 1) := by decide +kernel
theorem dX11_day_61 : decode cX11_day 61 = .ok (.getfield 33, 3) := by decide +kernel
theorem dX11_day_64 : decode cX11_day 64 = .ok (.bipush 81, 2) := by decide +kernel
theorem dX11_day_66 : decode cX11_day 66 = .ok (.iload_n 1, 1) := by decide +kernel
theorem dX11_day_67 : decode cX11_day 67 = .ok (.iadd, 1) := by decide +kernel
theorem dX11_day_68 : decode cX11_day 68 = .ok (.iaload, 1) := by decide +kernel
theorem dX11_day_69 : decode cX11_day 69 = .ok (.invokevirtual 271, 3) := by decide +kernel
theorem dX11_day_72 : decode cX11_day 72 = .ok (.ifCond .ne 25, 3) := by decide +kernel
theorem dX11_day_75 : decode cX11_day 75 = .ok (.aload_n 0, 1) := by decide +kernel
theorem dX11_day_76 : decode cX11_day 76 = .ok (.aload_n 0, 1) := by decide +kernel
theorem dX11_day_77 : decode cX11_day 77 = .ok (.getfield 33, 3) := by decide +kernel
theorem dX11_day_80 : decode cX11_day 80 = .ok (.bipush 81, 2) := by decide +kernel
theorem dX11_day_82 : decode cX11_day 82 = .ok (.iload_n 1, 1) := by decide +kernel
theorem dX11_day_83 : decode cX11_day 83 = .ok (.iadd, 1) := by decide +kernel
theorem dX11_day_84 : decode cX11_day 84 = .ok (.iaload, 1) := by decide +kernel
theorem dX11_day_85 : decode cX11_day 85 = .ok (.aload_n 0, 1) := by decide +kernel
theorem dX11_day_86 : decode cX11_day 86 = .ok (.getfield 33, 3) := by decide +kernel
theorem dX11_day_89 : decode cX11_day 89 = .ok (.bipush 93, 2) := by decide +kernel
theorem dX11_day_91 : decode cX11_day 91 = .ok (.iload_n 1, 1) := by decide +kernel
theorem dX11_day_92 : decode cX11_day 92 = .ok (.iadd, 1) := by decide +kernel
theorem dX11_day_93 : decode cX11_day 93 = .ok (.iaload, 1) := by decide +kernel
theorem dX11_day_94 : decode cX11_day 94 = .ok (.invokevirtual 299, 3) := by decide +kernel
theorem dX11_day_97 : decode cX11_day 97 = .ok (.iinc 1 1, 3) := by decide +kernel
theorem dX11_day_100 : decode cX11_day 100 = .ok (.goto (-73), 3) := by decide +kernel
theorem dX11_day_103 : decode cX11_day 103 = .ok (.aload_n 0, 1) := by decide +kernel
theorem dX11_day_104 : decode cX11_day 104 = .ok (.getfield 33, 3) := by decide +kernel
theorem dX11_day_107 : decode cX11_day 107 = .ok (.bipush 121, 2) := by decide +kernel
theorem dX11_day_109 : decode cX11_day 109 = .ok (.dup2, 1) := by decide +kernel
theorem dX11_day_110 : decode cX11_day 110 = .ok (.iaload, 1) := by decide +kernel
theorem dX11_day_111 : decode cX11_day 111 = .ok (.iconst 1, 1) := by decide +kernel
theorem dX11_day_112 : decode cX11_day 112 = .ok (.iadd, 1) := by decide +kernel
theorem dX11_day_113 : decode cX11_day 113 = .ok (.iastore, 1) := by decide +kernel
theorem dX11_day_114 : decode cX11_day 114 = .ok (.return_, 1) := by decide +kernel
theorem dX11_goesOn_0 : decode cX11_goesOn 0 = .ok (.iconst 0, 1) := by decide +kernel
theorem dX11_goesOn_1 : decode cX11_goesOn 1 = .ok (.istore_n 2, 1) := by decide +kernel
theorem dX11_goesOn_2 : decode cX11_goesOn 2 = .ok (.iload_n 2, 1) := by decide +kernel
theorem dX11_goesOn_3 : decode cX11_goesOn 3 = .ok (.iload_n 1, 1) := by decide +kernel
theorem dX11_goesOn_4 : decode cX11_goesOn 4 = .ok (.if_icmp .ge 26, 3) := by decide +kernel
theorem dX11_goesOn_7 : decode cX11_goesOn 7 = .ok (.aload_n 0, 1) := by decide +kernel
theorem dX11_goesOn_8 : decode cX11_goesOn 8 = .ok (.getfield 33, 3) := by decide +kernel
theorem dX11_goesOn_11 : decode cX11_goesOn 11 = .ok (.bipush 121, 2) := by decide +kernel
theorem dX11_goesOn_13 : decode cX11_goesOn 13 = .ok (.iaload, 1) := by decide +kernel
theorem dX11_goesOn_14 : decode cX11_goesOn 14 = .ok (.sipush 400, 3) := by decide +kernel
theorem dX11_goesOn_17 : decode cX11_goesOn 17 = .ok (.if_icmp .ge 13, 3) := by decide +kernel
theorem dX11_goesOn_20 : decode cX11_goesOn 20 = .ok (.aload_n 0, 1) := by decide +kernel
theorem dX11_goesOn_21 : decode cX11_goesOn 21 = .ok (.invokevirtual 303, 3) := by decide +kernel
theorem dX11_goesOn_24 : decode cX11_goesOn 24 = .ok (.iinc 2 1, 3) := by decide +kernel
theorem dX11_goesOn_27 : decode cX11_goesOn 27 = .ok (.goto (-25), 3) := by decide +kernel
theorem dX11_goesOn_30 : decode cX11_goesOn 30 = .ok (.iload_n 2, 1) := by decide +kernel
theorem dX11_goesOn_31 : decode cX11_goesOn 31 = .ok (.ireturn, 1) := by decide +kernel
theorem dX11_keep_0 : decode cX11_keep 0 = .ok (.aload_n 0, 1) := by decide +kernel
theorem dX11_keep_1 : decode cX11_keep 1 = .ok (.getfield 242, 3) := by decide +kernel
theorem dX11_keep_4 : decode cX11_keep 4 = .ok (.bipush 8, 2) := by decide +kernel
theorem dX11_keep_6 : decode cX11_keep 6 = .ok (.if_icmp .ne 39, 3) := by decide +kernel
theorem dX11_keep_9 : decode cX11_keep 9 = .ok (.iconst 0, 1) := by decide +kernel
theorem dX11_keep_10 : decode cX11_keep 10 = .ok (.istore_n 1, 1) := by decide +kernel
theorem dX11_keep_11 : decode cX11_keep 11 = .ok (.iload_n 1, 1) := by decide +kernel
theorem dX11_keep_12 : decode cX11_keep 12 = .ok (.sipush 616, 3) := by decide +kernel
theorem dX11_keep_15 : decode cX11_keep 15 = .ok (.if_icmp .ge 24, 3) := by decide +kernel
theorem dX11_keep_18 : decode cX11_keep 18 = .ok (.aload_n 0, 1) := by decide +kernel
theorem dX11_keep_19 : decode cX11_keep 19 = .ok (.getfield 50, 3) := by decide +kernel
theorem dX11_keep_22 : decode cX11_keep 22 = .ok (.iload_n 1, 1) := by decide +kernel
theorem dX11_keep_23 : decode cX11_keep 23 = .ok (.aload_n 0, 1) := by decide +kernel
theorem dX11_keep_24 : decode cX11_keep 24 = .ok (.getfield 50, 3) := by decide +kernel
theorem dX11_keep_27 : decode cX11_keep 27 = .ok (.iload_n 1, 1) := by decide +kernel
theorem dX11_keep_28 : decode cX11_keep 28 = .ok (.bipush 88, 2) := by decide +kernel
theorem dX11_keep_30 : decode cX11_keep 30 = .ok (.iadd, 1) := by decide +kernel
theorem dX11_keep_31 : decode cX11_keep 31 = .ok (.iaload, 1) := by decide +kernel
theorem dX11_keep_32 : decode cX11_keep 32 = .ok (.iastore, 1) := by decide +kernel
theorem dX11_keep_33 : decode cX11_keep 33 = .ok (.iinc 1 1, 3) := by decide +kernel
theorem dX11_keep_36 : decode cX11_keep 36 = .ok (.goto (-25), 3) := by decide +kernel
theorem dX11_keep_39 : decode cX11_keep 39 = .ok (.aload_n 0, 1) := by decide +kernel
theorem dX11_keep_40 : decode cX11_keep 40 = .ok (.bipush 7, 2) := by decide +kernel
theorem dX11_keep_42 : decode cX11_keep 42 = .ok (.putfield 242, 3) := by decide +kernel
theorem dX11_keep_45 : decode cX11_keep 45 = .ok (.iconst 0, 1) := by decide +kernel
theorem dX11_keep_46 : decode cX11_keep 46 = .ok (.istore_n 1, 1) := by decide +kernel
theorem dX11_keep_47 : decode cX11_keep 47 = .ok (.iload_n 1, 1) := by decide +kernel
theorem dX11_keep_48 : decode cX11_keep 48 = .ok (.bipush 88, 2) := by decide +kernel
theorem dX11_keep_50 : decode cX11_keep 50 = .ok (.if_icmp .ge 32, 3) := by decide +kernel
theorem dX11_keep_53 : decode cX11_keep 53 = .ok (.aload_n 0, 1) := by decide +kernel
theorem dX11_keep_54 : decode cX11_keep 54 = .ok (.getfield 50, 3) := by decide +kernel
theorem dX11_keep_57 : decode cX11_keep 57 = .ok (.bipush 88, 2) := by decide +kernel
theorem dX11_keep_59 : decode cX11_keep 59 = .ok (.aload_n 0, 1) := by decide +kernel
theorem dX11_keep_60 : decode cX11_keep 60 = .ok (.getfield 242, 3) := by decide +kernel
theorem dX11_keep_63 : decode cX11_keep 63 = .ok (.imul, 1) := by decide +kernel
theorem dX11_keep_64 : decode cX11_keep 64 = .ok (.iload_n 1, 1) := by decide +kernel
theorem dX11_keep_65 : decode cX11_keep 65 = .ok (.iadd, 1) := by decide +kernel
theorem dX11_keep_66 : decode cX11_keep 66 = .ok (.aload_n 0, 1) := by decide +kernel
theorem dX11_keep_67 : decode cX11_keep 67 = .ok (.getfield 33, 3) := by decide +kernel
theorem dX11_keep_70 : decode cX11_keep 70 = .ok (.bipush 121, 2) := by decide +kernel
theorem dX11_keep_72 : decode cX11_keep 72 = .ok (.iload_n 1, 1) := by decide +kernel
theorem dX11_keep_73 : decode cX11_keep 73 = .ok (.iadd, 1) := by decide +kernel
theorem dX11_keep_74 : decode cX11_keep 74 = .ok (.iaload, 1) := by decide +kernel
theorem dX11_keep_75 : decode cX11_keep 75 = .ok (.iastore, 1) := by decide +kernel
theorem dX11_keep_76 : decode cX11_keep 76 = .ok (.iinc 1 1, 3) := by decide +kernel
theorem dX11_keep_79 : decode cX11_keep 79 = .ok (.goto (-32), 3) := by decide +kernel
theorem dX11_keep_82 : decode cX11_keep 82 = .ok (.aload_n 0, 1) := by decide +kernel
theorem dX11_keep_83 : decode cX11_keep 83 = .ok (.dup, 1) := by decide +kernel
theorem dX11_keep_84 : decode cX11_keep 84 = .ok (.getfield 242, 3) := by decide +kernel
theorem dX11_keep_87 : decode cX11_keep 87 = .ok (.iconst 1, 1) := by decide +kernel
theorem dX11_keep_88 : decode cX11_keep 88 = .ok (.iadd, 1) := by decide +kernel
theorem dX11_keep_89 : decode cX11_keep 89 = .ok (.putfield 242, 3) := by decide +kernel
theorem dX11_keep_92 : decode cX11_keep 92 = .ok (.return_, 1) := by decide +kernel
theorem dX11_stroke_0 : decode cX11_stroke 0 = .ok (.aload_n 0, 1) := by decide +kernel
theorem dX11_stroke_1 : decode cX11_stroke 1 = .ok (.iconst 0, 1) := by decide +kernel
theorem dX11_stroke_2 : decode cX11_stroke 2 = .ok (.putfield 1, 3) := by decide +kernel
theorem dX11_stroke_5 : decode cX11_stroke 5 = .ok (.aload_n 0, 1) := by decide +kernel
theorem dX11_stroke_6 : decode cX11_stroke 6 = .ok (.iload_n 1, 1) := by decide +kernel
theorem dX11_stroke_7 : decode cX11_stroke 7 = .ok (.invokevirtual 254, 3) := by decide +kernel
theorem dX11_stroke_10 : decode cX11_stroke 10 = .ok (.ifCond .eq 13, 3) := by decide +kernel
theorem dX11_stroke_13 : decode cX11_stroke 13 = .ok (.iload_n 2, 1) := by decide +kernel
theorem dX11_stroke_14 : decode cX11_stroke 14 = .ok (.iconst 1, 1) := by decide +kernel
theorem dX11_stroke_15 : decode cX11_stroke 15 = .ok (.bipush 20, 2) := by decide +kernel
theorem dX11_stroke_17 : decode cX11_stroke 17 = .ok (.invokestatic 176, 3) := by decide +kernel
theorem dX11_stroke_20 : decode cX11_stroke 20 = .ok (.ifCond .ne 5, 3) := by decide +kernel
theorem dX11_stroke_23 : decode cX11_stroke 23 = .ok (.iconst (-1), 1) := by decide +kernel
theorem dX11_stroke_24 : decode cX11_stroke 24 = .ok (.ireturn, 1) := by decide +kernel
theorem dX11_stroke_25 : decode cX11_stroke 25 = .ok (.aload_n 0, 1) := by decide +kernel
theorem dX11_stroke_26 : decode cX11_stroke 26 = .ok (.iload_n 1, 1) := by decide +kernel
theorem dX11_stroke_27 : decode cX11_stroke 27 = .ok (.iload_n 2, 1) := by decide +kernel
theorem dX11_stroke_28 : decode cX11_stroke 28 = .ok (.invokevirtual 306, 3) := by decide +kernel
theorem dX11_stroke_31 : decode cX11_stroke 31 = .ok (.istore_n 3, 1) := by decide +kernel
theorem dX11_stroke_32 : decode cX11_stroke 32 = .ok (.iload_n 3, 1) := by decide +kernel
theorem dX11_stroke_33 : decode cX11_stroke 33 = .ok (.ifCond .le 5, 3) := by decide +kernel
theorem dX11_stroke_36 : decode cX11_stroke 36 = .ok (.iload_n 3, 1) := by decide +kernel
theorem dX11_stroke_37 : decode cX11_stroke 37 = .ok (.ireturn, 1) := by decide +kernel
theorem dX11_stroke_38 : decode cX11_stroke 38 = .ok (.aload_n 0, 1) := by decide +kernel
theorem dX11_stroke_39 : decode cX11_stroke 39 = .ok (.invokevirtual 309, 3) := by decide +kernel
theorem dX11_stroke_42 : decode cX11_stroke 42 = .ok (.aload_n 0, 1) := by decide +kernel
theorem dX11_stroke_43 : decode cX11_stroke 43 = .ok (.iload_n 1, 1) := by decide +kernel
theorem dX11_stroke_44 : decode cX11_stroke 44 = .ok (.iload_n 2, 1) := by decide +kernel
theorem dX11_stroke_45 : decode cX11_stroke 45 = .ok (.invokevirtual 312, 3) := by decide +kernel
theorem dX11_stroke_48 : decode cX11_stroke 48 = .ok (.iconst 0, 1) := by decide +kernel
theorem dX11_stroke_49 : decode cX11_stroke 49 = .ok (.ireturn, 1) := by decide +kernel
theorem dX11_cut_0 : decode cX11_cut 0 = .ok (.aload_n 0, 1) := by decide +kernel
theorem dX11_cut_1 : decode cX11_cut 1 = .ok (.iconst 0, 1) := by decide +kernel
theorem dX11_cut_2 : decode cX11_cut 2 = .ok (.putfield 1, 3) := by decide +kernel
theorem dX11_cut_5 : decode cX11_cut 5 = .ok (.aload_n 0, 1) := by decide +kernel
theorem dX11_cut_6 : decode cX11_cut 6 = .ok (.iload_n 1, 1) := by decide +kernel
theorem dX11_cut_7 : decode cX11_cut 7 = .ok (.invokevirtual 254, 3) := by decide +kernel
theorem dX11_cut_10 : decode cX11_cut 10 = .ok (.ifCond .ne 5, 3) := by decide +kernel
theorem dX11_cut_13 : decode cX11_cut 13 = .ok (.iconst (-1), 1) := by decide +kernel
theorem dX11_cut_14 : decode cX11_cut 14 = .ok (.ireturn, 1) := by decide +kernel
theorem dX11_cut_15 : decode cX11_cut 15 = .ok (.aload_n 0, 1) := by decide +kernel
theorem dX11_cut_16 : decode cX11_cut 16 = .ok (.getfield 33, 3) := by decide +kernel
theorem dX11_cut_19 : decode cX11_cut 19 = .ok (.bipush 125, 2) := by decide +kernel
theorem dX11_cut_21 : decode cX11_cut 21 = .ok (.iload_n 1, 1) := by decide +kernel
theorem dX11_cut_22 : decode cX11_cut 22 = .ok (.iadd, 1) := by decide +kernel
theorem dX11_cut_23 : decode cX11_cut 23 = .ok (.iaload, 1) := by decide +kernel
theorem dX11_cut_24 : decode cX11_cut 24 = .ok (.ifCond .ne 5, 3) := by decide +kernel
theorem dX11_cut_27 : decode cX11_cut 27 = .ok (.iconst 1, 1) := by decide +kernel
theorem dX11_cut_28 : decode cX11_cut 28 = .ok (.ireturn, 1) := by decide +kernel
theorem dX11_cut_29 : decode cX11_cut 29 = .ok (.aload_n 0, 1) := by decide +kernel
theorem dX11_cut_30 : decode cX11_cut 30 = .ok (.invokevirtual 309, 3) := by decide +kernel
theorem dX11_cut_33 : decode cX11_cut 33 = .ok (.aload_n 0, 1) := by decide +kernel
theorem dX11_cut_34 : decode cX11_cut 34 = .ok (.iload_n 1, 1) := by decide +kernel
theorem dX11_cut_35 : decode cX11_cut 35 = .ok (.invokevirtual 315, 3) := by decide +kernel
theorem dX11_cut_38 : decode cX11_cut 38 = .ok (.iconst 0, 1) := by decide +kernel
theorem dX11_cut_39 : decode cX11_cut 39 = .ok (.ireturn, 1) := by decide +kernel
theorem dX11_snag_0 : decode cX11_snag 0 = .ok (.aload_n 0, 1) := by decide +kernel
theorem dX11_snag_1 : decode cX11_snag 1 = .ok (.iconst 0, 1) := by decide +kernel
theorem dX11_snag_2 : decode cX11_snag 2 = .ok (.putfield 1, 3) := by decide +kernel
theorem dX11_snag_5 : decode cX11_snag 5 = .ok (.aload_n 0, 1) := by decide +kernel
theorem dX11_snag_6 : decode cX11_snag 6 = .ok (.iload_n 1, 1) := by decide +kernel
theorem dX11_snag_7 : decode cX11_snag 7 = .ok (.invokevirtual 254, 3) := by decide +kernel
theorem dX11_snag_10 : decode cX11_snag 10 = .ok (.ifCond .eq 11, 3) := by decide +kernel
theorem dX11_snag_13 : decode cX11_snag 13 = .ok (.aload_n 0, 1) := by decide +kernel
theorem dX11_snag_14 : decode cX11_snag 14 = .ok (.iload_n 2, 1) := by decide +kernel
theorem dX11_snag_15 : decode cX11_snag 15 = .ok (.invokevirtual 274, 3) := by decide +kernel
theorem dX11_snag_18 : decode cX11_snag 18 = .ok (.ifCond .ne 5, 3) := by decide +kernel
theorem dX11_snag_21 : decode cX11_snag 21 = .ok (.iconst (-1), 1) := by decide +kernel
theorem dX11_snag_22 : decode cX11_snag 22 = .ok (.ireturn, 1) := by decide +kernel
theorem dX11_snag_23 : decode cX11_snag 23 = .ok (.aload_n 0, 1) := by decide +kernel
theorem dX11_snag_24 : decode cX11_snag 24 = .ok (.iload_n 1, 1) := by decide +kernel
theorem dX11_snag_25 : decode cX11_snag 25 = .ok (.invokevirtual 271, 3) := by decide +kernel
theorem dX11_snag_28 : decode cX11_snag 28 = .ok (.ifCond .eq 5, 3) := by decide +kernel
theorem dX11_snag_31 : decode cX11_snag 31 = .ok (.iconst 1, 1) := by decide +kernel
theorem dX11_snag_32 : decode cX11_snag 32 = .ok (.ireturn, 1) := by decide +kernel
theorem dX11_snag_33 : decode cX11_snag 33 = .ok (.aload_n 0, 1) := by decide +kernel
theorem dX11_snag_34 : decode cX11_snag 34 = .ok (.invokevirtual 309, 3) := by decide +kernel
theorem dX11_snag_37 : decode cX11_snag 37 = .ok (.aload_n 0, 1) := by decide +kernel
theorem dX11_snag_38 : decode cX11_snag 38 = .ok (.iload_n 1, 1) := by decide +kernel
theorem dX11_snag_39 : decode cX11_snag 39 = .ok (.iload_n 2, 1) := by decide +kernel
theorem dX11_snag_40 : decode cX11_snag 40 = .ok (.invokevirtual 299, 3) := by decide +kernel
theorem dX11_snag_43 : decode cX11_snag 43 = .ok (.iconst 0, 1) := by decide +kernel
theorem dX11_snag_44 : decode cX11_snag 44 = .ok (.ireturn, 1) := by decide +kernel
