theorem d_X11_back_0 : decode (zmc m_X11_back) 0 = .ok (.aload_n 0, 1) := by decide +kernel
theorem d_X11_back_1 : decode (zmc m_X11_back) 1 = .ok (.getfield 63, 3) := by decide +kernel
theorem d_X11_back_4 : decode (zmc m_X11_back) 4 = .ok (.getfield 296, 3) := by decide +kernel
theorem d_X11_back_7 : decode (zmc m_X11_back) 7 = .ok (.ifCond .ne 6, 3) := by decide +kernel
theorem d_X11_back_10 : decode (zmc m_X11_back) 10 = .ok (.bipush (-5), 2) := by decide +kernel
theorem d_X11_back_12 : decode (zmc m_X11_back) 12 = .ok (.ireturn, 1) := by decide +kernel
theorem d_X11_back_13 : decode (zmc m_X11_back) 13 = .ok (.aload_n 0, 1) := by decide +kernel
theorem d_X11_back_14 : decode (zmc m_X11_back) 14 = .ok (.getfield 63, 3) := by decide +kernel
theorem d_X11_back_17 : decode (zmc m_X11_back) 17 = .ok (.aload_n 0, 1) := by decide +kernel
theorem d_X11_back_18 : decode (zmc m_X11_back) 18 = .ok (.getfield 10, 3) := by decide +kernel
theorem d_X11_back_21 : decode (zmc m_X11_back) 21 = .ok (.invokevirtual 300, 3) := by decide +kernel
theorem d_X11_back_24 : decode (zmc m_X11_back) 24 = .ok (.aload_n 0, 1) := by decide +kernel
theorem d_X11_back_25 : decode (zmc m_X11_back) 25 = .ok (.getfield 10, 3) := by decide +kernel
theorem d_X11_back_28 : decode (zmc m_X11_back) 28 = .ok (.getfield 284, 3) := by decide +kernel
theorem d_X11_back_31 : decode (zmc m_X11_back) 31 = .ok (.iconst 0, 1) := by decide +kernel
theorem d_X11_back_32 : decode (zmc m_X11_back) 32 = .ok (.iaload, 1) := by decide +kernel
theorem d_X11_back_33 : decode (zmc m_X11_back) 33 = .ok (.ireturn, 1) := by decide +kernel
theorem d_X11_drops_0 : decode (zmc m_X11_drops) 0 = .ok (.aload_n 0, 1) := by decide +kernel
theorem d_X11_drops_1 : decode (zmc m_X11_drops) 1 = .ok (.getfield 10, 3) := by decide +kernel
theorem d_X11_drops_4 : decode (zmc m_X11_drops) 4 = .ok (.iconst 0, 1) := by decide +kernel
theorem d_X11_drops_5 : decode (zmc m_X11_drops) 5 = .ok (.iload_n 1, 1) := by decide +kernel
theorem d_X11_drops_6 : decode (zmc m_X11_drops) 6 = .ok (.invokevirtual 117, 3) := by decide +kernel
theorem d_X11_drops_9 : decode (zmc m_X11_drops) 9 = .ok (.ifCond .ne 5, 3) := by decide +kernel
theorem d_X11_drops_12 : decode (zmc m_X11_drops) 12 = .ok (.iconst (-1), 1) := by decide +kernel
theorem d_X11_drops_13 : decode (zmc m_X11_drops) 13 = .ok (.ireturn, 1) := by decide +kernel
theorem d_X11_drops_14 : decode (zmc m_X11_drops) 14 = .ok (.aload_n 0, 1) := by decide +kernel
theorem d_X11_drops_15 : decode (zmc m_X11_drops) 15 = .ok (.getfield 10, 3) := by decide +kernel
theorem d_X11_drops_18 : decode (zmc m_X11_drops) 18 = .ok (.iconst 4, 1) := by decide +kernel
theorem d_X11_drops_19 : decode (zmc m_X11_drops) 19 = .ok (.iload_n 1, 1) := by decide +kernel
theorem d_X11_drops_20 : decode (zmc m_X11_drops) 20 = .ok (.invokevirtual 128, 3) := by decide +kernel
theorem d_X11_drops_23 : decode (zmc m_X11_drops) 23 = .ok (.ifCond .ne 8, 3) := by decide +kernel
theorem d_X11_drops_26 : decode (zmc m_X11_drops) 26 = .ok (.bipush (-2), 2) := by decide +kernel
theorem d_X11_drops_28 : decode (zmc m_X11_drops) 28 = .ok (.goto 11, 3) := by decide +kernel
theorem d_X11_drops_31 : decode (zmc m_X11_drops) 31 = .ok (.aload_n 0, 1) := by decide +kernel
theorem d_X11_drops_32 : decode (zmc m_X11_drops) 32 = .ok (.getfield 10, 3) := by decide +kernel
theorem d_X11_drops_35 : decode (zmc m_X11_drops) 35 = .ok (.iload_n 1, 1) := by decide +kernel
theorem d_X11_drops_36 : decode (zmc m_X11_drops) 36 = .ok (.invokevirtual 206, 3) := by decide +kernel
theorem d_X11_drops_39 : decode (zmc m_X11_drops) 39 = .ok (.ireturn, 1) := by decide +kernel
theorem d_X11_feed_0 : decode (zmc m_X11_feed) 0 = .ok (.iload_n 1, 1) := by decide +kernel
theorem d_X11_feed_1 : decode (zmc m_X11_feed) 1 = .ok (.ifCond .lt 10, 3) := by decide +kernel
theorem d_X11_feed_4 : decode (zmc m_X11_feed) 4 = .ok (.iload_n 1, 1) := by decide +kernel
theorem d_X11_feed_5 : decode (zmc m_X11_feed) 5 = .ok (.sipush 255, 3) := by decide +kernel
theorem d_X11_feed_8 : decode (zmc m_X11_feed) 8 = .ok (.if_icmp .le 7, 3) := by decide +kernel
theorem d_X11_feed_11 : decode (zmc m_X11_feed) 11 = .ok (.iconst (-1), 1) := by decide +kernel
theorem d_X11_feed_12 : decode (zmc m_X11_feed) 12 = .ok (.goto 11, 3) := by decide +kernel
theorem d_X11_feed_15 : decode (zmc m_X11_feed) 15 = .ok (.aload_n 0, 1) := by decide +kernel
theorem d_X11_feed_16 : decode (zmc m_X11_feed) 16 = .ok (.getfield 49, 3) := by decide +kernel
theorem d_X11_feed_19 : decode (zmc m_X11_feed) 19 = .ok (.iload_n 1, 1) := by decide +kernel
theorem d_X11_feed_20 : decode (zmc m_X11_feed) 20 = .ok (.invokevirtual 143, 3) := by decide +kernel
theorem d_X11_feed_23 : decode (zmc m_X11_feed) 23 = .ok (.ireturn, 1) := by decide +kernel
theorem d_X11_image_0 : decode (zmc m_X11_image) 0 = .ok (.aload_n 0, 1) := by decide +kernel
theorem d_X11_image_1 : decode (zmc m_X11_image) 1 = .ok (.getfield 63, 3) := by decide +kernel
theorem d_X11_image_4 : decode (zmc m_X11_image) 4 = .ok (.aload_n 0, 1) := by decide +kernel
theorem d_X11_image_5 : decode (zmc m_X11_image) 5 = .ok (.getfield 10, 3) := by decide +kernel
theorem d_X11_image_8 : decode (zmc m_X11_image) 8 = .ok (.invokevirtual 293, 3) := by decide +kernel
theorem d_X11_image_11 : decode (zmc m_X11_image) 11 = .ok (.aload_n 0, 1) := by decide +kernel
theorem d_X11_image_12 : decode (zmc m_X11_image) 12 = .ok (.getfield 10, 3) := by decide +kernel
theorem d_X11_image_15 : decode (zmc m_X11_image) 15 = .ok (.getfield 284, 3) := by decide +kernel
theorem d_X11_image_18 : decode (zmc m_X11_image) 18 = .ok (.iconst 0, 1) := by decide +kernel
theorem d_X11_image_19 : decode (zmc m_X11_image) 19 = .ok (.iaload, 1) := by decide +kernel
theorem d_X11_image_20 : decode (zmc m_X11_image) 20 = .ok (.ireturn, 1) := by decide +kernel
theorem d_X11_led_0 : decode (zmc m_X11_led) 0 = .ok (.iload_n 1, 1) := by decide +kernel
theorem d_X11_led_1 : decode (zmc m_X11_led) 1 = .ok (.ifCond .lt 8, 3) := by decide +kernel
theorem d_X11_led_4 : decode (zmc m_X11_led) 4 = .ok (.iload_n 1, 1) := by decide +kernel
theorem d_X11_led_5 : decode (zmc m_X11_led) 5 = .ok (.iconst 5, 1) := by decide +kernel
theorem d_X11_led_6 : decode (zmc m_X11_led) 6 = .ok (.if_icmp .lt 7, 3) := by decide +kernel
theorem d_X11_led_9 : decode (zmc m_X11_led) 9 = .ok (.iconst (-1), 1) := by decide +kernel
theorem d_X11_led_10 : decode (zmc m_X11_led) 10 = .ok (.goto 12, 3) := by decide +kernel
theorem d_X11_led_13 : decode (zmc m_X11_led) 13 = .ok (.aload_n 0, 1) := by decide +kernel
theorem d_X11_led_14 : decode (zmc m_X11_led) 14 = .ok (.getfield 10, 3) := by decide +kernel
theorem d_X11_led_17 : decode (zmc m_X11_led) 17 = .ok (.getfield 284, 3) := by decide +kernel
theorem d_X11_led_20 : decode (zmc m_X11_led) 20 = .ok (.iload_n 1, 1) := by decide +kernel
theorem d_X11_led_21 : decode (zmc m_X11_led) 21 = .ok (.iaload, 1) := by decide +kernel
theorem d_X11_led_22 : decode (zmc m_X11_led) 22 = .ok (.ireturn, 1) := by decide +kernel
theorem d_X11_lies_0 : decode (zmc m_X11_lies) 0 = .ok (.aload_n 0, 1) := by decide +kernel
theorem d_X11_lies_1 : decode (zmc m_X11_lies) 1 = .ok (.getfield 10, 3) := by decide +kernel
theorem d_X11_lies_4 : decode (zmc m_X11_lies) 4 = .ok (.iconst 0, 1) := by decide +kernel
theorem d_X11_lies_5 : decode (zmc m_X11_lies) 5 = .ok (.iload_n 1, 1) := by decide +kernel
theorem d_X11_lies_6 : decode (zmc m_X11_lies) 6 = .ok (.invokevirtual 117, 3) := by decide +kernel
theorem d_X11_lies_9 : decode (zmc m_X11_lies) 9 = .ok (.ifCond .eq 14, 3) := by decide +kernel
theorem d_X11_lies_12 : decode (zmc m_X11_lies) 12 = .ok (.aload_n 0, 1) := by decide +kernel
theorem d_X11_lies_13 : decode (zmc m_X11_lies) 13 = .ok (.getfield 10, 3) := by decide +kernel
theorem d_X11_lies_16 : decode (zmc m_X11_lies) 16 = .ok (.iload_n 1, 1) := by decide +kernel
theorem d_X11_lies_17 : decode (zmc m_X11_lies) 17 = .ok (.invokevirtual 215, 3) := by decide +kernel
theorem d_X11_lies_20 : decode (zmc m_X11_lies) 20 = .ok (.goto 4, 3) := by decide +kernel
theorem d_X11_lies_23 : decode (zmc m_X11_lies) 23 = .ok (.iconst (-1), 1) := by decide +kernel
theorem d_X11_lies_24 : decode (zmc m_X11_lies) 24 = .ok (.ireturn, 1) := by decide +kernel
theorem d_X11_of_0 : decode (zmc m_X11_of) 0 = .ok (.iload_n 2, 1) := by decide +kernel
theorem d_X11_of_1 : decode (zmc m_X11_of) 1 = .ok (.bipush 12, 2) := by decide +kernel
theorem d_X11_of_3 : decode (zmc m_X11_of) 3 = .ok (.if_icmp .ne 29, 3) := by decide +kernel
theorem d_X11_of_6 : decode (zmc m_X11_of) 6 = .ok (.aload_n 0, 1) := by decide +kernel
theorem d_X11_of_7 : decode (zmc m_X11_of) 7 = .ok (.getfield 10, 3) := by decide +kernel
theorem d_X11_of_10 : decode (zmc m_X11_of) 10 = .ok (.iconst 0, 1) := by decide +kernel
theorem d_X11_of_11 : decode (zmc m_X11_of) 11 = .ok (.iload_n 1, 1) := by decide +kernel
theorem d_X11_of_12 : decode (zmc m_X11_of) 12 = .ok (.invokevirtual 121, 3) := by decide +kernel
theorem d_X11_of_15 : decode (zmc m_X11_of) 15 = .ok (.ifCond .eq 14, 3) := by decide +kernel
theorem d_X11_of_18 : decode (zmc m_X11_of) 18 = .ok (.aload_n 0, 1) := by decide +kernel
theorem d_X11_of_19 : decode (zmc m_X11_of) 19 = .ok (.getfield 10, 3) := by decide +kernel
theorem d_X11_of_22 : decode (zmc m_X11_of) 22 = .ok (.iload_n 1, 1) := by decide +kernel
theorem d_X11_of_23 : decode (zmc m_X11_of) 23 = .ok (.invokevirtual 140, 3) := by decide +kernel
theorem d_X11_of_26 : decode (zmc m_X11_of) 26 = .ok (.goto 5, 3) := by decide +kernel
theorem d_X11_of_29 : decode (zmc m_X11_of) 29 = .ok (.ldc 124, 2) := by decide +kernel
theorem d_X11_of_31 : decode (zmc m_X11_of) 31 = .ok (.ireturn, 1) := by decide +kernel
theorem d_X11_of_32 : decode (zmc m_X11_of) 32 = .ok (.aload_n 0, 1) := by decide +kernel
theorem d_X11_of_33 : decode (zmc m_X11_of) 33 = .ok (.getfield 10, 3) := by decide +kernel
theorem d_X11_of_36 : decode (zmc m_X11_of) 36 = .ok (.iload_n 2, 1) := by decide +kernel
theorem d_X11_of_37 : decode (zmc m_X11_of) 37 = .ok (.iload_n 1, 1) := by decide +kernel
theorem d_X11_of_38 : decode (zmc m_X11_of) 38 = .ok (.invokevirtual 117, 3) := by decide +kernel
theorem d_X11_of_41 : decode (zmc m_X11_of) 41 = .ok (.ifCond .eq 15, 3) := by decide +kernel
theorem d_X11_of_44 : decode (zmc m_X11_of) 44 = .ok (.aload_n 0, 1) := by decide +kernel
theorem d_X11_of_45 : decode (zmc m_X11_of) 45 = .ok (.getfield 10, 3) := by decide +kernel
theorem d_X11_of_48 : decode (zmc m_X11_of) 48 = .ok (.iload_n 2, 1) := by decide +kernel
theorem d_X11_of_49 : decode (zmc m_X11_of) 49 = .ok (.iload_n 1, 1) := by decide +kernel
theorem d_X11_of_50 : decode (zmc m_X11_of) 50 = .ok (.invokevirtual 128, 3) := by decide +kernel
theorem d_X11_of_53 : decode (zmc m_X11_of) 53 = .ok (.goto 5, 3) := by decide +kernel
theorem d_X11_of_56 : decode (zmc m_X11_of) 56 = .ok (.ldc 124, 2) := by decide +kernel
theorem d_X11_of_58 : decode (zmc m_X11_of) 58 = .ok (.ireturn, 1) := by decide +kernel
theorem d_X11_pass_0 : decode (zmc m_X11_pass) 0 = .ok (.iload_n 1, 1) := by decide +kernel
theorem d_X11_pass_1 : decode (zmc m_X11_pass) 1 = .ok (.iconst 1, 1) := by decide +kernel
theorem d_X11_pass_2 : decode (zmc m_X11_pass) 2 = .ok (.if_icmp .lt 10, 3) := by decide +kernel
theorem d_X11_pass_5 : decode (zmc m_X11_pass) 5 = .ok (.iload_n 1, 1) := by decide +kernel
theorem d_X11_pass_6 : decode (zmc m_X11_pass) 6 = .ok (.sipush 999, 3) := by decide +kernel
theorem d_X11_pass_9 : decode (zmc m_X11_pass) 9 = .ok (.if_icmp .le 5, 3) := by decide +kernel
theorem d_X11_pass_12 : decode (zmc m_X11_pass) 12 = .ok (.iconst (-1), 1) := by decide +kernel
theorem d_X11_pass_13 : decode (zmc m_X11_pass) 13 = .ok (.ireturn, 1) := by decide +kernel
theorem d_X11_pass_14 : decode (zmc m_X11_pass) 14 = .ok (.aload_n 0, 1) := by decide +kernel
theorem d_X11_pass_15 : decode (zmc m_X11_pass) 15 = .ok (.getfield 10, 3) := by decide +kernel
theorem d_X11_pass_18 : decode (zmc m_X11_pass) 18 = .ok (.iload_n 1, 1) := by decide +kernel
theorem d_X11_pass_19 : decode (zmc m_X11_pass) 19 = .ok (.invokevirtual 287, 3) := by decide +kernel
theorem d_X11_pass_22 : decode (zmc m_X11_pass) 22 = .ok (.aload_n 0, 1) := by decide +kernel
theorem d_X11_pass_23 : decode (zmc m_X11_pass) 23 = .ok (.getfield 10, 3) := by decide +kernel
theorem d_X11_pass_26 : decode (zmc m_X11_pass) 26 = .ok (.invokevirtual 290, 3) := by decide +kernel
theorem d_X11_pass_29 : decode (zmc m_X11_pass) 29 = .ok (.ireturn, 1) := by decide +kernel
theorem d_X11_redo_0 : decode (zmc m_X11_redo) 0 = .ok (.aload_n 0, 1) := by decide +kernel
theorem d_X11_redo_1 : decode (zmc m_X11_redo) 1 = .ok (.getfield 56, 3) := by decide +kernel
theorem d_X11_redo_4 : decode (zmc m_X11_redo) 4 = .ok (.aload_n 0, 1) := by decide +kernel
theorem d_X11_redo_5 : decode (zmc m_X11_redo) 5 = .ok (.getfield 10, 3) := by decide +kernel
theorem d_X11_redo_8 : decode (zmc m_X11_redo) 8 = .ok (.invokevirtual 307, 3) := by decide +kernel
theorem d_X11_redo_11 : decode (zmc m_X11_redo) 11 = .ok (.ireturn, 1) := by decide +kernel
theorem d_X11_star_0 : decode (zmc m_X11_star) 0 = .ok (.aload_n 0, 1) := by decide +kernel
theorem d_X11_star_1 : decode (zmc m_X11_star) 1 = .ok (.getfield 10, 3) := by decide +kernel
theorem d_X11_star_4 : decode (zmc m_X11_star) 4 = .ok (.iload_n 1, 1) := by decide +kernel
theorem d_X11_star_5 : decode (zmc m_X11_star) 5 = .ok (.iconst 5, 1) := by decide +kernel
theorem d_X11_star_6 : decode (zmc m_X11_star) 6 = .ok (.iconst 5, 1) := by decide +kernel
theorem d_X11_star_7 : decode (zmc m_X11_star) 7 = .ok (.invokevirtual 91, 3) := by decide +kernel
theorem d_X11_star_10 : decode (zmc m_X11_star) 10 = .ok (.ireturn, 1) := by decide +kernel
theorem d_X11_steer_0 : decode (zmc m_X11_steer) 0 = .ok (.aload_n 0, 1) := by decide +kernel
theorem d_X11_steer_1 : decode (zmc m_X11_steer) 1 = .ok (.getfield 21, 3) := by decide +kernel
theorem d_X11_steer_4 : decode (zmc m_X11_steer) 4 = .ok (.aload_n 0, 1) := by decide +kernel
theorem d_X11_steer_5 : decode (zmc m_X11_steer) 5 = .ok (.getfield 10, 3) := by decide +kernel
theorem d_X11_steer_8 : decode (zmc m_X11_steer) 8 = .ok (.iconst 4, 1) := by decide +kernel
theorem d_X11_steer_9 : decode (zmc m_X11_steer) 9 = .ok (.invokevirtual 228, 3) := by decide +kernel
theorem d_X11_steer_12 : decode (zmc m_X11_steer) 12 = .ok (.invokevirtual 231, 3) := by decide +kernel
theorem d_X11_steer_15 : decode (zmc m_X11_steer) 15 = .ok (.ireturn, 1) := by decide +kernel
theorem d_X11_thrower_0 : decode (zmc m_X11_thrower) 0 = .ok (.aload_n 0, 1) := by decide +kernel
theorem d_X11_thrower_1 : decode (zmc m_X11_thrower) 1 = .ok (.getfield 10, 3) := by decide +kernel
theorem d_X11_thrower_4 : decode (zmc m_X11_thrower) 4 = .ok (.iload_n 1, 1) := by decide +kernel
theorem d_X11_thrower_5 : decode (zmc m_X11_thrower) 5 = .ok (.invokevirtual 110, 3) := by decide +kernel
theorem d_X11_thrower_8 : decode (zmc m_X11_thrower) 8 = .ok (.ireturn, 1) := by decide +kernel
theorem d_X11_undo_0 : decode (zmc m_X11_undo) 0 = .ok (.aload_n 0, 1) := by decide +kernel
theorem d_X11_undo_1 : decode (zmc m_X11_undo) 1 = .ok (.getfield 56, 3) := by decide +kernel
theorem d_X11_undo_4 : decode (zmc m_X11_undo) 4 = .ok (.aload_n 0, 1) := by decide +kernel
theorem d_X11_undo_5 : decode (zmc m_X11_undo) 5 = .ok (.getfield 10, 3) := by decide +kernel
theorem d_X11_undo_8 : decode (zmc m_X11_undo) 8 = .ok (.invokevirtual 303, 3) := by decide +kernel
theorem d_X11_undo_11 : decode (zmc m_X11_undo) 11 = .ok (.ireturn, 1) := by decide +kernel
theorem d_X11_upBy_0 : decode (zmc m_X11_upBy) 0 = .ok (.iload_n 1, 1) := by decide +kernel
theorem d_X11_upBy_1 : decode (zmc m_X11_upBy) 1 = .ok (.iconst (-1), 1) := by decide +kernel
theorem d_X11_upBy_2 : decode (zmc m_X11_upBy) 2 = .ok (.if_icmp .lt 10, 3) := by decide +kernel
theorem d_X11_upBy_5 : decode (zmc m_X11_upBy) 5 = .ok (.iload_n 1, 1) := by decide +kernel
theorem d_X11_upBy_6 : decode (zmc m_X11_upBy) 6 = .ok (.sipush 1999, 3) := by decide +kernel
theorem d_X11_upBy_9 : decode (zmc m_X11_upBy) 9 = .ok (.if_icmp .le 5, 3) := by decide +kernel
theorem d_X11_upBy_12 : decode (zmc m_X11_upBy) 12 = .ok (.iconst (-1), 1) := by decide +kernel
theorem d_X11_upBy_13 : decode (zmc m_X11_upBy) 13 = .ok (.ireturn, 1) := by decide +kernel
theorem d_X11_upBy_14 : decode (zmc m_X11_upBy) 14 = .ok (.iload_n 1, 1) := by decide +kernel
theorem d_X11_upBy_15 : decode (zmc m_X11_upBy) 15 = .ok (.iconst (-1), 1) := by decide +kernel
theorem d_X11_upBy_16 : decode (zmc m_X11_upBy) 16 = .ok (.if_icmp .ne 11, 3) := by decide +kernel
theorem d_X11_upBy_19 : decode (zmc m_X11_upBy) 19 = .ok (.aload_n 0, 1) := by decide +kernel
theorem d_X11_upBy_20 : decode (zmc m_X11_upBy) 20 = .ok (.getfield 10, 3) := by decide +kernel
theorem d_X11_upBy_23 : decode (zmc m_X11_upBy) 23 = .ok (.invokevirtual 209, 3) := by decide +kernel
theorem d_X11_upBy_26 : decode (zmc m_X11_upBy) 26 = .ok (.ireturn, 1) := by decide +kernel
theorem d_X11_upBy_27 : decode (zmc m_X11_upBy) 27 = .ok (.aload_n 0, 1) := by decide +kernel
theorem d_X11_upBy_28 : decode (zmc m_X11_upBy) 28 = .ok (.getfield 10, 3) := by decide +kernel
theorem d_X11_upBy_31 : decode (zmc m_X11_upBy) 31 = .ok (.iload_n 1, 1) := by decide +kernel
theorem d_X11_upBy_32 : decode (zmc m_X11_upBy) 32 = .ok (.invokevirtual 212, 3) := by decide +kernel
theorem d_X11_upBy_35 : decode (zmc m_X11_upBy) 35 = .ok (.invokestatic 195, 3) := by decide +kernel
theorem d_X11_upBy_38 : decode (zmc m_X11_upBy) 38 = .ok (.ireturn, 1) := by decide +kernel
/-! WHAT A WATCH ANSWERS, THE FIRST HALF -/
section S30
variable {g : zG} {l : Launch} {d : Nat} {I : Nat → Nat → Int32} {L : Nat → Nat → Int64} {fs : Nat × Nat × Option Nat} {ns nt nh : Nat}
theorem sp_X11_star (hd : 5 ≤ d) (hK : zSky I ns nt nh) {c : Int32} : zSp g l d 100 m_X11_star [.ref 0, .int c] (zU I L fs) (zX (fun x w => x = (zAdd I ns c 5 5).1 ∧ w = zU (zAdd I ns c 5 5).2 L fs)) := by
  refine zSp_of (lv := [(0, .ref 0), (1, .int c)]) k_X11_star rfl (Nat.le_of_ble_eq_true rfl) ?_
  refine zAloadN d_X11_star_0 rfl rfl (q := 1) rfl ?_
  refine zGetR d_X11_star_1 ff_X11_10 sh_0 (by decide) r_0_0 (q := 4) rfl ?_
  refine zIloadN d_X11_star_4 rfl rfl (q := 5) rfl ?_
  refine zIconst d_X11_star_5 (v := 5) ic_5 (q := 6) rfl ?_
  refine zIconst d_X11_star_6 (v := 5) ic_5 (q := 7) rfl ?_
  refine zCallVX d_X11_star_7 ml_X11_91 k_X9_addStar ki_X9_addStar ks_X9_addStar (sp_X9_addStar (d := d - 1) (by omega) hK) rfl rfl sh_1 (by decide) rfl (by decide) (Nat.le_of_ble_eq_true rfl) (by decide) (by omega) zns100 (q := 10) rfl (fun x w' hw' => ?_)
  obtain ⟨hx, rfl⟩ := hw'
  refine zIret d_X11_star_10 rfl rfl rfl ?_
  exact ⟨_, rfl, hx, rfl⟩
theorem sp_X11_thrower (hd : 5 ≤ d) (hK : zSky I ns nt nh) {f : Int32} : zSp g l d 100 m_X11_thrower [.ref 0, .int f] (zU I L fs) (zX (fun x w => (¬ zMay 6 f ∧ x = -1 ∧ w = zU I L fs) ∨ (zMay 6 f ∧ 4 ≤ nt ∧ x = -3 ∧ w = zU I L fs) ∨ (zMay 6 f ∧ nt < 4 ∧ x = nI nt ∧ w = zU (zThrI I nt f) L fs))) := by
  refine zSp_of (lv := [(0, .ref 0), (1, .int f)]) k_X11_thrower rfl (Nat.le_of_ble_eq_true rfl) ?_
  refine zAloadN d_X11_thrower_0 rfl rfl (q := 1) rfl ?_
  refine zGetR d_X11_thrower_1 ff_X11_10 sh_0 (by decide) r_0_0 (q := 4) rfl ?_
  refine zIloadN d_X11_thrower_4 rfl rfl (q := 5) rfl ?_
  refine zCallVN d_X11_thrower_5 ml_X11_110 k_X9_addThrower ki_X9_addThrower ks_X9_addThrower (sp_X9_addThrower (d := d - 1) (by omega) hK) rfl rfl sh_1 (by decide) rfl (by decide) (Nat.le_of_ble_eq_true rfl) (by decide) (by omega) zns100 (q := 8) rfl (fun x w' hn hw' => ?_)
  refine zIret d_X11_thrower_8 rfl rfl hn ?_
  exact ⟨_, rfl, hw'⟩
theorem sp_X11_of (hd : 4 ≤ d) (hK : zSky I ns nt nh) {k what : Int32} : zPure g l d m_X11_of [.ref 0, .int k, .int what] I L fs (.int (if what = 12 then (if zMay 0 k then zfind (I 3) k ns 0 else -2000000000) else if 0 ≤ k ∧ k < nI (zHold ns nt nh what) then zGet I ns nt nh what k else -2000000000)) := by
  refine zSp_of (lv := [(0, .ref 0), (1, .int k), (2, .int what)]) k_X11_of rfl (Nat.le_of_ble_eq_true rfl) ?_
  refine zIloadN d_X11_of_0 rfl rfl (q := 1) rfl ?_
  refine zBipush d_X11_of_1 (v := 12) bc_12 (q := 3) rfl ?_
  refine zIcmp_ne d_X11_of_3 (tgt := 32) (q := 6) (by decide) rfl (fun h3 => ?_) (fun h3 => ?_)
  · have hc := h3
    refine zAloadN d_X11_of_32 rfl rfl (q := 33) rfl ?_
    refine zGetR d_X11_of_33 ff_X11_10 sh_0 (by decide) r_0_0 (q := 36) rfl ?_
    refine zIloadN d_X11_of_36 rfl rfl (q := 37) rfl ?_
    refine zIloadN d_X11_of_37 rfl rfl (q := 38) rfl ?_
    refine zCallVP d_X11_of_38 ml_X11_117 k_X9_has ki_X9_has ks_X9_has (sp_X9_has (d := d - 1) (by omega) hK) rfl rfl sh_1 (by decide) rfl (by decide) (Nat.le_of_ble_eq_true rfl) (by decide) (by omega) zns100 (q := 41) rfl ?_
    refine zIf_eq d_X11_of_41 (tgt := 56) (q := 44) (by decide) rfl (fun h41 => ?_) (fun h41 => ?_)
    · have hb := bi_0.mp h41
      refine zLdc d_X11_of_56 co_X11_124 (q := 58) rfl ?_
      refine zIret d_X11_of_58 rfl rfl rfl ?_
      exact zPi (by rw [if_neg hc]; first | exact (if_pos hb).symm | exact (if_neg hb).symm)
    · have hb := bi_n0.mp h41
      refine zAloadN d_X11_of_44 rfl rfl (q := 45) rfl ?_
      refine zGetR d_X11_of_45 ff_X11_10 sh_0 (by decide) r_0_0 (q := 48) rfl ?_
      refine zIloadN d_X11_of_48 rfl rfl (q := 49) rfl ?_
      refine zIloadN d_X11_of_49 rfl rfl (q := 50) rfl ?_
      refine zCallVP d_X11_of_50 ml_X11_128 k_X9_get ki_X9_get ks_X9_get (sp_X9_get (d := d - 1) (by omega) hK) rfl rfl sh_1 (by decide) rfl (by decide) (Nat.le_of_ble_eq_true rfl) (by decide) (by omega) zns100 (q := 53) rfl ?_
      refine zGoto d_X11_of_53 (q := 58) (by decide) ?_
      refine zIret d_X11_of_58 rfl rfl rfl ?_
      exact zPi (by rw [if_neg hc]; first | exact (if_pos hb).symm | exact (if_neg hb).symm)
  · have hc := h3
    refine zAloadN d_X11_of_6 rfl rfl (q := 7) rfl ?_
    refine zGetR d_X11_of_7 ff_X11_10 sh_0 (by decide) r_0_0 (q := 10) rfl ?_
    refine zIconst d_X11_of_10 (v := 0) ic_0 (q := 11) rfl ?_
    refine zIloadN d_X11_of_11 rfl rfl (q := 12) rfl ?_
    refine zCallVP d_X11_of_12 ml_X11_121 k_X9_mayBe ki_X9_mayBe ks_X9_mayBe (sp_X9_mayBe (d := d - 1) (by omega) ) rfl rfl sh_1 (by decide) rfl (by decide) (Nat.le_of_ble_eq_true rfl) (by decide) (by omega) zns100 (q := 15) rfl ?_
    refine zIf_eq d_X11_of_15 (tgt := 29) (q := 18) (by decide) rfl (fun h15 => ?_) (fun h15 => ?_)
    · have hb := bi_0.mp h15
      refine zLdc d_X11_of_29 co_X11_124 (q := 31) rfl ?_
      refine zIret d_X11_of_31 rfl rfl rfl ?_
      exact zPi (by rw [if_pos hc]; first | exact (if_pos hb).symm | exact (if_neg hb).symm)
    · have hb := bi_n0.mp h15
      refine zAloadN d_X11_of_18 rfl rfl (q := 19) rfl ?_
      refine zGetR d_X11_of_19 ff_X11_10 sh_0 (by decide) r_0_0 (q := 22) rfl ?_
      refine zIloadN d_X11_of_22 rfl rfl (q := 23) rfl ?_
      refine zCallVP d_X11_of_23 ml_X11_140 k_X9_starIn ki_X9_starIn ks_X9_starIn (sp_X9_starIn (d := d - 1) (by omega) hK) rfl rfl sh_1 (by decide) rfl (by decide) (Nat.le_of_ble_eq_true rfl) (by decide) (by omega) zns100 (q := 26) rfl ?_
      refine zGoto d_X11_of_26 (q := 31) (by decide) ?_
      refine zIret d_X11_of_31 rfl rfl rfl ?_
      exact zPi (by rw [if_pos hc]; first | exact (if_pos hb).symm | exact (if_neg hb).symm)
theorem sp_X11_feed (hd : 2 ≤ d) {m : Nat} (ht : I 29 1 = nI m) (hm : m ≤ 120) {b : Int32} : zSp g l d 100 m_X11_feed [.ref 0, .int b] (zU I L fs) (zX (fun x w => if b < 0 ∨ 255 < b then x = -1 ∧ w = zU I L fs else if m < 120 then x = nI (m + 1) ∧ w = zU (zup (zup I 30 (zup (I 30) m b)) 29 (zup (I 29) 1 (nI (m + 1)))) L fs else x = -3 ∧ w = zU I L fs)) := by
  refine zSp_of (lv := [(0, .ref 0), (1, .int b)]) k_X11_feed rfl (Nat.le_of_ble_eq_true rfl) ?_
  refine zIloadN d_X11_feed_0 rfl rfl (q := 1) rfl ?_
  refine zIf_lt d_X11_feed_1 (tgt := 11) (q := 4) (by decide) rfl (fun h1 => ?_) (fun h1 => ?_)
  · have hb : b < 0 ∨ 255 < b := Or.inl h1
    refine zIconst d_X11_feed_11 (v := -1) ic_m1 (q := 12) rfl ?_
    refine zGoto d_X11_feed_12 (q := 23) (by decide) ?_
    refine zIret d_X11_feed_23 rfl rfl (by first | exact hn | rfl) ?_
    first
    | exact ⟨_, rfl, (if_neg hb).mpr hw'⟩
    | exact ⟨_, rfl, by show (if _ then _ else _); rw [if_pos hb]; exact ⟨rfl, rfl⟩⟩
  · refine zIloadN d_X11_feed_4 rfl rfl (q := 5) rfl ?_
    refine zSipush d_X11_feed_5 (v := 255) sc_255 (q := 8) rfl ?_
    refine zIcmp_le d_X11_feed_8 (tgt := 15) (q := 11) (by decide) rfl (fun h8 => ?_) (fun h8 => ?_)
    · refine zAloadN d_X11_feed_15 rfl rfl (q := 16) rfl ?_
      refine zGetR d_X11_feed_16 ff_X11_49 sh_0 (by decide) r_0_5 (q := 19) rfl ?_
      refine zIloadN d_X11_feed_19 rfl rfl (q := 20) rfl ?_
      refine zCallVN d_X11_feed_20 ml_X11_143 k_X10_add ki_X10_add ks_X10_add (sp_X10_add (d := d - 1) (by omega) ht hm) rfl rfl sh_29 (by decide) rfl (by decide) (Nat.le_of_ble_eq_true rfl) (by decide) (by omega) zns100 (q := 23) rfl (fun x w' hn hw' => ?_)
      have hb : ¬ (b < 0 ∨ 255 < b) := by grind
      refine zIret d_X11_feed_23 rfl rfl (by first | exact hn | rfl) ?_
      first
      | exact ⟨_, rfl, (if_neg hb).mpr hw'⟩
      | exact ⟨_, rfl, by show (if _ then _ else _); rw [if_pos hb]; exact ⟨rfl, rfl⟩⟩
    · have hb : b < 0 ∨ 255 < b := by grind
      refine zIconst d_X11_feed_11 (v := -1) ic_m1 (q := 12) rfl ?_
      refine zGoto d_X11_feed_12 (q := 23) (by decide) ?_
      refine zIret d_X11_feed_23 rfl rfl (by first | exact hn | rfl) ?_
      first
      | exact ⟨_, rfl, (if_neg hb).mpr hw'⟩
      | exact ⟨_, rfl, by show (if _ then _ else _); rw [if_pos hb]; exact ⟨rfl, rfl⟩⟩
theorem sp_X11_drops (hd : 5 ≤ d) (hK : zSky I ns nt nh) {s : Int32} : zPure g l d m_X11_drops [.ref 0, .int s] I L fs (.int (if 0 ≤ s ∧ s < nI ns then (if I 7 s.toNatClampNeg = 0 then -2 else zDrop I s.toNatClampNeg) else -1)) := by
  have hns := hK.2.1
  have e0 : zHold ns nt nh 0 = ns := rfl
  rcases Decidable.em (0 ≤ s ∧ s < nI ns) with hc | hc
  · rw [if_pos hc]
    obtain ⟨k, hk, rfl⟩ := zn1 (x := s) (n := ns) (by omega) hc.1 hc.2
    rw [show (nI k).toNatClampNeg = k from zcl_n (by omega)]
    refine zSp_of (lv := [(0, .ref 0), (1, .int (nI k))]) k_X11_drops rfl (Nat.le_of_ble_eq_true rfl) ?_
    refine zAloadN d_X11_drops_0 rfl rfl (q := 1) rfl ?_
    refine zGetR d_X11_drops_1 ff_X11_10 sh_0 (by decide) r_0_0 (q := 4) rfl ?_
    refine zIconst d_X11_drops_4 (v := 0) ic_0 (q := 5) rfl ?_
    refine zIloadN d_X11_drops_5 rfl rfl (q := 6) rfl ?_
    refine zCallVP d_X11_drops_6 ml_X11_117 k_X9_has ki_X9_has ks_X9_has (sp_X9_has (d := d - 1) (by omega) hK) rfl rfl sh_1 (by decide) rfl (by decide) (Nat.le_of_ble_eq_true rfl) (by decide) (by omega) zns100 (q := 9) rfl ?_
    refine zIf_ne d_X11_drops_9 (tgt := 14) (q := 12) (by decide) rfl (fun h9 => ?_) (fun h => absurd h (fun h => bi_0.mp h hc))
    refine zAloadN d_X11_drops_14 rfl rfl (q := 15) rfl ?_
    refine zGetR d_X11_drops_15 ff_X11_10 sh_0 (by decide) r_0_0 (q := 18) rfl ?_
    refine zIconst d_X11_drops_18 (v := 4) ic_4 (q := 19) rfl ?_
    refine zIloadN d_X11_drops_19 rfl rfl (q := 20) rfl ?_
    refine zCallVP d_X11_drops_20 ml_X11_128 k_X9_get ki_X9_get ks_X9_get (sp_get4 (d := d - 1) (by omega) hK hk) rfl rfl sh_1 (by decide) rfl (by decide) (Nat.le_of_ble_eq_true rfl) (by decide) (by omega) zns100 (q := 23) rfl ?_
    refine zIf_ne d_X11_drops_23 (tgt := 31) (q := 26) (by decide) rfl (fun h23 => ?_) (fun h23 => ?_)
    · have hu : ¬ I 7 k = 0 := h23
      refine zAloadN d_X11_drops_31 rfl rfl (q := 32) rfl ?_
      refine zGetR d_X11_drops_32 ff_X11_10 sh_0 (by decide) r_0_0 (q := 35) rfl ?_
      refine zIloadN d_X11_drops_35 rfl rfl (q := 36) rfl ?_
      refine zCallVP d_X11_drops_36 ml_X11_206 k_X9_dropMinute ki_X9_dropMinute ks_X9_dropMinute (sp_X9_dropMinute (d := d - 1) (by omega) hK hk) rfl rfl sh_1 (by decide) rfl (by decide) (Nat.le_of_ble_eq_true rfl) (by decide) (by omega) zns100 (q := 39) rfl ?_
      refine zIret d_X11_drops_39 rfl rfl rfl ?_
      exact zPi (by first | exact (if_neg hu).symm | exact (if_pos hu).symm)
    · have hu : I 7 k = 0 := h23
      refine zBipush d_X11_drops_26 (v := -2) bc_m2 (q := 28) rfl ?_
      refine zGoto d_X11_drops_28 (q := 39) (by decide) ?_
      refine zIret d_X11_drops_39 rfl rfl rfl ?_
      exact zPi (by first | exact (if_neg hu).symm | exact (if_pos hu).symm)
  · rw [if_neg hc]
    refine zSp_of (lv := [(0, .ref 0), (1, .int s)]) k_X11_drops rfl (Nat.le_of_ble_eq_true rfl) ?_
    refine zAloadN d_X11_drops_0 rfl rfl (q := 1) rfl ?_
    refine zGetR d_X11_drops_1 ff_X11_10 sh_0 (by decide) r_0_0 (q := 4) rfl ?_
    refine zIconst d_X11_drops_4 (v := 0) ic_0 (q := 5) rfl ?_
    refine zIloadN d_X11_drops_5 rfl rfl (q := 6) rfl ?_
    refine zCallVP d_X11_drops_6 ml_X11_117 k_X9_has ki_X9_has ks_X9_has (sp_X9_has (d := d - 1) (by omega) hK) rfl rfl sh_1 (by decide) rfl (by decide) (Nat.le_of_ble_eq_true rfl) (by decide) (by omega) zns100 (q := 9) rfl ?_
    refine zIf_ne d_X11_drops_9 (tgt := 14) (q := 12) (by decide) rfl (fun h => absurd h (fun h => hc (bi_n0.mp h))) (fun h9 => ?_)
    refine zIconst d_X11_drops_12 (v := -1) ic_m1 (q := 13) rfl ?_
    refine zIret d_X11_drops_13 rfl rfl rfl ?_
    exact zPi rfl
theorem sp_X11_upBy (hd : 6 ≤ d) (hK : zSky I ns nt nh) {m : Int32} : zPure g l d m_X11_upBy [.ref 0, .int m] I L fs (.int (if m < -1 ∨ 1999 < m then -1 else if m = -1 then zFirst I ns else zbc (zUpAf I ns m))) := by
  refine zSp_of (lv := [(0, .ref 0), (1, .int m)]) k_X11_upBy rfl (Nat.le_of_ble_eq_true rfl) ?_
  refine zIloadN d_X11_upBy_0 rfl rfl (q := 1) rfl ?_
  refine zIconst d_X11_upBy_1 (v := -1) ic_m1 (q := 2) rfl ?_
  refine zIcmp_lt d_X11_upBy_2 (tgt := 12) (q := 5) (by decide) rfl (fun h2 => ?_) (fun h2 => ?_)
  · refine zIconst d_X11_upBy_12 (v := -1) ic_m1 (q := 13) rfl ?_
    refine zIret d_X11_upBy_13 rfl rfl rfl ?_
    exact zPi (by grind)
  · refine zIloadN d_X11_upBy_5 rfl rfl (q := 6) rfl ?_
    refine zSipush d_X11_upBy_6 (v := 1999) sc_1999 (q := 9) rfl ?_
    refine zIcmp_le d_X11_upBy_9 (tgt := 14) (q := 12) (by decide) rfl (fun h9 => ?_) (fun h9 => ?_)
    · refine zIloadN d_X11_upBy_14 rfl rfl (q := 15) rfl ?_
      refine zIconst d_X11_upBy_15 (v := -1) ic_m1 (q := 16) rfl ?_
      refine zIcmp_ne d_X11_upBy_16 (tgt := 27) (q := 19) (by decide) rfl (fun h16 => ?_) (fun h16 => ?_)
      · refine zAloadN d_X11_upBy_27 rfl rfl (q := 28) rfl ?_
        refine zGetR d_X11_upBy_28 ff_X11_10 sh_0 (by decide) r_0_0 (q := 31) rfl ?_
        refine zIloadN d_X11_upBy_31 rfl rfl (q := 32) rfl ?_
        refine zCallVP d_X11_upBy_32 ml_X11_212 k_X9_upAfter ki_X9_upAfter ks_X9_upAfter (sp_X9_upAfter (d := d - 1) (by omega) hK) rfl rfl sh_1 (by decide) rfl (by decide) (Nat.le_of_ble_eq_true rfl) (by decide) (by omega) zns100 (q := 35) rfl ?_
        refine zCallSP d_X11_upBy_35 ml_X11_195 k_J6_bitCount kt_J6_bitCount (sp_J6_bitCount (d := d - 1) (by omega) ) rfl rfl (Nat.le_of_ble_eq_true rfl) (by decide) (by omega) zns100 (q := 38) rfl ?_
        refine zIret d_X11_upBy_38 rfl rfl rfl ?_
        exact zPi (by grind)
      · refine zAloadN d_X11_upBy_19 rfl rfl (q := 20) rfl ?_
        refine zGetR d_X11_upBy_20 ff_X11_10 sh_0 (by decide) r_0_0 (q := 23) rfl ?_
        refine zCallVP d_X11_upBy_23 ml_X11_209 k_X9_firstToDrop ki_X9_firstToDrop ks_X9_firstToDrop (sp_X9_firstToDrop (d := d - 1) (by omega) hK) rfl rfl sh_1 (by decide) rfl (by decide) (Nat.le_of_ble_eq_true rfl) (by decide) (by omega) zns100 (q := 26) rfl ?_
        refine zIret d_X11_upBy_26 rfl rfl rfl ?_
        exact zPi (by grind)
    · refine zIconst d_X11_upBy_12 (v := -1) ic_m1 (q := 13) rfl ?_
      refine zIret d_X11_upBy_13 rfl rfl rfl ?_
      exact zPi (by grind)
theorem sp_X11_lies (hd : 5 ≤ d) (hK : zSky I ns nt nh) {s : Int32} : zPure g l d m_X11_lies [.ref 0, .int s] I L fs (.int (if 0 ≤ s ∧ s < nI ns then zPlace I s.toNatClampNeg else -1)) := by
  have hns := hK.2.1
  have e0 : zHold ns nt nh 0 = ns := rfl
  rcases Decidable.em (0 ≤ s ∧ s < nI ns) with hc | hc
  · rw [if_pos hc]
    obtain ⟨k, hk, rfl⟩ := zn1 (x := s) (n := ns) (by omega) hc.1 hc.2
    rw [show (nI k).toNatClampNeg = k from zcl_n (by omega)]
    refine zSp_of (lv := [(0, .ref 0), (1, .int (nI k))]) k_X11_lies rfl (Nat.le_of_ble_eq_true rfl) ?_
    refine zAloadN d_X11_lies_0 rfl rfl (q := 1) rfl ?_
    refine zGetR d_X11_lies_1 ff_X11_10 sh_0 (by decide) r_0_0 (q := 4) rfl ?_
    refine zIconst d_X11_lies_4 (v := 0) ic_0 (q := 5) rfl ?_
    refine zIloadN d_X11_lies_5 rfl rfl (q := 6) rfl ?_
    refine zCallVP d_X11_lies_6 ml_X11_117 k_X9_has ki_X9_has ks_X9_has (sp_X9_has (d := d - 1) (by omega) hK) rfl rfl sh_1 (by decide) rfl (by decide) (Nat.le_of_ble_eq_true rfl) (by decide) (by omega) zns100 (q := 9) rfl ?_
    refine zIf_eq d_X11_lies_9 (tgt := 23) (q := 12) (by decide) rfl (fun h => absurd h (fun h => bi_0.mp h hc)) (fun h9 => ?_)
    refine zAloadN d_X11_lies_12 rfl rfl (q := 13) rfl ?_
    refine zGetR d_X11_lies_13 ff_X11_10 sh_0 (by decide) r_0_0 (q := 16) rfl ?_
    refine zIloadN d_X11_lies_16 rfl rfl (q := 17) rfl ?_
    refine zCallVP d_X11_lies_17 ml_X11_215 k_X9_placeOnSand ki_X9_placeOnSand ks_X9_placeOnSand (sp_X9_placeOnSand (d := d - 1) (by omega) hK hk) rfl rfl sh_1 (by decide) rfl (by decide) (Nat.le_of_ble_eq_true rfl) (by decide) (by omega) zns100 (q := 20) rfl ?_
    refine zGoto d_X11_lies_20 (q := 24) (by decide) ?_
    refine zIret d_X11_lies_24 rfl rfl rfl ?_
    exact zPi rfl
  · rw [if_neg hc]
    refine zSp_of (lv := [(0, .ref 0), (1, .int s)]) k_X11_lies rfl (Nat.le_of_ble_eq_true rfl) ?_
    refine zAloadN d_X11_lies_0 rfl rfl (q := 1) rfl ?_
    refine zGetR d_X11_lies_1 ff_X11_10 sh_0 (by decide) r_0_0 (q := 4) rfl ?_
    refine zIconst d_X11_lies_4 (v := 0) ic_0 (q := 5) rfl ?_
    refine zIloadN d_X11_lies_5 rfl rfl (q := 6) rfl ?_
    refine zCallVP d_X11_lies_6 ml_X11_117 k_X9_has ki_X9_has ks_X9_has (sp_X9_has (d := d - 1) (by omega) hK) rfl rfl sh_1 (by decide) rfl (by decide) (Nat.le_of_ble_eq_true rfl) (by decide) (by omega) zns100 (q := 9) rfl ?_
    refine zIf_eq d_X11_lies_9 (tgt := 23) (q := 12) (by decide) rfl (fun h9 => ?_) (fun h => absurd (bi_0.mpr hc) h)
    refine zIconst d_X11_lies_23 (v := -1) ic_m1 (q := 24) rfl ?_
    refine zIret d_X11_lies_24 rfl rfl rfl ?_
    exact zPi rfl
theorem sp_X11_steer (hd : 5 ≤ d) (hK : zSky I ns nt nh) : zPure g l d m_X11_steer [.ref 0] I L fs (.int (zSteer I nh (zbits (I 7) ns))) := by
  refine zSp_of (lv := [(0, .ref 0)]) k_X11_steer rfl (Nat.le_of_ble_eq_true rfl) ?_
  refine zAloadN d_X11_steer_0 rfl rfl (q := 1) rfl ?_
  refine zGetR d_X11_steer_1 ff_X11_21 sh_0 (by decide) r_0_1 (q := 4) rfl ?_
  refine zAloadN d_X11_steer_4 rfl rfl (q := 5) rfl ?_
  refine zGetR d_X11_steer_5 ff_X11_10 sh_0 (by decide) r_0_0 (q := 8) rfl ?_
  refine zIconst d_X11_steer_8 (v := 4) ic_4 (q := 9) rfl ?_
  refine zCallVP d_X11_steer_9 ml_X11_228 k_X9_bits ki_X9_bits ks_X9_bits (sp_X9_bits4 (d := d - 1) (by omega) hK) rfl rfl sh_1 (by decide) rfl (by decide) (Nat.le_of_ble_eq_true rfl) (by decide) (by omega) zns100 (q := 12) rfl ?_
  refine zCallVP d_X11_steer_12 ml_X11_231 k_X4_steering ki_X4_steering ks_X4_steering (sp_X4_steering (d := d - 1) (by omega) hK) rfl rfl sh_16 (by decide) rfl (by decide) (Nat.le_of_ble_eq_true rfl) (by decide) (by omega) zns100 (q := 15) rfl ?_
  refine zIret d_X11_steer_15 rfl rfl rfl ?_
  exact zPi rfl
theorem sp_X11_led (hd : 1 ≤ d) {k : Int32} : zPure g l d m_X11_led [.ref 0, .int k] I L fs (.int (if 0 ≤ k ∧ k < 5 then I 15 k.toNatClampNeg else -1)) := by
  rcases Decidable.em (0 ≤ k ∧ k < 5) with hc | hc
  · rw [if_pos hc]
    obtain ⟨j, hj, rfl⟩ := zn1 (x := k) (n := 5) (by omega) hc.1 hc.2
    rw [show (nI j).toNatClampNeg = j from zcl_n (by omega)]
    refine zSp_of (lv := [(0, .ref 0), (1, .int (nI j))]) k_X11_led rfl (Nat.le_of_ble_eq_true rfl) ?_
    refine zIloadN d_X11_led_0 rfl rfl (q := 1) rfl ?_
    refine zIf_lt d_X11_led_1 (tgt := 9) (q := 4) (by decide) rfl (fun h => absurd h (nI_pos (by omega))) (fun h1 => ?_)
    refine zIloadN d_X11_led_4 rfl rfl (q := 5) rfl ?_
    refine zIconst d_X11_led_5 (v := 5) ic_5 (q := 6) rfl ?_
    refine zIcmp_lt d_X11_led_6 (tgt := 13) (q := 9) (by decide) rfl (fun h6 => ?_) (fun h => absurd hc.2 h)
    refine zAloadN d_X11_led_13 rfl rfl (q := 14) rfl ?_
    refine zGetR d_X11_led_14 ff_X11_10 sh_0 (by decide) r_0_0 (q := 17) rfl ?_
    refine zGetR d_X11_led_17 ff_X11_284 sh_1 (by decide) r_1_2 (q := 20) rfl ?_
    refine zIloadN d_X11_led_20 rfl rfl (q := 21) rfl ?_
    refine zIald d_X11_led_21 sh_15 (by decide) rfl hj (q := 22) rfl ?_
    refine zIret d_X11_led_22 rfl rfl rfl ?_
    exact zPi rfl
  · rw [if_neg hc]
    refine zSp_of (lv := [(0, .ref 0), (1, .int k)]) k_X11_led rfl (Nat.le_of_ble_eq_true rfl) ?_
    refine zIloadN d_X11_led_0 rfl rfl (q := 1) rfl ?_
    refine zIf_lt d_X11_led_1 (tgt := 9) (q := 4) (by decide) rfl (fun h1 => ?_) (fun h1 => ?_)
    · refine zIconst d_X11_led_9 (v := -1) ic_m1 (q := 10) rfl ?_
      refine zGoto d_X11_led_10 (q := 22) (by decide) ?_
      refine zIret d_X11_led_22 rfl rfl rfl ?_
      exact zPi rfl
    · refine zIloadN d_X11_led_4 rfl rfl (q := 5) rfl ?_
      refine zIconst d_X11_led_5 (v := 5) ic_5 (q := 6) rfl ?_
      refine zIcmp_lt d_X11_led_6 (tgt := 13) (q := 9) (by decide) rfl (fun h => absurd h (fun h => hc ⟨Int32.not_lt.mp h1, h⟩)) (fun h6 => ?_)
      refine zIconst d_X11_led_9 (v := -1) ic_m1 (q := 10) rfl ?_
      refine zGoto d_X11_led_10 (q := 22) (by decide) ?_
      refine zIret d_X11_led_22 rfl rfl rfl ?_
      exact zPi rfl
theorem sp_X11_undo (hd : 6 ≤ d) (hK : zSky I ns nt nh) {dn : Nat} (hdn : I 31 4 = nI dn) (h40 : dn ≤ 40) : zSp g l d 100 m_X11_undo [.ref 0] (zU I L fs) (zX (fun x w => (dn = 0 ∧ x = -5 ∧ w = zU I L fs) ∨ (0 < dn ∧ x = nI (dn - 1) ∧ w = zU (zLay (zup I 31 (zup (I 31) 4 (nI (dn - 1)))) ns nt nh (I 32 (dn - 1)) (I 33 (dn - 1)) (I 34 (dn - 1))) L fs))) := by
  refine zSp_of (lv := [(0, .ref 0)]) k_X11_undo rfl (Nat.le_of_ble_eq_true rfl) ?_
  refine zAloadN d_X11_undo_0 rfl rfl (q := 1) rfl ?_
  refine zGetR d_X11_undo_1 ff_X11_56 sh_0 (by decide) r_0_6 (q := 4) rfl ?_
  refine zAloadN d_X11_undo_4 rfl rfl (q := 5) rfl ?_
  refine zGetR d_X11_undo_5 ff_X11_10 sh_0 (by decide) r_0_0 (q := 8) rfl ?_
  refine zCallVN d_X11_undo_8 ml_X11_303 k_X1_takeBack ki_X1_takeBack ks_X1_takeBack (sp_X1_takeBack (d := d - 1) (by omega) hK hdn h40) rfl rfl sh_31 (by decide) rfl (by decide) (Nat.le_of_ble_eq_true rfl) (by decide) (by omega) zns100 (q := 11) rfl (fun x w' hn hw' => ?_)
  refine zIret d_X11_undo_11 rfl rfl hn ?_
  exact ⟨_, rfl, hw'⟩
theorem sp_X11_redo (hd : 6 ≤ d) (hK : zSky I ns nt nh) {dn al : Nat} (hdn : I 31 4 = nI dn) (hal : I 31 5 = nI al) (h40 : al ≤ 40) (hle : dn ≤ al) : zSp g l d 100 m_X11_redo [.ref 0] (zU I L fs) (zX (fun x w => (dn = al ∧ x = -5 ∧ w = zU I L fs) ∨ (dn < al ∧ x = nI (al - (dn + 1)) ∧ w = zU (zup (zLay I ns nt nh (I 32 dn) (I 33 dn) (I 35 dn)) 31 (zup (I 31) 4 (nI (dn + 1)))) L fs))) := by
  refine zSp_of (lv := [(0, .ref 0)]) k_X11_redo rfl (Nat.le_of_ble_eq_true rfl) ?_
  refine zAloadN d_X11_redo_0 rfl rfl (q := 1) rfl ?_
  refine zGetR d_X11_redo_1 ff_X11_56 sh_0 (by decide) r_0_6 (q := 4) rfl ?_
  refine zAloadN d_X11_redo_4 rfl rfl (q := 5) rfl ?_
  refine zGetR d_X11_redo_5 ff_X11_10 sh_0 (by decide) r_0_0 (q := 8) rfl ?_
  refine zCallVN d_X11_redo_8 ml_X11_307 k_X1_doAgain ki_X1_doAgain ks_X1_doAgain (sp_X1_doAgain (d := d - 1) (by omega) hK hdn hal h40 hle) rfl rfl sh_31 (by decide) rfl (by decide) (Nat.le_of_ble_eq_true rfl) (by decide) (by omega) zns100 (q := 11) rfl (fun x w' hn hw' => ?_)
  refine zIret d_X11_redo_11 rfl rfl hn ?_
  exact ⟨_, rfl, hw'⟩
theorem sp_X11_image (hd : 6 ≤ d) (hK : zSky I ns nt nh) : zSp g l d 100 m_X11_image [.ref 0] (zU I L fs) (zX (fun x w => x = zTakeI I ns 15 0 ∧ w = zU (zTakeI I ns) L fs)) := by
  refine zSp_of (lv := [(0, .ref 0)]) k_X11_image rfl (Nat.le_of_ble_eq_true rfl) ?_
  refine zAloadN d_X11_image_0 rfl rfl (q := 1) rfl ?_
  refine zGetR d_X11_image_1 ff_X11_63 sh_0 (by decide) r_0_7 (q := 4) rfl ?_
  refine zAloadN d_X11_image_4 rfl rfl (q := 5) rfl ?_
  refine zGetR d_X11_image_5 ff_X11_10 sh_0 (by decide) r_0_0 (q := 8) rfl ?_
  refine zCallVV d_X11_image_8 ml_X11_293 k_X5_takeOf ki_X5_takeOf ks_X5_takeOf (sp_X5_takeOf (d := d - 1) (by omega) hK) rfl rfl sh_36 (by decide) rfl (by decide) (Nat.le_of_ble_eq_true rfl) (by decide) (by omega) zns100 (q := 11) rfl (fun w' hw' => ?_)
  subst hw'
  refine zAloadN d_X11_image_11 rfl rfl (q := 12) rfl ?_
  refine zGetR d_X11_image_12 ff_X11_10 sh_0 (by decide) r_0_0 (q := 15) rfl ?_
  refine zGetR d_X11_image_15 ff_X11_284 sh_1 (by decide) r_1_2 (q := 18) rfl ?_
  refine zIconst d_X11_image_18 (v := 0) ic_0 (q := 19) rfl ?_
  refine zIald d_X11_image_19 sh_15 (by decide) (j := 0) rfl (by decide) (q := 20) rfl ?_
  refine zIret d_X11_image_20 rfl rfl rfl ?_
  exact ⟨_, rfl, rfl, rfl⟩
theorem sp_X11_back (hd : 6 ≤ d) (hK : zSky I ns nt nh) {ks : Nat} (hks : I 36 3 = nI ks) (hle : ks ≤ ns) : zSp g l d 100 m_X11_back [.ref 0] (zU I L fs) (zX (fun x w => (I 36 6 = 0 ∧ x = -5 ∧ w = zU I L fs) ∨ (¬ I 36 6 = 0 ∧ x = zBackI I ks 15 0 ∧ w = zU (zBackI I ks) L fs))) := by
  refine zSp_of (lv := [(0, .ref 0)]) k_X11_back rfl (Nat.le_of_ble_eq_true rfl) ?_
  refine zAloadN d_X11_back_0 rfl rfl (q := 1) rfl ?_
  refine zGetR d_X11_back_1 ff_X11_63 sh_0 (by decide) r_0_7 (q := 4) rfl ?_
  refine zGetI d_X11_back_4 ff_X11_296 sh_36 (by decide) (q := 7) rfl ?_
  refine zIf_ne d_X11_back_7 (tgt := 13) (q := 10) (by decide) rfl (fun h7 => ?_) (fun h7 => ?_)
  · refine zAloadN d_X11_back_13 rfl rfl (q := 14) rfl ?_
    refine zGetR d_X11_back_14 ff_X11_63 sh_0 (by decide) r_0_7 (q := 17) rfl ?_
    refine zAloadN d_X11_back_17 rfl rfl (q := 18) rfl ?_
    refine zGetR d_X11_back_18 ff_X11_10 sh_0 (by decide) r_0_0 (q := 21) rfl ?_
    refine zCallVV d_X11_back_21 ml_X11_300 k_X5_layOn ki_X5_layOn ks_X5_layOn (sp_X5_layOn (d := d - 1) (by omega) hK hks hle) rfl rfl sh_36 (by decide) rfl (by decide) (Nat.le_of_ble_eq_true rfl) (by decide) (by omega) zns100 (q := 24) rfl (fun w' hw' => ?_)
    subst hw'
    refine zAloadN d_X11_back_24 rfl rfl (q := 25) rfl ?_
    refine zGetR d_X11_back_25 ff_X11_10 sh_0 (by decide) r_0_0 (q := 28) rfl ?_
    refine zGetR d_X11_back_28 ff_X11_284 sh_1 (by decide) r_1_2 (q := 31) rfl ?_
    refine zIconst d_X11_back_31 (v := 0) ic_0 (q := 32) rfl ?_
    refine zIald d_X11_back_32 sh_15 (by decide) (j := 0) rfl (by decide) (q := 33) rfl ?_
    refine zIret d_X11_back_33 rfl rfl rfl ?_
    exact ⟨_, rfl, Or.inr ⟨h7, rfl, rfl⟩⟩
  · refine zBipush d_X11_back_10 (v := -5) bc_m5 (q := 12) rfl ?_
    refine zIret d_X11_back_12 rfl rfl rfl ?_
    exact ⟨_, rfl, Or.inl ⟨by simpa using h7, rfl, rfl⟩⟩
theorem sp_X11_pass (hd : 7 ≤ d) (hK : zSky I ns nt nh) {m : Int32} : zSp g l d 100 m_X11_pass [.ref 0, .int m] (zU I L fs) (zX (fun x w => (¬ (1 ≤ m ∧ m ≤ 999) ∧ x = -1 ∧ w = zU I L fs) ∨ ((1 ≤ m ∧ m ≤ 999) ∧ x = zbc (zDue (zGoOn I m) ns) ∧ w = zU (zDueI (zGoOn I m) ns) L fs))) := by
  refine zSp_of (lv := [(0, .ref 0), (1, .int m)]) k_X11_pass rfl (Nat.le_of_ble_eq_true rfl) ?_
  refine zIloadN d_X11_pass_0 rfl rfl (q := 1) rfl ?_
  refine zIconst d_X11_pass_1 (v := 1) ic_1 (q := 2) rfl ?_
  refine zIcmp_lt d_X11_pass_2 (tgt := 12) (q := 5) (by decide) rfl (fun h2 => ?_) (fun h2 => ?_)
  · refine zIconst d_X11_pass_12 (v := -1) ic_m1 (q := 13) rfl ?_
    refine zIret d_X11_pass_13 rfl rfl rfl ?_
    exact ⟨_, rfl, Or.inl ⟨by grind, rfl, rfl⟩⟩
  · refine zIloadN d_X11_pass_5 rfl rfl (q := 6) rfl ?_
    refine zSipush d_X11_pass_6 (v := 999) sc_999 (q := 9) rfl ?_
    refine zIcmp_le d_X11_pass_9 (tgt := 14) (q := 12) (by decide) rfl (fun h9 => ?_) (fun h9 => ?_)
    · refine zAloadN d_X11_pass_14 rfl rfl (q := 15) rfl ?_
      refine zGetR d_X11_pass_15 ff_X11_10 sh_0 (by decide) r_0_0 (q := 18) rfl ?_
      refine zIloadN d_X11_pass_18 rfl rfl (q := 19) rfl ?_
      refine zCallVV d_X11_pass_19 ml_X11_287 k_X9_goOn ki_X9_goOn ks_X9_goOn (sp_X9_goOn (d := d - 1) (by omega) hK) rfl rfl sh_1 (by decide) rfl (by decide) (Nat.le_of_ble_eq_true rfl) (by decide) (by omega) zns100 (q := 22) rfl (fun w' hw' => ?_)
      subst hw'
      have hK1 : zSky (zGoOn I m) ns nt nh := zSky_of (by unfold zGoOn; rw [zup_ne (by decide), zup_ne (by decide)]) hK
      refine zAloadN d_X11_pass_22 rfl rfl (q := 23) rfl ?_
      refine zGetR d_X11_pass_23 ff_X11_10 sh_0 (by decide) r_0_0 (q := 26) rfl ?_
      refine zCallVX d_X11_pass_26 ml_X11_290 k_X9_dropDue ki_X9_dropDue ks_X9_dropDue (sp_X9_dropDue (d := d - 1) (by omega) hK1) rfl rfl sh_1 (by decide) rfl (by decide) (Nat.le_of_ble_eq_true rfl) (by decide) (by omega) zns100 (q := 29) rfl (fun x w' hw' => ?_)
      obtain ⟨hx, rfl⟩ := hw'
      refine zIret d_X11_pass_29 rfl rfl rfl ?_
      exact ⟨_, rfl, Or.inr ⟨by grind, hx, rfl⟩⟩
    · refine zIconst d_X11_pass_12 (v := -1) ic_m1 (q := 13) rfl ?_
      refine zIret d_X11_pass_13 rfl rfl rfl ?_
      exact ⟨_, rfl, Or.inl ⟨by grind, rfl, rfl⟩⟩
end S30

