theorem dX11_spell_23 : decode cX11_spell 23 = .ok (.ireturn, 1) := by decide +kernel
theorem dX11_spell_24 : decode cX11_spell 24 = .ok (.aload_n 0, 1) := by decide +kernel
theorem dX11_spell_25 : decode cX11_spell 25 = .ok (.getfield 30, 3) := by decide +kernel
theorem dX11_spell_28 : decode cX11_spell 28 = .ok (.iconst 0, 1) := by decide +kernel
theorem dX11_spell_29 : decode cX11_spell 29 = .ok (.putfield 182, 3) := by decide +kernel
theorem dX11_spell_32 : decode cX11_spell 32 = .ok (.aload_n 0, 1) := by decide +kernel
theorem dX11_spell_33 : decode cX11_spell 33 = .ok (.getfield 10, 3) := by decide +kernel
theorem dX11_spell_36 : decode cX11_spell 36 = .ok (.getfield 142, 3) := by decide +kernel
theorem dX11_spell_39 : decode cX11_spell 39 = .ok (.aload_n 0, 1) := by decide +kernel
theorem dX11_spell_40 : decode cX11_spell 40 = .ok (.getfield 30, 3) := by decide +kernel
theorem dX11_spell_43 : decode cX11_spell 43 = .ok (.iload_n 1, 1) := by decide +kernel
theorem dX11_spell_44 : decode cX11_spell 44 = .ok (.iload_n 2, 1) := by decide +kernel
theorem dX11_spell_45 : decode cX11_spell 45 = .ok (.invokevirtual 183, 3) := by decide +kernel
theorem dX11_spell_48 : decode cX11_spell 48 = .ok (.aload_n 0, 1) := by decide +kernel
theorem dX11_spell_49 : decode cX11_spell 49 = .ok (.getfield 30, 3) := by decide +kernel
theorem dX11_spell_52 : decode cX11_spell 52 = .ok (.getfield 182, 3) := by decide +kernel
theorem dX11_spell_55 : decode cX11_spell 55 = .ok (.ireturn, 1) := by decide +kernel
theorem dX11_letter_0 : decode cX11_letter 0 = .ok (.aload_n 0, 1) := by decide +kernel
theorem dX11_letter_1 : decode cX11_letter 1 = .ok (.getfield 30, 3) := by decide +kernel
theorem dX11_letter_4 : decode cX11_letter 4 = .ok (.iload_n 1, 1) := by decide +kernel
theorem dX11_letter_5 : decode cX11_letter 5 = .ok (.invokevirtual 187, 3) := by decide +kernel
theorem dX11_letter_8 : decode cX11_letter 8 = .ok (.ifCond .eq 15, 3) := by decide +kernel
theorem dX11_letter_11 : decode cX11_letter 11 = .ok (.aload_n 0, 1) := by decide +kernel
theorem dX11_letter_12 : decode cX11_letter 12 = .ok (.getfield 30, 3) := by decide +kernel
theorem dX11_letter_15 : decode cX11_letter 15 = .ok (.getfield 188, 3) := by decide +kernel
theorem dX11_letter_18 : decode cX11_letter 18 = .ok (.iload_n 1, 1) := by decide +kernel
theorem dX11_letter_19 : decode cX11_letter 19 = .ok (.baload, 1) := by decide +kernel
theorem dX11_letter_20 : decode cX11_letter 20 = .ok (.goto 4, 3) := by decide +kernel
theorem dX11_letter_23 : decode cX11_letter 23 = .ok (.iconst (-1), 1) := by decide +kernel
theorem dX11_letter_24 : decode cX11_letter 24 = .ok (.ireturn, 1) := by decide +kernel
theorem dX11_led_0 : decode cX11_led 0 = .ok (.aload_n 0, 1) := by decide +kernel
theorem dX11_led_1 : decode cX11_led 1 = .ok (.getfield 30, 3) := by decide +kernel
theorem dX11_led_4 : decode cX11_led 4 = .ok (.iload_n 1, 1) := by decide +kernel
theorem dX11_led_5 : decode cX11_led 5 = .ok (.invokevirtual 187, 3) := by decide +kernel
theorem dX11_led_8 : decode cX11_led 8 = .ok (.ifCond .eq 15, 3) := by decide +kernel
theorem dX11_led_11 : decode cX11_led 11 = .ok (.aload_n 0, 1) := by decide +kernel
theorem dX11_led_12 : decode cX11_led 12 = .ok (.getfield 30, 3) := by decide +kernel
theorem dX11_led_15 : decode cX11_led 15 = .ok (.getfield 192, 3) := by decide +kernel
theorem dX11_led_18 : decode cX11_led 18 = .ok (.iload_n 1, 1) := by decide +kernel
theorem dX11_led_19 : decode cX11_led 19 = .ok (.iaload, 1) := by decide +kernel
theorem dX11_led_20 : decode cX11_led 20 = .ok (.goto 4, 3) := by decide +kernel
theorem dX11_led_23 : decode cX11_led 23 = .ok (.iconst (-1), 1) := by decide +kernel
theorem dX11_led_24 : decode cX11_led 24 = .ok (.ireturn, 1) := by decide +kernel
theorem dX11_alikes_0 : decode cX11_alikes 0 = .ok (.iload_n 1, 1) := by decide +kernel
theorem dX11_alikes_1 : decode cX11_alikes 1 = .ok (.invokestatic 80, 3) := by decide +kernel
theorem dX11_alikes_4 : decode cX11_alikes 4 = .ok (.ifCond .eq 21, 3) := by decide +kernel
theorem dX11_alikes_7 : decode cX11_alikes 7 = .ok (.aload_n 0, 1) := by decide +kernel
theorem dX11_alikes_8 : decode cX11_alikes 8 = .ok (.getfield 37, 3) := by decide +kernel
theorem dX11_alikes_11 : decode cX11_alikes 11 = .ok (.aload_n 0, 1) := by decide +kernel
theorem dX11_alikes_12 : decode cX11_alikes 12 = .ok (.getfield 10, 3) := by decide +kernel
theorem dX11_alikes_15 : decode cX11_alikes 15 = .ok (.getfield 142, 3) := by decide +kernel
theorem dX11_alikes_18 : decode cX11_alikes 18 = .ok (.iload_n 1, 1) := by decide +kernel
theorem dX11_alikes_19 : decode cX11_alikes 19 = .ok (.invokevirtual 195, 3) := by decide +kernel
theorem dX11_alikes_22 : decode cX11_alikes 22 = .ok (.goto 5, 3) := by decide +kernel
theorem dX11_alikes_25 : decode cX11_alikes 25 = .ok (.bipush (-2), 2) := by decide +kernel
theorem dX11_alikes_27 : decode cX11_alikes 27 = .ok (.ireturn, 1) := by decide +kernel
theorem dX11_edits_0 : decode cX11_edits 0 = .ok (.aload_n 0, 1) := by decide +kernel
theorem dX11_edits_1 : decode cX11_edits 1 = .ok (.getfield 10, 3) := by decide +kernel
theorem dX11_edits_4 : decode cX11_edits 4 = .ok (.getfield 142, 3) := by decide +kernel
theorem dX11_edits_7 : decode cX11_edits 7 = .ok (.iload_n 1, 1) := by decide +kernel
theorem dX11_edits_8 : decode cX11_edits 8 = .ok (.invokevirtual 179, 3) := by decide +kernel
theorem dX11_edits_11 : decode cX11_edits 11 = .ok (.ifCond .eq 24, 3) := by decide +kernel
theorem dX11_edits_14 : decode cX11_edits 14 = .ok (.aload_n 0, 1) := by decide +kernel
theorem dX11_edits_15 : decode cX11_edits 15 = .ok (.getfield 10, 3) := by decide +kernel
theorem dX11_edits_18 : decode cX11_edits 18 = .ok (.getfield 142, 3) := by decide +kernel
theorem dX11_edits_21 : decode cX11_edits 21 = .ok (.iload_n 2, 1) := by decide +kernel
theorem dX11_edits_22 : decode cX11_edits 22 = .ok (.invokevirtual 179, 3) := by decide +kernel
theorem dX11_edits_25 : decode cX11_edits 25 = .ok (.ifCond .eq 10, 3) := by decide +kernel
theorem dX11_edits_28 : decode cX11_edits 28 = .ok (.iload_n 3, 1) := by decide +kernel
theorem dX11_edits_29 : decode cX11_edits 29 = .ok (.invokestatic 80, 3) := by decide +kernel
theorem dX11_edits_32 : decode cX11_edits 32 = .ok (.ifCond .ne 6, 3) := by decide +kernel
theorem dX11_edits_35 : decode cX11_edits 35 = .ok (.bipush (-2), 2) := by decide +kernel
theorem dX11_edits_37 : decode cX11_edits 37 = .ok (.ireturn, 1) := by decide +kernel
theorem dX11_edits_38 : decode cX11_edits 38 = .ok (.aload_n 0, 1) := by decide +kernel
theorem dX11_edits_39 : decode cX11_edits 39 = .ok (.getfield 37, 3) := by decide +kernel
theorem dX11_edits_42 : decode cX11_edits 42 = .ok (.aload_n 0, 1) := by decide +kernel
theorem dX11_edits_43 : decode cX11_edits 43 = .ok (.getfield 10, 3) := by decide +kernel
theorem dX11_edits_46 : decode cX11_edits 46 = .ok (.getfield 142, 3) := by decide +kernel
theorem dX11_edits_49 : decode cX11_edits 49 = .ok (.iload_n 1, 1) := by decide +kernel
theorem dX11_edits_50 : decode cX11_edits 50 = .ok (.iload_n 2, 1) := by decide +kernel
theorem dX11_edits_51 : decode cX11_edits 51 = .ok (.iload_n 3, 1) := by decide +kernel
theorem dX11_edits_52 : decode cX11_edits 52 = .ok (.invokevirtual 199, 3) := by decide +kernel
theorem dX11_edits_55 : decode cX11_edits 55 = .ok (.ireturn, 1) := by decide +kernel
theorem dX11_first_0 : decode cX11_first 0 = .ok (.aload_n 0, 1) := by decide +kernel
theorem dX11_first_1 : decode cX11_first 1 = .ok (.getfield 10, 3) := by decide +kernel
theorem dX11_first_4 : decode cX11_first 4 = .ok (.getfield 87, 3) := by decide +kernel
theorem dX11_first_7 : decode cX11_first 7 = .ok (.iload_n 1, 1) := by decide +kernel
theorem dX11_first_8 : decode cX11_first 8 = .ok (.invokevirtual 97, 3) := by decide +kernel
theorem dX11_first_11 : decode cX11_first 11 = .ok (.ifCond .eq 17, 3) := by decide +kernel
theorem dX11_first_14 : decode cX11_first 14 = .ok (.iload_n 2, 1) := by decide +kernel
theorem dX11_first_15 : decode cX11_first 15 = .ok (.invokestatic 80, 3) := by decide +kernel
theorem dX11_first_18 : decode cX11_first 18 = .ok (.ifCond .eq 10, 3) := by decide +kernel
theorem dX11_first_21 : decode cX11_first 21 = .ok (.iload_n 3, 1) := by decide +kernel
theorem dX11_first_22 : decode cX11_first 22 = .ok (.invokestatic 80, 3) := by decide +kernel
theorem dX11_first_25 : decode cX11_first 25 = .ok (.ifCond .ne 6, 3) := by decide +kernel
theorem dX11_first_28 : decode cX11_first 28 = .ok (.bipush (-2), 2) := by decide +kernel
theorem dX11_first_30 : decode cX11_first 30 = .ok (.ireturn, 1) := by decide +kernel
theorem dX11_first_31 : decode cX11_first 31 = .ok (.aload_n 0, 1) := by decide +kernel
theorem dX11_first_32 : decode cX11_first 32 = .ok (.getfield 37, 3) := by decide +kernel
theorem dX11_first_35 : decode cX11_first 35 = .ok (.aload_n 0, 1) := by decide +kernel
theorem dX11_first_36 : decode cX11_first 36 = .ok (.getfield 10, 3) := by decide +kernel
theorem dX11_first_39 : decode cX11_first 39 = .ok (.iload_n 1, 1) := by decide +kernel
theorem dX11_first_40 : decode cX11_first 40 = .ok (.iload_n 2, 1) := by decide +kernel
theorem dX11_first_41 : decode cX11_first 41 = .ok (.iload_n 3, 1) := by decide +kernel
theorem dX11_first_42 : decode cX11_first 42 = .ok (.invokevirtual 203, 3) := by decide +kernel
theorem dX11_first_45 : decode cX11_first 45 = .ok (.aload_n 0, 1) := by decide +kernel
theorem dX11_first_46 : decode cX11_first 46 = .ok (.getfield 37, 3) := by decide +kernel
theorem dX11_first_49 : decode cX11_first 49 = .ok (.getfield 207, 3) := by decide +kernel
theorem dX11_first_52 : decode cX11_first 52 = .ok (.ireturn, 1) := by decide +kernel
theorem dX11_beside_0 : decode cX11_beside 0 = .ok (.aload_n 0, 1) := by decide +kernel
theorem dX11_beside_1 : decode cX11_beside 1 = .ok (.getfield 10, 3) := by decide +kernel
theorem dX11_beside_4 : decode cX11_beside 4 = .ok (.getfield 87, 3) := by decide +kernel
theorem dX11_beside_7 : decode cX11_beside 7 = .ok (.iload_n 1, 1) := by decide +kernel
theorem dX11_beside_8 : decode cX11_beside 8 = .ok (.invokevirtual 97, 3) := by decide +kernel
theorem dX11_beside_11 : decode cX11_beside 11 = .ok (.ifCond .eq 17, 3) := by decide +kernel
theorem dX11_beside_14 : decode cX11_beside 14 = .ok (.iload_n 2, 1) := by decide +kernel
theorem dX11_beside_15 : decode cX11_beside 15 = .ok (.invokestatic 80, 3) := by decide +kernel
theorem dX11_beside_18 : decode cX11_beside 18 = .ok (.ifCond .eq 10, 3) := by decide +kernel
theorem dX11_beside_21 : decode cX11_beside 21 = .ok (.iload_n 3, 1) := by decide +kernel
theorem dX11_beside_22 : decode cX11_beside 22 = .ok (.invokestatic 80, 3) := by decide +kernel
theorem dX11_beside_25 : decode cX11_beside 25 = .ok (.ifCond .ne 6, 3) := by decide +kernel
theorem dX11_beside_28 : decode cX11_beside 28 = .ok (.bipush (-2), 2) := by decide +kernel
theorem dX11_beside_30 : decode cX11_beside 30 = .ok (.ireturn, 1) := by decide +kernel
theorem dX11_beside_31 : decode cX11_beside 31 = .ok (.aload_n 0, 1) := by decide +kernel
theorem dX11_beside_32 : decode cX11_beside 32 = .ok (.getfield 37, 3) := by decide +kernel
theorem dX11_beside_35 : decode cX11_beside 35 = .ok (.aload_n 0, 1) := by decide +kernel
theorem dX11_beside_36 : decode cX11_beside 36 = .ok (.getfield 10, 3) := by decide +kernel
theorem dX11_beside_39 : decode cX11_beside 39 = .ok (.iload_n 1, 1) := by decide +kernel
theorem dX11_beside_40 : decode cX11_beside 40 = .ok (.iload_n 2, 1) := by decide +kernel
theorem dX11_beside_41 : decode cX11_beside 41 = .ok (.iload_n 3, 1) := by decide +kernel
theorem dX11_beside_42 : decode cX11_beside 42 = .ok (.invokevirtual 203, 3) := by decide +kernel
theorem dX11_beside_45 : decode cX11_beside 45 = .ok (.aload_n 0, 1) := by decide +kernel
theorem dX11_beside_46 : decode cX11_beside 46 = .ok (.getfield 37, 3) := by decide +kernel
theorem dX11_beside_49 : decode cX11_beside 49 = .ok (.getfield 210, 3) := by decide +kernel
theorem dX11_beside_52 : decode cX11_beside 52 = .ok (.ireturn, 1) := by decide +kernel
theorem dX11_swings_0 : decode cX11_swings 0 = .ok (.aload_n 0, 1) := by decide +kernel
theorem dX11_swings_1 : decode cX11_swings 1 = .ok (.getfield 10, 3) := by decide +kernel
theorem dX11_swings_4 : decode cX11_swings 4 = .ok (.getfield 87, 3) := by decide +kernel
theorem dX11_swings_7 : decode cX11_swings 7 = .ok (.iload_n 1, 1) := by decide +kernel
theorem dX11_swings_8 : decode cX11_swings 8 = .ok (.invokevirtual 97, 3) := by decide +kernel
theorem dX11_swings_11 : decode cX11_swings 11 = .ok (.ifCond .eq 18, 3) := by decide +kernel
theorem dX11_swings_14 : decode cX11_swings 14 = .ok (.aload_n 0, 1) := by decide +kernel
theorem dX11_swings_15 : decode cX11_swings 15 = .ok (.getfield 37, 3) := by decide +kernel
theorem dX11_swings_18 : decode cX11_swings 18 = .ok (.aload_n 0, 1) := by decide +kernel
theorem dX11_swings_19 : decode cX11_swings 19 = .ok (.getfield 10, 3) := by decide +kernel
theorem dX11_swings_22 : decode cX11_swings 22 = .ok (.iload_n 1, 1) := by decide +kernel
theorem dX11_swings_23 : decode cX11_swings 23 = .ok (.invokevirtual 213, 3) := by decide +kernel
theorem dX11_swings_26 : decode cX11_swings 26 = .ok (.goto 5, 3) := by decide +kernel
theorem dX11_swings_29 : decode cX11_swings 29 = .ok (.bipush (-2), 2) := by decide +kernel
theorem dX11_swings_31 : decode cX11_swings 31 = .ok (.ireturn, 1) := by decide +kernel
theorem dX11_ask_0 : decode cX11_ask 0 = .ok (.aload_n 0, 1) := by decide +kernel
theorem dX11_ask_1 : decode cX11_ask 1 = .ok (.getfield 10, 3) := by decide +kernel
theorem dX11_ask_4 : decode cX11_ask 4 = .ok (.getfield 142, 3) := by decide +kernel
theorem dX11_ask_7 : decode cX11_ask 7 = .ok (.iload_n 1, 1) := by decide +kernel
theorem dX11_ask_8 : decode cX11_ask 8 = .ok (.invokevirtual 179, 3) := by decide +kernel
theorem dX11_ask_11 : decode cX11_ask 11 = .ok (.ifCond .ne 6, 3) := by decide +kernel
theorem dX11_ask_14 : decode cX11_ask 14 = .ok (.bipush (-2), 2) := by decide +kernel
theorem dX11_ask_16 : decode cX11_ask 16 = .ok (.ireturn, 1) := by decide +kernel
theorem dX11_ask_17 : decode cX11_ask 17 = .ok (.aload_n 0, 1) := by decide +kernel
theorem dX11_ask_18 : decode cX11_ask 18 = .ok (.getfield 10, 3) := by decide +kernel
theorem dX11_ask_21 : decode cX11_ask 21 = .ok (.getfield 217, 3) := by decide +kernel
theorem dX11_ask_24 : decode cX11_ask 24 = .ok (.iload_n 1, 1) := by decide +kernel
theorem dX11_ask_25 : decode cX11_ask 25 = .ok (.aload_n 0, 1) := by decide +kernel
theorem dX11_ask_26 : decode cX11_ask 26 = .ok (.getfield 10, 3) := by decide +kernel
theorem dX11_ask_29 : decode cX11_ask 29 = .ok (.getfield 142, 3) := by decide +kernel
theorem dX11_ask_32 : decode cX11_ask 32 = .ok (.getfield 221, 3) := by decide +kernel
theorem dX11_ask_35 : decode cX11_ask 35 = .ok (.iload_n 1, 1) := by decide +kernel
theorem dX11_ask_36 : decode cX11_ask 36 = .ok (.iaload, 1) := by decide +kernel
theorem dX11_ask_37 : decode cX11_ask 37 = .ok (.invokevirtual 224, 3) := by decide +kernel
theorem dX11_ask_40 : decode cX11_ask 40 = .ok (.ireturn, 1) := by decide +kernel
theorem dX11_vote_0 : decode cX11_vote 0 = .ok (.aload_n 0, 1) := by decide +kernel
theorem dX11_vote_1 : decode cX11_vote 1 = .ok (.getfield 10, 3) := by decide +kernel
theorem dX11_vote_4 : decode cX11_vote 4 = .ok (.getfield 217, 3) := by decide +kernel
theorem dX11_vote_7 : decode cX11_vote 7 = .ok (.astore 4, 2) := by decide +kernel
theorem dX11_vote_9 : decode cX11_vote 9 = .ok (.aload 4, 2) := by decide +kernel
theorem dX11_vote_11 : decode cX11_vote 11 = .ok (.iload_n 1, 1) := by decide +kernel
theorem dX11_vote_12 : decode cX11_vote 12 = .ok (.invokevirtual 229, 3) := by decide +kernel
theorem dX11_vote_15 : decode cX11_vote 15 = .ok (.ifCond .eq 13, 3) := by decide +kernel
theorem dX11_vote_18 : decode cX11_vote 18 = .ok (.iload_n 2, 1) := by decide +kernel
theorem dX11_vote_19 : decode cX11_vote 19 = .ok (.ifCond .lt 9, 3) := by decide +kernel
theorem dX11_vote_22 : decode cX11_vote 22 = .ok (.iload_n 2, 1) := by decide +kernel
theorem dX11_vote_23 : decode cX11_vote 23 = .ok (.bipush 9, 2) := by decide +kernel
theorem dX11_vote_25 : decode cX11_vote 25 = .ok (.if_icmp .lt 6, 3) := by decide +kernel
theorem dX11_vote_28 : decode cX11_vote 28 = .ok (.bipush (-2), 2) := by decide +kernel
theorem dX11_vote_30 : decode cX11_vote 30 = .ok (.ireturn, 1) := by decide +kernel
theorem dX11_vote_31 : decode cX11_vote 31 = .ok (.aload 4, 2) := by decide +kernel
theorem dX11_vote_33 : decode cX11_vote 33 = .ok (.getfield 230, 3) := by decide +kernel
theorem dX11_vote_36 : decode cX11_vote 36 = .ok (.iload_n 1, 1) := by decide +kernel
theorem dX11_vote_37 : decode cX11_vote 37 = .ok (.baload, 1) := by decide +kernel
theorem dX11_vote_38 : decode cX11_vote 38 = .ok (.ifCond .ne 6, 3) := by decide +kernel
theorem dX11_vote_41 : decode cX11_vote 41 = .ok (.bipush (-5), 2) := by decide +kernel
theorem dX11_vote_43 : decode cX11_vote 43 = .ok (.ireturn, 1) := by decide +kernel
theorem dX11_vote_44 : decode cX11_vote 44 = .ok (.aload 4, 2) := by decide +kernel
theorem dX11_vote_46 : decode cX11_vote 46 = .ok (.iload_n 1, 1) := by decide +kernel
theorem dX11_vote_47 : decode cX11_vote 47 = .ok (.iload_n 2, 1) := by decide +kernel
theorem dX11_vote_48 : decode cX11_vote 48 = .ok (.iload_n 3, 1) := by decide +kernel
theorem dX11_vote_49 : decode cX11_vote 49 = .ok (.invokevirtual 234, 3) := by decide +kernel
theorem dX11_vote_52 : decode cX11_vote 52 = .ok (.iconst 0, 1) := by decide +kernel
theorem dX11_vote_53 : decode cX11_vote 53 = .ok (.ireturn, 1) := by decide +kernel
theorem dX11_close_0 : decode cX11_close 0 = .ok (.aload_n 0, 1) := by decide +kernel
theorem dX11_close_1 : decode cX11_close 1 = .ok (.getfield 10, 3) := by decide +kernel
theorem dX11_close_4 : decode cX11_close 4 = .ok (.getfield 217, 3) := by decide +kernel
theorem dX11_close_7 : decode cX11_close 7 = .ok (.astore_n 2, 1) := by decide +kernel
theorem dX11_close_8 : decode cX11_close 8 = .ok (.aload_n 2, 1) := by decide +kernel
theorem dX11_close_9 : decode cX11_close 9 = .ok (.iload_n 1, 1) := by decide +kernel
theorem dX11_close_10 : decode cX11_close 10 = .ok (.invokevirtual 229, 3) := by decide +kernel
theorem dX11_close_13 : decode cX11_close 13 = .ok (.ifCond .ne 6, 3) := by decide +kernel
theorem dX11_close_16 : decode cX11_close 16 = .ok (.bipush (-2), 2) := by decide +kernel
theorem dX11_close_18 : decode cX11_close 18 = .ok (.ireturn, 1) := by decide +kernel
theorem dX11_close_19 : decode cX11_close 19 = .ok (.aload_n 2, 1) := by decide +kernel
theorem dX11_close_20 : decode cX11_close 20 = .ok (.getfield 230, 3) := by decide +kernel
theorem dX11_close_23 : decode cX11_close 23 = .ok (.iload_n 1, 1) := by decide +kernel
theorem dX11_close_24 : decode cX11_close 24 = .ok (.baload, 1) := by decide +kernel
theorem dX11_close_25 : decode cX11_close 25 = .ok (.ifCond .ne 6, 3) := by decide +kernel
theorem dX11_close_28 : decode cX11_close 28 = .ok (.bipush (-5), 2) := by decide +kernel
theorem dX11_close_30 : decode cX11_close 30 = .ok (.ireturn, 1) := by decide +kernel
theorem dX11_close_31 : decode cX11_close 31 = .ok (.aload_n 2, 1) := by decide +kernel
theorem dX11_close_32 : decode cX11_close 32 = .ok (.getfield 230, 3) := by decide +kernel
theorem dX11_close_35 : decode cX11_close 35 = .ok (.iload_n 1, 1) := by decide +kernel
theorem dX11_close_36 : decode cX11_close 36 = .ok (.iconst 0, 1) := by decide +kernel
theorem dX11_close_37 : decode cX11_close 37 = .ok (.bastore, 1) := by decide +kernel
theorem dX11_close_38 : decode cX11_close 38 = .ok (.aload_n 2, 1) := by decide +kernel
theorem dX11_close_39 : decode cX11_close 39 = .ok (.getfield 238, 3) := by decide +kernel
theorem dX11_close_42 : decode cX11_close 42 = .ok (.iload_n 1, 1) := by decide +kernel
theorem dX11_close_43 : decode cX11_close 43 = .ok (.iaload, 1) := by decide +kernel
theorem dX11_close_44 : decode cX11_close 44 = .ok (.istore_n 3, 1) := by decide +kernel
theorem dX11_close_45 : decode cX11_close 45 = .ok (.aload_n 0, 1) := by decide +kernel
theorem dX11_close_46 : decode cX11_close 46 = .ok (.getfield 37, 3) := by decide +kernel
theorem dX11_close_49 : decode cX11_close 49 = .ok (.aload_n 0, 1) := by decide +kernel
theorem dX11_close_50 : decode cX11_close 50 = .ok (.getfield 10, 3) := by decide +kernel
theorem dX11_close_53 : decode cX11_close 53 = .ok (.iload_n 1, 1) := by decide +kernel
theorem dX11_close_54 : decode cX11_close 54 = .ok (.iload_n 3, 1) := by decide +kernel
theorem dX11_close_55 : decode cX11_close 55 = .ok (.invokevirtual 241, 3) := by decide +kernel
theorem dX11_close_58 : decode cX11_close 58 = .ok (.istore 4, 2) := by decide +kernel
theorem dX11_close_60 : decode cX11_close 60 = .ok (.iload 4, 2) := by decide +kernel
theorem dX11_close_62 : decode cX11_close 62 = .ok (.ifCond .ne 46, 3) := by decide +kernel
theorem dX11_close_65 : decode cX11_close 65 = .ok (.aload_n 2, 1) := by decide +kernel
theorem dX11_close_66 : decode cX11_close 66 = .ok (.iload_n 3, 1) := by decide +kernel
theorem dX11_close_67 : decode cX11_close 67 = .ok (.aload_n 0, 1) := by decide +kernel
theorem dX11_close_68 : decode cX11_close 68 = .ok (.getfield 10, 3) := by decide +kernel
theorem dX11_close_71 : decode cX11_close 71 = .ok (.getfield 142, 3) := by decide +kernel
theorem dX11_close_74 : decode cX11_close 74 = .ok (.getfield 221, 3) := by decide +kernel
theorem dX11_close_77 : decode cX11_close 77 = .ok (.iload_n 3, 1) := by decide +kernel
theorem dX11_close_78 : decode cX11_close 78 = .ok (.iaload, 1) := by decide +kernel
theorem dX11_close_79 : decode cX11_close 79 = .ok (.aload_n 0, 1) := by decide +kernel
theorem dX11_close_80 : decode cX11_close 80 = .ok (.getfield 10, 3) := by decide +kernel
theorem dX11_close_83 : decode cX11_close 83 = .ok (.getfield 142, 3) := by decide +kernel
theorem dX11_close_86 : decode cX11_close 86 = .ok (.getfield 245, 3) := by decide +kernel
theorem dX11_close_89 : decode cX11_close 89 = .ok (.iload_n 3, 1) := by decide +kernel
theorem dX11_close_90 : decode cX11_close 90 = .ok (.iaload, 1) := by decide +kernel
theorem dX11_close_91 : decode cX11_close 91 = .ok (.aload_n 0, 1) := by decide +kernel
theorem dX11_close_92 : decode cX11_close 92 = .ok (.getfield 10, 3) := by decide +kernel
theorem dX11_close_95 : decode cX11_close 95 = .ok (.getfield 84, 3) := by decide +kernel
theorem dX11_close_98 : decode cX11_close 98 = .ok (.invokevirtual 248, 3) := by decide +kernel
theorem dX11_close_101 : decode cX11_close 101 = .ok (.aload_n 0, 1) := by decide +kernel
theorem dX11_close_102 : decode cX11_close 102 = .ok (.getfield 10, 3) := by decide +kernel
theorem dX11_close_105 : decode cX11_close 105 = .ok (.invokevirtual 108, 3) := by decide +kernel
theorem dX11_close_108 : decode cX11_close 108 = .ok (.iload 4, 2) := by decide +kernel
theorem dX11_close_110 : decode cX11_close 110 = .ok (.ireturn, 1) := by decide +kernel
theorem dX11_settled_0 : decode cX11_settled 0 = .ok (.aload_n 0, 1) := by decide +kernel
theorem dX11_settled_1 : decode cX11_settled 1 = .ok (.getfield 10, 3) := by decide +kernel
theorem dX11_settled_4 : decode cX11_settled 4 = .ok (.getfield 87, 3) := by decide +kernel
theorem dX11_settled_7 : decode cX11_settled 7 = .ok (.iload_n 1, 1) := by decide +kernel
theorem dX11_settled_8 : decode cX11_settled 8 = .ok (.invokevirtual 97, 3) := by decide +kernel
theorem dX11_settled_11 : decode cX11_settled 11 = .ok (.ifCond .eq 25, 3) := by decide +kernel
theorem dX11_settled_14 : decode cX11_settled 14 = .ok (.iload_n 2, 1) := by decide +kernel
theorem dX11_settled_15 : decode cX11_settled 15 = .ok (.invokestatic 118, 3) := by decide +kernel
theorem dX11_settled_18 : decode cX11_settled 18 = .ok (.ifCond .eq 18, 3) := by decide +kernel
theorem dX11_settled_21 : decode cX11_settled 21 = .ok (.iload_n 3, 1) := by decide +kernel
theorem dX11_settled_22 : decode cX11_settled 22 = .ok (.invokestatic 80, 3) := by decide +kernel
theorem dX11_settled_25 : decode cX11_settled 25 = .ok (.ifCond .eq 11, 3) := by decide +kernel
theorem dX11_settled_28 : decode cX11_settled 28 = .ok (.iload 4, 2) := by decide +kernel
theorem dX11_settled_30 : decode cX11_settled 30 = .ok (.invokestatic 80, 3) := by decide +kernel
theorem dX11_settled_33 : decode cX11_settled 33 = .ok (.ifCond .ne 6, 3) := by decide +kernel
theorem dX11_settled_36 : decode cX11_settled 36 = .ok (.bipush (-2), 2) := by decide +kernel
theorem dX11_settled_38 : decode cX11_settled 38 = .ok (.ireturn, 1) := by decide +kernel
theorem dX11_settled_39 : decode cX11_settled 39 = .ok (.aload_n 0, 1) := by decide +kernel
theorem dX11_settled_40 : decode cX11_settled 40 = .ok (.getfield 10, 3) := by decide +kernel
theorem dX11_settled_43 : decode cX11_settled 43 = .ok (.getfield 217, 3) := by decide +kernel
theorem dX11_settled_46 : decode cX11_settled 46 = .ok (.iload_n 1, 1) := by decide +kernel
theorem dX11_settled_47 : decode cX11_settled 47 = .ok (.iload_n 2, 1) := by decide +kernel
theorem dX11_settled_48 : decode cX11_settled 48 = .ok (.iload_n 3, 1) := by decide +kernel
theorem dX11_settled_49 : decode cX11_settled 49 = .ok (.iload 4, 2) := by decide +kernel
theorem dX11_settled_51 : decode cX11_settled 51 = .ok (.invokestatic 121, 3) := by decide +kernel
theorem dX11_settled_54 : decode cX11_settled 54 = .ok (.invokevirtual 252, 3) := by decide +kernel
theorem dX11_settled_57 : decode cX11_settled 57 = .ok (.ireturn, 1) := by decide +kernel
theorem dX11_undo_0 : decode cX11_undo 0 = .ok (.aload_n 0, 1) := by decide +kernel
theorem dX11_undo_1 : decode cX11_undo 1 = .ok (.getfield 10, 3) := by decide +kernel
theorem dX11_undo_4 : decode cX11_undo 4 = .ok (.getfield 87, 3) := by decide +kernel
theorem dX11_undo_7 : decode cX11_undo 7 = .ok (.iload_n 1, 1) := by decide +kernel
theorem dX11_undo_8 : decode cX11_undo 8 = .ok (.invokevirtual 97, 3) := by decide +kernel
theorem dX11_undo_11 : decode cX11_undo 11 = .ok (.ifCond .eq 10, 3) := by decide +kernel
theorem dX11_undo_14 : decode cX11_undo 14 = .ok (.iload_n 2, 1) := by decide +kernel
theorem dX11_undo_15 : decode cX11_undo 15 = .ok (.invokestatic 118, 3) := by decide +kernel
theorem dX11_undo_18 : decode cX11_undo 18 = .ok (.ifCond .ne 6, 3) := by decide +kernel
theorem dX11_undo_21 : decode cX11_undo 21 = .ok (.bipush (-2), 2) := by decide +kernel
theorem dX11_undo_23 : decode cX11_undo 23 = .ok (.ireturn, 1) := by decide +kernel
theorem dX11_undo_24 : decode cX11_undo 24 = .ok (.aload_n 0, 1) := by decide +kernel
theorem dX11_undo_25 : decode cX11_undo 25 = .ok (.getfield 10, 3) := by decide +kernel
theorem dX11_undo_28 : decode cX11_undo 28 = .ok (.getfield 217, 3) := by decide +kernel
theorem dX11_undo_31 : decode cX11_undo 31 = .ok (.iload_n 1, 1) := by decide +kernel
theorem dX11_undo_32 : decode cX11_undo 32 = .ok (.iload_n 2, 1) := by decide +kernel
theorem dX11_undo_33 : decode cX11_undo 33 = .ok (.aload_n 0, 1) := by decide +kernel
theorem dX11_undo_34 : decode cX11_undo 34 = .ok (.getfield 10, 3) := by decide +kernel
theorem dX11_undo_37 : decode cX11_undo 37 = .ok (.getfield 84, 3) := by decide +kernel
theorem dX11_undo_40 : decode cX11_undo 40 = .ok (.invokevirtual 256, 3) := by decide +kernel
theorem dX11_undo_43 : decode cX11_undo 43 = .ok (.ifCond .ne 6, 3) := by decide +kernel
theorem dX11_undo_46 : decode cX11_undo 46 = .ok (.bipush (-5), 2) := by decide +kernel
theorem dX11_undo_48 : decode cX11_undo 48 = .ok (.ireturn, 1) := by decide +kernel
theorem dX11_undo_49 : decode cX11_undo 49 = .ok (.aload_n 0, 1) := by decide +kernel
theorem dX11_undo_50 : decode cX11_undo 50 = .ok (.getfield 10, 3) := by decide +kernel
theorem dX11_undo_53 : decode cX11_undo 53 = .ok (.invokevirtual 108, 3) := by decide +kernel
theorem dX11_undo_56 : decode cX11_undo 56 = .ok (.aload_n 0, 1) := by decide +kernel
theorem dX11_undo_57 : decode cX11_undo 57 = .ok (.getfield 10, 3) := by decide +kernel
theorem dX11_undo_60 : decode cX11_undo 60 = .ok (.getfield 217, 3) := by decide +kernel
theorem dX11_undo_63 : decode cX11_undo 63 = .ok (.iload_n 1, 1) := by decide +kernel
theorem dX11_undo_64 : decode cX11_undo 64 = .ok (.iload_n 2, 1) := by decide +kernel
theorem dX11_undo_65 : decode cX11_undo 65 = .ok (.aload_n 0, 1) := by decide +kernel
theorem dX11_undo_66 : decode cX11_undo 66 = .ok (.getfield 10, 3) := by decide +kernel
theorem dX11_undo_69 : decode cX11_undo 69 = .ok (.getfield 84, 3) := by decide +kernel
theorem dX11_undo_72 : decode cX11_undo 72 = .ok (.invokevirtual 252, 3) := by decide +kernel
theorem dX11_undo_75 : decode cX11_undo 75 = .ok (.ireturn, 1) := by decide +kernel
theorem dX11_shown_0 : decode cX11_shown 0 = .ok (.aload_n 0, 1) := by decide +kernel
theorem dX11_shown_1 : decode cX11_shown 1 = .ok (.getfield 10, 3) := by decide +kernel
theorem dX11_shown_4 : decode cX11_shown 4 = .ok (.getfield 87, 3) := by decide +kernel
theorem dX11_shown_7 : decode cX11_shown 7 = .ok (.iload_n 1, 1) := by decide +kernel
theorem dX11_shown_8 : decode cX11_shown 8 = .ok (.invokevirtual 97, 3) := by decide +kernel
theorem dX11_shown_11 : decode cX11_shown 11 = .ok (.ifCond .eq 17, 3) := by decide +kernel
theorem dX11_shown_14 : decode cX11_shown 14 = .ok (.iload_n 2, 1) := by decide +kernel
theorem dX11_shown_15 : decode cX11_shown 15 = .ok (.invokestatic 80, 3) := by decide +kernel
theorem dX11_shown_18 : decode cX11_shown 18 = .ok (.ifCond .eq 10, 3) := by decide +kernel
theorem dX11_shown_21 : decode cX11_shown 21 = .ok (.iload_n 3, 1) := by decide +kernel
theorem dX11_shown_22 : decode cX11_shown 22 = .ok (.invokestatic 80, 3) := by decide +kernel
theorem dX11_shown_25 : decode cX11_shown 25 = .ok (.ifCond .ne 6, 3) := by decide +kernel
theorem dX11_shown_28 : decode cX11_shown 28 = .ok (.bipush (-2), 2) := by decide +kernel
theorem dX11_shown_30 : decode cX11_shown 30 = .ok (.ireturn, 1) := by decide +kernel
theorem dX11_shown_31 : decode cX11_shown 31 = .ok (.aload_n 0, 1) := by decide +kernel
theorem dX11_shown_32 : decode cX11_shown 32 = .ok (.getfield 37, 3) := by decide +kernel
theorem dX11_shown_35 : decode cX11_shown 35 = .ok (.aload_n 0, 1) := by decide +kernel
theorem dX11_shown_36 : decode cX11_shown 36 = .ok (.getfield 10, 3) := by decide +kernel
theorem dX11_shown_39 : decode cX11_shown 39 = .ok (.iload_n 1, 1) := by decide +kernel
theorem dX11_shown_40 : decode cX11_shown 40 = .ok (.iload_n 2, 1) := by decide +kernel
theorem dX11_shown_41 : decode cX11_shown 41 = .ok (.iload_n 3, 1) := by decide +kernel
theorem dX11_shown_42 : decode cX11_shown 42 = .ok (.aload_n 0, 1) := by decide +kernel
theorem dX11_shown_43 : decode cX11_shown 43 = .ok (.getfield 30, 3) := by decide +kernel
theorem dX11_shown_46 : decode cX11_shown 46 = .ok (.invokevirtual 259, 3) := by decide +kernel
theorem dX11_shown_49 : decode cX11_shown 49 = .ok (.aload_n 0, 1) := by decide +kernel
theorem dX11_shown_50 : decode cX11_shown 50 = .ok (.getfield 30, 3) := by decide +kernel
theorem dX11_shown_53 : decode cX11_shown 53 = .ok (.getfield 182, 3) := by decide +kernel
theorem dX11_shown_56 : decode cX11_shown 56 = .ok (.ireturn, 1) := by decide +kernel
theorem dX11_sign_0 : decode cX11_sign 0 = .ok (.aload_n 0, 1) := by decide +kernel
theorem dX11_sign_1 : decode cX11_sign 1 = .ok (.getfield 10, 3) := by decide +kernel
theorem dX11_sign_4 : decode cX11_sign 4 = .ok (.getfield 87, 3) := by decide +kernel
theorem dX11_sign_7 : decode cX11_sign 7 = .ok (.iload_n 1, 1) := by decide +kernel
theorem dX11_sign_8 : decode cX11_sign 8 = .ok (.invokevirtual 97, 3) := by decide +kernel
theorem dX11_sign_11 : decode cX11_sign 11 = .ok (.ifCond .eq 10, 3) := by decide +kernel
theorem dX11_sign_14 : decode cX11_sign 14 = .ok (.iload_n 2, 1) := by decide +kernel
theorem dX11_sign_15 : decode cX11_sign 15 = .ok (.invokestatic 263, 3) := by decide +kernel
theorem dX11_sign_18 : decode cX11_sign 18 = .ok (.ifCond .ne 6, 3) := by decide +kernel
theorem dX11_sign_21 : decode cX11_sign 21 = .ok (.bipush (-2), 2) := by decide +kernel
theorem dX11_sign_23 : decode cX11_sign 23 = .ok (.ireturn, 1) := by decide +kernel
theorem dX11_sign_24 : decode cX11_sign 24 = .ok (.aload_n 0, 1) := by decide +kernel
theorem dX11_sign_25 : decode cX11_sign 25 = .ok (.getfield 10, 3) := by decide +kernel
theorem dX11_sign_28 : decode cX11_sign 28 = .ok (.getfield 266, 3) := by decide +kernel
theorem dX11_sign_31 : decode cX11_sign 31 = .ok (.iload_n 1, 1) := by decide +kernel
theorem dX11_sign_32 : decode cX11_sign 32 = .ok (.iload_n 2, 1) := by decide +kernel
theorem dX11_sign_33 : decode cX11_sign 33 = .ok (.aload_n 0, 1) := by decide +kernel
theorem dX11_sign_34 : decode cX11_sign 34 = .ok (.getfield 10, 3) := by decide +kernel
theorem dX11_sign_37 : decode cX11_sign 37 = .ok (.getfield 84, 3) := by decide +kernel
theorem dX11_sign_40 : decode cX11_sign 40 = .ok (.invokevirtual 270, 3) := by decide +kernel
theorem dX11_sign_43 : decode cX11_sign 43 = .ok (.ireturn, 1) := by decide +kernel
theorem dX11_anew_0 : decode cX11_anew 0 = .ok (.aload_n 0, 1) := by decide +kernel
theorem dX11_anew_1 : decode cX11_anew 1 = .ok (.getfield 10, 3) := by decide +kernel
theorem dX11_anew_4 : decode cX11_anew 4 = .ok (.getfield 266, 3) := by decide +kernel
theorem dX11_anew_7 : decode cX11_anew 7 = .ok (.iload_n 1, 1) := by decide +kernel
theorem dX11_anew_8 : decode cX11_anew 8 = .ok (.invokevirtual 275, 3) := by decide +kernel
theorem dX11_anew_11 : decode cX11_anew 11 = .ok (.ifCond .ne 6, 3) := by decide +kernel
theorem dX11_anew_14 : decode cX11_anew 14 = .ok (.bipush (-2), 2) := by decide +kernel
theorem dX11_anew_16 : decode cX11_anew 16 = .ok (.ireturn, 1) := by decide +kernel
theorem dX11_anew_17 : decode cX11_anew 17 = .ok (.aload_n 0, 1) := by decide +kernel
theorem dX11_anew_18 : decode cX11_anew 18 = .ok (.getfield 10, 3) := by decide +kernel
theorem dX11_anew_21 : decode cX11_anew 21 = .ok (.getfield 266, 3) := by decide +kernel
theorem dX11_anew_24 : decode cX11_anew 24 = .ok (.getfield 276, 3) := by decide +kernel
theorem dX11_anew_27 : decode cX11_anew 27 = .ok (.iload_n 1, 1) := by decide +kernel
theorem dX11_anew_28 : decode cX11_anew 28 = .ok (.aload_n 0, 1) := by decide +kernel
theorem dX11_anew_29 : decode cX11_anew 29 = .ok (.getfield 10, 3) := by decide +kernel
theorem dX11_anew_32 : decode cX11_anew 32 = .ok (.getfield 84, 3) := by decide +kernel
theorem dX11_anew_35 : decode cX11_anew 35 = .ok (.iastore, 1) := by decide +kernel
theorem dX11_anew_36 : decode cX11_anew 36 = .ok (.iconst 0, 1) := by decide +kernel
theorem dX11_anew_37 : decode cX11_anew 37 = .ok (.ireturn, 1) := by decide +kernel
theorem dX11_signOf_0 : decode cX11_signOf 0 = .ok (.aload_n 0, 1) := by decide +kernel
theorem dX11_signOf_1 : decode cX11_signOf 1 = .ok (.getfield 10, 3) := by decide +kernel
theorem dX11_signOf_4 : decode cX11_signOf 4 = .ok (.getfield 266, 3) := by decide +kernel
theorem dX11_signOf_7 : decode cX11_signOf 7 = .ok (.astore_n 3, 1) := by decide +kernel
theorem dX11_signOf_8 : decode cX11_signOf 8 = .ok (.aload_n 3, 1) := by decide +kernel
theorem dX11_signOf_9 : decode cX11_signOf 9 = .ok (.iload_n 1, 1) := by decide +kernel
theorem dX11_signOf_10 : decode cX11_signOf 10 = .ok (.invokevirtual 275, 3) := by decide +kernel
theorem dX11_signOf_13 : decode cX11_signOf 13 = .ok (.ifCond .ne 6, 3) := by decide +kernel
theorem dX11_signOf_16 : decode cX11_signOf 16 = .ok (.bipush (-2), 2) := by decide +kernel
theorem dX11_signOf_18 : decode cX11_signOf 18 = .ok (.ireturn, 1) := by decide +kernel
theorem dX11_signOf_19 : decode cX11_signOf 19 = .ok (.iload_n 2, 1) := by decide +kernel
theorem dX11_signOf_20 : decode cX11_signOf 20 = .ok (.tableswitch 158 0 5 #[40, 61, 93, 137, 144, 151], 40) := by decide +kernel
theorem dX11_signOf_60 : decode cX11_signOf 60 = .ok (.aload_n 0, 1) := by decide +kernel
theorem dX11_signOf_61 : decode cX11_signOf 61 = .ok (.getfield 37, 3) := by decide +kernel
theorem dX11_signOf_64 : decode cX11_signOf 64 = .ok (.aload_n 0, 1) := by decide +kernel
theorem dX11_signOf_65 : decode cX11_signOf 65 = .ok (.getfield 10, 3) := by decide +kernel
theorem dX11_signOf_68 : decode cX11_signOf 68 = .ok (.iload_n 1, 1) := by decide +kernel
theorem dX11_signOf_69 : decode cX11_signOf 69 = .ok (.invokevirtual 279, 3) := by decide +kernel
theorem dX11_signOf_72 : decode cX11_signOf 72 = .ok (.ifCond .eq 7, 3) := by decide +kernel
theorem dX11_signOf_75 : decode cX11_signOf 75 = .ok (.iconst 1, 1) := by decide +kernel
theorem dX11_signOf_76 : decode cX11_signOf 76 = .ok (.goto 4, 3) := by decide +kernel
theorem dX11_signOf_79 : decode cX11_signOf 79 = .ok (.iconst 0, 1) := by decide +kernel
theorem dX11_signOf_80 : decode cX11_signOf 80 = .ok (.ireturn, 1) := by decide +kernel
theorem dX11_signOf_81 : decode cX11_signOf 81 = .ok (.aload_n 0, 1) := by decide +kernel
theorem dX11_signOf_82 : decode cX11_signOf 82 = .ok (.getfield 37, 3) := by decide +kernel
theorem dX11_signOf_85 : decode cX11_signOf 85 = .ok (.aload_n 0, 1) := by decide +kernel
theorem dX11_signOf_86 : decode cX11_signOf 86 = .ok (.getfield 10, 3) := by decide +kernel
theorem dX11_signOf_89 : decode cX11_signOf 89 = .ok (.iload_n 1, 1) := by decide +kernel
theorem dX11_signOf_90 : decode cX11_signOf 90 = .ok (.invokevirtual 279, 3) := by decide +kernel
theorem dX11_signOf_93 : decode cX11_signOf 93 = .ok (.ifCond .eq 18, 3) := by decide +kernel
theorem dX11_signOf_96 : decode cX11_signOf 96 = .ok (.aload_n 0, 1) := by decide +kernel
theorem dX11_signOf_97 : decode cX11_signOf 97 = .ok (.getfield 37, 3) := by decide +kernel
theorem dX11_signOf_100 : decode cX11_signOf 100 = .ok (.aload_n 0, 1) := by decide +kernel
theorem dX11_signOf_101 : decode cX11_signOf 101 = .ok (.getfield 10, 3) := by decide +kernel
theorem dX11_signOf_104 : decode cX11_signOf 104 = .ok (.iload_n 1, 1) := by decide +kernel
theorem dX11_signOf_105 : decode cX11_signOf 105 = .ok (.invokevirtual 283, 3) := by decide +kernel
theorem dX11_signOf_108 : decode cX11_signOf 108 = .ok (.goto 4, 3) := by decide +kernel
theorem dX11_signOf_111 : decode cX11_signOf 111 = .ok (.iconst (-1), 1) := by decide +kernel
theorem dX11_signOf_112 : decode cX11_signOf 112 = .ok (.ireturn, 1) := by decide +kernel
theorem dX11_signOf_113 : decode cX11_signOf 113 = .ok (.aload_n 0, 1) := by decide +kernel
theorem dX11_signOf_114 : decode cX11_signOf 114 = .ok (.getfield 37, 3) := by decide +kernel
theorem dX11_signOf_117 : decode cX11_signOf 117 = .ok (.aload_n 0, 1) := by decide +kernel
theorem dX11_signOf_118 : decode cX11_signOf 118 = .ok (.getfield 10, 3) := by decide +kernel
theorem dX11_signOf_121 : decode cX11_signOf 121 = .ok (.iload_n 1, 1) := by decide +kernel
theorem dX11_signOf_122 : decode cX11_signOf 122 = .ok (.invokevirtual 279, 3) := by decide +kernel
theorem dX11_signOf_125 : decode cX11_signOf 125 = .ok (.ifCond .eq 30, 3) := by decide +kernel
theorem dX11_signOf_128 : decode cX11_signOf 128 = .ok (.iconst 0, 1) := by decide +kernel
theorem dX11_signOf_129 : decode cX11_signOf 129 = .ok (.aload_n 0, 1) := by decide +kernel
theorem dX11_signOf_130 : decode cX11_signOf 130 = .ok (.getfield 10, 3) := by decide +kernel
theorem dX11_signOf_133 : decode cX11_signOf 133 = .ok (.getfield 84, 3) := by decide +kernel
theorem dX11_signOf_136 : decode cX11_signOf 136 = .ok (.aload_n 0, 1) := by decide +kernel
theorem dX11_signOf_137 : decode cX11_signOf 137 = .ok (.getfield 37, 3) := by decide +kernel
theorem dX11_signOf_140 : decode cX11_signOf 140 = .ok (.aload_n 0, 1) := by decide +kernel
theorem dX11_signOf_141 : decode cX11_signOf 141 = .ok (.getfield 10, 3) := by decide +kernel
theorem dX11_signOf_144 : decode cX11_signOf 144 = .ok (.iload_n 1, 1) := by decide +kernel
theorem dX11_signOf_145 : decode cX11_signOf 145 = .ok (.invokevirtual 283, 3) := by decide +kernel
theorem dX11_signOf_148 : decode cX11_signOf 148 = .ok (.isub, 1) := by decide +kernel
theorem dX11_signOf_149 : decode cX11_signOf 149 = .ok (.invokestatic 286, 3) := by decide +kernel
theorem dX11_signOf_152 : decode cX11_signOf 152 = .ok (.goto 4, 3) := by decide +kernel
theorem dX11_signOf_155 : decode cX11_signOf 155 = .ok (.iconst 0, 1) := by decide +kernel
theorem dX11_signOf_156 : decode cX11_signOf 156 = .ok (.ireturn, 1) := by decide +kernel
theorem dX11_signOf_157 : decode cX11_signOf 157 = .ok (.aload_n 3, 1) := by decide +kernel
theorem dX11_signOf_158 : decode cX11_signOf 158 = .ok (.getfield 276, 3) := by decide +kernel
theorem dX11_signOf_161 : decode cX11_signOf 161 = .ok (.iload_n 1, 1) := by decide +kernel
theorem dX11_signOf_162 : decode cX11_signOf 162 = .ok (.iaload, 1) := by decide +kernel
theorem dX11_signOf_163 : decode cX11_signOf 163 = .ok (.ireturn, 1) := by decide +kernel
theorem dX11_signOf_164 : decode cX11_signOf 164 = .ok (.aload_n 3, 1) := by decide +kernel
theorem dX11_signOf_165 : decode cX11_signOf 165 = .ok (.getfield 289, 3) := by decide +kernel
theorem dX11_signOf_168 : decode cX11_signOf 168 = .ok (.iload_n 1, 1) := by decide +kernel
theorem dX11_signOf_169 : decode cX11_signOf 169 = .ok (.iaload, 1) := by decide +kernel
theorem dX11_signOf_170 : decode cX11_signOf 170 = .ok (.ireturn, 1) := by decide +kernel
theorem dX11_signOf_171 : decode cX11_signOf 171 = .ok (.aload_n 3, 1) := by decide +kernel
theorem dX11_signOf_172 : decode cX11_signOf 172 = .ok (.getfield 290, 3) := by decide +kernel
theorem dX11_signOf_175 : decode cX11_signOf 175 = .ok (.iload_n 1, 1) := by decide +kernel
theorem dX11_signOf_176 : decode cX11_signOf 176 = .ok (.iaload, 1) := by decide +kernel
theorem dX11_signOf_177 : decode cX11_signOf 177 = .ok (.ireturn, 1) := by decide +kernel
theorem dX11_signOf_178 : decode cX11_signOf 178 = .ok (.bipush (-2), 2) := by decide +kernel
theorem dX11_signOf_180 : decode cX11_signOf 180 = .ok (.ireturn, 1) := by decide +kernel
theorem dX11_plan_0 : decode cX11_plan 0 = .ok (.iload_n 1, 1) := by decide +kernel
theorem dX11_plan_1 : decode cX11_plan 1 = .ok (.invokestatic 263, 3) := by decide +kernel
theorem dX11_plan_4 : decode cX11_plan 4 = .ok (.ifCond .ne 6, 3) := by decide +kernel
theorem dX11_plan_7 : decode cX11_plan 7 = .ok (.bipush (-2), 2) := by decide +kernel
theorem dX11_plan_9 : decode cX11_plan 9 = .ok (.ireturn, 1) := by decide +kernel
theorem dX11_plan_10 : decode cX11_plan 10 = .ok (.aload_n 0, 1) := by decide +kernel
theorem dX11_plan_11 : decode cX11_plan 11 = .ok (.getfield 44, 3) := by decide +kernel
theorem dX11_plan_14 : decode cX11_plan 14 = .ok (.invokevirtual 293, 3) := by decide +kernel
theorem dX11_plan_17 : decode cX11_plan 17 = .ok (.iconst 0, 1) := by decide +kernel
theorem dX11_plan_18 : decode cX11_plan 18 = .ok (.istore_n 2, 1) := by decide +kernel
theorem dX11_plan_19 : decode cX11_plan 19 = .ok (.iload_n 2, 1) := by decide +kernel
theorem dX11_plan_20 : decode cX11_plan 20 = .ok (.aload_n 0, 1) := by decide +kernel
theorem dX11_plan_21 : decode cX11_plan 21 = .ok (.getfield 10, 3) := by decide +kernel
theorem dX11_plan_24 : decode cX11_plan 24 = .ok (.getfield 266, 3) := by decide +kernel
theorem dX11_plan_27 : decode cX11_plan 27 = .ok (.getfield 296, 3) := by decide +kernel
theorem dX11_plan_30 : decode cX11_plan 30 = .ok (.if_icmp .ge 50, 3) := by decide +kernel
theorem dX11_plan_33 : decode cX11_plan 33 = .ok (.aload_n 0, 1) := by decide +kernel
theorem dX11_plan_34 : decode cX11_plan 34 = .ok (.getfield 37, 3) := by decide +kernel
theorem dX11_plan_37 : decode cX11_plan 37 = .ok (.aload_n 0, 1) := by decide +kernel
theorem dX11_plan_38 : decode cX11_plan 38 = .ok (.getfield 10, 3) := by decide +kernel
theorem dX11_plan_41 : decode cX11_plan 41 = .ok (.iload_n 2, 1) := by decide +kernel
theorem dX11_plan_42 : decode cX11_plan 42 = .ok (.invokevirtual 279, 3) := by decide +kernel
theorem dX11_plan_45 : decode cX11_plan 45 = .ok (.ifCond .eq 29, 3) := by decide +kernel
theorem dX11_plan_48 : decode cX11_plan 48 = .ok (.aload_n 0, 1) := by decide +kernel
theorem dX11_plan_49 : decode cX11_plan 49 = .ok (.getfield 44, 3) := by decide +kernel
theorem dX11_plan_52 : decode cX11_plan 52 = .ok (.iload_n 2, 1) := by decide +kernel
theorem dX11_plan_53 : decode cX11_plan 53 = .ok (.aload_n 0, 1) := by decide +kernel
theorem dX11_plan_54 : decode cX11_plan 54 = .ok (.getfield 10, 3) := by decide +kernel
theorem dX11_plan_57 : decode cX11_plan 57 = .ok (.getfield 266, 3) := by decide +kernel
theorem dX11_plan_60 : decode cX11_plan 60 = .ok (.getfield 290, 3) := by decide +kernel
theorem dX11_plan_63 : decode cX11_plan 63 = .ok (.iload_n 2, 1) := by decide +kernel
theorem dX11_plan_64 : decode cX11_plan 64 = .ok (.iaload, 1) := by decide +kernel
theorem dX11_plan_65 : decode cX11_plan 65 = .ok (.iload_n 1, 1) := by decide +kernel
theorem dX11_plan_66 : decode cX11_plan 66 = .ok (.invokevirtual 297, 3) := by decide +kernel
theorem dX11_plan_69 : decode cX11_plan 69 = .ok (.ifCond .ne 5, 3) := by decide +kernel
theorem dX11_plan_72 : decode cX11_plan 72 = .ok (.iconst (-1), 1) := by decide +kernel
theorem dX11_plan_73 : decode cX11_plan 73 = .ok (.ireturn, 1) := by decide +kernel
theorem dX11_plan_74 : decode cX11_plan 74 = .ok (.iinc 2 1, 3) := by decide +kernel
theorem dX11_plan_77 : decode cX11_plan 77 = .ok (.goto (-58), 3) := by decide +kernel
theorem dX11_plan_80 : decode cX11_plan 80 = .ok (.aload_n 0, 1) := by decide +kernel
theorem dX11_plan_81 : decode cX11_plan 81 = .ok (.getfield 44, 3) := by decide +kernel
theorem dX11_plan_84 : decode cX11_plan 84 = .ok (.iload_n 1, 1) := by decide +kernel
theorem dX11_plan_85 : decode cX11_plan 85 = .ok (.invokevirtual 300, 3) := by decide +kernel
theorem dX11_plan_88 : decode cX11_plan 88 = .ok (.ireturn, 1) := by decide +kernel
theorem dX11_planned_0 : decode cX11_planned 0 = .ok (.iload_n 1, 1) := by decide +kernel
theorem dX11_planned_1 : decode cX11_planned 1 = .ok (.ifCond .lt 21, 3) := by decide +kernel
theorem dX11_planned_4 : decode cX11_planned 4 = .ok (.iload_n 1, 1) := by decide +kernel
theorem dX11_planned_5 : decode cX11_planned 5 = .ok (.bipush 40, 2) := by decide +kernel
theorem dX11_planned_7 : decode cX11_planned 7 = .ok (.if_icmp .ge 15, 3) := by decide +kernel
theorem dX11_planned_10 : decode cX11_planned 10 = .ok (.aload_n 0, 1) := by decide +kernel
theorem dX11_planned_11 : decode cX11_planned 11 = .ok (.getfield 44, 3) := by decide +kernel
theorem dX11_planned_14 : decode cX11_planned 14 = .ok (.getfield 303, 3) := by decide +kernel
theorem dX11_planned_17 : decode cX11_planned 17 = .ok (.iload_n 1, 1) := by decide +kernel
theorem dX11_planned_18 : decode cX11_planned 18 = .ok (.iaload, 1) := by decide +kernel
theorem dX11_planned_19 : decode cX11_planned 19 = .ok (.goto 4, 3) := by decide +kernel
theorem dX11_planned_22 : decode cX11_planned 22 = .ok (.iconst (-1), 1) := by decide +kernel
theorem dX11_planned_23 : decode cX11_planned 23 = .ok (.ireturn, 1) := by decide +kernel
theorem dX11_paper_0 : decode cX11_paper 0 = .ok (.iload_n 1, 1) := by decide +kernel
theorem dX11_paper_1 : decode cX11_paper 1 = .ok (.ifCond .lt 14, 3) := by decide +kernel
theorem dX11_paper_4 : decode cX11_paper 4 = .ok (.iload_n 1, 1) := by decide +kernel
theorem dX11_paper_5 : decode cX11_paper 5 = .ok (.aload_n 0, 1) := by decide +kernel
theorem dX11_paper_6 : decode cX11_paper 6 = .ok (.getfield 10, 3) := by decide +kernel
theorem dX11_paper_9 : decode cX11_paper 9 = .ok (.getfield 84, 3) := by decide +kernel
theorem dX11_paper_12 : decode cX11_paper 12 = .ok (.if_icmp .le 6, 3) := by decide +kernel
theorem dX11_paper_15 : decode cX11_paper 15 = .ok (.bipush (-2), 2) := by decide +kernel
theorem dX11_paper_17 : decode cX11_paper 17 = .ok (.ireturn, 1) := by decide +kernel
theorem dX11_paper_18 : decode cX11_paper 18 = .ok (.aload_n 0, 1) := by decide +kernel
theorem dX11_paper_19 : decode cX11_paper 19 = .ok (.getfield 51, 3) := by decide +kernel
theorem dX11_paper_22 : decode cX11_paper 22 = .ok (.iload_n 1, 1) := by decide +kernel
theorem dX11_paper_23 : decode cX11_paper 23 = .ok (.putfield 306, 3) := by decide +kernel
theorem dX11_paper_26 : decode cX11_paper 26 = .ok (.aload_n 0, 1) := by decide +kernel
theorem dX11_paper_27 : decode cX11_paper 27 = .ok (.getfield 51, 3) := by decide +kernel
theorem dX11_paper_30 : decode cX11_paper 30 = .ok (.iconst 0, 1) := by decide +kernel
theorem dX11_paper_31 : decode cX11_paper 31 = .ok (.putfield 309, 3) := by decide +kernel
theorem dX11_paper_34 : decode cX11_paper 34 = .ok (.iconst 0, 1) := by decide +kernel
theorem dX11_paper_35 : decode cX11_paper 35 = .ok (.ireturn, 1) := by decide +kernel
theorem dX11_written_0 : decode cX11_written 0 = .ok (.aload_n 0, 1) := by decide +kernel
theorem dX11_written_1 : decode cX11_written 1 = .ok (.getfield 51, 3) := by decide +kernel
theorem dX11_written_4 : decode cX11_written 4 = .ok (.getfield 306, 3) := by decide +kernel
theorem dX11_written_7 : decode cX11_written 7 = .ok (.iconst (-1), 1) := by decide +kernel
theorem dX11_written_8 : decode cX11_written 8 = .ok (.if_icmp .eq 15, 3) := by decide +kernel
theorem dX11_written_11 : decode cX11_written 11 = .ok (.aload_n 0, 1) := by decide +kernel
theorem dX11_written_12 : decode cX11_written 12 = .ok (.getfield 23, 3) := by decide +kernel
theorem dX11_written_15 : decode cX11_written 15 = .ok (.bipush 24, 2) := by decide +kernel
theorem dX11_written_17 : decode cX11_written 17 = .ok (.invokevirtual 139, 3) := by decide +kernel
theorem dX11_written_20 : decode cX11_written 20 = .ok (.ifCond .ne 6, 3) := by decide +kernel
theorem dX11_written_23 : decode cX11_written 23 = .ok (.bipush (-2), 2) := by decide +kernel
theorem dX11_written_25 : decode cX11_written 25 = .ok (.ireturn, 1) := by decide +kernel
theorem dX11_written_26 : decode cX11_written 26 = .ok (.aload_n 0, 1) := by decide +kernel
theorem dX11_written_27 : decode cX11_written 27 = .ok (.getfield 51, 3) := by decide +kernel
theorem dX11_written_30 : decode cX11_written 30 = .ok (.aload_n 0, 1) := by decide +kernel
theorem dX11_written_31 : decode cX11_written 31 = .ok (.getfield 23, 3) := by decide +kernel
theorem dX11_written_34 : decode cX11_written 34 = .ok (.invokevirtual 310, 3) := by decide +kernel
theorem dX11_written_37 : decode cX11_written 37 = .ok (.ifCond .ne 6, 3) := by decide +kernel
theorem dX11_written_40 : decode cX11_written 40 = .ok (.bipush (-3), 2) := by decide +kernel
theorem dX11_written_42 : decode cX11_written 42 = .ok (.ireturn, 1) := by decide +kernel
theorem dX11_written_43 : decode cX11_written 43 = .ok (.aload_n 0, 1) := by decide +kernel
theorem dX11_written_44 : decode cX11_written 44 = .ok (.getfield 23, 3) := by decide +kernel
theorem dX11_written_47 : decode cX11_written 47 = .ok (.iconst 0, 1) := by decide +kernel
theorem dX11_written_48 : decode cX11_written 48 = .ok (.putfield 72, 3) := by decide +kernel
theorem dX11_written_51 : decode cX11_written 51 = .ok (.aload_n 0, 1) := by decide +kernel
theorem dX11_written_52 : decode cX11_written 52 = .ok (.getfield 51, 3) := by decide +kernel
theorem dX11_written_55 : decode cX11_written 55 = .ok (.getfield 309, 3) := by decide +kernel
theorem dX11_written_58 : decode cX11_written 58 = .ok (.ireturn, 1) := by decide +kernel
theorem dX11_join_0 : decode cX11_join 0 = .ok (.aload_n 0, 1) := by decide +kernel
theorem dX11_join_1 : decode cX11_join 1 = .ok (.getfield 51, 3) := by decide +kernel
theorem dX11_join_4 : decode cX11_join 4 = .ok (.getfield 306, 3) := by decide +kernel
theorem dX11_join_7 : decode cX11_join 7 = .ok (.iconst (-1), 1) := by decide +kernel
theorem dX11_join_8 : decode cX11_join 8 = .ok (.if_icmp .ne 7, 3) := by decide +kernel
theorem dX11_join_11 : decode cX11_join 11 = .ok (.iconst (-1), 1) := by decide +kernel
theorem dX11_join_12 : decode cX11_join 12 = .ok (.goto 18, 3) := by decide +kernel
theorem dX11_join_15 : decode cX11_join 15 = .ok (.aload_n 0, 1) := by decide +kernel
theorem dX11_join_16 : decode cX11_join 16 = .ok (.getfield 51, 3) := by decide +kernel
theorem dX11_join_19 : decode cX11_join 19 = .ok (.aload_n 0, 1) := by decide +kernel
theorem dX11_join_20 : decode cX11_join 20 = .ok (.getfield 10, 3) := by decide +kernel
theorem dX11_join_23 : decode cX11_join 23 = .ok (.aload_n 0, 1) := by decide +kernel
theorem dX11_join_24 : decode cX11_join 24 = .ok (.getfield 37, 3) := by decide +kernel
theorem dX11_join_27 : decode cX11_join 27 = .ok (.invokevirtual 314, 3) := by decide +kernel
theorem dX11_join_30 : decode cX11_join 30 = .ok (.ireturn, 1) := by decide +kernel
theorem dX11_joined_0 : decode cX11_joined 0 = .ok (.iload_n 1, 1) := by decide +kernel
theorem dX11_joined_1 : decode cX11_joined 1 = .ok (.ifCond .lt 26, 3) := by decide +kernel
theorem dX11_joined_4 : decode cX11_joined 4 = .ok (.iload_n 1, 1) := by decide +kernel
theorem dX11_joined_5 : decode cX11_joined 5 = .ok (.aload_n 0, 1) := by decide +kernel
theorem dX11_joined_6 : decode cX11_joined 6 = .ok (.getfield 51, 3) := by decide +kernel
theorem dX11_joined_9 : decode cX11_joined 9 = .ok (.getfield 318, 3) := by decide +kernel
theorem dX11_joined_12 : decode cX11_joined 12 = .ok (.if_icmp .ge 15, 3) := by decide +kernel
theorem dX11_joined_15 : decode cX11_joined 15 = .ok (.aload_n 0, 1) := by decide +kernel
theorem dX11_joined_16 : decode cX11_joined 16 = .ok (.getfield 51, 3) := by decide +kernel
theorem dX11_joined_19 : decode cX11_joined 19 = .ok (.getfield 321, 3) := by decide +kernel
theorem dX11_joined_22 : decode cX11_joined 22 = .ok (.iload_n 1, 1) := by decide +kernel
theorem dX11_joined_23 : decode cX11_joined 23 = .ok (.iaload, 1) := by decide +kernel
theorem dX11_joined_24 : decode cX11_joined 24 = .ok (.goto 4, 3) := by decide +kernel
theorem dX11_joined_27 : decode cX11_joined 27 = .ok (.iconst (-1), 1) := by decide +kernel
theorem dX11_joined_28 : decode cX11_joined 28 = .ok (.ireturn, 1) := by decide +kernel
theorem dX11_count_0 : decode cX11_count 0 = .ok (.iload_n 1, 1) := by decide +kernel
theorem dX11_count_1 : decode cX11_count 1 = .ok (.tableswitch 213 0 12 #[67, 75, 86, 97, 108, 119, 130, 141, 152, 164, 172, 180, 208], 67) := by decide +kernel
theorem dX11_count_68 : decode cX11_count 68 = .ok (.aload_n 0, 1) := by decide +kernel
theorem dX11_count_69 : decode cX11_count 69 = .ok (.getfield 10, 3) := by decide +kernel
theorem dX11_count_72 : decode cX11_count 72 = .ok (.getfield 84, 3) := by decide +kernel
theorem dX11_count_75 : decode cX11_count 75 = .ok (.ireturn, 1) := by decide +kernel
theorem dX11_count_76 : decode cX11_count 76 = .ok (.aload_n 0, 1) := by decide +kernel
theorem dX11_count_77 : decode cX11_count 77 = .ok (.getfield 10, 3) := by decide +kernel
theorem dX11_count_80 : decode cX11_count 80 = .ok (.getfield 87, 3) := by decide +kernel
theorem dX11_count_83 : decode cX11_count 83 = .ok (.getfield 324, 3) := by decide +kernel
theorem dX11_count_86 : decode cX11_count 86 = .ok (.ireturn, 1) := by decide +kernel
theorem dX11_count_87 : decode cX11_count 87 = .ok (.aload_n 0, 1) := by decide +kernel
theorem dX11_count_88 : decode cX11_count 88 = .ok (.getfield 10, 3) := by decide +kernel
theorem dX11_count_91 : decode cX11_count 91 = .ok (.getfield 142, 3) := by decide +kernel
theorem dX11_count_94 : decode cX11_count 94 = .ok (.getfield 325, 3) := by decide +kernel
theorem dX11_count_97 : decode cX11_count 97 = .ok (.ireturn, 1) := by decide +kernel
theorem dX11_count_98 : decode cX11_count 98 = .ok (.aload_n 0, 1) := by decide +kernel
theorem dX11_count_99 : decode cX11_count 99 = .ok (.getfield 10, 3) := by decide +kernel
theorem dX11_count_102 : decode cX11_count 102 = .ok (.getfield 142, 3) := by decide +kernel
theorem dX11_count_105 : decode cX11_count 105 = .ok (.getfield 150, 3) := by decide +kernel
theorem dX11_count_108 : decode cX11_count 108 = .ok (.ireturn, 1) := by decide +kernel
theorem dX11_count_109 : decode cX11_count 109 = .ok (.aload_n 0, 1) := by decide +kernel
theorem dX11_count_110 : decode cX11_count 110 = .ok (.getfield 10, 3) := by decide +kernel
theorem dX11_count_113 : decode cX11_count 113 = .ok (.getfield 161, 3) := by decide +kernel
theorem dX11_count_116 : decode cX11_count 116 = .ok (.getfield 165, 3) := by decide +kernel
theorem dX11_count_119 : decode cX11_count 119 = .ok (.ireturn, 1) := by decide +kernel
theorem dX11_count_120 : decode cX11_count 120 = .ok (.aload_n 0, 1) := by decide +kernel
theorem dX11_count_121 : decode cX11_count 121 = .ok (.getfield 10, 3) := by decide +kernel
theorem dX11_count_124 : decode cX11_count 124 = .ok (.getfield 217, 3) := by decide +kernel
theorem dX11_count_127 : decode cX11_count 127 = .ok (.getfield 327, 3) := by decide +kernel
theorem dX11_count_130 : decode cX11_count 130 = .ok (.ireturn, 1) := by decide +kernel
theorem dX11_count_131 : decode cX11_count 131 = .ok (.aload_n 0, 1) := by decide +kernel
theorem dX11_count_132 : decode cX11_count 132 = .ok (.getfield 10, 3) := by decide +kernel
theorem dX11_count_135 : decode cX11_count 135 = .ok (.getfield 87, 3) := by decide +kernel
theorem dX11_count_138 : decode cX11_count 138 = .ok (.getfield 330, 3) := by decide +kernel
theorem dX11_count_141 : decode cX11_count 141 = .ok (.ireturn, 1) := by decide +kernel
theorem dX11_count_142 : decode cX11_count 142 = .ok (.aload_n 0, 1) := by decide +kernel
theorem dX11_count_143 : decode cX11_count 143 = .ok (.getfield 10, 3) := by decide +kernel
theorem dX11_count_146 : decode cX11_count 146 = .ok (.getfield 266, 3) := by decide +kernel
theorem dX11_count_149 : decode cX11_count 149 = .ok (.getfield 296, 3) := by decide +kernel
theorem dX11_count_152 : decode cX11_count 152 = .ok (.ireturn, 1) := by decide +kernel
theorem dX11_count_153 : decode cX11_count 153 = .ok (.aload_n 0, 1) := by decide +kernel
theorem dX11_count_154 : decode cX11_count 154 = .ok (.getfield 37, 3) := by decide +kernel
theorem dX11_count_157 : decode cX11_count 157 = .ok (.aload_n 0, 1) := by decide +kernel
theorem dX11_count_158 : decode cX11_count 158 = .ok (.getfield 10, 3) := by decide +kernel
theorem dX11_count_161 : decode cX11_count 161 = .ok (.invokevirtual 333, 3) := by decide +kernel
theorem dX11_count_164 : decode cX11_count 164 = .ok (.ireturn, 1) := by decide +kernel
theorem dX11_count_165 : decode cX11_count 165 = .ok (.aload_n 0, 1) := by decide +kernel
theorem dX11_count_166 : decode cX11_count 166 = .ok (.getfield 23, 3) := by decide +kernel
theorem dX11_count_169 : decode cX11_count 169 = .ok (.getfield 72, 3) := by decide +kernel
theorem dX11_count_172 : decode cX11_count 172 = .ok (.ireturn, 1) := by decide +kernel
theorem dX11_count_173 : decode cX11_count 173 = .ok (.aload_n 0, 1) := by decide +kernel
theorem dX11_count_174 : decode cX11_count 174 = .ok (.getfield 51, 3) := by decide +kernel
theorem dX11_count_177 : decode cX11_count 177 = .ok (.getfield 309, 3) := by decide +kernel
theorem dX11_count_180 : decode cX11_count 180 = .ok (.ireturn, 1) := by decide +kernel
theorem dX11_count_181 : decode cX11_count 181 = .ok (.aload_n 0, 1) := by decide +kernel
theorem dX11_count_182 : decode cX11_count 182 = .ok (.getfield 10, 3) := by decide +kernel
theorem dX11_count_185 : decode cX11_count 185 = .ok (.getfield 217, 3) := by decide +kernel
theorem dX11_count_188 : decode cX11_count 188 = .ok (.aload_n 0, 1) := by decide +kernel
theorem dX11_count_189 : decode cX11_count 189 = .ok (.getfield 10, 3) := by decide +kernel
theorem dX11_count_192 : decode cX11_count 192 = .ok (.getfield 87, 3) := by decide +kernel
theorem dX11_count_195 : decode cX11_count 195 = .ok (.getfield 324, 3) := by decide +kernel
theorem dX11_count_198 : decode cX11_count 198 = .ok (.aload_n 0, 1) := by decide +kernel
theorem dX11_count_199 : decode cX11_count 199 = .ok (.getfield 10, 3) := by decide +kernel
theorem dX11_count_202 : decode cX11_count 202 = .ok (.getfield 84, 3) := by decide +kernel
theorem dX11_count_205 : decode cX11_count 205 = .ok (.invokevirtual 337, 3) := by decide +kernel
theorem dX11_count_208 : decode cX11_count 208 = .ok (.ireturn, 1) := by decide +kernel
theorem dX11_count_209 : decode cX11_count 209 = .ok (.aload_n 0, 1) := by decide +kernel
theorem dX11_count_210 : decode cX11_count 210 = .ok (.invokevirtual 340, 3) := by decide +kernel
theorem dX11_count_213 : decode cX11_count 213 = .ok (.ireturn, 1) := by decide +kernel
theorem dX11_count_214 : decode cX11_count 214 = .ok (.iconst (-1), 1) := by decide +kernel
theorem dX11_count_215 : decode cX11_count 215 = .ok (.ireturn, 1) := by decide +kernel
theorem dX11_keep_0 : decode cX11_keep 0 = .ok (.iload_n 1, 1) := by decide +kernel
theorem dX11_keep_1 : decode cX11_keep 1 = .ok (.ifCond .lt 8, 3) := by decide +kernel
theorem dX11_keep_4 : decode cX11_keep 4 = .ok (.iload_n 1, 1) := by decide +kernel
theorem dX11_keep_5 : decode cX11_keep 5 = .ok (.iconst 3, 1) := by decide +kernel
theorem dX11_keep_6 : decode cX11_keep 6 = .ok (.if_icmp .lt 6, 3) := by decide +kernel
theorem dX11_keep_9 : decode cX11_keep 9 = .ok (.bipush (-2), 2) := by decide +kernel
theorem dX11_keep_11 : decode cX11_keep 11 = .ok (.ireturn, 1) := by decide +kernel
theorem dX11_keep_12 : decode cX11_keep 12 = .ok (.aload_n 0, 1) := by decide +kernel
theorem dX11_keep_13 : decode cX11_keep 13 = .ok (.getfield 16, 3) := by decide +kernel
theorem dX11_keep_16 : decode cX11_keep 16 = .ok (.iload_n 1, 1) := by decide +kernel
theorem dX11_keep_17 : decode cX11_keep 17 = .ok (.aaload, 1) := by decide +kernel
theorem dX11_keep_18 : decode cX11_keep 18 = .ok (.ifnonnull 16, 3) := by decide +kernel
theorem dX11_keep_21 : decode cX11_keep 21 = .ok (.aload_n 0, 1) := by decide +kernel
theorem dX11_keep_22 : decode cX11_keep 22 = .ok (.getfield 16, 3) := by decide +kernel
theorem dX11_keep_25 : decode cX11_keep 25 = .ok (.iload_n 1, 1) := by decide +kernel
theorem dX11_keep_26 : decode cX11_keep 26 = .ok (.new 7, 3) := by decide +kernel
theorem dX11_keep_29 : decode cX11_keep 29 = .ok (.dup, 1) := by decide +kernel
theorem dX11_keep_30 : decode cX11_keep 30 = .ok (.invokespecial 9, 3) := by decide +kernel
theorem dX11_keep_33 : decode cX11_keep 33 = .ok (.aastore, 1) := by decide +kernel
theorem dX11_keep_34 : decode cX11_keep 34 = .ok (.aload_n 0, 1) := by decide +kernel
theorem dX11_keep_35 : decode cX11_keep 35 = .ok (.getfield 16, 3) := by decide +kernel
theorem dX11_keep_38 : decode cX11_keep 38 = .ok (.iload_n 1, 1) := by decide +kernel
theorem dX11_keep_39 : decode cX11_keep 39 = .ok (.aaload, 1) := by decide +kernel
theorem dX11_keep_40 : decode cX11_keep 40 = .ok (.aload_n 0, 1) := by decide +kernel
theorem dX11_keep_41 : decode cX11_keep 41 = .ok (.getfield 10, 3) := by decide +kernel
theorem dX11_keep_44 : decode cX11_keep 44 = .ok (.invokevirtual 343, 3) := by decide +kernel
theorem dX11_keep_47 : decode cX11_keep 47 = .ok (.iconst 0, 1) := by decide +kernel
theorem dX11_keep_48 : decode cX11_keep 48 = .ok (.ireturn, 1) := by decide +kernel
theorem dX11_back_0 : decode cX11_back 0 = .ok (.iload_n 1, 1) := by decide +kernel
theorem dX11_back_1 : decode cX11_back 1 = .ok (.ifCond .lt 8, 3) := by decide +kernel
theorem dX11_back_4 : decode cX11_back 4 = .ok (.iload_n 1, 1) := by decide +kernel
theorem dX11_back_5 : decode cX11_back 5 = .ok (.iconst 3, 1) := by decide +kernel
theorem dX11_back_6 : decode cX11_back 6 = .ok (.if_icmp .lt 6, 3) := by decide +kernel
theorem dX11_back_9 : decode cX11_back 9 = .ok (.bipush (-2), 2) := by decide +kernel
theorem dX11_back_11 : decode cX11_back 11 = .ok (.ireturn, 1) := by decide +kernel
theorem dX11_back_12 : decode cX11_back 12 = .ok (.aload_n 0, 1) := by decide +kernel
theorem dX11_back_13 : decode cX11_back 13 = .ok (.getfield 16, 3) := by decide +kernel
theorem dX11_back_16 : decode cX11_back 16 = .ok (.iload_n 1, 1) := by decide +kernel
theorem dX11_back_17 : decode cX11_back 17 = .ok (.aaload, 1) := by decide +kernel
theorem dX11_back_18 : decode cX11_back 18 = .ok (.ifnonnull 6, 3) := by decide +kernel
theorem dX11_back_21 : decode cX11_back 21 = .ok (.bipush (-6), 2) := by decide +kernel
theorem dX11_back_23 : decode cX11_back 23 = .ok (.ireturn, 1) := by decide +kernel
theorem dX11_back_24 : decode cX11_back 24 = .ok (.aload_n 0, 1) := by decide +kernel
theorem dX11_back_25 : decode cX11_back 25 = .ok (.getfield 10, 3) := by decide +kernel
theorem dX11_back_28 : decode cX11_back 28 = .ok (.aload_n 0, 1) := by decide +kernel
theorem dX11_back_29 : decode cX11_back 29 = .ok (.getfield 16, 3) := by decide +kernel
theorem dX11_back_32 : decode cX11_back 32 = .ok (.iload_n 1, 1) := by decide +kernel
theorem dX11_back_33 : decode cX11_back 33 = .ok (.aaload, 1) := by decide +kernel
theorem dX11_back_34 : decode cX11_back 34 = .ok (.invokevirtual 343, 3) := by decide +kernel
theorem dX11_back_37 : decode cX11_back 37 = .ok (.iconst 0, 1) := by decide +kernel
theorem dX11_back_38 : decode cX11_back 38 = .ok (.ireturn, 1) := by decide +kernel
theorem dX11_row_0 : decode cX11_row 0 = .ok (.iload_n 1, 1) := by decide +kernel
theorem dX11_row_1 : decode cX11_row 1 = .ok (.invokestatic 115, 3) := by decide +kernel
theorem dX11_row_4 : decode cX11_row 4 = .ok (.ifCond .eq 18, 3) := by decide +kernel
theorem dX11_row_7 : decode cX11_row 7 = .ok (.iload_n 2, 1) := by decide +kernel
theorem dX11_row_8 : decode cX11_row 8 = .ok (.ifCond .lt 14, 3) := by decide +kernel
theorem dX11_row_11 : decode cX11_row 11 = .ok (.iload_n 2, 1) := by decide +kernel
theorem dX11_row_12 : decode cX11_row 12 = .ok (.iconst 4, 1) := by decide +kernel
theorem dX11_row_13 : decode cX11_row 13 = .ok (.if_icmp .ge 9, 3) := by decide +kernel
theorem dX11_row_16 : decode cX11_row 16 = .ok (.iload_n 3, 1) := by decide +kernel
theorem dX11_row_17 : decode cX11_row 17 = .ok (.bipush 60, 2) := by decide +kernel
theorem dX11_row_19 : decode cX11_row 19 = .ok (.if_icmp .le 6, 3) := by decide +kernel
theorem dX11_row_22 : decode cX11_row 22 = .ok (.bipush (-2), 2) := by decide +kernel
theorem dX11_row_24 : decode cX11_row 24 = .ok (.ireturn, 1) := by decide +kernel
theorem dX11_row_25 : decode cX11_row 25 = .ok (.iload_n 3, 1) := by decide +kernel
theorem dX11_row_26 : decode cX11_row 26 = .ok (.ifCond .ge 6, 3) := by decide +kernel
theorem dX11_row_29 : decode cX11_row 29 = .ok (.bipush (-3), 2) := by decide +kernel
theorem dX11_row_31 : decode cX11_row 31 = .ok (.ireturn, 1) := by decide +kernel
theorem dX11_row_32 : decode cX11_row 32 = .ok (.aload_n 0, 1) := by decide +kernel
theorem dX11_row_33 : decode cX11_row 33 = .ok (.getfield 59, 3) := by decide +kernel
theorem dX11_row_36 : decode cX11_row 36 = .ok (.iload_n 1, 1) := by decide +kernel
theorem dX11_row_37 : decode cX11_row 37 = .ok (.iload_n 2, 1) := by decide +kernel
theorem dX11_row_38 : decode cX11_row 38 = .ok (.iastore, 1) := by decide +kernel
theorem dX11_row_39 : decode cX11_row 39 = .ok (.aload_n 0, 1) := by decide +kernel
theorem dX11_row_40 : decode cX11_row 40 = .ok (.getfield 63, 3) := by decide +kernel
theorem dX11_row_43 : decode cX11_row 43 = .ok (.iload_n 1, 1) := by decide +kernel
theorem dX11_row_44 : decode cX11_row 44 = .ok (.iload_n 3, 1) := by decide +kernel
theorem dX11_row_45 : decode cX11_row 45 = .ok (.iastore, 1) := by decide +kernel
theorem dX11_row_46 : decode cX11_row 46 = .ok (.iconst 0, 1) := by decide +kernel
theorem dX11_row_47 : decode cX11_row 47 = .ok (.istore 4, 2) := by decide +kernel
theorem dX11_row_49 : decode cX11_row 49 = .ok (.iload 4, 2) := by decide +kernel
theorem dX11_row_51 : decode cX11_row 51 = .ok (.iload_n 3, 1) := by decide +kernel
theorem dX11_row_52 : decode cX11_row 52 = .ok (.if_icmp .ge 22, 3) := by decide +kernel
theorem dX11_row_55 : decode cX11_row 55 = .ok (.aload_n 0, 1) := by decide +kernel
theorem dX11_row_56 : decode cX11_row 56 = .ok (.getfield 55, 3) := by decide +kernel
theorem dX11_row_59 : decode cX11_row 59 = .ok (.iload_n 1, 1) := by decide +kernel
theorem dX11_row_60 : decode cX11_row 60 = .ok (.bipush 60, 2) := by decide +kernel
theorem dX11_row_62 : decode cX11_row 62 = .ok (.imul, 1) := by decide +kernel
theorem dX11_row_63 : decode cX11_row 63 = .ok (.iload 4, 2) := by decide +kernel
theorem dX11_row_65 : decode cX11_row 65 = .ok (.iadd, 1) := by decide +kernel
theorem dX11_row_66 : decode cX11_row 66 = .ok (.lconst 0, 1) := by decide +kernel
theorem dX11_row_67 : decode cX11_row 67 = .ok (.lastore, 1) := by decide +kernel
theorem dX11_row_68 : decode cX11_row 68 = .ok (.iinc 4 1, 3) := by decide +kernel
theorem dX11_row_71 : decode cX11_row 71 = .ok (.goto (-22), 3) := by decide +kernel
theorem dX11_row_74 : decode cX11_row 74 = .ok (.iconst 0, 1) := by decide +kernel
theorem dX11_row_75 : decode cX11_row 75 = .ok (.ireturn, 1) := by decide +kernel
theorem dX11_tear_0 : decode cX11_tear 0 = .ok (.iload_n 1, 1) := by decide +kernel
theorem dX11_tear_1 : decode cX11_tear 1 = .ok (.invokestatic 115, 3) := by decide +kernel
theorem dX11_tear_4 : decode cX11_tear 4 = .ok (.ifCond .eq 13, 3) := by decide +kernel
theorem dX11_tear_7 : decode cX11_tear 7 = .ok (.aload_n 0, 1) := by decide +kernel
theorem dX11_tear_8 : decode cX11_tear 8 = .ok (.getfield 63, 3) := by decide +kernel
theorem dX11_tear_11 : decode cX11_tear 11 = .ok (.iload_n 1, 1) := by decide +kernel
theorem dX11_tear_12 : decode cX11_tear 12 = .ok (.iaload, 1) := by decide +kernel
theorem dX11_tear_13 : decode cX11_tear 13 = .ok (.iconst (-1), 1) := by decide +kernel
theorem dX11_tear_14 : decode cX11_tear 14 = .ok (.if_icmp .ne 5, 3) := by decide +kernel
theorem dX11_tear_17 : decode cX11_tear 17 = .ok (.iconst 0, 1) := by decide +kernel
theorem dX11_tear_18 : decode cX11_tear 18 = .ok (.ireturn, 1) := by decide +kernel
theorem dX11_tear_19 : decode cX11_tear 19 = .ok (.aload_n 0, 1) := by decide +kernel
theorem dX11_tear_20 : decode cX11_tear 20 = .ok (.getfield 63, 3) := by decide +kernel
theorem dX11_tear_23 : decode cX11_tear 23 = .ok (.iload_n 1, 1) := by decide +kernel
theorem dX11_tear_24 : decode cX11_tear 24 = .ok (.iconst (-1), 1) := by decide +kernel
theorem dX11_tear_25 : decode cX11_tear 25 = .ok (.iastore, 1) := by decide +kernel
theorem dX11_tear_26 : decode cX11_tear 26 = .ok (.iconst 1, 1) := by decide +kernel
theorem dX11_tear_27 : decode cX11_tear 27 = .ok (.ireturn, 1) := by decide +kernel
theorem dX11_write_0 : decode cX11_write 0 = .ok (.iload_n 1, 1) := by decide +kernel
theorem dX11_write_1 : decode cX11_write 1 = .ok (.invokestatic 115, 3) := by decide +kernel
theorem dX11_write_4 : decode cX11_write 4 = .ok (.ifCond .ne 6, 3) := by decide +kernel
theorem dX11_write_7 : decode cX11_write 7 = .ok (.bipush (-2), 2) := by decide +kernel
theorem dX11_write_9 : decode cX11_write 9 = .ok (.ireturn, 1) := by decide +kernel
theorem dX11_write_10 : decode cX11_write 10 = .ok (.aload_n 0, 1) := by decide +kernel
theorem dX11_write_11 : decode cX11_write 11 = .ok (.getfield 63, 3) := by decide +kernel
theorem dX11_write_14 : decode cX11_write 14 = .ok (.iload_n 1, 1) := by decide +kernel
theorem dX11_write_15 : decode cX11_write 15 = .ok (.iaload, 1) := by decide +kernel
theorem dX11_write_16 : decode cX11_write 16 = .ok (.iconst (-1), 1) := by decide +kernel
theorem dX11_write_17 : decode cX11_write 17 = .ok (.if_icmp .ne 6, 3) := by decide +kernel
theorem dX11_write_20 : decode cX11_write 20 = .ok (.bipush (-6), 2) := by decide +kernel
theorem dX11_write_22 : decode cX11_write 22 = .ok (.ireturn, 1) := by decide +kernel
theorem dX11_write_23 : decode cX11_write 23 = .ok (.iload_n 2, 1) := by decide +kernel
theorem dX11_write_24 : decode cX11_write 24 = .ok (.ifCond .lt 13, 3) := by decide +kernel
theorem dX11_write_27 : decode cX11_write 27 = .ok (.iload_n 2, 1) := by decide +kernel
theorem dX11_write_28 : decode cX11_write 28 = .ok (.aload_n 0, 1) := by decide +kernel
theorem dX11_write_29 : decode cX11_write 29 = .ok (.getfield 63, 3) := by decide +kernel
theorem dX11_write_32 : decode cX11_write 32 = .ok (.iload_n 1, 1) := by decide +kernel
theorem dX11_write_33 : decode cX11_write 33 = .ok (.iaload, 1) := by decide +kernel
theorem dX11_write_34 : decode cX11_write 34 = .ok (.if_icmp .lt 6, 3) := by decide +kernel
theorem dX11_write_37 : decode cX11_write 37 = .ok (.bipush (-7), 2) := by decide +kernel
theorem dX11_write_39 : decode cX11_write 39 = .ok (.ireturn, 1) := by decide +kernel
theorem dX11_write_40 : decode cX11_write 40 = .ok (.aload_n 0, 1) := by decide +kernel
theorem dX11_write_41 : decode cX11_write 41 = .ok (.getfield 55, 3) := by decide +kernel
theorem dX11_write_44 : decode cX11_write 44 = .ok (.iload_n 1, 1) := by decide +kernel
theorem dX11_write_45 : decode cX11_write 45 = .ok (.bipush 60, 2) := by decide +kernel
theorem dX11_write_47 : decode cX11_write 47 = .ok (.imul, 1) := by decide +kernel
theorem dX11_write_48 : decode cX11_write 48 = .ok (.iload_n 2, 1) := by decide +kernel
theorem dX11_write_49 : decode cX11_write 49 = .ok (.iadd, 1) := by decide +kernel
theorem dX11_write_50 : decode cX11_write 50 = .ok (.lload_n 3, 1) := by decide +kernel
theorem dX11_write_51 : decode cX11_write 51 = .ok (.aload_n 0, 1) := by decide +kernel
theorem dX11_write_52 : decode cX11_write 52 = .ok (.getfield 59, 3) := by decide +kernel
theorem dX11_write_55 : decode cX11_write 55 = .ok (.iload_n 1, 1) := by decide +kernel
theorem dX11_write_56 : decode cX11_write 56 = .ok (.iaload, 1) := by decide +kernel
theorem dX11_write_57 : decode cX11_write 57 = .ok (.invokestatic 347, 3) := by decide +kernel
theorem dX11_write_60 : decode cX11_write 60 = .ok (.lastore, 1) := by decide +kernel
theorem dX11_write_61 : decode cX11_write 61 = .ok (.iconst 0, 1) := by decide +kernel
theorem dX11_write_62 : decode cX11_write 62 = .ok (.ireturn, 1) := by decide +kernel
theorem dX11_paste_0 : decode cX11_paste 0 = .ok (.iload_n 1, 1) := by decide +kernel
theorem dX11_paste_1 : decode cX11_paste 1 = .ok (.invokestatic 115, 3) := by decide +kernel
theorem dX11_paste_4 : decode cX11_paste 4 = .ok (.ifCond .eq 10, 3) := by decide +kernel
theorem dX11_paste_7 : decode cX11_paste 7 = .ok (.iload_n 3, 1) := by decide +kernel
theorem dX11_paste_8 : decode cX11_paste 8 = .ok (.invokestatic 115, 3) := by decide +kernel
theorem dX11_paste_11 : decode cX11_paste 11 = .ok (.ifCond .ne 6, 3) := by decide +kernel
theorem dX11_paste_14 : decode cX11_paste 14 = .ok (.bipush (-2), 2) := by decide +kernel
theorem dX11_paste_16 : decode cX11_paste 16 = .ok (.ireturn, 1) := by decide +kernel
theorem dX11_paste_17 : decode cX11_paste 17 = .ok (.aload_n 0, 1) := by decide +kernel
theorem dX11_paste_18 : decode cX11_paste 18 = .ok (.getfield 63, 3) := by decide +kernel
theorem dX11_paste_21 : decode cX11_paste 21 = .ok (.iload_n 1, 1) := by decide +kernel
theorem dX11_paste_22 : decode cX11_paste 22 = .ok (.iaload, 1) := by decide +kernel
theorem dX11_paste_23 : decode cX11_paste 23 = .ok (.iconst (-1), 1) := by decide +kernel
theorem dX11_paste_24 : decode cX11_paste 24 = .ok (.if_icmp .eq 13, 3) := by decide +kernel
theorem dX11_paste_27 : decode cX11_paste 27 = .ok (.aload_n 0, 1) := by decide +kernel
theorem dX11_paste_28 : decode cX11_paste 28 = .ok (.getfield 63, 3) := by decide +kernel
theorem dX11_paste_31 : decode cX11_paste 31 = .ok (.iload_n 3, 1) := by decide +kernel
theorem dX11_paste_32 : decode cX11_paste 32 = .ok (.iaload, 1) := by decide +kernel
theorem dX11_paste_33 : decode cX11_paste 33 = .ok (.iconst (-1), 1) := by decide +kernel
theorem dX11_paste_34 : decode cX11_paste 34 = .ok (.if_icmp .ne 6, 3) := by decide +kernel
theorem dX11_paste_37 : decode cX11_paste 37 = .ok (.bipush (-6), 2) := by decide +kernel
theorem dX11_paste_39 : decode cX11_paste 39 = .ok (.ireturn, 1) := by decide +kernel
theorem dX11_paste_40 : decode cX11_paste 40 = .ok (.aload_n 0, 1) := by decide +kernel
theorem dX11_paste_41 : decode cX11_paste 41 = .ok (.getfield 59, 3) := by decide +kernel
theorem dX11_paste_44 : decode cX11_paste 44 = .ok (.iload_n 1, 1) := by decide +kernel
theorem dX11_paste_45 : decode cX11_paste 45 = .ok (.iaload, 1) := by decide +kernel
theorem dX11_paste_46 : decode cX11_paste 46 = .ok (.aload_n 0, 1) := by decide +kernel
theorem dX11_paste_47 : decode cX11_paste 47 = .ok (.getfield 59, 3) := by decide +kernel
theorem dX11_paste_50 : decode cX11_paste 50 = .ok (.iload_n 3, 1) := by decide +kernel
theorem dX11_paste_51 : decode cX11_paste 51 = .ok (.iaload, 1) := by decide +kernel
theorem dX11_paste_52 : decode cX11_paste 52 = .ok (.if_icmp .eq 6, 3) := by decide +kernel
theorem dX11_paste_55 : decode cX11_paste 55 = .ok (.bipush (-8), 2) := by decide +kernel
theorem dX11_paste_57 : decode cX11_paste 57 = .ok (.ireturn, 1) := by decide +kernel
theorem dX11_paste_58 : decode cX11_paste 58 = .ok (.aload_n 0, 1) := by decide +kernel
theorem dX11_paste_59 : decode cX11_paste 59 = .ok (.iload_n 1, 1) := by decide +kernel
theorem dX11_paste_60 : decode cX11_paste 60 = .ok (.iload_n 2, 1) := by decide +kernel
theorem dX11_paste_61 : decode cX11_paste 61 = .ok (.iload 5, 2) := by decide +kernel
theorem dX11_paste_63 : decode cX11_paste 63 = .ok (.invokevirtual 351, 3) := by decide +kernel
theorem dX11_paste_66 : decode cX11_paste 66 = .ok (.ifCond .eq 15, 3) := by decide +kernel
theorem dX11_paste_69 : decode cX11_paste 69 = .ok (.aload_n 0, 1) := by decide +kernel
theorem dX11_paste_70 : decode cX11_paste 70 = .ok (.iload_n 3, 1) := by decide +kernel
theorem dX11_paste_71 : decode cX11_paste 71 = .ok (.iload 4, 2) := by decide +kernel
theorem dX11_paste_73 : decode cX11_paste 73 = .ok (.iload 5, 2) := by decide +kernel
theorem dX11_paste_75 : decode cX11_paste 75 = .ok (.invokevirtual 351, 3) := by decide +kernel
theorem dX11_paste_78 : decode cX11_paste 78 = .ok (.ifCond .ne 6, 3) := by decide +kernel
theorem dX11_paste_81 : decode cX11_paste 81 = .ok (.bipush (-7), 2) := by decide +kernel
theorem dX11_paste_83 : decode cX11_paste 83 = .ok (.ireturn, 1) := by decide +kernel
theorem dX11_paste_84 : decode cX11_paste 84 = .ok (.aload_n 0, 1) := by decide +kernel
theorem dX11_paste_85 : decode cX11_paste 85 = .ok (.getfield 55, 3) := by decide +kernel
theorem dX11_paste_88 : decode cX11_paste 88 = .ok (.iload_n 1, 1) := by decide +kernel
theorem dX11_paste_89 : decode cX11_paste 89 = .ok (.bipush 60, 2) := by decide +kernel
theorem dX11_paste_91 : decode cX11_paste 91 = .ok (.imul, 1) := by decide +kernel
theorem dX11_paste_92 : decode cX11_paste 92 = .ok (.iload_n 2, 1) := by decide +kernel
theorem dX11_paste_93 : decode cX11_paste 93 = .ok (.iadd, 1) := by decide +kernel
theorem dX11_paste_94 : decode cX11_paste 94 = .ok (.aload_n 0, 1) := by decide +kernel
theorem dX11_paste_95 : decode cX11_paste 95 = .ok (.getfield 55, 3) := by decide +kernel
theorem dX11_paste_98 : decode cX11_paste 98 = .ok (.iload_n 3, 1) := by decide +kernel
theorem dX11_paste_99 : decode cX11_paste 99 = .ok (.bipush 60, 2) := by decide +kernel
theorem dX11_paste_101 : decode cX11_paste 101 = .ok (.imul, 1) := by decide +kernel
theorem dX11_paste_102 : decode cX11_paste 102 = .ok (.iload 4, 2) := by decide +kernel
theorem dX11_paste_104 : decode cX11_paste 104 = .ok (.iadd, 1) := by decide +kernel
theorem dX11_paste_105 : decode cX11_paste 105 = .ok (.iload 5, 2) := by decide +kernel
theorem dX11_paste_107 : decode cX11_paste 107 = .ok (.invokestatic 354, 3) := by decide +kernel
theorem dX11_paste_110 : decode cX11_paste 110 = .ok (.iconst 0, 1) := by decide +kernel
theorem dX11_paste_111 : decode cX11_paste 111 = .ok (.ireturn, 1) := by decide +kernel
theorem dX11_isYear_0 : decode cX11_isYear 0 = .ok (.iload_n 0, 1) := by decide +kernel
theorem dX11_isYear_1 : decode cX11_isYear 1 = .ok (.ifCond .lt 14, 3) := by decide +kernel
theorem dX11_isYear_4 : decode cX11_isYear 4 = .ok (.iload_n 0, 1) := by decide +kernel
theorem dX11_isYear_5 : decode cX11_isYear 5 = .ok (.sipush 400, 3) := by decide +kernel
theorem dX11_isYear_8 : decode cX11_isYear 8 = .ok (.if_icmp .ge 7, 3) := by decide +kernel
theorem dX11_isYear_11 : decode cX11_isYear 11 = .ok (.iconst 1, 1) := by decide +kernel
theorem dX11_isYear_12 : decode cX11_isYear 12 = .ok (.goto 4, 3) := by decide +kernel
theorem dX11_isYear_15 : decode cX11_isYear 15 = .ok (.iconst 0, 1) := by decide +kernel
theorem dX11_isYear_16 : decode cX11_isYear 16 = .ok (.ireturn, 1) := by decide +kernel
theorem dX11_isTongue_0 : decode cX11_isTongue 0 = .ok (.iload_n 0, 1) := by decide +kernel
theorem dX11_isTongue_1 : decode cX11_isTongue 1 = .ok (.ifCond .lt 12, 3) := by decide +kernel
theorem dX11_isTongue_4 : decode cX11_isTongue 4 = .ok (.iload_n 0, 1) := by decide +kernel
theorem dX11_isTongue_5 : decode cX11_isTongue 5 = .ok (.iconst 3, 1) := by decide +kernel
theorem dX11_isTongue_6 : decode cX11_isTongue 6 = .ok (.if_icmp .ge 7, 3) := by decide +kernel
theorem dX11_isTongue_9 : decode cX11_isTongue 9 = .ok (.iconst 1, 1) := by decide +kernel
theorem dX11_isTongue_10 : decode cX11_isTongue 10 = .ok (.goto 4, 3) := by decide +kernel
theorem dX11_isTongue_13 : decode cX11_isTongue 13 = .ok (.iconst 0, 1) := by decide +kernel
theorem dX11_isTongue_14 : decode cX11_isTongue 14 = .ok (.ireturn, 1) := by decide +kernel
theorem dX11_isNumber_0 : decode cX11_isNumber 0 = .ok (.iload_n 0, 1) := by decide +kernel
theorem dX11_isNumber_1 : decode cX11_isNumber 1 = .ok (.ifCond .lt 14, 3) := by decide +kernel
theorem dX11_isNumber_4 : decode cX11_isNumber 4 = .ok (.iload_n 0, 1) := by decide +kernel
theorem dX11_isNumber_5 : decode cX11_isNumber 5 = .ok (.sipush 9999, 3) := by decide +kernel
theorem dX11_isNumber_8 : decode cX11_isNumber 8 = .ok (.if_icmp .gt 7, 3) := by decide +kernel
theorem dX11_isNumber_11 : decode cX11_isNumber 11 = .ok (.iconst 1, 1) := by decide +kernel
theorem dX11_isNumber_12 : decode cX11_isNumber 12 = .ok (.goto 4, 3) := by decide +kernel
theorem dX11_isNumber_15 : decode cX11_isNumber 15 = .ok (.iconst 0, 1) := by decide +kernel
theorem dX11_isNumber_16 : decode cX11_isNumber 16 = .ok (.ireturn, 1) := by decide +kernel
theorem dX11_isSlot_0 : decode cX11_isSlot 0 = .ok (.iload_n 0, 1) := by decide +kernel
theorem dX11_isSlot_1 : decode cX11_isSlot 1 = .ok (.ifCond .lt 12, 3) := by decide +kernel
theorem dX11_isSlot_4 : decode cX11_isSlot 4 = .ok (.iload_n 0, 1) := by decide +kernel
theorem dX11_isSlot_5 : decode cX11_isSlot 5 = .ok (.iconst 4, 1) := by decide +kernel
theorem dX11_isSlot_6 : decode cX11_isSlot 6 = .ok (.if_icmp .ge 7, 3) := by decide +kernel
theorem dX11_isSlot_9 : decode cX11_isSlot 9 = .ok (.iconst 1, 1) := by decide +kernel
theorem dX11_isSlot_10 : decode cX11_isSlot 10 = .ok (.goto 4, 3) := by decide +kernel
theorem dX11_isSlot_13 : decode cX11_isSlot 13 = .ok (.iconst 0, 1) := by decide +kernel
theorem dX11_isSlot_14 : decode cX11_isSlot 14 = .ok (.ireturn, 1) := by decide +kernel
theorem dX11_liesInRow_0 : decode cX11_liesInRow 0 = .ok (.iload_n 2, 1) := by decide +kernel
theorem dX11_liesInRow_1 : decode cX11_liesInRow 1 = .ok (.ifCond .lt 33, 3) := by decide +kernel
theorem dX11_liesInRow_4 : decode cX11_liesInRow 4 = .ok (.iload_n 3, 1) := by decide +kernel
theorem dX11_liesInRow_5 : decode cX11_liesInRow 5 = .ok (.ifCond .lt 29, 3) := by decide +kernel
theorem dX11_liesInRow_8 : decode cX11_liesInRow 8 = .ok (.iload_n 3, 1) := by decide +kernel
theorem dX11_liesInRow_9 : decode cX11_liesInRow 9 = .ok (.aload_n 0, 1) := by decide +kernel
theorem dX11_liesInRow_10 : decode cX11_liesInRow 10 = .ok (.getfield 63, 3) := by decide +kernel
theorem dX11_liesInRow_13 : decode cX11_liesInRow 13 = .ok (.iload_n 1, 1) := by decide +kernel
theorem dX11_liesInRow_14 : decode cX11_liesInRow 14 = .ok (.iaload, 1) := by decide +kernel
theorem dX11_liesInRow_15 : decode cX11_liesInRow 15 = .ok (.if_icmp .gt 19, 3) := by decide +kernel
theorem dX11_liesInRow_18 : decode cX11_liesInRow 18 = .ok (.iload_n 2, 1) := by decide +kernel
theorem dX11_liesInRow_19 : decode cX11_liesInRow 19 = .ok (.aload_n 0, 1) := by decide +kernel
theorem dX11_liesInRow_20 : decode cX11_liesInRow 20 = .ok (.getfield 63, 3) := by decide +kernel
theorem dX11_liesInRow_23 : decode cX11_liesInRow 23 = .ok (.iload_n 1, 1) := by decide +kernel
theorem dX11_liesInRow_24 : decode cX11_liesInRow 24 = .ok (.iaload, 1) := by decide +kernel
theorem dX11_liesInRow_25 : decode cX11_liesInRow 25 = .ok (.iload_n 3, 1) := by decide +kernel
theorem dX11_liesInRow_26 : decode cX11_liesInRow 26 = .ok (.isub, 1) := by decide +kernel
theorem dX11_liesInRow_27 : decode cX11_liesInRow 27 = .ok (.if_icmp .gt 7, 3) := by decide +kernel
theorem dX11_liesInRow_30 : decode cX11_liesInRow 30 = .ok (.iconst 1, 1) := by decide +kernel
theorem dX11_liesInRow_31 : decode cX11_liesInRow 31 = .ok (.goto 4, 3) := by decide +kernel
theorem dX11_liesInRow_34 : decode cX11_liesInRow 34 = .ok (.iconst 0, 1) := by decide +kernel
theorem dX11_liesInRow_35 : decode cX11_liesInRow 35 = .ok (.ireturn, 1) := by decide +kernel
theorem dX11_cut_0 : decode cX11_cut 0 = .ok (.iload_n 2, 1) := by decide +kernel
theorem dX11_cut_1 : decode cX11_cut 1 = .ok (.tableswitch 41 0 2 #[27, 32, 37], 27) := by decide +kernel
theorem dX11_cut_28 : decode cX11_cut 28 = .ok (.lload_n 0, 1) := by decide +kernel
theorem dX11_cut_29 : decode cX11_cut 29 = .ok (.l2i, 1) := by decide +kernel
theorem dX11_cut_30 : decode cX11_cut 30 = .ok (.i2b, 1) := by decide +kernel
theorem dX11_cut_31 : decode cX11_cut 31 = .ok (.i2l, 1) := by decide +kernel
theorem dX11_cut_32 : decode cX11_cut 32 = .ok (.lreturn, 1) := by decide +kernel
theorem dX11_cut_33 : decode cX11_cut 33 = .ok (.lload_n 0, 1) := by decide +kernel
theorem dX11_cut_34 : decode cX11_cut 34 = .ok (.l2i, 1) := by decide +kernel
theorem dX11_cut_35 : decode cX11_cut 35 = .ok (.i2s, 1) := by decide +kernel
theorem dX11_cut_36 : decode cX11_cut 36 = .ok (.i2l, 1) := by decide +kernel
theorem dX11_cut_37 : decode cX11_cut 37 = .ok (.lreturn, 1) := by decide +kernel
theorem dX11_cut_38 : decode cX11_cut 38 = .ok (.lload_n 0, 1) := by decide +kernel
theorem dX11_cut_39 : decode cX11_cut 39 = .ok (.l2i, 1) := by decide +kernel
theorem dX11_cut_40 : decode cX11_cut 40 = .ok (.i2l, 1) := by decide +kernel
theorem dX11_cut_41 : decode cX11_cut 41 = .ok (.lreturn, 1) := by decide +kernel
theorem dX11_cut_42 : decode cX11_cut 42 = .ok (.lload_n 0, 1) := by decide +kernel
theorem dX11_cut_43 : decode cX11_cut 43 = .ok (.lreturn, 1) := by decide +kernel
theorem dX11_countPeople_0 : decode cX11_countPeople 0 = .ok (.lload_n 1, 1) := by decide +kernel
theorem dX11_countPeople_1 : decode cX11_countPeople 1 = .ok (.lconst 0, 1) := by decide +kernel
theorem dX11_countPeople_2 : decode cX11_countPeople 2 = .ok (.lcmp, 1) := by decide +kernel
theorem dX11_countPeople_3 : decode cX11_countPeople 3 = .ok (.ifCond .lt 33, 3) := by decide +kernel
theorem dX11_countPeople_6 : decode cX11_countPeople 6 = .ok (.lload_n 1, 1) := by decide +kernel
theorem dX11_countPeople_7 : decode cX11_countPeople 7 = .ok (.aload_n 0, 1) := by decide +kernel
theorem dX11_countPeople_8 : decode cX11_countPeople 8 = .ok (.getfield 10, 3) := by decide +kernel
theorem dX11_countPeople_11 : decode cX11_countPeople 11 = .ok (.getfield 87, 3) := by decide +kernel
theorem dX11_countPeople_14 : decode cX11_countPeople 14 = .ok (.getfield 324, 3) := by decide +kernel
theorem dX11_countPeople_17 : decode cX11_countPeople 17 = .ok (.i2l, 1) := by decide +kernel
theorem dX11_countPeople_18 : decode cX11_countPeople 18 = .ok (.lcmp, 1) := by decide +kernel
theorem dX11_countPeople_19 : decode cX11_countPeople 19 = .ok (.ifCond .ge 17, 3) := by decide +kernel
theorem dX11_countPeople_22 : decode cX11_countPeople 22 = .ok (.lload_n 3, 1) := by decide +kernel
theorem dX11_countPeople_23 : decode cX11_countPeople 23 = .ok (.lconst 0, 1) := by decide +kernel
theorem dX11_countPeople_24 : decode cX11_countPeople 24 = .ok (.lcmp, 1) := by decide +kernel
theorem dX11_countPeople_25 : decode cX11_countPeople 25 = .ok (.ifCond .lt 11, 3) := by decide +kernel
theorem dX11_countPeople_28 : decode cX11_countPeople 28 = .ok (.lload_n 3, 1) := by decide +kernel
theorem dX11_countPeople_29 : decode cX11_countPeople 29 = .ok (.ldc2_w 360, 3) := by decide +kernel
theorem dX11_countPeople_32 : decode cX11_countPeople 32 = .ok (.lcmp, 1) := by decide +kernel
theorem dX11_countPeople_33 : decode cX11_countPeople 33 = .ok (.ifCond .lt 6, 3) := by decide +kernel
theorem dX11_countPeople_36 : decode cX11_countPeople 36 = .ok (.bipush (-2), 2) := by decide +kernel
theorem dX11_countPeople_38 : decode cX11_countPeople 38 = .ok (.ireturn, 1) := by decide +kernel
theorem dX11_countPeople_39 : decode cX11_countPeople 39 = .ok (.lload 5, 2) := by decide +kernel
theorem dX11_countPeople_41 : decode cX11_countPeople 41 = .ok (.lconst 0, 1) := by decide +kernel
theorem dX11_countPeople_42 : decode cX11_countPeople 42 = .ok (.lcmp, 1) := by decide +kernel
theorem dX11_countPeople_43 : decode cX11_countPeople 43 = .ok (.ifCond .lt 12, 3) := by decide +kernel
theorem dX11_countPeople_46 : decode cX11_countPeople 46 = .ok (.lload 5, 2) := by decide +kernel
theorem dX11_countPeople_48 : decode cX11_countPeople 48 = .ok (.ldc2_w 362, 3) := by decide +kernel
theorem dX11_countPeople_51 : decode cX11_countPeople 51 = .ok (.lcmp, 1) := by decide +kernel
theorem dX11_countPeople_52 : decode cX11_countPeople 52 = .ok (.ifCond .le 6, 3) := by decide +kernel
theorem dX11_countPeople_55 : decode cX11_countPeople 55 = .ok (.bipush (-2), 2) := by decide +kernel
theorem dX11_countPeople_57 : decode cX11_countPeople 57 = .ok (.ireturn, 1) := by decide +kernel
theorem dX11_countPeople_58 : decode cX11_countPeople 58 = .ok (.aload_n 0, 1) := by decide +kernel
theorem dX11_countPeople_59 : decode cX11_countPeople 59 = .ok (.getfield 10, 3) := by decide +kernel
theorem dX11_countPeople_62 : decode cX11_countPeople 62 = .ok (.getfield 87, 3) := by decide +kernel
theorem dX11_countPeople_65 : decode cX11_countPeople 65 = .ok (.lload_n 1, 1) := by decide +kernel
theorem dX11_countPeople_66 : decode cX11_countPeople 66 = .ok (.l2i, 1) := by decide +kernel
theorem dX11_countPeople_67 : decode cX11_countPeople 67 = .ok (.lload_n 3, 1) := by decide +kernel
theorem dX11_countPeople_68 : decode cX11_countPeople 68 = .ok (.l2i, 1) := by decide +kernel
theorem dX11_countPeople_69 : decode cX11_countPeople 69 = .ok (.lload 5, 2) := by decide +kernel
theorem dX11_countPeople_71 : decode cX11_countPeople 71 = .ok (.l2i, 1) := by decide +kernel
theorem dX11_countPeople_72 : decode cX11_countPeople 72 = .ok (.aload_n 0, 1) := by decide +kernel
theorem dX11_countPeople_73 : decode cX11_countPeople 73 = .ok (.getfield 10, 3) := by decide +kernel
theorem dX11_countPeople_76 : decode cX11_countPeople 76 = .ok (.getfield 84, 3) := by decide +kernel
theorem dX11_countPeople_79 : decode cX11_countPeople 79 = .ok (.invokevirtual 364, 3) := by decide +kernel
theorem dX11_countPeople_82 : decode cX11_countPeople 82 = .ok (.ifCond .ne 6, 3) := by decide +kernel
theorem dX11_countPeople_85 : decode cX11_countPeople 85 = .ok (.bipush (-3), 2) := by decide +kernel
theorem dX11_countPeople_87 : decode cX11_countPeople 87 = .ok (.ireturn, 1) := by decide +kernel
theorem dX11_countPeople_88 : decode cX11_countPeople 88 = .ok (.aload_n 0, 1) := by decide +kernel
theorem dX11_countPeople_89 : decode cX11_countPeople 89 = .ok (.getfield 10, 3) := by decide +kernel
theorem dX11_countPeople_92 : decode cX11_countPeople 92 = .ok (.invokevirtual 108, 3) := by decide +kernel
theorem dX11_countPeople_95 : decode cX11_countPeople 95 = .ok (.iconst 0, 1) := by decide +kernel
theorem dX11_countPeople_96 : decode cX11_countPeople 96 = .ok (.ireturn, 1) := by decide +kernel
theorem dX11_taken_0 : decode cX11_taken 0 = .ok (.aload_n 0, 1) := by decide +kernel
theorem dX11_taken_1 : decode cX11_taken 1 = .ok (.getfield 23, 3) := by decide +kernel
theorem dX11_taken_4 : decode cX11_taken 4 = .ok (.iconst 0, 1) := by decide +kernel
theorem dX11_taken_5 : decode cX11_taken 5 = .ok (.putfield 72, 3) := by decide +kernel
theorem dX11_taken_8 : decode cX11_taken 8 = .ok (.aload_n 0, 1) := by decide +kernel
theorem dX11_taken_9 : decode cX11_taken 9 = .ok (.getfield 23, 3) := by decide +kernel
theorem dX11_taken_12 : decode cX11_taken 12 = .ok (.getfield 173, 3) := by decide +kernel
theorem dX11_taken_15 : decode cX11_taken 15 = .ok (.ifCond .eq 6, 3) := by decide +kernel
theorem dX11_taken_18 : decode cX11_taken 18 = .ok (.bipush (-4), 2) := by decide +kernel
theorem dX11_taken_20 : decode cX11_taken 20 = .ok (.ireturn, 1) := by decide +kernel
theorem dX11_taken_21 : decode cX11_taken 21 = .ok (.aload_n 0, 1) := by decide +kernel
theorem dX11_taken_22 : decode cX11_taken 22 = .ok (.getfield 10, 3) := by decide +kernel
theorem dX11_taken_25 : decode cX11_taken 25 = .ok (.invokevirtual 108, 3) := by decide +kernel
theorem dX11_taken_28 : decode cX11_taken 28 = .ok (.iload_n 1, 1) := by decide +kernel
theorem dX11_taken_29 : decode cX11_taken 29 = .ok (.ireturn, 1) := by decide +kernel
theorem dX11_copyFlags_0 : decode cX11_copyFlags 0 = .ok (.iconst 0, 1) := by decide +kernel
theorem dX11_copyFlags_1 : decode cX11_copyFlags 1 = .ok (.istore_n 3, 1) := by decide +kernel
theorem dX11_copyFlags_2 : decode cX11_copyFlags 2 = .ok (.iload_n 3, 1) := by decide +kernel
theorem dX11_copyFlags_3 : decode cX11_copyFlags 3 = .ok (.iload_n 2, 1) := by decide +kernel
theorem dX11_copyFlags_4 : decode cX11_copyFlags 4 = .ok (.if_icmp .ge 27, 3) := by decide +kernel
theorem dX11_copyFlags_7 : decode cX11_copyFlags 7 = .ok (.iload_n 3, 1) := by decide +kernel
theorem dX11_copyFlags_8 : decode cX11_copyFlags 8 = .ok (.aload_n 0, 1) := by decide +kernel
theorem dX11_copyFlags_9 : decode cX11_copyFlags 9 = .ok (.arraylength, 1) := by decide +kernel
theorem dX11_copyFlags_10 : decode cX11_copyFlags 10 = .ok (.if_icmp .ge 21, 3) := by decide +kernel
theorem dX11_copyFlags_13 : decode cX11_copyFlags 13 = .ok (.iload_n 3, 1) := by decide +kernel
theorem dX11_copyFlags_14 : decode cX11_copyFlags 14 = .ok (.aload_n 1, 1) := by decide +kernel
theorem dX11_copyFlags_15 : decode cX11_copyFlags 15 = .ok (.arraylength, 1) := by decide +kernel
theorem dX11_copyFlags_16 : decode cX11_copyFlags 16 = .ok (.if_icmp .ge 15, 3) := by decide +kernel
theorem dX11_copyFlags_19 : decode cX11_copyFlags 19 = .ok (.aload_n 1, 1) := by decide +kernel
theorem dX11_copyFlags_20 : decode cX11_copyFlags 20 = .ok (.iload_n 3, 1) := by decide +kernel
theorem dX11_copyFlags_21 : decode cX11_copyFlags 21 = .ok (.aload_n 0, 1) := by decide +kernel
theorem dX11_copyFlags_22 : decode cX11_copyFlags 22 = .ok (.iload_n 3, 1) := by decide +kernel
theorem dX11_copyFlags_23 : decode cX11_copyFlags 23 = .ok (.baload, 1) := by decide +kernel
theorem dX11_copyFlags_24 : decode cX11_copyFlags 24 = .ok (.bastore, 1) := by decide +kernel
theorem dX11_copyFlags_25 : decode cX11_copyFlags 25 = .ok (.iinc 3 1, 3) := by decide +kernel
theorem dX11_copyFlags_28 : decode cX11_copyFlags 28 = .ok (.goto (-26), 3) := by decide +kernel
theorem dX11_copyFlags_31 : decode cX11_copyFlags 31 = .ok (.return_, 1) := by decide +kernel
theorem dX11_rowsHad_0 : decode cX11_rowsHad 0 = .ok (.iconst 0, 1) := by decide +kernel
theorem dX11_rowsHad_1 : decode cX11_rowsHad 1 = .ok (.istore_n 1, 1) := by decide +kernel
theorem dX11_rowsHad_2 : decode cX11_rowsHad 2 = .ok (.iconst 0, 1) := by decide +kernel
theorem dX11_rowsHad_3 : decode cX11_rowsHad 3 = .ok (.istore_n 2, 1) := by decide +kernel
theorem dX11_rowsHad_4 : decode cX11_rowsHad 4 = .ok (.iload_n 2, 1) := by decide +kernel
theorem dX11_rowsHad_5 : decode cX11_rowsHad 5 = .ok (.iconst 4, 1) := by decide +kernel
theorem dX11_rowsHad_6 : decode cX11_rowsHad 6 = .ok (.if_icmp .ge 22, 3) := by decide +kernel
theorem dX11_rowsHad_9 : decode cX11_rowsHad 9 = .ok (.aload_n 0, 1) := by decide +kernel
theorem dX11_rowsHad_10 : decode cX11_rowsHad 10 = .ok (.getfield 63, 3) := by decide +kernel
theorem dX11_rowsHad_13 : decode cX11_rowsHad 13 = .ok (.iload_n 2, 1) := by decide +kernel
theorem dX11_rowsHad_14 : decode cX11_rowsHad 14 = .ok (.iaload, 1) := by decide +kernel
theorem dX11_rowsHad_15 : decode cX11_rowsHad 15 = .ok (.iconst (-1), 1) := by decide +kernel
theorem dX11_rowsHad_16 : decode cX11_rowsHad 16 = .ok (.if_icmp .eq 6, 3) := by decide +kernel
theorem dX11_rowsHad_19 : decode cX11_rowsHad 19 = .ok (.iinc 1 1, 3) := by decide +kernel
theorem dX11_rowsHad_22 : decode cX11_rowsHad 22 = .ok (.iinc 2 1, 3) := by decide +kernel
theorem dX11_rowsHad_25 : decode cX11_rowsHad 25 = .ok (.goto (-21), 3) := by decide +kernel
theorem dX11_rowsHad_28 : decode cX11_rowsHad 28 = .ok (.iload_n 1, 1) := by decide +kernel
theorem dX11_rowsHad_29 : decode cX11_rowsHad 29 = .ok (.ireturn, 1) := by decide +kernel
theorem dX12_in_0 : decode cX12_in 0 = .ok (.lload_n 0, 1) := by decide +kernel
theorem dX12_in_1 : decode cX12_in 1 = .ok (.lload_n 2, 1) := by decide +kernel
theorem dX12_in_2 : decode cX12_in 2 = .ok (.lcmp, 1) := by decide +kernel
theorem dX12_in_3 : decode cX12_in 3 = .ok (.ifCond .lt 14, 3) := by decide +kernel
theorem dX12_in_6 : decode cX12_in 6 = .ok (.lload_n 0, 1) := by decide +kernel
theorem dX12_in_7 : decode cX12_in 7 = .ok (.lload 4, 2) := by decide +kernel
theorem dX12_in_9 : decode cX12_in 9 = .ok (.lcmp, 1) := by decide +kernel
theorem dX12_in_10 : decode cX12_in 10 = .ok (.ifCond .gt 7, 3) := by decide +kernel
theorem dX12_in_13 : decode cX12_in 13 = .ok (.iconst 1, 1) := by decide +kernel
theorem dX12_in_14 : decode cX12_in 14 = .ok (.goto 4, 3) := by decide +kernel
theorem dX12_in_17 : decode cX12_in 17 = .ok (.iconst 0, 1) := by decide +kernel
theorem dX12_in_18 : decode cX12_in 18 = .ok (.ireturn, 1) := by decide +kernel
theorem dX12_keep_0 : decode cX12_keep 0 = .ok (.iload_n 1, 1) := by decide +kernel
theorem dX12_keep_1 : decode cX12_keep 1 = .ok (.i2l, 1) := by decide +kernel
theorem dX12_keep_2 : decode cX12_keep 2 = .ok (.lconst 0, 1) := by decide +kernel
theorem dX12_keep_3 : decode cX12_keep 3 = .ok (.ldc2_w 123, 3) := by decide +kernel
theorem dX12_keep_6 : decode cX12_keep 6 = .ok (.invokestatic 125, 3) := by decide +kernel
theorem dX12_keep_9 : decode cX12_keep 9 = .ok (.ifCond .ne 6, 3) := by decide +kernel
theorem dX12_keep_12 : decode cX12_keep 12 = .ok (.bipush (-2), 2) := by decide +kernel
theorem dX12_keep_14 : decode cX12_keep 14 = .ok (.ireturn, 1) := by decide +kernel
theorem dX12_keep_15 : decode cX12_keep 15 = .ok (.iconst 0, 1) := by decide +kernel
theorem dX12_keep_16 : decode cX12_keep 16 = .ok (.istore_n 2, 1) := by decide +kernel
theorem dX12_keep_17 : decode cX12_keep 17 = .ok (.iload_n 2, 1) := by decide +kernel
theorem dX12_keep_18 : decode cX12_keep 18 = .ok (.sipush 11570, 3) := by decide +kernel
theorem dX12_keep_21 : decode cX12_keep 21 = .ok (.if_icmp .ge 27, 3) := by decide +kernel
theorem dX12_keep_24 : decode cX12_keep 24 = .ok (.aload_n 0, 1) := by decide +kernel
theorem dX12_keep_25 : decode cX12_keep 25 = .ok (.getfield 14, 3) := by decide +kernel
theorem dX12_keep_28 : decode cX12_keep 28 = .ok (.sipush 11570, 3) := by decide +kernel
theorem dX12_keep_31 : decode cX12_keep 31 = .ok (.iload_n 1, 1) := by decide +kernel
theorem dX12_keep_32 : decode cX12_keep 32 = .ok (.imul, 1) := by decide +kernel
theorem dX12_keep_33 : decode cX12_keep 33 = .ok (.iload_n 2, 1) := by decide +kernel
theorem dX12_keep_34 : decode cX12_keep 34 = .ok (.iadd, 1) := by decide +kernel
theorem dX12_keep_35 : decode cX12_keep 35 = .ok (.aload_n 0, 1) := by decide +kernel
theorem dX12_keep_36 : decode cX12_keep 36 = .ok (.getfield 9, 3) := by decide +kernel
theorem dX12_keep_39 : decode cX12_keep 39 = .ok (.iload_n 2, 1) := by decide +kernel
theorem dX12_keep_40 : decode cX12_keep 40 = .ok (.iaload, 1) := by decide +kernel
theorem dX12_keep_41 : decode cX12_keep 41 = .ok (.iastore, 1) := by decide +kernel
theorem dX12_keep_42 : decode cX12_keep 42 = .ok (.iinc 2 1, 3) := by decide +kernel
theorem dX12_keep_45 : decode cX12_keep 45 = .ok (.goto (-28), 3) := by decide +kernel
theorem dX12_keep_48 : decode cX12_keep 48 = .ok (.aload_n 0, 1) := by decide +kernel
theorem dX12_keep_49 : decode cX12_keep 49 = .ok (.getfield 17, 3) := by decide +kernel
theorem dX12_keep_52 : decode cX12_keep 52 = .ok (.iload_n 1, 1) := by decide +kernel
theorem dX12_keep_53 : decode cX12_keep 53 = .ok (.iconst 1, 1) := by decide +kernel
theorem dX12_keep_54 : decode cX12_keep 54 = .ok (.bastore, 1) := by decide +kernel
theorem dX12_keep_55 : decode cX12_keep 55 = .ok (.iconst 0, 1) := by decide +kernel
theorem dX12_keep_56 : decode cX12_keep 56 = .ok (.ireturn, 1) := by decide +kernel
theorem dX12_back_0 : decode cX12_back 0 = .ok (.iload_n 1, 1) := by decide +kernel
theorem dX12_back_1 : decode cX12_back 1 = .ok (.i2l, 1) := by decide +kernel
theorem dX12_back_2 : decode cX12_back 2 = .ok (.lconst 0, 1) := by decide +kernel
theorem dX12_back_3 : decode cX12_back 3 = .ok (.ldc2_w 123, 3) := by decide +kernel
theorem dX12_back_6 : decode cX12_back 6 = .ok (.invokestatic 125, 3) := by decide +kernel
theorem dX12_back_9 : decode cX12_back 9 = .ok (.ifCond .ne 6, 3) := by decide +kernel
theorem dX12_back_12 : decode cX12_back 12 = .ok (.bipush (-2), 2) := by decide +kernel
theorem dX12_back_14 : decode cX12_back 14 = .ok (.ireturn, 1) := by decide +kernel
theorem dX12_back_15 : decode cX12_back 15 = .ok (.aload_n 0, 1) := by decide +kernel
theorem dX12_back_16 : decode cX12_back 16 = .ok (.getfield 17, 3) := by decide +kernel
theorem dX12_back_19 : decode cX12_back 19 = .ok (.iload_n 1, 1) := by decide +kernel
theorem dX12_back_20 : decode cX12_back 20 = .ok (.baload, 1) := by decide +kernel
theorem dX12_back_21 : decode cX12_back 21 = .ok (.ifCond .ne 6, 3) := by decide +kernel
theorem dX12_back_24 : decode cX12_back 24 = .ok (.bipush (-6), 2) := by decide +kernel
theorem dX12_back_26 : decode cX12_back 26 = .ok (.ireturn, 1) := by decide +kernel
theorem dX12_back_27 : decode cX12_back 27 = .ok (.iconst 0, 1) := by decide +kernel
theorem dX12_back_28 : decode cX12_back 28 = .ok (.istore_n 2, 1) := by decide +kernel
theorem dX12_back_29 : decode cX12_back 29 = .ok (.iload_n 2, 1) := by decide +kernel
theorem dX12_back_30 : decode cX12_back 30 = .ok (.sipush 11570, 3) := by decide +kernel
theorem dX12_back_33 : decode cX12_back 33 = .ok (.if_icmp .ge 27, 3) := by decide +kernel
theorem dX12_back_36 : decode cX12_back 36 = .ok (.aload_n 0, 1) := by decide +kernel
theorem dX12_back_37 : decode cX12_back 37 = .ok (.getfield 9, 3) := by decide +kernel
theorem dX12_back_40 : decode cX12_back 40 = .ok (.iload_n 2, 1) := by decide +kernel
theorem dX12_back_41 : decode cX12_back 41 = .ok (.aload_n 0, 1) := by decide +kernel
theorem dX12_back_42 : decode cX12_back 42 = .ok (.getfield 14, 3) := by decide +kernel
theorem dX12_back_45 : decode cX12_back 45 = .ok (.sipush 11570, 3) := by decide +kernel
theorem dX12_back_48 : decode cX12_back 48 = .ok (.iload_n 1, 1) := by decide +kernel
theorem dX12_back_49 : decode cX12_back 49 = .ok (.imul, 1) := by decide +kernel
theorem dX12_back_50 : decode cX12_back 50 = .ok (.iload_n 2, 1) := by decide +kernel
theorem dX12_back_51 : decode cX12_back 51 = .ok (.iadd, 1) := by decide +kernel
theorem dX12_back_52 : decode cX12_back 52 = .ok (.iaload, 1) := by decide +kernel
theorem dX12_back_53 : decode cX12_back 53 = .ok (.iastore, 1) := by decide +kernel
theorem dX12_back_54 : decode cX12_back 54 = .ok (.iinc 2 1, 3) := by decide +kernel
theorem dX12_back_57 : decode cX12_back 57 = .ok (.goto (-28), 3) := by decide +kernel
theorem dX12_back_60 : decode cX12_back 60 = .ok (.iconst 0, 1) := by decide +kernel
theorem dX12_back_61 : decode cX12_back 61 = .ok (.ireturn, 1) := by decide +kernel
theorem dX12_now_0 : decode cX12_now 0 = .ok (.aload_n 0, 1) := by decide +kernel
theorem dX12_now_1 : decode cX12_now 1 = .ok (.getfield 9, 3) := by decide +kernel
theorem dX12_now_4 : decode cX12_now 4 = .ok (.iconst 0, 1) := by decide +kernel
theorem dX12_now_5 : decode cX12_now 5 = .ok (.iaload, 1) := by decide +kernel
theorem dX12_now_6 : decode cX12_now 6 = .ok (.ireturn, 1) := by decide +kernel
theorem dX12_isPlace_0 : decode cX12_isPlace 0 = .ok (.iload_n 1, 1) := by decide +kernel
theorem dX12_isPlace_1 : decode cX12_isPlace 1 = .ok (.i2l, 1) := by decide +kernel
theorem dX12_isPlace_2 : decode cX12_isPlace 2 = .ok (.lconst 0, 1) := by decide +kernel
theorem dX12_isPlace_3 : decode cX12_isPlace 3 = .ok (.aload_n 0, 1) := by decide +kernel
theorem dX12_isPlace_4 : decode cX12_isPlace 4 = .ok (.getfield 9, 3) := by decide +kernel
theorem dX12_isPlace_7 : decode cX12_isPlace 7 = .ok (.iconst 1, 1) := by decide +kernel
theorem dX12_isPlace_8 : decode cX12_isPlace 8 = .ok (.iaload, 1) := by decide +kernel
theorem dX12_isPlace_9 : decode cX12_isPlace 9 = .ok (.iconst 1, 1) := by decide +kernel
theorem dX12_isPlace_10 : decode cX12_isPlace 10 = .ok (.isub, 1) := by decide +kernel
theorem dX12_isPlace_11 : decode cX12_isPlace 11 = .ok (.i2l, 1) := by decide +kernel
theorem dX12_isPlace_12 : decode cX12_isPlace 12 = .ok (.invokestatic 125, 3) := by decide +kernel
theorem dX12_isPlace_15 : decode cX12_isPlace 15 = .ok (.ireturn, 1) := by decide +kernel
theorem dX12_isName_0 : decode cX12_isName 0 = .ok (.iload_n 1, 1) := by decide +kernel
theorem dX12_isName_1 : decode cX12_isName 1 = .ok (.i2l, 1) := by decide +kernel
theorem dX12_isName_2 : decode cX12_isName 2 = .ok (.lconst 0, 1) := by decide +kernel
theorem dX12_isName_3 : decode cX12_isName 3 = .ok (.aload_n 0, 1) := by decide +kernel
theorem dX12_isName_4 : decode cX12_isName 4 = .ok (.getfield 9, 3) := by decide +kernel
theorem dX12_isName_7 : decode cX12_isName 7 = .ok (.iconst 2, 1) := by decide +kernel
theorem dX12_isName_8 : decode cX12_isName 8 = .ok (.iaload, 1) := by decide +kernel
theorem dX12_isName_9 : decode cX12_isName 9 = .ok (.iconst 1, 1) := by decide +kernel
theorem dX12_isName_10 : decode cX12_isName 10 = .ok (.isub, 1) := by decide +kernel
theorem dX12_isName_11 : decode cX12_isName 11 = .ok (.i2l, 1) := by decide +kernel
theorem dX12_isName_12 : decode cX12_isName 12 = .ok (.invokestatic 125, 3) := by decide +kernel
theorem dX12_isName_15 : decode cX12_isName 15 = .ok (.ireturn, 1) := by decide +kernel
theorem dX12_isTongue_0 : decode cX12_isTongue 0 = .ok (.iload_n 0, 1) := by decide +kernel
theorem dX12_isTongue_1 : decode cX12_isTongue 1 = .ok (.i2l, 1) := by decide +kernel
theorem dX12_isTongue_2 : decode cX12_isTongue 2 = .ok (.lconst 0, 1) := by decide +kernel
theorem dX12_isTongue_3 : decode cX12_isTongue 3 = .ok (.ldc2_w 123, 3) := by decide +kernel
theorem dX12_isTongue_6 : decode cX12_isTongue 6 = .ok (.invokestatic 125, 3) := by decide +kernel
theorem dX12_isTongue_9 : decode cX12_isTongue 9 = .ok (.ireturn, 1) := by decide +kernel
theorem dX12_isYear_0 : decode cX12_isYear 0 = .ok (.iload_n 0, 1) := by decide +kernel
theorem dX12_isYear_1 : decode cX12_isYear 1 = .ok (.i2l, 1) := by decide +kernel
theorem dX12_isYear_2 : decode cX12_isYear 2 = .ok (.lconst 0, 1) := by decide +kernel
theorem dX12_isYear_3 : decode cX12_isYear 3 = .ok (.ldc2_w 129, 3) := by decide +kernel
theorem dX12_isYear_6 : decode cX12_isYear 6 = .ok (.invokestatic 125, 3) := by decide +kernel
theorem dX12_isYear_9 : decode cX12_isYear 9 = .ok (.ireturn, 1) := by decide +kernel
theorem dX12_nameIs_0 : decode cX12_nameIs 0 = .ok (.aload_n 0, 1) := by decide +kernel
theorem dX12_nameIs_1 : decode cX12_nameIs 1 = .ok (.getfield 9, 3) := by decide +kernel
theorem dX12_nameIs_4 : decode cX12_nameIs 4 = .ok (.bipush 90, 2) := by decide +kernel
theorem dX12_nameIs_6 : decode cX12_nameIs 6 = .ok (.bipush 16, 2) := by decide +kernel
theorem dX12_nameIs_8 : decode cX12_nameIs 8 = .ok (.iload_n 1, 1) := by decide +kernel
theorem dX12_nameIs_9 : decode cX12_nameIs 9 = .ok (.imul, 1) := by decide +kernel
theorem dX12_nameIs_10 : decode cX12_nameIs 10 = .ok (.iadd, 1) := by decide +kernel
theorem dX12_nameIs_11 : decode cX12_nameIs 11 = .ok (.iload_n 2, 1) := by decide +kernel
theorem dX12_nameIs_12 : decode cX12_nameIs 12 = .ok (.iadd, 1) := by decide +kernel
theorem dX12_nameIs_13 : decode cX12_nameIs 13 = .ok (.iaload, 1) := by decide +kernel
theorem dX12_nameIs_14 : decode cX12_nameIs 14 = .ok (.ireturn, 1) := by decide +kernel
theorem dX12_feed_0 : decode cX12_feed 0 = .ok (.aload_n 0, 1) := by decide +kernel
theorem dX12_feed_1 : decode cX12_feed 1 = .ok (.getfield 131, 3) := by decide +kernel
theorem dX12_feed_4 : decode cX12_feed 4 = .ok (.bipush 20, 2) := by decide +kernel
theorem dX12_feed_6 : decode cX12_feed 6 = .ok (.iadd, 1) := by decide +kernel
theorem dX12_feed_7 : decode cX12_feed 7 = .ok (.sipush 500, 3) := by decide +kernel
theorem dX12_feed_10 : decode cX12_feed 10 = .ok (.if_icmp .le 5, 3) := by decide +kernel
theorem dX12_feed_13 : decode cX12_feed 13 = .ok (.iconst (-1), 1) := by decide +kernel
theorem dX12_feed_14 : decode cX12_feed 14 = .ok (.ireturn, 1) := by decide +kernel
theorem dX12_feed_15 : decode cX12_feed 15 = .ok (.aload_n 0, 1) := by decide +kernel
theorem dX12_feed_16 : decode cX12_feed 16 = .ok (.getfield 25, 3) := by decide +kernel
theorem dX12_feed_19 : decode cX12_feed 19 = .ok (.iconst 0, 1) := by decide +kernel
theorem dX12_feed_20 : decode cX12_feed 20 = .ok (.iload_n 1, 1) := by decide +kernel
theorem dX12_feed_21 : decode cX12_feed 21 = .ok (.iastore, 1) := by decide +kernel
theorem dX12_feed_22 : decode cX12_feed 22 = .ok (.aload_n 0, 1) := by decide +kernel
theorem dX12_feed_23 : decode cX12_feed 23 = .ok (.getfield 25, 3) := by decide +kernel
theorem dX12_feed_26 : decode cX12_feed 26 = .ok (.iconst 1, 1) := by decide +kernel
theorem dX12_feed_27 : decode cX12_feed 27 = .ok (.iload_n 2, 1) := by decide +kernel
theorem dX12_feed_28 : decode cX12_feed 28 = .ok (.iastore, 1) := by decide +kernel
theorem dX12_feed_29 : decode cX12_feed 29 = .ok (.aload_n 0, 1) := by decide +kernel
theorem dX12_feed_30 : decode cX12_feed 30 = .ok (.getfield 25, 3) := by decide +kernel
theorem dX12_feed_33 : decode cX12_feed 33 = .ok (.iconst 2, 1) := by decide +kernel
theorem dX12_feed_34 : decode cX12_feed 34 = .ok (.iload_n 3, 1) := by decide +kernel
theorem dX12_feed_35 : decode cX12_feed 35 = .ok (.iastore, 1) := by decide +kernel
theorem dX12_feed_36 : decode cX12_feed 36 = .ok (.aload_n 0, 1) := by decide +kernel
theorem dX12_feed_37 : decode cX12_feed 37 = .ok (.getfield 25, 3) := by decide +kernel
theorem dX12_feed_40 : decode cX12_feed 40 = .ok (.iconst 3, 1) := by decide +kernel
theorem dX12_feed_41 : decode cX12_feed 41 = .ok (.iload 4, 2) := by decide +kernel
theorem dX12_feed_43 : decode cX12_feed 43 = .ok (.iastore, 1) := by decide +kernel
theorem dX12_feed_44 : decode cX12_feed 44 = .ok (.aload_n 0, 1) := by decide +kernel
theorem dX12_feed_45 : decode cX12_feed 45 = .ok (.getfield 25, 3) := by decide +kernel
theorem dX12_feed_48 : decode cX12_feed 48 = .ok (.iconst 4, 1) := by decide +kernel
theorem dX12_feed_49 : decode cX12_feed 49 = .ok (.iload 5, 2) := by decide +kernel
theorem dX12_feed_51 : decode cX12_feed 51 = .ok (.iastore, 1) := by decide +kernel
theorem dX12_feed_52 : decode cX12_feed 52 = .ok (.iconst 0, 1) := by decide +kernel
theorem dX12_feed_53 : decode cX12_feed 53 = .ok (.istore 6, 2) := by decide +kernel
theorem dX12_feed_55 : decode cX12_feed 55 = .ok (.iload 6, 2) := by decide +kernel
theorem dX12_feed_57 : decode cX12_feed 57 = .ok (.bipush 20, 2) := by decide +kernel
theorem dX12_feed_59 : decode cX12_feed 59 = .ok (.if_icmp .ge 42, 3) := by decide +kernel
theorem dX12_feed_62 : decode cX12_feed 62 = .ok (.aload_n 0, 1) := by decide +kernel
theorem dX12_feed_63 : decode cX12_feed 63 = .ok (.getfield 21, 3) := by decide +kernel
theorem dX12_feed_66 : decode cX12_feed 66 = .ok (.aload_n 0, 1) := by decide +kernel
theorem dX12_feed_67 : decode cX12_feed 67 = .ok (.getfield 131, 3) := by decide +kernel
theorem dX12_feed_70 : decode cX12_feed 70 = .ok (.iload 6, 2) := by decide +kernel
theorem dX12_feed_72 : decode cX12_feed 72 = .ok (.iadd, 1) := by decide +kernel
theorem dX12_feed_73 : decode cX12_feed 73 = .ok (.aload_n 0, 1) := by decide +kernel
theorem dX12_feed_74 : decode cX12_feed 74 = .ok (.getfield 25, 3) := by decide +kernel
theorem dX12_feed_77 : decode cX12_feed 77 = .ok (.iload 6, 2) := by decide +kernel
theorem dX12_feed_79 : decode cX12_feed 79 = .ok (.iconst 4, 1) := by decide +kernel
theorem dX12_feed_80 : decode cX12_feed 80 = .ok (.idiv, 1) := by decide +kernel
theorem dX12_feed_81 : decode cX12_feed 81 = .ok (.iaload, 1) := by decide +kernel
theorem dX12_feed_82 : decode cX12_feed 82 = .ok (.bipush 24, 2) := by decide +kernel
theorem dX12_feed_84 : decode cX12_feed 84 = .ok (.bipush 8, 2) := by decide +kernel
theorem dX12_feed_86 : decode cX12_feed 86 = .ok (.iload 6, 2) := by decide +kernel
theorem dX12_feed_88 : decode cX12_feed 88 = .ok (.iconst 4, 1) := by decide +kernel
theorem dX12_feed_89 : decode cX12_feed 89 = .ok (.irem, 1) := by decide +kernel
theorem dX12_feed_90 : decode cX12_feed 90 = .ok (.imul, 1) := by decide +kernel
theorem dX12_feed_91 : decode cX12_feed 91 = .ok (.isub, 1) := by decide +kernel
theorem dX12_feed_92 : decode cX12_feed 92 = .ok (.ishr, 1) := by decide +kernel
theorem dX12_feed_93 : decode cX12_feed 93 = .ok (.i2b, 1) := by decide +kernel
theorem dX12_feed_94 : decode cX12_feed 94 = .ok (.bastore, 1) := by decide +kernel
theorem dX12_feed_95 : decode cX12_feed 95 = .ok (.iinc 6 1, 3) := by decide +kernel
theorem dX12_feed_98 : decode cX12_feed 98 = .ok (.goto (-43), 3) := by decide +kernel
theorem dX12_feed_101 : decode cX12_feed 101 = .ok (.aload_n 0, 1) := by decide +kernel
theorem dX12_feed_102 : decode cX12_feed 102 = .ok (.dup, 1) := by decide +kernel
theorem dX12_feed_103 : decode cX12_feed 103 = .ok (.getfield 131, 3) := by decide +kernel
theorem dX12_feed_106 : decode cX12_feed 106 = .ok (.bipush 20, 2) := by decide +kernel
theorem dX12_feed_108 : decode cX12_feed 108 = .ok (.iadd, 1) := by decide +kernel
theorem dX12_feed_109 : decode cX12_feed 109 = .ok (.putfield 131, 3) := by decide +kernel
theorem dX12_feed_112 : decode cX12_feed 112 = .ok (.aload_n 0, 1) := by decide +kernel
theorem dX12_feed_113 : decode cX12_feed 113 = .ok (.getfield 131, 3) := by decide +kernel
theorem dX12_feed_116 : decode cX12_feed 116 = .ok (.ireturn, 1) := by decide +kernel
theorem dX12_end_0 : decode cX12_end 0 = .ok (.iload_n 1, 1) := by decide +kernel
theorem dX12_end_1 : decode cX12_end 1 = .ok (.i2l, 1) := by decide +kernel
theorem dX12_end_2 : decode cX12_end 2 = .ok (.lconst 0, 1) := by decide +kernel
theorem dX12_end_3 : decode cX12_end 3 = .ok (.aload_n 0, 1) := by decide +kernel
theorem dX12_end_4 : decode cX12_end 4 = .ok (.getfield 131, 3) := by decide +kernel
theorem dX12_end_7 : decode cX12_end 7 = .ok (.i2l, 1) := by decide +kernel
theorem dX12_end_8 : decode cX12_end 8 = .ok (.invokestatic 125, 3) := by decide +kernel
theorem dX12_end_11 : decode cX12_end 11 = .ok (.ifCond .ne 5, 3) := by decide +kernel
theorem dX12_end_14 : decode cX12_end 14 = .ok (.iconst (-1), 1) := by decide +kernel
theorem dX12_end_15 : decode cX12_end 15 = .ok (.ireturn, 1) := by decide +kernel
theorem dX12_end_16 : decode cX12_end 16 = .ok (.aload_n 0, 1) := by decide +kernel
theorem dX12_end_17 : decode cX12_end 17 = .ok (.iload_n 1, 1) := by decide +kernel
theorem dX12_end_18 : decode cX12_end 18 = .ok (.putfield 131, 3) := by decide +kernel
theorem dX12_end_21 : decode cX12_end 21 = .ok (.iload_n 1, 1) := by decide +kernel
theorem dX12_end_22 : decode cX12_end 22 = .ok (.ireturn, 1) := by decide +kernel
theorem dX12_isLetters_0 : decode cX12_isLetters 0 = .ok (.aload_n 0, 1) := by decide +kernel
theorem dX12_isLetters_1 : decode cX12_isLetters 1 = .ok (.getfield 131, 3) := by decide +kernel
theorem dX12_isLetters_4 : decode cX12_isLetters 4 = .ok (.i2l, 1) := by decide +kernel
theorem dX12_isLetters_5 : decode cX12_isLetters 5 = .ok (.lconst 1, 1) := by decide +kernel
theorem dX12_isLetters_6 : decode cX12_isLetters 6 = .ok (.iload_n 1, 1) := by decide +kernel
theorem dX12_isLetters_7 : decode cX12_isLetters 7 = .ok (.i2l, 1) := by decide +kernel
theorem dX12_isLetters_8 : decode cX12_isLetters 8 = .ok (.invokestatic 125, 3) := by decide +kernel
theorem dX12_isLetters_11 : decode cX12_isLetters 11 = .ok (.ifCond .ne 5, 3) := by decide +kernel
theorem dX12_isLetters_14 : decode cX12_isLetters 14 = .ok (.iconst 0, 1) := by decide +kernel
theorem dX12_isLetters_15 : decode cX12_isLetters 15 = .ok (.ireturn, 1) := by decide +kernel
theorem dX12_isLetters_16 : decode cX12_isLetters 16 = .ok (.iconst 0, 1) := by decide +kernel
theorem dX12_isLetters_17 : decode cX12_isLetters 17 = .ok (.istore_n 2, 1) := by decide +kernel
theorem dX12_isLetters_18 : decode cX12_isLetters 18 = .ok (.iload_n 2, 1) := by decide +kernel
theorem dX12_isLetters_19 : decode cX12_isLetters 19 = .ok (.aload_n 0, 1) := by decide +kernel
theorem dX12_isLetters_20 : decode cX12_isLetters 20 = .ok (.getfield 131, 3) := by decide +kernel
theorem dX12_isLetters_23 : decode cX12_isLetters 23 = .ok (.if_icmp .ge 30, 3) := by decide +kernel
theorem dX12_isLetters_26 : decode cX12_isLetters 26 = .ok (.aload_n 0, 1) := by decide +kernel
theorem dX12_isLetters_27 : decode cX12_isLetters 27 = .ok (.getfield 21, 3) := by decide +kernel
theorem dX12_isLetters_30 : decode cX12_isLetters 30 = .ok (.iload_n 2, 1) := by decide +kernel
theorem dX12_isLetters_31 : decode cX12_isLetters 31 = .ok (.baload, 1) := by decide +kernel
theorem dX12_isLetters_32 : decode cX12_isLetters 32 = .ok (.i2l, 1) := by decide +kernel
theorem dX12_isLetters_33 : decode cX12_isLetters 33 = .ok (.ldc2_w 134, 3) := by decide +kernel
theorem dX12_isLetters_36 : decode cX12_isLetters 36 = .ok (.ldc2_w 136, 3) := by decide +kernel
theorem dX12_isLetters_39 : decode cX12_isLetters 39 = .ok (.invokestatic 125, 3) := by decide +kernel
theorem dX12_isLetters_42 : decode cX12_isLetters 42 = .ok (.ifCond .ne 5, 3) := by decide +kernel
theorem dX12_isLetters_45 : decode cX12_isLetters 45 = .ok (.iconst 0, 1) := by decide +kernel
theorem dX12_isLetters_46 : decode cX12_isLetters 46 = .ok (.ireturn, 1) := by decide +kernel
theorem dX12_isLetters_47 : decode cX12_isLetters 47 = .ok (.iinc 2 1, 3) := by decide +kernel
theorem dX12_isLetters_50 : decode cX12_isLetters 50 = .ok (.goto (-32), 3) := by decide +kernel
theorem dX12_isLetters_53 : decode cX12_isLetters 53 = .ok (.iconst 1, 1) := by decide +kernel
theorem dX12_isLetters_54 : decode cX12_isLetters 54 = .ok (.ireturn, 1) := by decide +kernel
theorem dX12_next_0 : decode cX12_next 0 = .ok (.iload_n 1, 1) := by decide +kernel
theorem dX12_next_1 : decode cX12_next 1 = .ok (.i2l, 1) := by decide +kernel
theorem dX12_next_2 : decode cX12_next 2 = .ok (.lconst 0, 1) := by decide +kernel
theorem dX12_next_3 : decode cX12_next 3 = .ok (.ldc2_w 129, 3) := by decide +kernel
theorem dX12_next_6 : decode cX12_next 6 = .ok (.invokestatic 125, 3) := by decide +kernel
theorem dX12_next_9 : decode cX12_next 9 = .ok (.ifCond .eq 15, 3) := by decide +kernel
theorem dX12_next_12 : decode cX12_next 12 = .ok (.aload_n 0, 1) := by decide +kernel
theorem dX12_next_13 : decode cX12_next 13 = .ok (.invokevirtual 138, 3) := by decide +kernel
theorem dX12_next_16 : decode cX12_next 16 = .ok (.iload_n 1, 1) := by decide +kernel
theorem dX12_next_17 : decode cX12_next 17 = .ok (.iadd, 1) := by decide +kernel
theorem dX12_next_18 : decode cX12_next 18 = .ok (.sipush 399, 3) := by decide +kernel
theorem dX12_next_21 : decode cX12_next 21 = .ok (.if_icmp .le 5, 3) := by decide +kernel
theorem dX12_next_24 : decode cX12_next 24 = .ok (.iconst (-1), 1) := by decide +kernel
theorem dX12_next_25 : decode cX12_next 25 = .ok (.ireturn, 1) := by decide +kernel
theorem dX12_next_26 : decode cX12_next 26 = .ok (.aload_n 0, 1) := by decide +kernel
theorem dX12_next_27 : decode cX12_next 27 = .ok (.getfield 9, 3) := by decide +kernel
theorem dX12_next_30 : decode cX12_next 30 = .ok (.iconst 0, 1) := by decide +kernel
theorem dX12_next_31 : decode cX12_next 31 = .ok (.dup2, 1) := by decide +kernel
theorem dX12_next_32 : decode cX12_next 32 = .ok (.iaload, 1) := by decide +kernel
theorem dX12_next_33 : decode cX12_next 33 = .ok (.iload_n 1, 1) := by decide +kernel
theorem dX12_next_34 : decode cX12_next 34 = .ok (.iadd, 1) := by decide +kernel
theorem dX12_next_35 : decode cX12_next 35 = .ok (.iastore, 1) := by decide +kernel
theorem dX12_next_36 : decode cX12_next 36 = .ok (.aload_n 0, 1) := by decide +kernel
theorem dX12_next_37 : decode cX12_next 37 = .ok (.invokevirtual 138, 3) := by decide +kernel
theorem dX12_next_40 : decode cX12_next 40 = .ok (.ireturn, 1) := by decide +kernel
theorem dX12_place_0 : decode cX12_place 0 = .ok (.iload_n 1, 1) := by decide +kernel
theorem dX12_place_1 : decode cX12_place 1 = .ok (.i2l, 1) := by decide +kernel
theorem dX12_place_2 : decode cX12_place 2 = .ok (.lconst 0, 1) := by decide +kernel
theorem dX12_place_3 : decode cX12_place 3 = .ok (.ldc2_w 142, 3) := by decide +kernel
theorem dX12_place_6 : decode cX12_place 6 = .ok (.invokestatic 125, 3) := by decide +kernel
theorem dX12_place_9 : decode cX12_place 9 = .ok (.ifCond .eq 15, 3) := by decide +kernel
theorem dX12_place_12 : decode cX12_place 12 = .ok (.iload_n 2, 1) := by decide +kernel
theorem dX12_place_13 : decode cX12_place 13 = .ok (.i2l, 1) := by decide +kernel
theorem dX12_place_14 : decode cX12_place 14 = .ok (.lconst 0, 1) := by decide +kernel
theorem dX12_place_15 : decode cX12_place 15 = .ok (.ldc2_w 142, 3) := by decide +kernel
theorem dX12_place_18 : decode cX12_place 18 = .ok (.invokestatic 125, 3) := by decide +kernel
theorem dX12_place_21 : decode cX12_place 21 = .ok (.ifCond .ne 6, 3) := by decide +kernel
theorem dX12_place_24 : decode cX12_place 24 = .ok (.bipush (-2), 2) := by decide +kernel
theorem dX12_place_26 : decode cX12_place 26 = .ok (.ireturn, 1) := by decide +kernel
theorem dX12_place_27 : decode cX12_place 27 = .ok (.aload_n 0, 1) := by decide +kernel
theorem dX12_place_28 : decode cX12_place 28 = .ok (.getfield 9, 3) := by decide +kernel
theorem dX12_place_31 : decode cX12_place 31 = .ok (.iconst 1, 1) := by decide +kernel
theorem dX12_place_32 : decode cX12_place 32 = .ok (.iaload, 1) := by decide +kernel
theorem dX12_place_33 : decode cX12_place 33 = .ok (.istore_n 3, 1) := by decide +kernel
theorem dX12_place_34 : decode cX12_place 34 = .ok (.iload_n 3, 1) := by decide +kernel
theorem dX12_place_35 : decode cX12_place 35 = .ok (.bipush 40, 2) := by decide +kernel
theorem dX12_place_37 : decode cX12_place 37 = .ok (.if_icmp .ne 6, 3) := by decide +kernel
theorem dX12_place_40 : decode cX12_place 40 = .ok (.bipush (-3), 2) := by decide +kernel
theorem dX12_place_42 : decode cX12_place 42 = .ok (.ireturn, 1) := by decide +kernel
theorem dX12_place_43 : decode cX12_place 43 = .ok (.aload_n 0, 1) := by decide +kernel
theorem dX12_place_44 : decode cX12_place 44 = .ok (.getfield 9, 3) := by decide +kernel
theorem dX12_place_47 : decode cX12_place 47 = .ok (.bipush 10, 2) := by decide +kernel
theorem dX12_place_49 : decode cX12_place 49 = .ok (.iconst 2, 1) := by decide +kernel
theorem dX12_place_50 : decode cX12_place 50 = .ok (.iload_n 3, 1) := by decide +kernel
theorem dX12_place_51 : decode cX12_place 51 = .ok (.imul, 1) := by decide +kernel
theorem dX12_place_52 : decode cX12_place 52 = .ok (.iadd, 1) := by decide +kernel
theorem dX12_place_53 : decode cX12_place 53 = .ok (.iload_n 1, 1) := by decide +kernel
theorem dX12_place_54 : decode cX12_place 54 = .ok (.iastore, 1) := by decide +kernel
theorem dX12_place_55 : decode cX12_place 55 = .ok (.aload_n 0, 1) := by decide +kernel
theorem dX12_place_56 : decode cX12_place 56 = .ok (.getfield 9, 3) := by decide +kernel
theorem dX12_place_59 : decode cX12_place 59 = .ok (.bipush 10, 2) := by decide +kernel
theorem dX12_place_61 : decode cX12_place 61 = .ok (.iconst 2, 1) := by decide +kernel
theorem dX12_place_62 : decode cX12_place 62 = .ok (.iload_n 3, 1) := by decide +kernel
theorem dX12_place_63 : decode cX12_place 63 = .ok (.imul, 1) := by decide +kernel
theorem dX12_place_64 : decode cX12_place 64 = .ok (.iadd, 1) := by decide +kernel
theorem dX12_place_65 : decode cX12_place 65 = .ok (.iconst 1, 1) := by decide +kernel
theorem dX12_place_66 : decode cX12_place 66 = .ok (.iadd, 1) := by decide +kernel
theorem dX12_place_67 : decode cX12_place 67 = .ok (.iload_n 2, 1) := by decide +kernel
theorem dX12_place_68 : decode cX12_place 68 = .ok (.iastore, 1) := by decide +kernel
theorem dX12_place_69 : decode cX12_place 69 = .ok (.aload_n 0, 1) := by decide +kernel
theorem dX12_place_70 : decode cX12_place 70 = .ok (.getfield 9, 3) := by decide +kernel
theorem dX12_place_73 : decode cX12_place 73 = .ok (.iconst 1, 1) := by decide +kernel
theorem dX12_place_74 : decode cX12_place 74 = .ok (.dup2, 1) := by decide +kernel
theorem dX12_place_75 : decode cX12_place 75 = .ok (.iaload, 1) := by decide +kernel
theorem dX12_place_76 : decode cX12_place 76 = .ok (.iconst 1, 1) := by decide +kernel
theorem dX12_place_77 : decode cX12_place 77 = .ok (.iadd, 1) := by decide +kernel
theorem dX12_place_78 : decode cX12_place 78 = .ok (.iastore, 1) := by decide +kernel
theorem dX12_place_79 : decode cX12_place 79 = .ok (.iload_n 3, 1) := by decide +kernel
theorem dX12_place_80 : decode cX12_place 80 = .ok (.ireturn, 1) := by decide +kernel
theorem dX12_looks_0 : decode cX12_looks 0 = .ok (.iconst 0, 1) := by decide +kernel
theorem dX12_looks_1 : decode cX12_looks 1 = .ok (.istore_n 2, 1) := by decide +kernel
theorem dX12_looks_2 : decode cX12_looks 2 = .ok (.iload_n 2, 1) := by decide +kernel
theorem dX12_looks_3 : decode cX12_looks 3 = .ok (.bipush 40, 2) := by decide +kernel
theorem dX12_looks_5 : decode cX12_looks 5 = .ok (.if_icmp .ge 16, 3) := by decide +kernel
theorem dX12_looks_8 : decode cX12_looks 8 = .ok (.aload_n 0, 1) := by decide +kernel
theorem dX12_looks_9 : decode cX12_looks 9 = .ok (.getfield 28, 3) := by decide +kernel
theorem dX12_looks_12 : decode cX12_looks 12 = .ok (.iload_n 2, 1) := by decide +kernel
theorem dX12_looks_13 : decode cX12_looks 13 = .ok (.iconst (-1), 1) := by decide +kernel
theorem dX12_looks_14 : decode cX12_looks 14 = .ok (.iastore, 1) := by decide +kernel
theorem dX12_looks_15 : decode cX12_looks 15 = .ok (.iinc 2 1, 3) := by decide +kernel
theorem dX12_looks_18 : decode cX12_looks 18 = .ok (.goto (-16), 3) := by decide +kernel
theorem dX12_looks_21 : decode cX12_looks 21 = .ok (.iconst 0, 1) := by decide +kernel
theorem dX12_looks_22 : decode cX12_looks 22 = .ok (.istore_n 2, 1) := by decide +kernel
theorem dX12_looks_23 : decode cX12_looks 23 = .ok (.iload_n 2, 1) := by decide +kernel
theorem dX12_looks_24 : decode cX12_looks 24 = .ok (.bipush 120, 2) := by decide +kernel
theorem dX12_looks_26 : decode cX12_looks 26 = .ok (.if_icmp .ge 16, 3) := by decide +kernel
theorem dX12_looks_29 : decode cX12_looks 29 = .ok (.aload_n 0, 1) := by decide +kernel
theorem dX12_looks_30 : decode cX12_looks 30 = .ok (.getfield 31, 3) := by decide +kernel
theorem dX12_looks_33 : decode cX12_looks 33 = .ok (.iload_n 2, 1) := by decide +kernel
theorem dX12_looks_34 : decode cX12_looks 34 = .ok (.iconst 0, 1) := by decide +kernel
theorem dX12_looks_35 : decode cX12_looks 35 = .ok (.iastore, 1) := by decide +kernel
theorem dX12_looks_36 : decode cX12_looks 36 = .ok (.iinc 2 1, 3) := by decide +kernel
theorem dX12_looks_39 : decode cX12_looks 39 = .ok (.goto (-16), 3) := by decide +kernel
theorem dX12_looks_42 : decode cX12_looks 42 = .ok (.iconst 0, 1) := by decide +kernel
theorem dX12_looks_43 : decode cX12_looks 43 = .ok (.istore_n 2, 1) := by decide +kernel
theorem dX12_looks_44 : decode cX12_looks 44 = .ok (.iload_n 2, 1) := by decide +kernel
theorem dX12_looks_45 : decode cX12_looks 45 = .ok (.aload_n 0, 1) := by decide +kernel
theorem dX12_looks_46 : decode cX12_looks 46 = .ok (.getfield 9, 3) := by decide +kernel
theorem dX12_looks_49 : decode cX12_looks 49 = .ok (.bipush 8, 2) := by decide +kernel
theorem dX12_looks_51 : decode cX12_looks 51 = .ok (.iaload, 1) := by decide +kernel
theorem dX12_looks_52 : decode cX12_looks 52 = .ok (.if_icmp .ge 58, 3) := by decide +kernel
theorem dX12_looks_55 : decode cX12_looks 55 = .ok (.aload_n 0, 1) := by decide +kernel
theorem dX12_looks_56 : decode cX12_looks 56 = .ok (.getfield 9, 3) := by decide +kernel
theorem dX12_looks_59 : decode cX12_looks 59 = .ok (.sipush 7610, 3) := by decide +kernel
theorem dX12_looks_62 : decode cX12_looks 62 = .ok (.iconst 3, 1) := by decide +kernel
theorem dX12_looks_63 : decode cX12_looks 63 = .ok (.iload_n 2, 1) := by decide +kernel
theorem dX12_looks_64 : decode cX12_looks 64 = .ok (.imul, 1) := by decide +kernel
theorem dX12_looks_65 : decode cX12_looks 65 = .ok (.iadd, 1) := by decide +kernel
theorem dX12_looks_66 : decode cX12_looks 66 = .ok (.iconst 2, 1) := by decide +kernel
theorem dX12_looks_67 : decode cX12_looks 67 = .ok (.iadd, 1) := by decide +kernel
theorem dX12_looks_68 : decode cX12_looks 68 = .ok (.iaload, 1) := by decide +kernel
theorem dX12_looks_69 : decode cX12_looks 69 = .ok (.iload_n 1, 1) := by decide +kernel
theorem dX12_looks_70 : decode cX12_looks 70 = .ok (.if_icmp .gt 34, 3) := by decide +kernel
theorem dX12_looks_73 : decode cX12_looks 73 = .ok (.aload_n 0, 1) := by decide +kernel
theorem dX12_looks_74 : decode cX12_looks 74 = .ok (.getfield 28, 3) := by decide +kernel
theorem dX12_looks_77 : decode cX12_looks 77 = .ok (.aload_n 0, 1) := by decide +kernel
theorem dX12_looks_78 : decode cX12_looks 78 = .ok (.getfield 9, 3) := by decide +kernel
theorem dX12_looks_81 : decode cX12_looks 81 = .ok (.sipush 7610, 3) := by decide +kernel
theorem dX12_looks_84 : decode cX12_looks 84 = .ok (.iconst 3, 1) := by decide +kernel
theorem dX12_looks_85 : decode cX12_looks 85 = .ok (.iload_n 2, 1) := by decide +kernel
theorem dX12_looks_86 : decode cX12_looks 86 = .ok (.imul, 1) := by decide +kernel
theorem dX12_looks_87 : decode cX12_looks 87 = .ok (.iadd, 1) := by decide +kernel
theorem dX12_looks_88 : decode cX12_looks 88 = .ok (.iaload, 1) := by decide +kernel
theorem dX12_looks_89 : decode cX12_looks 89 = .ok (.aload_n 0, 1) := by decide +kernel
theorem dX12_looks_90 : decode cX12_looks 90 = .ok (.getfield 9, 3) := by decide +kernel
theorem dX12_looks_93 : decode cX12_looks 93 = .ok (.sipush 7610, 3) := by decide +kernel
theorem dX12_looks_96 : decode cX12_looks 96 = .ok (.iconst 3, 1) := by decide +kernel
theorem dX12_looks_97 : decode cX12_looks 97 = .ok (.iload_n 2, 1) := by decide +kernel
theorem dX12_looks_98 : decode cX12_looks 98 = .ok (.imul, 1) := by decide +kernel
theorem dX12_looks_99 : decode cX12_looks 99 = .ok (.iadd, 1) := by decide +kernel
theorem dX12_looks_100 : decode cX12_looks 100 = .ok (.iconst 1, 1) := by decide +kernel
theorem dX12_looks_101 : decode cX12_looks 101 = .ok (.iadd, 1) := by decide +kernel
theorem dX12_looks_102 : decode cX12_looks 102 = .ok (.iaload, 1) := by decide +kernel
theorem dX12_looks_103 : decode cX12_looks 103 = .ok (.iastore, 1) := by decide +kernel
theorem dX12_looks_104 : decode cX12_looks 104 = .ok (.iinc 2 1, 3) := by decide +kernel
theorem dX12_looks_107 : decode cX12_looks 107 = .ok (.goto (-63), 3) := by decide +kernel
theorem dX12_looks_110 : decode cX12_looks 110 = .ok (.iconst 0, 1) := by decide +kernel
theorem dX12_looks_111 : decode cX12_looks 111 = .ok (.istore_n 2, 1) := by decide +kernel
theorem dX12_looks_112 : decode cX12_looks 112 = .ok (.iload_n 2, 1) := by decide +kernel
theorem dX12_looks_113 : decode cX12_looks 113 = .ok (.aload_n 0, 1) := by decide +kernel
theorem dX12_looks_114 : decode cX12_looks 114 = .ok (.getfield 9, 3) := by decide +kernel
theorem dX12_looks_117 : decode cX12_looks 117 = .ok (.bipush 6, 2) := by decide +kernel
theorem dX12_looks_119 : decode cX12_looks 119 = .ok (.iaload, 1) := by decide +kernel
theorem dX12_looks_120 : decode cX12_looks 120 = .ok (.if_icmp .ge 75, 3) := by decide +kernel
theorem dX12_looks_123 : decode cX12_looks 123 = .ok (.aload_n 0, 1) := by decide +kernel
theorem dX12_looks_124 : decode cX12_looks 124 = .ok (.getfield 9, 3) := by decide +kernel
theorem dX12_looks_127 : decode cX12_looks 127 = .ok (.sipush 6690, 3) := by decide +kernel
theorem dX12_looks_130 : decode cX12_looks 130 = .ok (.iconst 4, 1) := by decide +kernel
theorem dX12_looks_131 : decode cX12_looks 131 = .ok (.iload_n 2, 1) := by decide +kernel
theorem dX12_looks_132 : decode cX12_looks 132 = .ok (.imul, 1) := by decide +kernel
theorem dX12_looks_133 : decode cX12_looks 133 = .ok (.iadd, 1) := by decide +kernel
theorem dX12_looks_134 : decode cX12_looks 134 = .ok (.iconst 3, 1) := by decide +kernel
theorem dX12_looks_135 : decode cX12_looks 135 = .ok (.iadd, 1) := by decide +kernel
theorem dX12_looks_136 : decode cX12_looks 136 = .ok (.iaload, 1) := by decide +kernel
theorem dX12_looks_137 : decode cX12_looks 137 = .ok (.iload_n 1, 1) := by decide +kernel
theorem dX12_looks_138 : decode cX12_looks 138 = .ok (.if_icmp .gt 51, 3) := by decide +kernel
theorem dX12_looks_141 : decode cX12_looks 141 = .ok (.aload_n 0, 1) := by decide +kernel
theorem dX12_looks_142 : decode cX12_looks 142 = .ok (.getfield 31, 3) := by decide +kernel
theorem dX12_looks_145 : decode cX12_looks 145 = .ok (.iconst 3, 1) := by decide +kernel
theorem dX12_looks_146 : decode cX12_looks 146 = .ok (.aload_n 0, 1) := by decide +kernel
theorem dX12_looks_147 : decode cX12_looks 147 = .ok (.getfield 9, 3) := by decide +kernel
theorem dX12_looks_150 : decode cX12_looks 150 = .ok (.sipush 6690, 3) := by decide +kernel
theorem dX12_looks_153 : decode cX12_looks 153 = .ok (.iconst 4, 1) := by decide +kernel
