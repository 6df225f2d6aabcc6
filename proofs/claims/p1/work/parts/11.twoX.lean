theorem dX8_isSlot_0 : decode cX8_isSlot 0 = .ok (.iload_n 0, 1) := by decide +kernel
theorem dX8_isSlot_1 : decode cX8_isSlot 1 = .ok (.i2l, 1) := by decide +kernel
theorem dX8_isSlot_2 : decode cX8_isSlot 2 = .ok (.lconst 0, 1) := by decide +kernel
theorem dX8_isSlot_3 : decode cX8_isSlot 3 = .ok (.ldc2_w 482, 3) := by decide +kernel
theorem dX8_isSlot_6 : decode cX8_isSlot 6 = .ok (.invokestatic 104, 3) := by decide +kernel
theorem dX8_isSlot_9 : decode cX8_isSlot 9 = .ok (.ireturn, 1) := by decide +kernel
theorem dX8_asksSightings_0 : decode cX8_asksSightings 0 = .ok (.iload_n 1, 1) := by decide +kernel
theorem dX8_asksSightings_1 : decode cX8_asksSightings 1 = .ok (.invokestatic 416, 3) := by decide +kernel
theorem dX8_asksSightings_4 : decode cX8_asksSightings 4 = .ok (.ifCond .eq 14, 3) := by decide +kernel
theorem dX8_asksSightings_7 : decode cX8_asksSightings 7 = .ok (.aload_n 0, 1) := by decide +kernel
theorem dX8_asksSightings_8 : decode cX8_asksSightings 8 = .ok (.invokevirtual 108, 3) := by decide +kernel
theorem dX8_asksSightings_11 : decode cX8_asksSightings 11 = .ok (.ifCond .eq 7, 3) := by decide +kernel
theorem dX8_asksSightings_18 : decode cX8_asksSightings 18 = .ok (.bipush (-2), 2) := by decide +kernel
theorem dX8_asksSightings_20 : decode cX8_asksSightings 20 = .ok (.ireturn, 1) := by decide +kernel
theorem dX7_at_0 : decode cX7_at 0 = .ok (.aload_n 0, 1) := by decide +kernel
theorem dX7_at_1 : decode cX7_at 1 = .ok (.iload_n 1, 1) := by decide +kernel
theorem dX7_at_2 : decode cX7_at 2 = .ok (.invokevirtual 128, 3) := by decide +kernel
theorem dX7_at_5 : decode cX7_at 5 = .ok (.ifCond .ne 11, 3) := by decide +kernel
theorem dX7_at_16 : decode cX7_at 16 = .ok (.bipush (-2), 2) := by decide +kernel
theorem dX7_at_18 : decode cX7_at 18 = .ok (.ireturn, 1) := by decide +kernel
theorem dX7_sees_0 : decode cX7_sees 0 = .ok (.aload_n 0, 1) := by decide +kernel
theorem dX7_sees_1 : decode cX7_sees 1 = .ok (.iload_n 1, 1) := by decide +kernel
theorem dX7_sees_2 : decode cX7_sees 2 = .ok (.invokevirtual 128, 3) := by decide +kernel
theorem dX7_sees_5 : decode cX7_sees 5 = .ok (.ifCond .ne 19, 3) := by decide +kernel
theorem dX7_sees_24 : decode cX7_sees 24 = .ok (.bipush (-2), 2) := by decide +kernel
theorem dX7_sees_26 : decode cX7_sees 26 = .ok (.ireturn, 1) := by decide +kernel
theorem dX7_looks_0 : decode cX7_looks 0 = .ok (.aload_n 0, 1) := by decide +kernel
theorem dX7_looks_1 : decode cX7_looks 1 = .ok (.iload_n 1, 1) := by decide +kernel
theorem dX7_looks_2 : decode cX7_looks 2 = .ok (.invokevirtual 128, 3) := by decide +kernel
theorem dX7_looks_5 : decode cX7_looks 5 = .ok (.ifCond .ne 19, 3) := by decide +kernel
theorem dX7_looks_24 : decode cX7_looks 24 = .ok (.bipush (-2), 2) := by decide +kernel
theorem dX7_looks_26 : decode cX7_looks 26 = .ok (.ireturn, 1) := by decide +kernel
theorem dX7_eyes_0 : decode cX7_eyes 0 = .ok (.aload_n 0, 1) := by decide +kernel
theorem dX7_eyes_1 : decode cX7_eyes 1 = .ok (.iload_n 1, 1) := by decide +kernel
theorem dX7_eyes_2 : decode cX7_eyes 2 = .ok (.invokevirtual 121, 3) := by decide +kernel
theorem dX7_eyes_5 : decode cX7_eyes 5 = .ok (.ifCond .ne 11, 3) := by decide +kernel
theorem dX7_eyes_16 : decode cX7_eyes 16 = .ok (.bipush (-2), 2) := by decide +kernel
theorem dX7_eyes_18 : decode cX7_eyes 18 = .ok (.ireturn, 1) := by decide +kernel
theorem dX7_shows_0 : decode cX7_shows 0 = .ok (.aload_n 0, 1) := by decide +kernel
theorem dX7_shows_1 : decode cX7_shows 1 = .ok (.iload_n 1, 1) := by decide +kernel
theorem dX7_shows_2 : decode cX7_shows 2 = .ok (.iload_n 2, 1) := by decide +kernel
theorem dX7_shows_3 : decode cX7_shows 3 = .ok (.invokevirtual 172, 3) := by decide +kernel
theorem dX7_shows_6 : decode cX7_shows 6 = .ok (.ifCond .eq 6, 3) := by decide +kernel
theorem dX7_shows_9 : decode cX7_shows 9 = .ok (.bipush (-2), 2) := by decide +kernel
theorem dX7_shows_11 : decode cX7_shows 11 = .ok (.ireturn, 1) := by decide +kernel
theorem dX7_value_0 : decode cX7_value 0 = .ok (.aload_n 0, 1) := by decide +kernel
theorem dX7_value_1 : decode cX7_value 1 = .ok (.iload_n 1, 1) := by decide +kernel
theorem dX7_value_2 : decode cX7_value 2 = .ok (.iload_n 2, 1) := by decide +kernel
theorem dX7_value_3 : decode cX7_value 3 = .ok (.invokevirtual 172, 3) := by decide +kernel
theorem dX7_value_6 : decode cX7_value 6 = .ok (.ifCond .ne 12, 3) := by decide +kernel
theorem dX7_value_18 : decode cX7_value 18 = .ok (.bipush (-2), 2) := by decide +kernel
theorem dX7_value_20 : decode cX7_value 20 = .ok (.ireturn, 1) := by decide +kernel
theorem dX7_still_0 : decode cX7_still 0 = .ok (.aload_n 0, 1) := by decide +kernel
theorem dX7_still_1 : decode cX7_still 1 = .ok (.iload_n 1, 1) := by decide +kernel
theorem dX7_still_2 : decode cX7_still 2 = .ok (.invokevirtual 121, 3) := by decide +kernel
theorem dX7_still_5 : decode cX7_still 5 = .ok (.ifCond .ne 12, 3) := by decide +kernel
theorem dX7_still_17 : decode cX7_still 17 = .ok (.bipush (-2), 2) := by decide +kernel
theorem dX7_still_19 : decode cX7_still 19 = .ok (.ireturn, 1) := by decide +kernel
theorem dX7_open_0 : decode cX7_open 0 = .ok (.aload_n 0, 1) := by decide +kernel
theorem dX7_open_1 : decode cX7_open 1 = .ok (.invokevirtual 208, 3) := by decide +kernel
theorem dX7_open_4 : decode cX7_open 4 = .ok (.ifCond .eq 6, 3) := by decide +kernel
theorem dX7_open_7 : decode cX7_open 7 = .ok (.bipush (-2), 2) := by decide +kernel
theorem dX7_open_9 : decode cX7_open 9 = .ok (.ireturn, 1) := by decide +kernel
theorem dX7_opens_0 : decode cX7_opens 0 = .ok (.aload_n 0, 1) := by decide +kernel
theorem dX7_opens_1 : decode cX7_opens 1 = .ok (.invokevirtual 208, 3) := by decide +kernel
theorem dX7_opens_4 : decode cX7_opens 4 = .ok (.ifCond .eq 6, 3) := by decide +kernel
theorem dX7_opens_7 : decode cX7_opens 7 = .ok (.bipush (-2), 2) := by decide +kernel
theorem dX7_opens_9 : decode cX7_opens 9 = .ok (.ireturn, 1) := by decide +kernel
theorem dX7_bell_0 : decode cX7_bell 0 = .ok (.aload_n 0, 1) := by decide +kernel
theorem dX7_bell_1 : decode cX7_bell 1 = .ok (.invokevirtual 208, 3) := by decide +kernel
theorem dX7_bell_4 : decode cX7_bell 4 = .ok (.ifCond .ne 11, 3) := by decide +kernel
theorem dX7_bell_15 : decode cX7_bell 15 = .ok (.bipush (-2), 2) := by decide +kernel
theorem dX7_bell_17 : decode cX7_bell 17 = .ok (.ireturn, 1) := by decide +kernel
theorem dX7_courses_0 : decode cX7_courses 0 = .ok (.aload_n 0, 1) := by decide +kernel
theorem dX7_courses_1 : decode cX7_courses 1 = .ok (.invokevirtual 208, 3) := by decide +kernel
theorem dX7_courses_4 : decode cX7_courses 4 = .ok (.ifCond .eq 6, 3) := by decide +kernel
theorem dX7_courses_7 : decode cX7_courses 7 = .ok (.bipush (-2), 2) := by decide +kernel
theorem dX7_courses_9 : decode cX7_courses 9 = .ok (.ireturn, 1) := by decide +kernel
theorem dX7_among_0 : decode cX7_among 0 = .ok (.aload_n 0, 1) := by decide +kernel
theorem dX7_among_1 : decode cX7_among 1 = .ok (.iload_n 1, 1) := by decide +kernel
theorem dX7_among_2 : decode cX7_among 2 = .ok (.iload_n 2, 1) := by decide +kernel
theorem dX7_among_3 : decode cX7_among 3 = .ok (.invokevirtual 172, 3) := by decide +kernel
theorem dX7_among_6 : decode cX7_among 6 = .ok (.ifCond .eq 6, 3) := by decide +kernel
theorem dX7_among_9 : decode cX7_among 9 = .ok (.bipush (-2), 2) := by decide +kernel
theorem dX7_among_11 : decode cX7_among 11 = .ok (.ireturn, 1) := by decide +kernel
theorem dX7_sure_0 : decode cX7_sure 0 = .ok (.aload_n 0, 1) := by decide +kernel
theorem dX7_sure_1 : decode cX7_sure 1 = .ok (.iload_n 2, 1) := by decide +kernel
theorem dX7_sure_2 : decode cX7_sure 2 = .ok (.iload_n 3, 1) := by decide +kernel
theorem dX7_sure_3 : decode cX7_sure 3 = .ok (.invokevirtual 172, 3) := by decide +kernel
theorem dX7_sure_6 : decode cX7_sure 6 = .ok (.ifCond .eq 6, 3) := by decide +kernel
theorem dX7_sure_9 : decode cX7_sure 9 = .ok (.bipush (-2), 2) := by decide +kernel
theorem dX7_sure_11 : decode cX7_sure 11 = .ok (.ireturn, 1) := by decide +kernel
theorem dX7_needs_0 : decode cX7_needs 0 = .ok (.aload_n 0, 1) := by decide +kernel
theorem dX7_needs_1 : decode cX7_needs 1 = .ok (.iload_n 2, 1) := by decide +kernel
theorem dX7_needs_2 : decode cX7_needs 2 = .ok (.iload_n 3, 1) := by decide +kernel
theorem dX7_needs_3 : decode cX7_needs 3 = .ok (.invokevirtual 172, 3) := by decide +kernel
theorem dX7_needs_6 : decode cX7_needs 6 = .ok (.ifCond .ne 24, 3) := by decide +kernel
theorem dX7_needs_30 : decode cX7_needs 30 = .ok (.bipush (-2), 2) := by decide +kernel
theorem dX7_needs_32 : decode cX7_needs 32 = .ok (.ireturn, 1) := by decide +kernel
theorem dX7_knows_0 : decode cX7_knows 0 = .ok (.aload_n 0, 1) := by decide +kernel
theorem dX7_knows_1 : decode cX7_knows 1 = .ok (.iload_n 1, 1) := by decide +kernel
theorem dX7_knows_2 : decode cX7_knows 2 = .ok (.invokevirtual 128, 3) := by decide +kernel
theorem dX7_knows_5 : decode cX7_knows 5 = .ok (.ifCond .ne 12, 3) := by decide +kernel
theorem dX7_knows_17 : decode cX7_knows 17 = .ok (.bipush (-2), 2) := by decide +kernel
theorem dX7_knows_19 : decode cX7_knows 19 = .ok (.ireturn, 1) := by decide +kernel
theorem dX7_common_0 : decode cX7_common 0 = .ok (.aload_n 0, 1) := by decide +kernel
theorem dX7_common_1 : decode cX7_common 1 = .ok (.iload_n 2, 1) := by decide +kernel
theorem dX7_common_2 : decode cX7_common 2 = .ok (.iload_n 3, 1) := by decide +kernel
theorem dX7_common_3 : decode cX7_common 3 = .ok (.invokevirtual 172, 3) := by decide +kernel
theorem dX7_common_6 : decode cX7_common 6 = .ok (.ifCond .ne 20, 3) := by decide +kernel
theorem dX7_common_26 : decode cX7_common 26 = .ok (.bipush (-2), 2) := by decide +kernel
theorem dX7_common_28 : decode cX7_common 28 = .ok (.ireturn, 1) := by decide +kernel
theorem dX7_alike_0 : decode cX7_alike 0 = .ok (.aload_n 0, 1) := by decide +kernel
theorem dX7_alike_1 : decode cX7_alike 1 = .ok (.iload_n 1, 1) := by decide +kernel
theorem dX7_alike_2 : decode cX7_alike 2 = .ok (.invokevirtual 128, 3) := by decide +kernel
theorem dX7_alike_5 : decode cX7_alike 5 = .ok (.ifCond .eq 6, 3) := by decide +kernel
theorem dX7_alike_8 : decode cX7_alike 8 = .ok (.bipush (-2), 2) := by decide +kernel
theorem dX7_alike_10 : decode cX7_alike 10 = .ok (.ireturn, 1) := by decide +kernel
theorem dX7_lie_0 : decode cX7_lie 0 = .ok (.aload_n 0, 1) := by decide +kernel
theorem dX7_lie_1 : decode cX7_lie 1 = .ok (.iload_n 1, 1) := by decide +kernel
theorem dX7_lie_2 : decode cX7_lie 2 = .ok (.invokevirtual 128, 3) := by decide +kernel
theorem dX7_lie_5 : decode cX7_lie 5 = .ok (.ifCond .ne 12, 3) := by decide +kernel
theorem dX7_lie_17 : decode cX7_lie 17 = .ok (.bipush (-2), 2) := by decide +kernel
theorem dX7_lie_19 : decode cX7_lie 19 = .ok (.ireturn, 1) := by decide +kernel
theorem dX7_shown_0 : decode cX7_shown 0 = .ok (.aload_n 0, 1) := by decide +kernel
theorem dX7_shown_1 : decode cX7_shown 1 = .ok (.iload_n 1, 1) := by decide +kernel
theorem dX7_shown_2 : decode cX7_shown 2 = .ok (.invokevirtual 128, 3) := by decide +kernel
theorem dX7_shown_5 : decode cX7_shown 5 = .ok (.ifCond .ne 12, 3) := by decide +kernel
theorem dX7_shown_17 : decode cX7_shown 17 = .ok (.bipush (-2), 2) := by decide +kernel
theorem dX7_shown_19 : decode cX7_shown 19 = .ok (.ireturn, 1) := by decide +kernel
theorem dX7_both_0 : decode cX7_both 0 = .ok (.aload_n 0, 1) := by decide +kernel
theorem dX7_both_1 : decode cX7_both 1 = .ok (.iload_n 1, 1) := by decide +kernel
theorem dX7_both_2 : decode cX7_both 2 = .ok (.invokevirtual 128, 3) := by decide +kernel
theorem dX7_both_5 : decode cX7_both 5 = .ok (.ifCond .ne 26, 3) := by decide +kernel
theorem dX7_both_31 : decode cX7_both 31 = .ok (.bipush (-2), 2) := by decide +kernel
theorem dX7_both_33 : decode cX7_both 33 = .ok (.ireturn, 1) := by decide +kernel
theorem dX7_learns_0 : decode cX7_learns 0 = .ok (.aload_n 0, 1) := by decide +kernel
theorem dX7_learns_1 : decode cX7_learns 1 = .ok (.iload_n 1, 1) := by decide +kernel
theorem dX7_learns_2 : decode cX7_learns 2 = .ok (.invokevirtual 128, 3) := by decide +kernel
theorem dX7_learns_5 : decode cX7_learns 5 = .ok (.ifCond .ne 12, 3) := by decide +kernel
theorem dX7_learns_17 : decode cX7_learns 17 = .ok (.bipush (-2), 2) := by decide +kernel
theorem dX7_learns_19 : decode cX7_learns 19 = .ok (.ireturn, 1) := by decide +kernel
theorem dX7_sights_0 : decode cX7_sights 0 = .ok (.aload_n 0, 1) := by decide +kernel
theorem dX7_sights_1 : decode cX7_sights 1 = .ok (.iload_n 1, 1) := by decide +kernel
theorem dX7_sights_2 : decode cX7_sights 2 = .ok (.invokevirtual 128, 3) := by decide +kernel
theorem dX7_sights_5 : decode cX7_sights 5 = .ok (.ifCond .eq 6, 3) := by decide +kernel
theorem dX7_sights_8 : decode cX7_sights 8 = .ok (.bipush (-2), 2) := by decide +kernel
theorem dX7_sights_10 : decode cX7_sights 10 = .ok (.ireturn, 1) := by decide +kernel
theorem dX7_meets_0 : decode cX7_meets 0 = .ok (.aload_n 0, 1) := by decide +kernel
theorem dX7_meets_1 : decode cX7_meets 1 = .ok (.iload_n 1, 1) := by decide +kernel
theorem dX7_meets_2 : decode cX7_meets 2 = .ok (.invokevirtual 128, 3) := by decide +kernel
theorem dX7_meets_5 : decode cX7_meets 5 = .ok (.ifCond .ne 16, 3) := by decide +kernel
theorem dX7_meets_21 : decode cX7_meets 21 = .ok (.bipush (-2), 2) := by decide +kernel
theorem dX7_meets_23 : decode cX7_meets 23 = .ok (.ireturn, 1) := by decide +kernel
theorem dX7_spots_0 : decode cX7_spots 0 = .ok (.aload_n 0, 1) := by decide +kernel
theorem dX7_spots_1 : decode cX7_spots 1 = .ok (.iload_n 1, 1) := by decide +kernel
theorem dX7_spots_2 : decode cX7_spots 2 = .ok (.invokevirtual 121, 3) := by decide +kernel
theorem dX7_spots_5 : decode cX7_spots 5 = .ok (.ifCond .eq 6, 3) := by decide +kernel
theorem dX7_spots_8 : decode cX7_spots 8 = .ok (.bipush (-2), 2) := by decide +kernel
theorem dX7_spots_10 : decode cX7_spots 10 = .ok (.ireturn, 1) := by decide +kernel
theorem dX7_when_0 : decode cX7_when 0 = .ok (.aload_n 0, 1) := by decide +kernel
theorem dX7_when_1 : decode cX7_when 1 = .ok (.iload_n 1, 1) := by decide +kernel
theorem dX7_when_2 : decode cX7_when 2 = .ok (.invokevirtual 121, 3) := by decide +kernel
theorem dX7_when_5 : decode cX7_when 5 = .ok (.ifCond .eq 6, 3) := by decide +kernel
theorem dX7_when_8 : decode cX7_when 8 = .ok (.bipush (-2), 2) := by decide +kernel
theorem dX7_when_10 : decode cX7_when 10 = .ok (.ireturn, 1) := by decide +kernel
theorem dX7_hours_0 : decode cX7_hours 0 = .ok (.aload_n 0, 1) := by decide +kernel
theorem dX7_hours_1 : decode cX7_hours 1 = .ok (.iload_n 1, 1) := by decide +kernel
theorem dX7_hours_2 : decode cX7_hours 2 = .ok (.invokevirtual 121, 3) := by decide +kernel
theorem dX7_hours_5 : decode cX7_hours 5 = .ok (.ifCond .eq 6, 3) := by decide +kernel
theorem dX7_hours_8 : decode cX7_hours 8 = .ok (.bipush (-2), 2) := by decide +kernel
theorem dX7_hours_10 : decode cX7_hours 10 = .ok (.ireturn, 1) := by decide +kernel
theorem dX7_without_0 : decode cX7_without 0 = .ok (.aload_n 0, 1) := by decide +kernel
theorem dX7_without_1 : decode cX7_without 1 = .ok (.iload_n 1, 1) := by decide +kernel
theorem dX7_without_2 : decode cX7_without 2 = .ok (.invokevirtual 128, 3) := by decide +kernel
theorem dX7_without_5 : decode cX7_without 5 = .ok (.ifCond .ne 12, 3) := by decide +kernel
theorem dX7_without_17 : decode cX7_without 17 = .ok (.bipush (-2), 2) := by decide +kernel
theorem dX7_without_19 : decode cX7_without 19 = .ok (.ireturn, 1) := by decide +kernel
theorem dX7_hush_0 : decode cX7_hush 0 = .ok (.aload_n 0, 1) := by decide +kernel
theorem dX7_hush_1 : decode cX7_hush 1 = .ok (.invokevirtual 208, 3) := by decide +kernel
theorem dX7_hush_4 : decode cX7_hush 4 = .ok (.ifCond .ne 30, 3) := by decide +kernel
theorem dX7_hush_34 : decode cX7_hush 34 = .ok (.bipush (-2), 2) := by decide +kernel
theorem dX7_hush_36 : decode cX7_hush 36 = .ok (.ireturn, 1) := by decide +kernel
theorem dX7_call_0 : decode cX7_call 0 = .ok (.aload_n 0, 1) := by decide +kernel
theorem dX7_call_1 : decode cX7_call 1 = .ok (.iload_n 1, 1) := by decide +kernel
theorem dX7_call_2 : decode cX7_call 2 = .ok (.invokevirtual 128, 3) := by decide +kernel
theorem dX7_call_5 : decode cX7_call 5 = .ok (.ifCond .eq 6, 3) := by decide +kernel
theorem dX7_call_8 : decode cX7_call 8 = .ok (.bipush (-2), 2) := by decide +kernel
theorem dX7_call_10 : decode cX7_call 10 = .ok (.ireturn, 1) := by decide +kernel
theorem dX7_away_0 : decode cX7_away 0 = .ok (.aload_n 0, 1) := by decide +kernel
theorem dX7_away_1 : decode cX7_away 1 = .ok (.iload_n 1, 1) := by decide +kernel
theorem dX7_away_2 : decode cX7_away 2 = .ok (.iload_n 2, 1) := by decide +kernel
theorem dX7_away_3 : decode cX7_away 3 = .ok (.invokevirtual 172, 3) := by decide +kernel
theorem dX7_away_6 : decode cX7_away 6 = .ok (.ifCond .ne 14, 3) := by decide +kernel
theorem dX7_away_20 : decode cX7_away 20 = .ok (.bipush (-2), 2) := by decide +kernel
theorem dX7_away_22 : decode cX7_away 22 = .ok (.ireturn, 1) := by decide +kernel
theorem dX7_kept_0 : decode cX7_kept 0 = .ok (.aload_n 0, 1) := by decide +kernel
theorem dX7_kept_1 : decode cX7_kept 1 = .ok (.iload_n 1, 1) := by decide +kernel
theorem dX7_kept_2 : decode cX7_kept 2 = .ok (.iload_n 3, 1) := by decide +kernel
theorem dX7_kept_3 : decode cX7_kept 3 = .ok (.invokevirtual 172, 3) := by decide +kernel
theorem dX7_kept_6 : decode cX7_kept 6 = .ok (.ifCond .ne 13, 3) := by decide +kernel
theorem dX7_kept_19 : decode cX7_kept 19 = .ok (.bipush (-2), 2) := by decide +kernel
theorem dX7_kept_21 : decode cX7_kept 21 = .ok (.ireturn, 1) := by decide +kernel
theorem dX7_keep_0 : decode cX7_keep 0 = .ok (.aload_n 0, 1) := by decide +kernel
theorem dX7_keep_1 : decode cX7_keep 1 = .ok (.iload_n 1, 1) := by decide +kernel
theorem dX7_keep_2 : decode cX7_keep 2 = .ok (.iload_n 2, 1) := by decide +kernel
theorem dX7_keep_3 : decode cX7_keep 3 = .ok (.iload_n 3, 1) := by decide +kernel
theorem dX7_keep_4 : decode cX7_keep 4 = .ok (.invokevirtual 323, 3) := by decide +kernel
theorem dX7_keep_7 : decode cX7_keep 7 = .ok (.ireturn, 1) := by decide +kernel
theorem dX7_shifts_0 : decode cX7_shifts 0 = .ok (.iload 4, 2) := by decide +kernel
theorem dX7_shifts_2 : decode cX7_shifts 2 = .ok (.iconst 1, 1) := by decide +kernel
theorem dX7_shifts_3 : decode cX7_shifts 3 = .ok (.if_icmp .lt 10, 3) := by decide +kernel
theorem dX7_shifts_6 : decode cX7_shifts 6 = .ok (.iload 4, 2) := by decide +kernel
theorem dX7_shifts_8 : decode cX7_shifts 8 = .ok (.bipush 40, 2) := by decide +kernel
theorem dX7_shifts_10 : decode cX7_shifts 10 = .ok (.if_icmp .le 6, 3) := by decide +kernel
theorem dX7_shifts_13 : decode cX7_shifts 13 = .ok (.bipush (-2), 2) := by decide +kernel
theorem dX7_shifts_15 : decode cX7_shifts 15 = .ok (.ireturn, 1) := by decide +kernel
theorem dX7_shifts_16 : decode cX7_shifts 16 = .ok (.aload_n 0, 1) := by decide +kernel
theorem dX7_shifts_17 : decode cX7_shifts 17 = .ok (.iload_n 1, 1) := by decide +kernel
theorem dX7_shifts_18 : decode cX7_shifts 18 = .ok (.iload_n 2, 1) := by decide +kernel
theorem dX7_shifts_19 : decode cX7_shifts 19 = .ok (.iload_n 3, 1) := by decide +kernel
theorem dX7_shifts_20 : decode cX7_shifts 20 = .ok (.invokevirtual 323, 3) := by decide +kernel
theorem dX7_shifts_23 : decode cX7_shifts 23 = .ok (.istore 5, 2) := by decide +kernel
theorem dX7_shifts_25 : decode cX7_shifts 25 = .ok (.iload 5, 2) := by decide +kernel
theorem dX7_shifts_27 : decode cX7_shifts 27 = .ok (.ifCond .ge 8, 3) := by decide +kernel
theorem dX7_shifts_30 : decode cX7_shifts 30 = .ok (.iload 5, 2) := by decide +kernel
theorem dX7_shifts_32 : decode cX7_shifts 32 = .ok (.goto 13, 3) := by decide +kernel
theorem dX7_shifts_45 : decode cX7_shifts 45 = .ok (.ireturn, 1) := by decide +kernel
theorem dX7_last_0 : decode cX7_last 0 = .ok (.aload_n 0, 1) := by decide +kernel
theorem dX7_last_1 : decode cX7_last 1 = .ok (.iload_n 1, 1) := by decide +kernel
theorem dX7_last_2 : decode cX7_last 2 = .ok (.iload_n 2, 1) := by decide +kernel
theorem dX7_last_3 : decode cX7_last 3 = .ok (.iload_n 3, 1) := by decide +kernel
theorem dX7_last_4 : decode cX7_last 4 = .ok (.invokevirtual 323, 3) := by decide +kernel
theorem dX7_last_7 : decode cX7_last 7 = .ok (.istore 4, 2) := by decide +kernel
theorem dX7_last_9 : decode cX7_last 9 = .ok (.iload 4, 2) := by decide +kernel
theorem dX7_last_11 : decode cX7_last 11 = .ok (.ifCond .ge 8, 3) := by decide +kernel
theorem dX7_last_14 : decode cX7_last 14 = .ok (.iload 4, 2) := by decide +kernel
theorem dX7_last_16 : decode cX7_last 16 = .ok (.goto 12, 3) := by decide +kernel
theorem dX7_last_28 : decode cX7_last 28 = .ok (.ireturn, 1) := by decide +kernel
theorem dX7_all_0 : decode cX7_all 0 = .ok (.aload_n 0, 1) := by decide +kernel
theorem dX7_all_1 : decode cX7_all 1 = .ok (.invokevirtual 208, 3) := by decide +kernel
theorem dX7_all_4 : decode cX7_all 4 = .ok (.ifCond .ne 21, 3) := by decide +kernel
theorem dX7_all_25 : decode cX7_all 25 = .ok (.bipush (-2), 2) := by decide +kernel
theorem dX7_all_27 : decode cX7_all 27 = .ok (.ireturn, 1) := by decide +kernel
theorem dX7_pace_0 : decode cX7_pace 0 = .ok (.aload_n 0, 1) := by decide +kernel
theorem dX7_pace_1 : decode cX7_pace 1 = .ok (.iload_n 1, 1) := by decide +kernel
theorem dX7_pace_2 : decode cX7_pace 2 = .ok (.iload_n 2, 1) := by decide +kernel
theorem dX7_pace_3 : decode cX7_pace 3 = .ok (.invokevirtual 172, 3) := by decide +kernel
theorem dX7_pace_6 : decode cX7_pace 6 = .ok (.ifCond .eq 6, 3) := by decide +kernel
theorem dX7_pace_9 : decode cX7_pace 9 = .ok (.bipush (-2), 2) := by decide +kernel
theorem dX7_pace_11 : decode cX7_pace 11 = .ok (.ireturn, 1) := by decide +kernel
theorem dX7_mends_0 : decode cX7_mends 0 = .ok (.aload_n 0, 1) := by decide +kernel
theorem dX7_mends_1 : decode cX7_mends 1 = .ok (.iload_n 1, 1) := by decide +kernel
theorem dX7_mends_2 : decode cX7_mends 2 = .ok (.invokevirtual 121, 3) := by decide +kernel
theorem dX7_mends_5 : decode cX7_mends 5 = .ok (.ifCond .ne 13, 3) := by decide +kernel
theorem dX7_mends_18 : decode cX7_mends 18 = .ok (.bipush (-2), 2) := by decide +kernel
theorem dX7_mends_20 : decode cX7_mends 20 = .ok (.ireturn, 1) := by decide +kernel
theorem dX7_day_0 : decode cX7_day 0 = .ok (.iload_n 1, 1) := by decide +kernel
theorem dX7_day_1 : decode cX7_day 1 = .ok (.invokestatic 338, 3) := by decide +kernel
theorem dX7_day_4 : decode cX7_day 4 = .ok (.ifCond .ne 12, 3) := by decide +kernel
theorem dX7_day_7 : decode cX7_day 7 = .ok (.aload_n 0, 1) := by decide +kernel
theorem dX7_day_8 : decode cX7_day 8 = .ok (.iload_n 2, 1) := by decide +kernel
theorem dX7_day_9 : decode cX7_day 9 = .ok (.iload_n 3, 1) := by decide +kernel
theorem dX7_day_10 : decode cX7_day 10 = .ok (.invokevirtual 172, 3) := by decide +kernel
theorem dX7_day_13 : decode cX7_day 13 = .ok (.ifCond .eq 6, 3) := by decide +kernel
theorem dX7_day_16 : decode cX7_day 16 = .ok (.bipush (-2), 2) := by decide +kernel
theorem dX7_day_18 : decode cX7_day 18 = .ok (.ireturn, 1) := by decide +kernel
theorem dX7_days_0 : decode cX7_days 0 = .ok (.iload_n 1, 1) := by decide +kernel
theorem dX7_days_1 : decode cX7_days 1 = .ok (.invokestatic 338, 3) := by decide +kernel
theorem dX7_days_4 : decode cX7_days 4 = .ok (.ifCond .ne 24, 3) := by decide +kernel
theorem dX7_days_7 : decode cX7_days 7 = .ok (.iload_n 2, 1) := by decide +kernel
theorem dX7_days_8 : decode cX7_days 8 = .ok (.iconst 1, 1) := by decide +kernel
theorem dX7_days_9 : decode cX7_days 9 = .ok (.if_icmp .lt 19, 3) := by decide +kernel
theorem dX7_days_12 : decode cX7_days 12 = .ok (.iload_n 2, 1) := by decide +kernel
theorem dX7_days_13 : decode cX7_days 13 = .ok (.bipush 20, 2) := by decide +kernel
theorem dX7_days_15 : decode cX7_days 15 = .ok (.if_icmp .gt 13, 3) := by decide +kernel
theorem dX7_days_18 : decode cX7_days 18 = .ok (.aload_n 0, 1) := by decide +kernel
theorem dX7_days_19 : decode cX7_days 19 = .ok (.iload_n 3, 1) := by decide +kernel
theorem dX7_days_20 : decode cX7_days 20 = .ok (.iload 4, 2) := by decide +kernel
theorem dX7_days_22 : decode cX7_days 22 = .ok (.invokevirtual 172, 3) := by decide +kernel
theorem dX7_days_25 : decode cX7_days 25 = .ok (.ifCond .eq 6, 3) := by decide +kernel
theorem dX7_days_28 : decode cX7_days 28 = .ok (.bipush (-2), 2) := by decide +kernel
theorem dX7_days_30 : decode cX7_days 30 = .ok (.ireturn, 1) := by decide +kernel
theorem in_sl (x : Int32) : (if (0 : Int64).toInt ≤ x.toInt64.toInt ∧ x.toInt64.toInt ≤ (3 : Int64).toInt then (1 : Int32) else 0) = if 0 ≤ x.toInt ∧ x.toInt ≤ 3 then 1 else 0 := by
  have h : (3 : Int64).toInt = 3 := by decide
  rw [z64, h, t64]
def v_r_M_isSlot : List Cond := .code yX8_isSlot cX8_isSlot 1 (some .boolean) :: ([.constantLong RX8 482 (3), .code yX8_in cX8_in 6 (some .boolean), .methodLink RX8 104 yX8_in, .static yX8_in, .initialized RX8])
set_option maxRecDepth 20000 in
theorem g_r_M_isSlot_r_M_in : GoodIn v_r_M_isSlot (va_wsS RX8 104 yX8_in v_r_M_in) := g_rows _ [3, 4, 5, 2] rfl (by decide +kernel)
set_option maxHeartbeats 2000000 in
set_option maxRecDepth 100000 in
theorem r_M_isSlot (l : Launch) (D : va_G) (E : Nat → ClassId) (sz : Nat) (h0 : Nat) (u : Nat → Nat) (a1 : Int32) : Met l yX8_isSlot v_r_M_isSlot ({ frames := 1, cells := 0, slots := 0, locals := 25 }) (va_Pc [.int a1] (pre D E (wM E h0 u) sz)) (vp_Si (fun r => r = if 0 ≤ a1.toInt ∧ a1.toInt ≤ 3 then 1 else 0)) 0 0 (fun _ => False) := by
  refine c_read (cc := cX8_isSlot) (maxL := 1) (ret := (some .boolean)) (by decide) rfl (Nat.le_of_ble_eq_true rfl) ?_
  intro p e s m below meth c ls ⟨hx, hb, hr, hts, hown, hlocks, hin, hml⟩ hP hK hD hN hl
  have hown : s.vm.findClass RX8 = some m.cls := hown
  have hl : lv_has ls 1 [(0, .int a1)] := hl
  refine lv_iload_n hx hb dX8_isSlot_0 rfl (lv_at hl 0 rfl) ?_
  refine lv_i2l (v := Int32.toInt64 a1) hx hb dX8_isSlot_1 rfl ?_
  refine lv_lconst (v := 0) hx hb dX8_isSlot_2 (by decide) ?_
  refine lv_ldc2 (v := 3) hx hb hown (hts (.constantLong RX8 482 (3)) (List.mem_of_getElem? (i := 1) rfl)) dX8_isSlot_3 ?_
  refine vp_callSi (W.runS (As := [.long (Int32.toInt64 a1), .long 0, .long 3]) (rest := []) ⟨hx, hb, hml, hown, hts⟩ (r_M_in l D E s.heap.size h0 u (Int32.toInt64 a1) 0 3) (va_cwS 3 hts g_r_M_isSlot_r_M_in rfl rfl rfl (by decide +kernel) ⟨Nat.le_of_ble_eq_true rfl, Nat.le_of_ble_eq_true rfl⟩) ⟨pre_blind, pre_at hP hK hD hN⟩ rfl rfl hl.1 rfl (lv_room (Nat.le_of_ble_eq_true rfl)) dX8_isSlot_6 ⟨Nat.le_of_ble_eq_true rfl, Nat.le_of_ble_eq_true rfl⟩) (fun r_1 er_1 => ?_)
  subst er_1
  refine lv_toc (y := if 0 ≤ a1.toInt ∧ a1.toInt ≤ 3 then 1 else 0) (in_sl a1) ?_
  exact e_s (v := if 0 ≤ a1.toInt ∧ a1.toInt ≤ 3 then 1 else 0) hx hb hr (by split <;> rfl) rfl hlocks dX8_isSlot_9

def v_r_M_asksSightings : List Cond := .code yX8_asksSightings cX8_asksSightings 9 (some .int) :: ([.constantLong RX8 482 (3), .code yX8_in cX8_in 6 (some .boolean), .methodLink RX8 104 yX8_in, .static yX8_in, .initialized RX8, .code yX8_isSlot cX8_isSlot 1 (some .boolean), .methodLink RX8 416 yX8_isSlot, .static yX8_isSlot, .fieldLink RX8 9 "UnseenClockModel" "world" "[I", .code yX8_isSquare cX8_isSquare 1 (some .boolean), .methodLink RX8 108 yX8_isSquare, .instanceMethod yX8_isSquare, .selects RX8 yX8_isSquare yX8_isSquare] ++ (wsX80))
theorem in_r_M_asksSightings_X8 : ∀ w ∈ u_ws RX8 TX8 41, w ∈ v_r_M_asksSightings := fun w h => List.mem_cons_of_mem _ (List.mem_append_right _ (h))
set_option maxRecDepth 20000 in
theorem g_r_M_asksSightings_r_M_isSlot : GoodIn v_r_M_asksSightings (va_wsS RX8 416 yX8_isSlot v_r_M_isSlot) := g_rows _ [7, 8, 5, 6, 1, 2, 3, 4, 5] rfl (by decide +kernel)
set_option maxRecDepth 20000 in
theorem g_r_M_asksSightings_r_M_isSquare : GoodIn v_r_M_asksSightings (wsV RX8 108 RX8 yX8_isSquare v_r_M_isSquare) := g_rows _ [11, 12, 13, 5, 10, 9, 14, 15, 16, 17, 18, 19, 20, 21, 22, 23, 24, 25, 26, 27, 28, 29, 30, 31, 32, 33, 34, 35, 36, 37, 38, 39, 40, 41, 42, 43, 44, 45, 46, 47, 48, 49, 50, 51, 52, 53, 54] rfl (by decide +kernel)
set_option maxHeartbeats 2000000 in
set_option maxRecDepth 100000 in
theorem r_M_asksSightings (l : Launch) (D : va_G) (E : Nat → ClassId) (sz : Nat) (h0 : Nat) (u : Nat → Nat) (a1 : Int32) (a2 : Int32) (a3 : Int32) : Met l yX8_asksSightings v_r_M_asksSightings ({ frames := 2, cells := 0, slots := 0, locals := 45 }) (va_Pc [.ref h0, .int a1, .int a2, .int a3] (pre D E (wM E h0 u) sz)) (vp_Si (fun r => r = -2)) 0 0 (fun _ => False) := by
  refine c_read (cc := cX8_asksSightings) (maxL := 9) (ret := (some .int)) (by decide) rfl (Nat.le_of_ble_eq_true rfl) ?_
  intro p e s m below meth c ls ⟨hx, hb, hr, hts, hown, hlocks, hin, hml⟩ hP hK hD hN hl
  have hown : s.vm.findClass RX8 = some m.cls := hown
  have hl : lv_has ls 9 [(0, .ref h0), (1, .int a1), (2, .int a2), (3, .int a3)] := hl
  refine lv_iload_n hx hb dX8_asksSightings_0 rfl (lv_at hl 1 rfl) ?_
  refine vp_callSi (W.runS (As := [.int a1]) (rest := []) ⟨hx, hb, hml, hown, hts⟩ (r_M_isSlot l D E s.heap.size h0 u a1) (va_cwS 1 hts g_r_M_asksSightings_r_M_isSlot rfl rfl rfl (by decide +kernel) ⟨Nat.le_of_ble_eq_true rfl, Nat.le_of_ble_eq_true rfl⟩) ⟨pre_blind, pre_at hP hK hD hN⟩ rfl rfl hl.1 rfl (lv_room (Nat.le_of_ble_eq_true rfl)) dX8_asksSightings_1 ⟨Nat.le_of_ble_eq_true rfl, Nat.le_of_ble_eq_true rfl⟩) (fun r_1 er_1 => ?_)
  refine lv_if_eq (tgt := 18) hx hb dX8_asksSightings_4 (by decide) (fun h_2 => ?_) (fun h_2 => ?_)
  · refine lv_bipush (v := (-2)) hx hb dX8_asksSightings_18 (by decide) ?_
    exact e_s (v := (-2)) hx hb hr rfl rfl hlocks dX8_asksSightings_20
  · refine lv_aload_n hx hb dX8_asksSightings_7 rfl (lv_at hl 0 rfl) ?_
    refine vp_callSi (W.runV (As := []) (rest := []) ⟨hx, hb, hml, hown, hts⟩ (r_M_isSquare l D E s.heap.size h0 u ) (cwV 0 hts g_r_M_asksSightings_r_M_isSquare rfl rfl rfl (by decide +kernel) ⟨Nat.le_of_ble_eq_true rfl, Nat.le_of_ble_eq_true rfl⟩) ⟨pre_blind, va_recv hK hP (ci := 8) (q0 := 0) rfl rfl, pre_at hP hK hD hN⟩ rfl rfl hl.1 rfl (lv_room (Nat.le_of_ble_eq_true rfl)) dX8_asksSightings_8 ⟨Nat.le_of_ble_eq_true rfl, Nat.le_of_ble_eq_true rfl⟩) (fun r_3 er_3 => ?_)
    subst er_3
    refine lv_if_eq (tgt := 18) hx hb dX8_asksSightings_11 (by decide) (fun _ => ?_) (fun h9 => absurd (by decide) h9)
    refine lv_bipush (v := (-2)) hx hb dX8_asksSightings_18 (by decide) ?_
    exact e_s (v := (-2)) hx hb hr rfl rfl hlocks dX8_asksSightings_20

def v_r_X_at : List Cond := .code yX7_at cX7_at 3 (some .int) :: ([.fieldLink RX7 27 "UnseenClock" "plan" "LUnseenClock$Plan;", .fieldLink RX7 115 "UnseenClock$Plan" "people" "I", .code yX7_noPerson cX7_noPerson 2 (some .boolean), .methodLink RX7 128 yX7_noPerson, .instanceMethod yX7_noPerson, .selects RX7 yX7_noPerson yX7_noPerson, .initialized RX7] ++ (wsX70 ++ (wsX30)))
theorem in_r_X_at_X7 : ∀ w ∈ u_ws RX7 TX7 14, w ∈ v_r_X_at := fun w h => List.mem_cons_of_mem _ (List.mem_append_right _ (List.mem_append_left _ h))
theorem in_r_X_at_X3 : ∀ w ∈ u_ws RX3 TX3 12, w ∈ v_r_X_at := fun w h => List.mem_cons_of_mem _ (List.mem_append_right _ (List.mem_append_right _ (h)))
set_option maxRecDepth 20000 in
theorem g_r_X_at_r_X_noPerson : GoodIn v_r_X_at (wsV RX7 128 RX7 yX7_noPerson v_r_X_noPerson) := g_rows _ [4, 5, 6, 7, 3, 1, 2, 8, 9, 10, 11, 12, 13, 14, 15, 16, 17, 18, 19, 20, 21, 22, 23, 24, 25, 26, 27, 28, 29, 30, 31, 32, 33] rfl (by decide +kernel)
set_option maxHeartbeats 2000000 in
set_option maxRecDepth 100000 in
theorem r_X_at (l : Launch) (D : va_G) (E : Nat → ClassId) (sz : Nat) (h0 : Nat) (u : Nat → Nat) (a1 : Int32) (a2 : Int32) : Met l yX7_at v_r_X_at ({ frames := 1, cells := 0, slots := 0, locals := 21 }) (va_Pc [.ref h0, .int a1, .int a2] (pre D E (wX E h0 u) sz)) (vp_Si (fun r => r = -2)) 0 0 (fun _ => False) := by
  refine c_read (cc := cX7_at) (maxL := 3) (ret := (some .int)) (by decide) rfl (Nat.le_of_ble_eq_true rfl) ?_
  intro p e s m below meth c ls ⟨hx, hb, hr, hts, hown, hlocks, hin, hml⟩ hP hK hD hN hl
  have hown : s.vm.findClass RX7 = some m.cls := hown
  have hl : lv_has ls 3 [(0, .ref h0), (1, .int a1), (2, .int a2)] := hl
  refine lv_aload_n hx hb dX7_at_0 rfl (lv_at hl 0 rfl) ?_
  refine lv_iload_n hx hb dX7_at_1 rfl (lv_at hl 1 rfl) ?_
  refine vp_callSi (W.runV (As := [.int a1]) (rest := []) ⟨hx, hb, hml, hown, hts⟩ (r_X_noPerson l D E s.heap.size h0 u a1) (cwV 1 hts g_r_X_at_r_X_noPerson rfl rfl rfl (by decide +kernel) ⟨Nat.le_of_ble_eq_true rfl, Nat.le_of_ble_eq_true rfl⟩) ⟨pre_blind, va_recv hK hP (ci := 7) (q0 := 0) rfl rfl, pre_at hP hK hD hN⟩ rfl rfl hl.1 rfl (lv_room (Nat.le_of_ble_eq_true rfl)) dX7_at_2 ⟨Nat.le_of_ble_eq_true rfl, Nat.le_of_ble_eq_true rfl⟩) (fun r_1 er_1 => ?_)
  subst er_1
  refine lv_if_ne (tgt := 16) hx hb dX7_at_5 (by decide) (fun _ => ?_) (fun h9 => absurd h9 (by decide))
  refine lv_bipush (v := (-2)) hx hb dX7_at_16 (by decide) ?_
  exact e_s (v := (-2)) hx hb hr rfl rfl hlocks dX7_at_18

def v_r_X_sees : List Cond := .code yX7_sees cX7_sees 5 (some .int) :: ([.fieldLink RX7 27 "UnseenClock" "plan" "LUnseenClock$Plan;", .fieldLink RX7 115 "UnseenClock$Plan" "people" "I", .code yX7_noPerson cX7_noPerson 2 (some .boolean), .methodLink RX7 128 yX7_noPerson, .instanceMethod yX7_noPerson, .selects RX7 yX7_noPerson yX7_noPerson, .initialized RX7] ++ (wsX70 ++ (wsX30)))
theorem in_r_X_sees_X7 : ∀ w ∈ u_ws RX7 TX7 14, w ∈ v_r_X_sees := fun w h => List.mem_cons_of_mem _ (List.mem_append_right _ (List.mem_append_left _ h))
theorem in_r_X_sees_X3 : ∀ w ∈ u_ws RX3 TX3 12, w ∈ v_r_X_sees := fun w h => List.mem_cons_of_mem _ (List.mem_append_right _ (List.mem_append_right _ (h)))
set_option maxRecDepth 20000 in
theorem g_r_X_sees_r_X_noPerson : GoodIn v_r_X_sees (wsV RX7 128 RX7 yX7_noPerson v_r_X_noPerson) := g_rows _ [4, 5, 6, 7, 3, 1, 2, 8, 9, 10, 11, 12, 13, 14, 15, 16, 17, 18, 19, 20, 21, 22, 23, 24, 25, 26, 27, 28, 29, 30, 31, 32, 33] rfl (by decide +kernel)
set_option maxHeartbeats 2000000 in
set_option maxRecDepth 100000 in
theorem r_X_sees (l : Launch) (D : va_G) (E : Nat → ClassId) (sz : Nat) (h0 : Nat) (u : Nat → Nat) (a1 : Int32) (a2 : Int32) (a3 : Int32) : Met l yX7_sees v_r_X_sees ({ frames := 1, cells := 0, slots := 0, locals := 21 }) (va_Pc [.ref h0, .int a1, .int a2, .int a3] (pre D E (wX E h0 u) sz)) (vp_Si (fun r => r = -2)) 0 0 (fun _ => False) := by
  refine c_read (cc := cX7_sees) (maxL := 5) (ret := (some .int)) (by decide) rfl (Nat.le_of_ble_eq_true rfl) ?_
  intro p e s m below meth c ls ⟨hx, hb, hr, hts, hown, hlocks, hin, hml⟩ hP hK hD hN hl
  have hown : s.vm.findClass RX7 = some m.cls := hown
  have hl : lv_has ls 5 [(0, .ref h0), (1, .int a1), (2, .int a2), (3, .int a3)] := hl
  refine lv_aload_n hx hb dX7_sees_0 rfl (lv_at hl 0 rfl) ?_
  refine lv_iload_n hx hb dX7_sees_1 rfl (lv_at hl 1 rfl) ?_
  refine vp_callSi (W.runV (As := [.int a1]) (rest := []) ⟨hx, hb, hml, hown, hts⟩ (r_X_noPerson l D E s.heap.size h0 u a1) (cwV 1 hts g_r_X_sees_r_X_noPerson rfl rfl rfl (by decide +kernel) ⟨Nat.le_of_ble_eq_true rfl, Nat.le_of_ble_eq_true rfl⟩) ⟨pre_blind, va_recv hK hP (ci := 7) (q0 := 0) rfl rfl, pre_at hP hK hD hN⟩ rfl rfl hl.1 rfl (lv_room (Nat.le_of_ble_eq_true rfl)) dX7_sees_2 ⟨Nat.le_of_ble_eq_true rfl, Nat.le_of_ble_eq_true rfl⟩) (fun r_1 er_1 => ?_)
  subst er_1
  refine lv_if_ne (tgt := 24) hx hb dX7_sees_5 (by decide) (fun _ => ?_) (fun h9 => absurd h9 (by decide))
  refine lv_bipush (v := (-2)) hx hb dX7_sees_24 (by decide) ?_
  exact e_s (v := (-2)) hx hb hr rfl rfl hlocks dX7_sees_26

def v_r_X_looks : List Cond := .code yX7_looks cX7_looks 6 (some .int) :: ([.fieldLink RX7 27 "UnseenClock" "plan" "LUnseenClock$Plan;", .fieldLink RX7 115 "UnseenClock$Plan" "people" "I", .code yX7_noPerson cX7_noPerson 2 (some .boolean), .methodLink RX7 128 yX7_noPerson, .instanceMethod yX7_noPerson, .selects RX7 yX7_noPerson yX7_noPerson, .initialized RX7] ++ (wsX70 ++ (wsX30)))
theorem in_r_X_looks_X7 : ∀ w ∈ u_ws RX7 TX7 14, w ∈ v_r_X_looks := fun w h => List.mem_cons_of_mem _ (List.mem_append_right _ (List.mem_append_left _ h))
theorem in_r_X_looks_X3 : ∀ w ∈ u_ws RX3 TX3 12, w ∈ v_r_X_looks := fun w h => List.mem_cons_of_mem _ (List.mem_append_right _ (List.mem_append_right _ (h)))
set_option maxRecDepth 20000 in
theorem g_r_X_looks_r_X_noPerson : GoodIn v_r_X_looks (wsV RX7 128 RX7 yX7_noPerson v_r_X_noPerson) := g_rows _ [4, 5, 6, 7, 3, 1, 2, 8, 9, 10, 11, 12, 13, 14, 15, 16, 17, 18, 19, 20, 21, 22, 23, 24, 25, 26, 27, 28, 29, 30, 31, 32, 33] rfl (by decide +kernel)
set_option maxHeartbeats 2000000 in
set_option maxRecDepth 100000 in
theorem r_X_looks (l : Launch) (D : va_G) (E : Nat → ClassId) (sz : Nat) (h0 : Nat) (u : Nat → Nat) (a1 : Int32) (a2 : Int32) (a3 : Int32) : Met l yX7_looks v_r_X_looks ({ frames := 1, cells := 0, slots := 0, locals := 21 }) (va_Pc [.ref h0, .int a1, .int a2, .int a3] (pre D E (wX E h0 u) sz)) (vp_Si (fun r => r = -2)) 0 0 (fun _ => False) := by
  refine c_read (cc := cX7_looks) (maxL := 6) (ret := (some .int)) (by decide) rfl (Nat.le_of_ble_eq_true rfl) ?_
  intro p e s m below meth c ls ⟨hx, hb, hr, hts, hown, hlocks, hin, hml⟩ hP hK hD hN hl
  have hown : s.vm.findClass RX7 = some m.cls := hown
  have hl : lv_has ls 6 [(0, .ref h0), (1, .int a1), (2, .int a2), (3, .int a3)] := hl
  refine lv_aload_n hx hb dX7_looks_0 rfl (lv_at hl 0 rfl) ?_
  refine lv_iload_n hx hb dX7_looks_1 rfl (lv_at hl 1 rfl) ?_
  refine vp_callSi (W.runV (As := [.int a1]) (rest := []) ⟨hx, hb, hml, hown, hts⟩ (r_X_noPerson l D E s.heap.size h0 u a1) (cwV 1 hts g_r_X_looks_r_X_noPerson rfl rfl rfl (by decide +kernel) ⟨Nat.le_of_ble_eq_true rfl, Nat.le_of_ble_eq_true rfl⟩) ⟨pre_blind, va_recv hK hP (ci := 7) (q0 := 0) rfl rfl, pre_at hP hK hD hN⟩ rfl rfl hl.1 rfl (lv_room (Nat.le_of_ble_eq_true rfl)) dX7_looks_2 ⟨Nat.le_of_ble_eq_true rfl, Nat.le_of_ble_eq_true rfl⟩) (fun r_1 er_1 => ?_)
  subst er_1
  refine lv_if_ne (tgt := 24) hx hb dX7_looks_5 (by decide) (fun _ => ?_) (fun h9 => absurd h9 (by decide))
  refine lv_bipush (v := (-2)) hx hb dX7_looks_24 (by decide) ?_
  exact e_s (v := (-2)) hx hb hr rfl rfl hlocks dX7_looks_26

def v_r_X_eyes : List Cond := .code yX7_eyes cX7_eyes 3 (some .int) :: ([.fieldLink RX7 27 "UnseenClock" "plan" "LUnseenClock$Plan;", .fieldLink RX7 118 "UnseenClock$Plan" "clocks" "I", .code yX7_noClock cX7_noClock 2 (some .boolean), .methodLink RX7 121 yX7_noClock, .instanceMethod yX7_noClock, .selects RX7 yX7_noClock yX7_noClock, .initialized RX7] ++ (wsX70 ++ (wsX30)))
theorem in_r_X_eyes_X7 : ∀ w ∈ u_ws RX7 TX7 14, w ∈ v_r_X_eyes := fun w h => List.mem_cons_of_mem _ (List.mem_append_right _ (List.mem_append_left _ h))
theorem in_r_X_eyes_X3 : ∀ w ∈ u_ws RX3 TX3 12, w ∈ v_r_X_eyes := fun w h => List.mem_cons_of_mem _ (List.mem_append_right _ (List.mem_append_right _ (h)))
set_option maxRecDepth 20000 in
theorem g_r_X_eyes_r_X_noClock : GoodIn v_r_X_eyes (wsV RX7 121 RX7 yX7_noClock v_r_X_noClock) := g_rows _ [4, 5, 6, 7, 3, 1, 2, 8, 9, 10, 11, 12, 13, 14, 15, 16, 17, 18, 19, 20, 21, 22, 23, 24, 25, 26, 27, 28, 29, 30, 31, 32, 33] rfl (by decide +kernel)
set_option maxHeartbeats 2000000 in
set_option maxRecDepth 100000 in
theorem r_X_eyes (l : Launch) (D : va_G) (E : Nat → ClassId) (sz : Nat) (h0 : Nat) (u : Nat → Nat) (a1 : Int32) (a2 : Int32) : Met l yX7_eyes v_r_X_eyes ({ frames := 1, cells := 0, slots := 0, locals := 21 }) (va_Pc [.ref h0, .int a1, .int a2] (pre D E (wX E h0 u) sz)) (vp_Si (fun r => r = -2)) 0 0 (fun _ => False) := by
  refine c_read (cc := cX7_eyes) (maxL := 3) (ret := (some .int)) (by decide) rfl (Nat.le_of_ble_eq_true rfl) ?_
  intro p e s m below meth c ls ⟨hx, hb, hr, hts, hown, hlocks, hin, hml⟩ hP hK hD hN hl
  have hown : s.vm.findClass RX7 = some m.cls := hown
  have hl : lv_has ls 3 [(0, .ref h0), (1, .int a1), (2, .int a2)] := hl
  refine lv_aload_n hx hb dX7_eyes_0 rfl (lv_at hl 0 rfl) ?_
  refine lv_iload_n hx hb dX7_eyes_1 rfl (lv_at hl 1 rfl) ?_
  refine vp_callSi (W.runV (As := [.int a1]) (rest := []) ⟨hx, hb, hml, hown, hts⟩ (r_X_noClock l D E s.heap.size h0 u a1) (cwV 1 hts g_r_X_eyes_r_X_noClock rfl rfl rfl (by decide +kernel) ⟨Nat.le_of_ble_eq_true rfl, Nat.le_of_ble_eq_true rfl⟩) ⟨pre_blind, va_recv hK hP (ci := 7) (q0 := 0) rfl rfl, pre_at hP hK hD hN⟩ rfl rfl hl.1 rfl (lv_room (Nat.le_of_ble_eq_true rfl)) dX7_eyes_2 ⟨Nat.le_of_ble_eq_true rfl, Nat.le_of_ble_eq_true rfl⟩) (fun r_1 er_1 => ?_)
  subst er_1
  refine lv_if_ne (tgt := 16) hx hb dX7_eyes_5 (by decide) (fun _ => ?_) (fun h9 => absurd h9 (by decide))
  refine lv_bipush (v := (-2)) hx hb dX7_eyes_16 (by decide) ?_
  exact e_s (v := (-2)) hx hb hr rfl rfl hlocks dX7_eyes_18

def v_r_X_shows : List Cond := .code yX7_shows cX7_shows 3 (some .int) :: ([.fieldLink RX7 27 "UnseenClock" "plan" "LUnseenClock$Plan;", .fieldLink RX7 118 "UnseenClock$Plan" "clocks" "I", .code yX7_noClock cX7_noClock 2 (some .boolean), .methodLink RX7 121 yX7_noClock, .instanceMethod yX7_noClock, .selects RX7 yX7_noClock yX7_noClock, .initialized RX7, .code yX7_noClockThen cX7_noClockThen 3 (some .boolean), .methodLink RX7 172 yX7_noClockThen, .instanceMethod yX7_noClockThen, .selects RX7 yX7_noClockThen yX7_noClockThen] ++ (wsX70 ++ (wsX30)))
theorem in_r_X_shows_X7 : ∀ w ∈ u_ws RX7 TX7 14, w ∈ v_r_X_shows := fun w h => List.mem_cons_of_mem _ (List.mem_append_right _ (List.mem_append_left _ h))
theorem in_r_X_shows_X3 : ∀ w ∈ u_ws RX3 TX3 12, w ∈ v_r_X_shows := fun w h => List.mem_cons_of_mem _ (List.mem_append_right _ (List.mem_append_right _ (h)))
set_option maxRecDepth 20000 in
theorem g_r_X_shows_r_X_noClockThen : GoodIn v_r_X_shows (wsV RX7 172 RX7 yX7_noClockThen v_r_X_noClockThen) := g_rows _ [9, 10, 11, 7, 8, 1, 2, 3, 4, 5, 6, 7, 12, 13, 14, 15, 16, 17, 18, 19, 20, 21, 22, 23, 24, 25, 26, 27, 28, 29, 30, 31, 32, 33, 34, 35, 36, 37] rfl (by decide +kernel)
set_option maxHeartbeats 2000000 in
set_option maxRecDepth 100000 in
theorem r_X_shows (l : Launch) (D : va_G) (E : Nat → ClassId) (sz : Nat) (h0 : Nat) (u : Nat → Nat) (a1 : Int32) (a2 : Int32) : Met l yX7_shows v_r_X_shows ({ frames := 2, cells := 0, slots := 0, locals := 43 }) (va_Pc [.ref h0, .int a1, .int a2] (pre D E (wX E h0 u) sz)) (vp_Si (fun r => r = -2)) 0 0 (fun _ => False) := by
  refine c_read (cc := cX7_shows) (maxL := 3) (ret := (some .int)) (by decide) rfl (Nat.le_of_ble_eq_true rfl) ?_
  intro p e s m below meth c ls ⟨hx, hb, hr, hts, hown, hlocks, hin, hml⟩ hP hK hD hN hl
  have hown : s.vm.findClass RX7 = some m.cls := hown
  have hl : lv_has ls 3 [(0, .ref h0), (1, .int a1), (2, .int a2)] := hl
  refine lv_aload_n hx hb dX7_shows_0 rfl (lv_at hl 0 rfl) ?_
  refine lv_iload_n hx hb dX7_shows_1 rfl (lv_at hl 1 rfl) ?_
  refine lv_iload_n hx hb dX7_shows_2 rfl (lv_at hl 2 rfl) ?_
  refine vp_callSi (W.runV (As := [.int a1, .int a2]) (rest := []) ⟨hx, hb, hml, hown, hts⟩ (r_X_noClockThen l D E s.heap.size h0 u a1 a2) (cwV 2 hts g_r_X_shows_r_X_noClockThen rfl rfl rfl (by decide +kernel) ⟨Nat.le_of_ble_eq_true rfl, Nat.le_of_ble_eq_true rfl⟩) ⟨pre_blind, va_recv hK hP (ci := 7) (q0 := 0) rfl rfl, pre_at hP hK hD hN⟩ rfl rfl hl.1 rfl (lv_room (Nat.le_of_ble_eq_true rfl)) dX7_shows_3 ⟨Nat.le_of_ble_eq_true rfl, Nat.le_of_ble_eq_true rfl⟩) (fun r_1 er_1 => ?_)
  subst er_1
  refine lv_if_eq (tgt := 12) hx hb dX7_shows_6 (by decide) (fun h9 => absurd h9 (by decide)) (fun _ => ?_)
  refine lv_bipush (v := (-2)) hx hb dX7_shows_9 (by decide) ?_
  exact e_s (v := (-2)) hx hb hr rfl rfl hlocks dX7_shows_11

def v_r_X_value : List Cond := .code yX7_value cX7_value 7 (some .int) :: ([.fieldLink RX7 27 "UnseenClock" "plan" "LUnseenClock$Plan;", .fieldLink RX7 118 "UnseenClock$Plan" "clocks" "I", .code yX7_noClock cX7_noClock 2 (some .boolean), .methodLink RX7 121 yX7_noClock, .instanceMethod yX7_noClock, .selects RX7 yX7_noClock yX7_noClock, .initialized RX7, .code yX7_noClockThen cX7_noClockThen 3 (some .boolean), .methodLink RX7 172 yX7_noClockThen, .instanceMethod yX7_noClockThen, .selects RX7 yX7_noClockThen yX7_noClockThen] ++ (wsX70 ++ (wsX30)))
theorem in_r_X_value_X7 : ∀ w ∈ u_ws RX7 TX7 14, w ∈ v_r_X_value := fun w h => List.mem_cons_of_mem _ (List.mem_append_right _ (List.mem_append_left _ h))
theorem in_r_X_value_X3 : ∀ w ∈ u_ws RX3 TX3 12, w ∈ v_r_X_value := fun w h => List.mem_cons_of_mem _ (List.mem_append_right _ (List.mem_append_right _ (h)))
set_option maxRecDepth 20000 in
theorem g_r_X_value_r_X_noClockThen : GoodIn v_r_X_value (wsV RX7 172 RX7 yX7_noClockThen v_r_X_noClockThen) := g_rows _ [9, 10, 11, 7, 8, 1, 2, 3, 4, 5, 6, 7, 12, 13, 14, 15, 16, 17, 18, 19, 20, 21, 22, 23, 24, 25, 26, 27, 28, 29, 30, 31, 32, 33, 34, 35, 36, 37] rfl (by decide +kernel)
set_option maxHeartbeats 2000000 in
set_option maxRecDepth 100000 in
theorem r_X_value (l : Launch) (D : va_G) (E : Nat → ClassId) (sz : Nat) (h0 : Nat) (u : Nat → Nat) (a1 : Int32) (a2 : Int32) (a3 : Int32) : Met l yX7_value v_r_X_value ({ frames := 2, cells := 0, slots := 0, locals := 43 }) (va_Pc [.ref h0, .int a1, .int a2, .int a3] (pre D E (wX E h0 u) sz)) (vp_Si (fun r => r = -2)) 0 0 (fun _ => False) := by
  refine c_read (cc := cX7_value) (maxL := 7) (ret := (some .int)) (by decide) rfl (Nat.le_of_ble_eq_true rfl) ?_
  intro p e s m below meth c ls ⟨hx, hb, hr, hts, hown, hlocks, hin, hml⟩ hP hK hD hN hl
  have hown : s.vm.findClass RX7 = some m.cls := hown
  have hl : lv_has ls 7 [(0, .ref h0), (1, .int a1), (2, .int a2), (3, .int a3)] := hl
  refine lv_aload_n hx hb dX7_value_0 rfl (lv_at hl 0 rfl) ?_
  refine lv_iload_n hx hb dX7_value_1 rfl (lv_at hl 1 rfl) ?_
  refine lv_iload_n hx hb dX7_value_2 rfl (lv_at hl 2 rfl) ?_
  refine vp_callSi (W.runV (As := [.int a1, .int a2]) (rest := []) ⟨hx, hb, hml, hown, hts⟩ (r_X_noClockThen l D E s.heap.size h0 u a1 a2) (cwV 2 hts g_r_X_value_r_X_noClockThen rfl rfl rfl (by decide +kernel) ⟨Nat.le_of_ble_eq_true rfl, Nat.le_of_ble_eq_true rfl⟩) ⟨pre_blind, va_recv hK hP (ci := 7) (q0 := 0) rfl rfl, pre_at hP hK hD hN⟩ rfl rfl hl.1 rfl (lv_room (Nat.le_of_ble_eq_true rfl)) dX7_value_3 ⟨Nat.le_of_ble_eq_true rfl, Nat.le_of_ble_eq_true rfl⟩) (fun r_1 er_1 => ?_)
  subst er_1
  refine lv_if_ne (tgt := 18) hx hb dX7_value_6 (by decide) (fun _ => ?_) (fun h9 => absurd h9 (by decide))
  refine lv_bipush (v := (-2)) hx hb dX7_value_18 (by decide) ?_
  exact e_s (v := (-2)) hx hb hr rfl rfl hlocks dX7_value_20

def v_r_X_still : List Cond := .code yX7_still cX7_still 4 (some .int) :: ([.fieldLink RX7 27 "UnseenClock" "plan" "LUnseenClock$Plan;", .fieldLink RX7 118 "UnseenClock$Plan" "clocks" "I", .code yX7_noClock cX7_noClock 2 (some .boolean), .methodLink RX7 121 yX7_noClock, .instanceMethod yX7_noClock, .selects RX7 yX7_noClock yX7_noClock, .initialized RX7] ++ (wsX70 ++ (wsX30)))
theorem in_r_X_still_X7 : ∀ w ∈ u_ws RX7 TX7 14, w ∈ v_r_X_still := fun w h => List.mem_cons_of_mem _ (List.mem_append_right _ (List.mem_append_left _ h))
theorem in_r_X_still_X3 : ∀ w ∈ u_ws RX3 TX3 12, w ∈ v_r_X_still := fun w h => List.mem_cons_of_mem _ (List.mem_append_right _ (List.mem_append_right _ (h)))
set_option maxRecDepth 20000 in
theorem g_r_X_still_r_X_noClock : GoodIn v_r_X_still (wsV RX7 121 RX7 yX7_noClock v_r_X_noClock) := g_rows _ [4, 5, 6, 7, 3, 1, 2, 8, 9, 10, 11, 12, 13, 14, 15, 16, 17, 18, 19, 20, 21, 22, 23, 24, 25, 26, 27, 28, 29, 30, 31, 32, 33] rfl (by decide +kernel)
set_option maxHeartbeats 2000000 in
set_option maxRecDepth 100000 in
theorem r_X_still (l : Launch) (D : va_G) (E : Nat → ClassId) (sz : Nat) (h0 : Nat) (u : Nat → Nat) (a1 : Int32) (a2 : Int32) : Met l yX7_still v_r_X_still ({ frames := 1, cells := 0, slots := 0, locals := 21 }) (va_Pc [.ref h0, .int a1, .int a2] (pre D E (wX E h0 u) sz)) (vp_Si (fun r => r = -2)) 0 0 (fun _ => False) := by
  refine c_read (cc := cX7_still) (maxL := 4) (ret := (some .int)) (by decide) rfl (Nat.le_of_ble_eq_true rfl) ?_
  intro p e s m below meth c ls ⟨hx, hb, hr, hts, hown, hlocks, hin, hml⟩ hP hK hD hN hl
  have hown : s.vm.findClass RX7 = some m.cls := hown
  have hl : lv_has ls 4 [(0, .ref h0), (1, .int a1), (2, .int a2)] := hl
  refine lv_aload_n hx hb dX7_still_0 rfl (lv_at hl 0 rfl) ?_
  refine lv_iload_n hx hb dX7_still_1 rfl (lv_at hl 1 rfl) ?_
  refine vp_callSi (W.runV (As := [.int a1]) (rest := []) ⟨hx, hb, hml, hown, hts⟩ (r_X_noClock l D E s.heap.size h0 u a1) (cwV 1 hts g_r_X_still_r_X_noClock rfl rfl rfl (by decide +kernel) ⟨Nat.le_of_ble_eq_true rfl, Nat.le_of_ble_eq_true rfl⟩) ⟨pre_blind, va_recv hK hP (ci := 7) (q0 := 0) rfl rfl, pre_at hP hK hD hN⟩ rfl rfl hl.1 rfl (lv_room (Nat.le_of_ble_eq_true rfl)) dX7_still_2 ⟨Nat.le_of_ble_eq_true rfl, Nat.le_of_ble_eq_true rfl⟩) (fun r_1 er_1 => ?_)
  subst er_1
  refine lv_if_ne (tgt := 17) hx hb dX7_still_5 (by decide) (fun _ => ?_) (fun h9 => absurd h9 (by decide))
  refine lv_bipush (v := (-2)) hx hb dX7_still_17 (by decide) ?_
  exact e_s (v := (-2)) hx hb hr rfl rfl hlocks dX7_still_19

def v_r_X_open : List Cond := .code yX7_open cX7_open 1 (some .int) :: ([.fieldLink RX7 27 "UnseenClock" "plan" "LUnseenClock$Plan;", .fieldLink RX7 81 "UnseenClock$Plan" "lines" "I", .code yX7_noSquare cX7_noSquare 1 (some .boolean), .methodLink RX7 208 yX7_noSquare, .instanceMethod yX7_noSquare, .selects RX7 yX7_noSquare yX7_noSquare, .initialized RX7] ++ (wsX70 ++ (wsX30)))
theorem in_r_X_open_X7 : ∀ w ∈ u_ws RX7 TX7 14, w ∈ v_r_X_open := fun w h => List.mem_cons_of_mem _ (List.mem_append_right _ (List.mem_append_left _ h))
theorem in_r_X_open_X3 : ∀ w ∈ u_ws RX3 TX3 12, w ∈ v_r_X_open := fun w h => List.mem_cons_of_mem _ (List.mem_append_right _ (List.mem_append_right _ (h)))
set_option maxRecDepth 20000 in
theorem g_r_X_open_r_X_noSquare : GoodIn v_r_X_open (wsV RX7 208 RX7 yX7_noSquare v_r_X_noSquare) := g_rows _ [4, 5, 6, 7, 3, 1, 2, 8, 9, 10, 11, 12, 13, 14, 15, 16, 17, 18, 19, 20, 21, 22, 23, 24, 25, 26, 27, 28, 29, 30, 31, 32, 33] rfl (by decide +kernel)
set_option maxHeartbeats 2000000 in
set_option maxRecDepth 100000 in
theorem r_X_open (l : Launch) (D : va_G) (E : Nat → ClassId) (sz : Nat) (h0 : Nat) (u : Nat → Nat)  : Met l yX7_open v_r_X_open ({ frames := 1, cells := 0, slots := 0, locals := 20 }) (va_Pc [.ref h0] (pre D E (wX E h0 u) sz)) (vp_Si (fun r => r = -2)) 0 0 (fun _ => False) := by
  refine c_read (cc := cX7_open) (maxL := 1) (ret := (some .int)) (by decide) rfl (Nat.le_of_ble_eq_true rfl) ?_
  intro p e s m below meth c ls ⟨hx, hb, hr, hts, hown, hlocks, hin, hml⟩ hP hK hD hN hl
  have hown : s.vm.findClass RX7 = some m.cls := hown
  have hl : lv_has ls 1 [(0, .ref h0)] := hl
  refine lv_aload_n hx hb dX7_open_0 rfl (lv_at hl 0 rfl) ?_
  refine vp_callSi (W.runV (As := []) (rest := []) ⟨hx, hb, hml, hown, hts⟩ (r_X_noSquare l D E s.heap.size h0 u ) (cwV 0 hts g_r_X_open_r_X_noSquare rfl rfl rfl (by decide +kernel) ⟨Nat.le_of_ble_eq_true rfl, Nat.le_of_ble_eq_true rfl⟩) ⟨pre_blind, va_recv hK hP (ci := 7) (q0 := 0) rfl rfl, pre_at hP hK hD hN⟩ rfl rfl hl.1 rfl (lv_room (Nat.le_of_ble_eq_true rfl)) dX7_open_1 ⟨Nat.le_of_ble_eq_true rfl, Nat.le_of_ble_eq_true rfl⟩) (fun r_1 er_1 => ?_)
  subst er_1
  refine lv_if_eq (tgt := 10) hx hb dX7_open_4 (by decide) (fun h9 => absurd h9 (by decide)) (fun _ => ?_)
  refine lv_bipush (v := (-2)) hx hb dX7_open_7 (by decide) ?_
  exact e_s (v := (-2)) hx hb hr rfl rfl hlocks dX7_open_9

def v_r_X_opens : List Cond := .code yX7_opens cX7_opens 2 (some .int) :: ([.fieldLink RX7 27 "UnseenClock" "plan" "LUnseenClock$Plan;", .fieldLink RX7 81 "UnseenClock$Plan" "lines" "I", .code yX7_noSquare cX7_noSquare 1 (some .boolean), .methodLink RX7 208 yX7_noSquare, .instanceMethod yX7_noSquare, .selects RX7 yX7_noSquare yX7_noSquare, .initialized RX7] ++ (wsX70 ++ (wsX30)))
theorem in_r_X_opens_X7 : ∀ w ∈ u_ws RX7 TX7 14, w ∈ v_r_X_opens := fun w h => List.mem_cons_of_mem _ (List.mem_append_right _ (List.mem_append_left _ h))
theorem in_r_X_opens_X3 : ∀ w ∈ u_ws RX3 TX3 12, w ∈ v_r_X_opens := fun w h => List.mem_cons_of_mem _ (List.mem_append_right _ (List.mem_append_right _ (h)))
set_option maxRecDepth 20000 in
theorem g_r_X_opens_r_X_noSquare : GoodIn v_r_X_opens (wsV RX7 208 RX7 yX7_noSquare v_r_X_noSquare) := g_rows _ [4, 5, 6, 7, 3, 1, 2, 8, 9, 10, 11, 12, 13, 14, 15, 16, 17, 18, 19, 20, 21, 22, 23, 24, 25, 26, 27, 28, 29, 30, 31, 32, 33] rfl (by decide +kernel)
set_option maxHeartbeats 2000000 in
set_option maxRecDepth 100000 in
theorem r_X_opens (l : Launch) (D : va_G) (E : Nat → ClassId) (sz : Nat) (h0 : Nat) (u : Nat → Nat) (a1 : Int32) : Met l yX7_opens v_r_X_opens ({ frames := 1, cells := 0, slots := 0, locals := 20 }) (va_Pc [.ref h0, .int a1] (pre D E (wX E h0 u) sz)) (vp_Si (fun r => r = -2)) 0 0 (fun _ => False) := by
  refine c_read (cc := cX7_opens) (maxL := 2) (ret := (some .int)) (by decide) rfl (Nat.le_of_ble_eq_true rfl) ?_
  intro p e s m below meth c ls ⟨hx, hb, hr, hts, hown, hlocks, hin, hml⟩ hP hK hD hN hl
  have hown : s.vm.findClass RX7 = some m.cls := hown
  have hl : lv_has ls 2 [(0, .ref h0), (1, .int a1)] := hl
  refine lv_aload_n hx hb dX7_opens_0 rfl (lv_at hl 0 rfl) ?_
  refine vp_callSi (W.runV (As := []) (rest := []) ⟨hx, hb, hml, hown, hts⟩ (r_X_noSquare l D E s.heap.size h0 u ) (cwV 0 hts g_r_X_opens_r_X_noSquare rfl rfl rfl (by decide +kernel) ⟨Nat.le_of_ble_eq_true rfl, Nat.le_of_ble_eq_true rfl⟩) ⟨pre_blind, va_recv hK hP (ci := 7) (q0 := 0) rfl rfl, pre_at hP hK hD hN⟩ rfl rfl hl.1 rfl (lv_room (Nat.le_of_ble_eq_true rfl)) dX7_opens_1 ⟨Nat.le_of_ble_eq_true rfl, Nat.le_of_ble_eq_true rfl⟩) (fun r_1 er_1 => ?_)
  subst er_1
  refine lv_if_eq (tgt := 10) hx hb dX7_opens_4 (by decide) (fun h9 => absurd h9 (by decide)) (fun _ => ?_)
  refine lv_bipush (v := (-2)) hx hb dX7_opens_7 (by decide) ?_
  exact e_s (v := (-2)) hx hb hr rfl rfl hlocks dX7_opens_9

def v_r_X_bell : List Cond := .code yX7_bell cX7_bell 3 (some .int) :: ([.fieldLink RX7 27 "UnseenClock" "plan" "LUnseenClock$Plan;", .fieldLink RX7 81 "UnseenClock$Plan" "lines" "I", .code yX7_noSquare cX7_noSquare 1 (some .boolean), .methodLink RX7 208 yX7_noSquare, .instanceMethod yX7_noSquare, .selects RX7 yX7_noSquare yX7_noSquare, .initialized RX7] ++ (wsX70 ++ (wsX30)))
theorem in_r_X_bell_X7 : ∀ w ∈ u_ws RX7 TX7 14, w ∈ v_r_X_bell := fun w h => List.mem_cons_of_mem _ (List.mem_append_right _ (List.mem_append_left _ h))
theorem in_r_X_bell_X3 : ∀ w ∈ u_ws RX3 TX3 12, w ∈ v_r_X_bell := fun w h => List.mem_cons_of_mem _ (List.mem_append_right _ (List.mem_append_right _ (h)))
set_option maxRecDepth 20000 in
theorem g_r_X_bell_r_X_noSquare : GoodIn v_r_X_bell (wsV RX7 208 RX7 yX7_noSquare v_r_X_noSquare) := g_rows _ [4, 5, 6, 7, 3, 1, 2, 8, 9, 10, 11, 12, 13, 14, 15, 16, 17, 18, 19, 20, 21, 22, 23, 24, 25, 26, 27, 28, 29, 30, 31, 32, 33] rfl (by decide +kernel)
set_option maxHeartbeats 2000000 in
set_option maxRecDepth 100000 in
theorem r_X_bell (l : Launch) (D : va_G) (E : Nat → ClassId) (sz : Nat) (h0 : Nat) (u : Nat → Nat) (a1 : Int32) (a2 : Int32) : Met l yX7_bell v_r_X_bell ({ frames := 1, cells := 0, slots := 0, locals := 20 }) (va_Pc [.ref h0, .int a1, .int a2] (pre D E (wX E h0 u) sz)) (vp_Si (fun r => r = -2)) 0 0 (fun _ => False) := by
  refine c_read (cc := cX7_bell) (maxL := 3) (ret := (some .int)) (by decide) rfl (Nat.le_of_ble_eq_true rfl) ?_
  intro p e s m below meth c ls ⟨hx, hb, hr, hts, hown, hlocks, hin, hml⟩ hP hK hD hN hl
  have hown : s.vm.findClass RX7 = some m.cls := hown
  have hl : lv_has ls 3 [(0, .ref h0), (1, .int a1), (2, .int a2)] := hl
  refine lv_aload_n hx hb dX7_bell_0 rfl (lv_at hl 0 rfl) ?_
  refine vp_callSi (W.runV (As := []) (rest := []) ⟨hx, hb, hml, hown, hts⟩ (r_X_noSquare l D E s.heap.size h0 u ) (cwV 0 hts g_r_X_bell_r_X_noSquare rfl rfl rfl (by decide +kernel) ⟨Nat.le_of_ble_eq_true rfl, Nat.le_of_ble_eq_true rfl⟩) ⟨pre_blind, va_recv hK hP (ci := 7) (q0 := 0) rfl rfl, pre_at hP hK hD hN⟩ rfl rfl hl.1 rfl (lv_room (Nat.le_of_ble_eq_true rfl)) dX7_bell_1 ⟨Nat.le_of_ble_eq_true rfl, Nat.le_of_ble_eq_true rfl⟩) (fun r_1 er_1 => ?_)
  subst er_1
  refine lv_if_ne (tgt := 15) hx hb dX7_bell_4 (by decide) (fun _ => ?_) (fun h9 => absurd h9 (by decide))
  refine lv_bipush (v := (-2)) hx hb dX7_bell_15 (by decide) ?_
  exact e_s (v := (-2)) hx hb hr rfl rfl hlocks dX7_bell_17

def v_r_X_courses : List Cond := .code yX7_courses cX7_courses 2 (some .int) :: ([.fieldLink RX7 27 "UnseenClock" "plan" "LUnseenClock$Plan;", .fieldLink RX7 81 "UnseenClock$Plan" "lines" "I", .code yX7_noSquare cX7_noSquare 1 (some .boolean), .methodLink RX7 208 yX7_noSquare, .instanceMethod yX7_noSquare, .selects RX7 yX7_noSquare yX7_noSquare, .initialized RX7] ++ (wsX70 ++ (wsX30)))
theorem in_r_X_courses_X7 : ∀ w ∈ u_ws RX7 TX7 14, w ∈ v_r_X_courses := fun w h => List.mem_cons_of_mem _ (List.mem_append_right _ (List.mem_append_left _ h))
theorem in_r_X_courses_X3 : ∀ w ∈ u_ws RX3 TX3 12, w ∈ v_r_X_courses := fun w h => List.mem_cons_of_mem _ (List.mem_append_right _ (List.mem_append_right _ (h)))
set_option maxRecDepth 20000 in
theorem g_r_X_courses_r_X_noSquare : GoodIn v_r_X_courses (wsV RX7 208 RX7 yX7_noSquare v_r_X_noSquare) := g_rows _ [4, 5, 6, 7, 3, 1, 2, 8, 9, 10, 11, 12, 13, 14, 15, 16, 17, 18, 19, 20, 21, 22, 23, 24, 25, 26, 27, 28, 29, 30, 31, 32, 33] rfl (by decide +kernel)
set_option maxHeartbeats 2000000 in
set_option maxRecDepth 100000 in
theorem r_X_courses (l : Launch) (D : va_G) (E : Nat → ClassId) (sz : Nat) (h0 : Nat) (u : Nat → Nat)  : Met l yX7_courses v_r_X_courses ({ frames := 1, cells := 0, slots := 0, locals := 20 }) (va_Pc [.ref h0] (pre D E (wX E h0 u) sz)) (vp_Si (fun r => r = -2)) 0 0 (fun _ => False) := by
  refine c_read (cc := cX7_courses) (maxL := 2) (ret := (some .int)) (by decide) rfl (Nat.le_of_ble_eq_true rfl) ?_
  intro p e s m below meth c ls ⟨hx, hb, hr, hts, hown, hlocks, hin, hml⟩ hP hK hD hN hl
  have hown : s.vm.findClass RX7 = some m.cls := hown
  have hl : lv_has ls 2 [(0, .ref h0)] := hl
  refine lv_aload_n hx hb dX7_courses_0 rfl (lv_at hl 0 rfl) ?_
  refine vp_callSi (W.runV (As := []) (rest := []) ⟨hx, hb, hml, hown, hts⟩ (r_X_noSquare l D E s.heap.size h0 u ) (cwV 0 hts g_r_X_courses_r_X_noSquare rfl rfl rfl (by decide +kernel) ⟨Nat.le_of_ble_eq_true rfl, Nat.le_of_ble_eq_true rfl⟩) ⟨pre_blind, va_recv hK hP (ci := 7) (q0 := 0) rfl rfl, pre_at hP hK hD hN⟩ rfl rfl hl.1 rfl (lv_room (Nat.le_of_ble_eq_true rfl)) dX7_courses_1 ⟨Nat.le_of_ble_eq_true rfl, Nat.le_of_ble_eq_true rfl⟩) (fun r_1 er_1 => ?_)
  subst er_1
  refine lv_if_eq (tgt := 10) hx hb dX7_courses_4 (by decide) (fun h9 => absurd h9 (by decide)) (fun _ => ?_)
  refine lv_bipush (v := (-2)) hx hb dX7_courses_7 (by decide) ?_
  exact e_s (v := (-2)) hx hb hr rfl rfl hlocks dX7_courses_9

def v_r_X_among : List Cond := .code yX7_among cX7_among 5 (some .int) :: ([.fieldLink RX7 27 "UnseenClock" "plan" "LUnseenClock$Plan;", .fieldLink RX7 118 "UnseenClock$Plan" "clocks" "I", .code yX7_noClock cX7_noClock 2 (some .boolean), .methodLink RX7 121 yX7_noClock, .instanceMethod yX7_noClock, .selects RX7 yX7_noClock yX7_noClock, .initialized RX7, .code yX7_noClockThen cX7_noClockThen 3 (some .boolean), .methodLink RX7 172 yX7_noClockThen, .instanceMethod yX7_noClockThen, .selects RX7 yX7_noClockThen yX7_noClockThen] ++ (wsX70 ++ (wsX30)))
theorem in_r_X_among_X7 : ∀ w ∈ u_ws RX7 TX7 14, w ∈ v_r_X_among := fun w h => List.mem_cons_of_mem _ (List.mem_append_right _ (List.mem_append_left _ h))
theorem in_r_X_among_X3 : ∀ w ∈ u_ws RX3 TX3 12, w ∈ v_r_X_among := fun w h => List.mem_cons_of_mem _ (List.mem_append_right _ (List.mem_append_right _ (h)))
set_option maxRecDepth 20000 in
theorem g_r_X_among_r_X_noClockThen : GoodIn v_r_X_among (wsV RX7 172 RX7 yX7_noClockThen v_r_X_noClockThen) := g_rows _ [9, 10, 11, 7, 8, 1, 2, 3, 4, 5, 6, 7, 12, 13, 14, 15, 16, 17, 18, 19, 20, 21, 22, 23, 24, 25, 26, 27, 28, 29, 30, 31, 32, 33, 34, 35, 36, 37] rfl (by decide +kernel)
set_option maxHeartbeats 2000000 in
set_option maxRecDepth 100000 in
theorem r_X_among (l : Launch) (D : va_G) (E : Nat → ClassId) (sz : Nat) (h0 : Nat) (u : Nat → Nat) (a1 : Int32) (a2 : Int32) (a3 : Int32) : Met l yX7_among v_r_X_among ({ frames := 2, cells := 0, slots := 0, locals := 43 }) (va_Pc [.ref h0, .int a1, .int a2, .int a3] (pre D E (wX E h0 u) sz)) (vp_Si (fun r => r = -2)) 0 0 (fun _ => False) := by
  refine c_read (cc := cX7_among) (maxL := 5) (ret := (some .int)) (by decide) rfl (Nat.le_of_ble_eq_true rfl) ?_
  intro p e s m below meth c ls ⟨hx, hb, hr, hts, hown, hlocks, hin, hml⟩ hP hK hD hN hl
  have hown : s.vm.findClass RX7 = some m.cls := hown
  have hl : lv_has ls 5 [(0, .ref h0), (1, .int a1), (2, .int a2), (3, .int a3)] := hl
  refine lv_aload_n hx hb dX7_among_0 rfl (lv_at hl 0 rfl) ?_
  refine lv_iload_n hx hb dX7_among_1 rfl (lv_at hl 1 rfl) ?_
  refine lv_iload_n hx hb dX7_among_2 rfl (lv_at hl 2 rfl) ?_
  refine vp_callSi (W.runV (As := [.int a1, .int a2]) (rest := []) ⟨hx, hb, hml, hown, hts⟩ (r_X_noClockThen l D E s.heap.size h0 u a1 a2) (cwV 2 hts g_r_X_among_r_X_noClockThen rfl rfl rfl (by decide +kernel) ⟨Nat.le_of_ble_eq_true rfl, Nat.le_of_ble_eq_true rfl⟩) ⟨pre_blind, va_recv hK hP (ci := 7) (q0 := 0) rfl rfl, pre_at hP hK hD hN⟩ rfl rfl hl.1 rfl (lv_room (Nat.le_of_ble_eq_true rfl)) dX7_among_3 ⟨Nat.le_of_ble_eq_true rfl, Nat.le_of_ble_eq_true rfl⟩) (fun r_1 er_1 => ?_)
  subst er_1
  refine lv_if_eq (tgt := 12) hx hb dX7_among_6 (by decide) (fun h9 => absurd h9 (by decide)) (fun _ => ?_)
  refine lv_bipush (v := (-2)) hx hb dX7_among_9 (by decide) ?_
  exact e_s (v := (-2)) hx hb hr rfl rfl hlocks dX7_among_11

def v_r_X_sure : List Cond := .code yX7_sure cX7_sure 6 (some .int) :: ([.fieldLink RX7 27 "UnseenClock" "plan" "LUnseenClock$Plan;", .fieldLink RX7 118 "UnseenClock$Plan" "clocks" "I", .code yX7_noClock cX7_noClock 2 (some .boolean), .methodLink RX7 121 yX7_noClock, .instanceMethod yX7_noClock, .selects RX7 yX7_noClock yX7_noClock, .initialized RX7, .code yX7_noClockThen cX7_noClockThen 3 (some .boolean), .methodLink RX7 172 yX7_noClockThen, .instanceMethod yX7_noClockThen, .selects RX7 yX7_noClockThen yX7_noClockThen] ++ (wsX70 ++ (wsX30)))
theorem in_r_X_sure_X7 : ∀ w ∈ u_ws RX7 TX7 14, w ∈ v_r_X_sure := fun w h => List.mem_cons_of_mem _ (List.mem_append_right _ (List.mem_append_left _ h))
theorem in_r_X_sure_X3 : ∀ w ∈ u_ws RX3 TX3 12, w ∈ v_r_X_sure := fun w h => List.mem_cons_of_mem _ (List.mem_append_right _ (List.mem_append_right _ (h)))
set_option maxRecDepth 20000 in
theorem g_r_X_sure_r_X_noClockThen : GoodIn v_r_X_sure (wsV RX7 172 RX7 yX7_noClockThen v_r_X_noClockThen) := g_rows _ [9, 10, 11, 7, 8, 1, 2, 3, 4, 5, 6, 7, 12, 13, 14, 15, 16, 17, 18, 19, 20, 21, 22, 23, 24, 25, 26, 27, 28, 29, 30, 31, 32, 33, 34, 35, 36, 37] rfl (by decide +kernel)
set_option maxHeartbeats 2000000 in
set_option maxRecDepth 100000 in
theorem r_X_sure (l : Launch) (D : va_G) (E : Nat → ClassId) (sz : Nat) (h0 : Nat) (u : Nat → Nat) (a1 : Int32) (a2 : Int32) (a3 : Int32) : Met l yX7_sure v_r_X_sure ({ frames := 2, cells := 0, slots := 0, locals := 43 }) (va_Pc [.ref h0, .int a1, .int a2, .int a3] (pre D E (wX E h0 u) sz)) (vp_Si (fun r => r = -2)) 0 0 (fun _ => False) := by
  refine c_read (cc := cX7_sure) (maxL := 6) (ret := (some .int)) (by decide) rfl (Nat.le_of_ble_eq_true rfl) ?_
  intro p e s m below meth c ls ⟨hx, hb, hr, hts, hown, hlocks, hin, hml⟩ hP hK hD hN hl
  have hown : s.vm.findClass RX7 = some m.cls := hown
  have hl : lv_has ls 6 [(0, .ref h0), (1, .int a1), (2, .int a2), (3, .int a3)] := hl
  refine lv_aload_n hx hb dX7_sure_0 rfl (lv_at hl 0 rfl) ?_
  refine lv_iload_n hx hb dX7_sure_1 rfl (lv_at hl 2 rfl) ?_
  refine lv_iload_n hx hb dX7_sure_2 rfl (lv_at hl 3 rfl) ?_
  refine vp_callSi (W.runV (As := [.int a2, .int a3]) (rest := []) ⟨hx, hb, hml, hown, hts⟩ (r_X_noClockThen l D E s.heap.size h0 u a2 a3) (cwV 2 hts g_r_X_sure_r_X_noClockThen rfl rfl rfl (by decide +kernel) ⟨Nat.le_of_ble_eq_true rfl, Nat.le_of_ble_eq_true rfl⟩) ⟨pre_blind, va_recv hK hP (ci := 7) (q0 := 0) rfl rfl, pre_at hP hK hD hN⟩ rfl rfl hl.1 rfl (lv_room (Nat.le_of_ble_eq_true rfl)) dX7_sure_3 ⟨Nat.le_of_ble_eq_true rfl, Nat.le_of_ble_eq_true rfl⟩) (fun r_1 er_1 => ?_)
  subst er_1
  refine lv_if_eq (tgt := 12) hx hb dX7_sure_6 (by decide) (fun h9 => absurd h9 (by decide)) (fun _ => ?_)
  refine lv_bipush (v := (-2)) hx hb dX7_sure_9 (by decide) ?_
  exact e_s (v := (-2)) hx hb hr rfl rfl hlocks dX7_sure_11

def v_r_X_needs : List Cond := .code yX7_needs cX7_needs 9 (some .int) :: ([.fieldLink RX7 27 "UnseenClock" "plan" "LUnseenClock$Plan;", .fieldLink RX7 118 "UnseenClock$Plan" "clocks" "I", .code yX7_noClock cX7_noClock 2 (some .boolean), .methodLink RX7 121 yX7_noClock, .instanceMethod yX7_noClock, .selects RX7 yX7_noClock yX7_noClock, .initialized RX7, .code yX7_noClockThen cX7_noClockThen 3 (some .boolean), .methodLink RX7 172 yX7_noClockThen, .instanceMethod yX7_noClockThen, .selects RX7 yX7_noClockThen yX7_noClockThen] ++ (wsX70 ++ (wsX30)))
theorem in_r_X_needs_X7 : ∀ w ∈ u_ws RX7 TX7 14, w ∈ v_r_X_needs := fun w h => List.mem_cons_of_mem _ (List.mem_append_right _ (List.mem_append_left _ h))
theorem in_r_X_needs_X3 : ∀ w ∈ u_ws RX3 TX3 12, w ∈ v_r_X_needs := fun w h => List.mem_cons_of_mem _ (List.mem_append_right _ (List.mem_append_right _ (h)))
set_option maxRecDepth 20000 in
theorem g_r_X_needs_r_X_noClockThen : GoodIn v_r_X_needs (wsV RX7 172 RX7 yX7_noClockThen v_r_X_noClockThen) := g_rows _ [9, 10, 11, 7, 8, 1, 2, 3, 4, 5, 6, 7, 12, 13, 14, 15, 16, 17, 18, 19, 20, 21, 22, 23, 24, 25, 26, 27, 28, 29, 30, 31, 32, 33, 34, 35, 36, 37] rfl (by decide +kernel)
set_option maxHeartbeats 2000000 in
set_option maxRecDepth 100000 in
theorem r_X_needs (l : Launch) (D : va_G) (E : Nat → ClassId) (sz : Nat) (h0 : Nat) (u : Nat → Nat) (a1 : Int32) (a2 : Int32) (a3 : Int32) : Met l yX7_needs v_r_X_needs ({ frames := 2, cells := 0, slots := 0, locals := 43 }) (va_Pc [.ref h0, .int a1, .int a2, .int a3] (pre D E (wX E h0 u) sz)) (vp_Si (fun r => r = -2)) 0 0 (fun _ => False) := by
  refine c_read (cc := cX7_needs) (maxL := 9) (ret := (some .int)) (by decide) rfl (Nat.le_of_ble_eq_true rfl) ?_
  intro p e s m below meth c ls ⟨hx, hb, hr, hts, hown, hlocks, hin, hml⟩ hP hK hD hN hl
  have hown : s.vm.findClass RX7 = some m.cls := hown
  have hl : lv_has ls 9 [(0, .ref h0), (1, .int a1), (2, .int a2), (3, .int a3)] := hl
  refine lv_aload_n hx hb dX7_needs_0 rfl (lv_at hl 0 rfl) ?_
  refine lv_iload_n hx hb dX7_needs_1 rfl (lv_at hl 2 rfl) ?_
  refine lv_iload_n hx hb dX7_needs_2 rfl (lv_at hl 3 rfl) ?_
  refine vp_callSi (W.runV (As := [.int a2, .int a3]) (rest := []) ⟨hx, hb, hml, hown, hts⟩ (r_X_noClockThen l D E s.heap.size h0 u a2 a3) (cwV 2 hts g_r_X_needs_r_X_noClockThen rfl rfl rfl (by decide +kernel) ⟨Nat.le_of_ble_eq_true rfl, Nat.le_of_ble_eq_true rfl⟩) ⟨pre_blind, va_recv hK hP (ci := 7) (q0 := 0) rfl rfl, pre_at hP hK hD hN⟩ rfl rfl hl.1 rfl (lv_room (Nat.le_of_ble_eq_true rfl)) dX7_needs_3 ⟨Nat.le_of_ble_eq_true rfl, Nat.le_of_ble_eq_true rfl⟩) (fun r_1 er_1 => ?_)
  subst er_1
  refine lv_if_ne (tgt := 30) hx hb dX7_needs_6 (by decide) (fun _ => ?_) (fun h9 => absurd h9 (by decide))
  refine lv_bipush (v := (-2)) hx hb dX7_needs_30 (by decide) ?_
  exact e_s (v := (-2)) hx hb hr rfl rfl hlocks dX7_needs_32

def v_r_X_knows : List Cond := .code yX7_knows cX7_knows 5 (some .int) :: ([.fieldLink RX7 27 "UnseenClock" "plan" "LUnseenClock$Plan;", .fieldLink RX7 115 "UnseenClock$Plan" "people" "I", .code yX7_noPerson cX7_noPerson 2 (some .boolean), .methodLink RX7 128 yX7_noPerson, .instanceMethod yX7_noPerson, .selects RX7 yX7_noPerson yX7_noPerson, .initialized RX7] ++ (wsX70 ++ (wsX30)))
theorem in_r_X_knows_X7 : ∀ w ∈ u_ws RX7 TX7 14, w ∈ v_r_X_knows := fun w h => List.mem_cons_of_mem _ (List.mem_append_right _ (List.mem_append_left _ h))
theorem in_r_X_knows_X3 : ∀ w ∈ u_ws RX3 TX3 12, w ∈ v_r_X_knows := fun w h => List.mem_cons_of_mem _ (List.mem_append_right _ (List.mem_append_right _ (h)))
set_option maxRecDepth 20000 in
theorem g_r_X_knows_r_X_noPerson : GoodIn v_r_X_knows (wsV RX7 128 RX7 yX7_noPerson v_r_X_noPerson) := g_rows _ [4, 5, 6, 7, 3, 1, 2, 8, 9, 10, 11, 12, 13, 14, 15, 16, 17, 18, 19, 20, 21, 22, 23, 24, 25, 26, 27, 28, 29, 30, 31, 32, 33] rfl (by decide +kernel)
set_option maxHeartbeats 2000000 in
set_option maxRecDepth 100000 in
theorem r_X_knows (l : Launch) (D : va_G) (E : Nat → ClassId) (sz : Nat) (h0 : Nat) (u : Nat → Nat) (a1 : Int32) (a2 : Int32) (a3 : Int32) : Met l yX7_knows v_r_X_knows ({ frames := 1, cells := 0, slots := 0, locals := 21 }) (va_Pc [.ref h0, .int a1, .int a2, .int a3] (pre D E (wX E h0 u) sz)) (vp_Si (fun r => r = -2)) 0 0 (fun _ => False) := by
  refine c_read (cc := cX7_knows) (maxL := 5) (ret := (some .int)) (by decide) rfl (Nat.le_of_ble_eq_true rfl) ?_
  intro p e s m below meth c ls ⟨hx, hb, hr, hts, hown, hlocks, hin, hml⟩ hP hK hD hN hl
  have hown : s.vm.findClass RX7 = some m.cls := hown
  have hl : lv_has ls 5 [(0, .ref h0), (1, .int a1), (2, .int a2), (3, .int a3)] := hl
  refine lv_aload_n hx hb dX7_knows_0 rfl (lv_at hl 0 rfl) ?_
  refine lv_iload_n hx hb dX7_knows_1 rfl (lv_at hl 1 rfl) ?_
  refine vp_callSi (W.runV (As := [.int a1]) (rest := []) ⟨hx, hb, hml, hown, hts⟩ (r_X_noPerson l D E s.heap.size h0 u a1) (cwV 1 hts g_r_X_knows_r_X_noPerson rfl rfl rfl (by decide +kernel) ⟨Nat.le_of_ble_eq_true rfl, Nat.le_of_ble_eq_true rfl⟩) ⟨pre_blind, va_recv hK hP (ci := 7) (q0 := 0) rfl rfl, pre_at hP hK hD hN⟩ rfl rfl hl.1 rfl (lv_room (Nat.le_of_ble_eq_true rfl)) dX7_knows_2 ⟨Nat.le_of_ble_eq_true rfl, Nat.le_of_ble_eq_true rfl⟩) (fun r_1 er_1 => ?_)
  subst er_1
  refine lv_if_ne (tgt := 17) hx hb dX7_knows_5 (by decide) (fun _ => ?_) (fun h9 => absurd h9 (by decide))
  refine lv_bipush (v := (-2)) hx hb dX7_knows_17 (by decide) ?_
  exact e_s (v := (-2)) hx hb hr rfl rfl hlocks dX7_knows_19

def v_r_X_common : List Cond := .code yX7_common cX7_common 5 (some .int) :: ([.fieldLink RX7 27 "UnseenClock" "plan" "LUnseenClock$Plan;", .fieldLink RX7 118 "UnseenClock$Plan" "clocks" "I", .code yX7_noClock cX7_noClock 2 (some .boolean), .methodLink RX7 121 yX7_noClock, .instanceMethod yX7_noClock, .selects RX7 yX7_noClock yX7_noClock, .initialized RX7, .code yX7_noClockThen cX7_noClockThen 3 (some .boolean), .methodLink RX7 172 yX7_noClockThen, .instanceMethod yX7_noClockThen, .selects RX7 yX7_noClockThen yX7_noClockThen] ++ (wsX70 ++ (wsX30)))
theorem in_r_X_common_X7 : ∀ w ∈ u_ws RX7 TX7 14, w ∈ v_r_X_common := fun w h => List.mem_cons_of_mem _ (List.mem_append_right _ (List.mem_append_left _ h))
theorem in_r_X_common_X3 : ∀ w ∈ u_ws RX3 TX3 12, w ∈ v_r_X_common := fun w h => List.mem_cons_of_mem _ (List.mem_append_right _ (List.mem_append_right _ (h)))
set_option maxRecDepth 20000 in
theorem g_r_X_common_r_X_noClockThen : GoodIn v_r_X_common (wsV RX7 172 RX7 yX7_noClockThen v_r_X_noClockThen) := g_rows _ [9, 10, 11, 7, 8, 1, 2, 3, 4, 5, 6, 7, 12, 13, 14, 15, 16, 17, 18, 19, 20, 21, 22, 23, 24, 25, 26, 27, 28, 29, 30, 31, 32, 33, 34, 35, 36, 37] rfl (by decide +kernel)
set_option maxHeartbeats 2000000 in
set_option maxRecDepth 100000 in
theorem r_X_common (l : Launch) (D : va_G) (E : Nat → ClassId) (sz : Nat) (h0 : Nat) (u : Nat → Nat) (a1 : Int32) (a2 : Int32) (a3 : Int32) : Met l yX7_common v_r_X_common ({ frames := 2, cells := 0, slots := 0, locals := 43 }) (va_Pc [.ref h0, .int a1, .int a2, .int a3] (pre D E (wX E h0 u) sz)) (vp_Si (fun r => r = -2)) 0 0 (fun _ => False) := by
  refine c_read (cc := cX7_common) (maxL := 5) (ret := (some .int)) (by decide) rfl (Nat.le_of_ble_eq_true rfl) ?_
  intro p e s m below meth c ls ⟨hx, hb, hr, hts, hown, hlocks, hin, hml⟩ hP hK hD hN hl
  have hown : s.vm.findClass RX7 = some m.cls := hown
  have hl : lv_has ls 5 [(0, .ref h0), (1, .int a1), (2, .int a2), (3, .int a3)] := hl
  refine lv_aload_n hx hb dX7_common_0 rfl (lv_at hl 0 rfl) ?_
  refine lv_iload_n hx hb dX7_common_1 rfl (lv_at hl 2 rfl) ?_
  refine lv_iload_n hx hb dX7_common_2 rfl (lv_at hl 3 rfl) ?_
  refine vp_callSi (W.runV (As := [.int a2, .int a3]) (rest := []) ⟨hx, hb, hml, hown, hts⟩ (r_X_noClockThen l D E s.heap.size h0 u a2 a3) (cwV 2 hts g_r_X_common_r_X_noClockThen rfl rfl rfl (by decide +kernel) ⟨Nat.le_of_ble_eq_true rfl, Nat.le_of_ble_eq_true rfl⟩) ⟨pre_blind, va_recv hK hP (ci := 7) (q0 := 0) rfl rfl, pre_at hP hK hD hN⟩ rfl rfl hl.1 rfl (lv_room (Nat.le_of_ble_eq_true rfl)) dX7_common_3 ⟨Nat.le_of_ble_eq_true rfl, Nat.le_of_ble_eq_true rfl⟩) (fun r_1 er_1 => ?_)
  subst er_1
  refine lv_if_ne (tgt := 26) hx hb dX7_common_6 (by decide) (fun _ => ?_) (fun h9 => absurd h9 (by decide))
  refine lv_bipush (v := (-2)) hx hb dX7_common_26 (by decide) ?_
  exact e_s (v := (-2)) hx hb hr rfl rfl hlocks dX7_common_28

def v_r_X_alike : List Cond := .code yX7_alike cX7_alike 3 (some .int) :: ([.fieldLink RX7 27 "UnseenClock" "plan" "LUnseenClock$Plan;", .fieldLink RX7 115 "UnseenClock$Plan" "people" "I", .code yX7_noPerson cX7_noPerson 2 (some .boolean), .methodLink RX7 128 yX7_noPerson, .instanceMethod yX7_noPerson, .selects RX7 yX7_noPerson yX7_noPerson, .initialized RX7] ++ (wsX70 ++ (wsX30)))
theorem in_r_X_alike_X7 : ∀ w ∈ u_ws RX7 TX7 14, w ∈ v_r_X_alike := fun w h => List.mem_cons_of_mem _ (List.mem_append_right _ (List.mem_append_left _ h))
theorem in_r_X_alike_X3 : ∀ w ∈ u_ws RX3 TX3 12, w ∈ v_r_X_alike := fun w h => List.mem_cons_of_mem _ (List.mem_append_right _ (List.mem_append_right _ (h)))
set_option maxRecDepth 20000 in
theorem g_r_X_alike_r_X_noPerson : GoodIn v_r_X_alike (wsV RX7 128 RX7 yX7_noPerson v_r_X_noPerson) := g_rows _ [4, 5, 6, 7, 3, 1, 2, 8, 9, 10, 11, 12, 13, 14, 15, 16, 17, 18, 19, 20, 21, 22, 23, 24, 25, 26, 27, 28, 29, 30, 31, 32, 33] rfl (by decide +kernel)
set_option maxHeartbeats 2000000 in
set_option maxRecDepth 100000 in
theorem r_X_alike (l : Launch) (D : va_G) (E : Nat → ClassId) (sz : Nat) (h0 : Nat) (u : Nat → Nat) (a1 : Int32) : Met l yX7_alike v_r_X_alike ({ frames := 1, cells := 0, slots := 0, locals := 21 }) (va_Pc [.ref h0, .int a1] (pre D E (wX E h0 u) sz)) (vp_Si (fun r => r = -2)) 0 0 (fun _ => False) := by
  refine c_read (cc := cX7_alike) (maxL := 3) (ret := (some .int)) (by decide) rfl (Nat.le_of_ble_eq_true rfl) ?_
  intro p e s m below meth c ls ⟨hx, hb, hr, hts, hown, hlocks, hin, hml⟩ hP hK hD hN hl
  have hown : s.vm.findClass RX7 = some m.cls := hown
  have hl : lv_has ls 3 [(0, .ref h0), (1, .int a1)] := hl
  refine lv_aload_n hx hb dX7_alike_0 rfl (lv_at hl 0 rfl) ?_
  refine lv_iload_n hx hb dX7_alike_1 rfl (lv_at hl 1 rfl) ?_
  refine vp_callSi (W.runV (As := [.int a1]) (rest := []) ⟨hx, hb, hml, hown, hts⟩ (r_X_noPerson l D E s.heap.size h0 u a1) (cwV 1 hts g_r_X_alike_r_X_noPerson rfl rfl rfl (by decide +kernel) ⟨Nat.le_of_ble_eq_true rfl, Nat.le_of_ble_eq_true rfl⟩) ⟨pre_blind, va_recv hK hP (ci := 7) (q0 := 0) rfl rfl, pre_at hP hK hD hN⟩ rfl rfl hl.1 rfl (lv_room (Nat.le_of_ble_eq_true rfl)) dX7_alike_2 ⟨Nat.le_of_ble_eq_true rfl, Nat.le_of_ble_eq_true rfl⟩) (fun r_1 er_1 => ?_)
  subst er_1
  refine lv_if_eq (tgt := 11) hx hb dX7_alike_5 (by decide) (fun h9 => absurd h9 (by decide)) (fun _ => ?_)
  refine lv_bipush (v := (-2)) hx hb dX7_alike_8 (by decide) ?_
  exact e_s (v := (-2)) hx hb hr rfl rfl hlocks dX7_alike_10

def v_r_X_lie : List Cond := .code yX7_lie cX7_lie 6 (some .int) :: ([.fieldLink RX7 27 "UnseenClock" "plan" "LUnseenClock$Plan;", .fieldLink RX7 115 "UnseenClock$Plan" "people" "I", .code yX7_noPerson cX7_noPerson 2 (some .boolean), .methodLink RX7 128 yX7_noPerson, .instanceMethod yX7_noPerson, .selects RX7 yX7_noPerson yX7_noPerson, .initialized RX7] ++ (wsX70 ++ (wsX30)))
theorem in_r_X_lie_X7 : ∀ w ∈ u_ws RX7 TX7 14, w ∈ v_r_X_lie := fun w h => List.mem_cons_of_mem _ (List.mem_append_right _ (List.mem_append_left _ h))
theorem in_r_X_lie_X3 : ∀ w ∈ u_ws RX3 TX3 12, w ∈ v_r_X_lie := fun w h => List.mem_cons_of_mem _ (List.mem_append_right _ (List.mem_append_right _ (h)))
set_option maxRecDepth 20000 in
theorem g_r_X_lie_r_X_noPerson : GoodIn v_r_X_lie (wsV RX7 128 RX7 yX7_noPerson v_r_X_noPerson) := g_rows _ [4, 5, 6, 7, 3, 1, 2, 8, 9, 10, 11, 12, 13, 14, 15, 16, 17, 18, 19, 20, 21, 22, 23, 24, 25, 26, 27, 28, 29, 30, 31, 32, 33] rfl (by decide +kernel)
set_option maxHeartbeats 2000000 in
set_option maxRecDepth 100000 in
theorem r_X_lie (l : Launch) (D : va_G) (E : Nat → ClassId) (sz : Nat) (h0 : Nat) (u : Nat → Nat) (a1 : Int32) (a2 : Int32) (a3 : Int32) (a4 : Int32) : Met l yX7_lie v_r_X_lie ({ frames := 1, cells := 0, slots := 0, locals := 21 }) (va_Pc [.ref h0, .int a1, .int a2, .int a3, .int a4] (pre D E (wX E h0 u) sz)) (vp_Si (fun r => r = -2)) 0 0 (fun _ => False) := by
  refine c_read (cc := cX7_lie) (maxL := 6) (ret := (some .int)) (by decide) rfl (Nat.le_of_ble_eq_true rfl) ?_
  intro p e s m below meth c ls ⟨hx, hb, hr, hts, hown, hlocks, hin, hml⟩ hP hK hD hN hl
  have hown : s.vm.findClass RX7 = some m.cls := hown
  have hl : lv_has ls 6 [(0, .ref h0), (1, .int a1), (2, .int a2), (3, .int a3), (4, .int a4)] := hl
  refine lv_aload_n hx hb dX7_lie_0 rfl (lv_at hl 0 rfl) ?_
  refine lv_iload_n hx hb dX7_lie_1 rfl (lv_at hl 1 rfl) ?_
  refine vp_callSi (W.runV (As := [.int a1]) (rest := []) ⟨hx, hb, hml, hown, hts⟩ (r_X_noPerson l D E s.heap.size h0 u a1) (cwV 1 hts g_r_X_lie_r_X_noPerson rfl rfl rfl (by decide +kernel) ⟨Nat.le_of_ble_eq_true rfl, Nat.le_of_ble_eq_true rfl⟩) ⟨pre_blind, va_recv hK hP (ci := 7) (q0 := 0) rfl rfl, pre_at hP hK hD hN⟩ rfl rfl hl.1 rfl (lv_room (Nat.le_of_ble_eq_true rfl)) dX7_lie_2 ⟨Nat.le_of_ble_eq_true rfl, Nat.le_of_ble_eq_true rfl⟩) (fun r_1 er_1 => ?_)
  subst er_1
  refine lv_if_ne (tgt := 17) hx hb dX7_lie_5 (by decide) (fun _ => ?_) (fun h9 => absurd h9 (by decide))
  refine lv_bipush (v := (-2)) hx hb dX7_lie_17 (by decide) ?_
  exact e_s (v := (-2)) hx hb hr rfl rfl hlocks dX7_lie_19

def v_r_X_shown : List Cond := .code yX7_shown cX7_shown 6 (some .int) :: ([.fieldLink RX7 27 "UnseenClock" "plan" "LUnseenClock$Plan;", .fieldLink RX7 115 "UnseenClock$Plan" "people" "I", .code yX7_noPerson cX7_noPerson 2 (some .boolean), .methodLink RX7 128 yX7_noPerson, .instanceMethod yX7_noPerson, .selects RX7 yX7_noPerson yX7_noPerson, .initialized RX7] ++ (wsX70 ++ (wsX30)))
theorem in_r_X_shown_X7 : ∀ w ∈ u_ws RX7 TX7 14, w ∈ v_r_X_shown := fun w h => List.mem_cons_of_mem _ (List.mem_append_right _ (List.mem_append_left _ h))
theorem in_r_X_shown_X3 : ∀ w ∈ u_ws RX3 TX3 12, w ∈ v_r_X_shown := fun w h => List.mem_cons_of_mem _ (List.mem_append_right _ (List.mem_append_right _ (h)))
set_option maxRecDepth 20000 in
theorem g_r_X_shown_r_X_noPerson : GoodIn v_r_X_shown (wsV RX7 128 RX7 yX7_noPerson v_r_X_noPerson) := g_rows _ [4, 5, 6, 7, 3, 1, 2, 8, 9, 10, 11, 12, 13, 14, 15, 16, 17, 18, 19, 20, 21, 22, 23, 24, 25, 26, 27, 28, 29, 30, 31, 32, 33] rfl (by decide +kernel)
set_option maxHeartbeats 2000000 in
set_option maxRecDepth 100000 in
theorem r_X_shown (l : Launch) (D : va_G) (E : Nat → ClassId) (sz : Nat) (h0 : Nat) (u : Nat → Nat) (a1 : Int32) (a2 : Int32) (a3 : Int32) (a4 : Int32) : Met l yX7_shown v_r_X_shown ({ frames := 1, cells := 0, slots := 0, locals := 21 }) (va_Pc [.ref h0, .int a1, .int a2, .int a3, .int a4] (pre D E (wX E h0 u) sz)) (vp_Si (fun r => r = -2)) 0 0 (fun _ => False) := by
  refine c_read (cc := cX7_shown) (maxL := 6) (ret := (some .int)) (by decide) rfl (Nat.le_of_ble_eq_true rfl) ?_
  intro p e s m below meth c ls ⟨hx, hb, hr, hts, hown, hlocks, hin, hml⟩ hP hK hD hN hl
  have hown : s.vm.findClass RX7 = some m.cls := hown
  have hl : lv_has ls 6 [(0, .ref h0), (1, .int a1), (2, .int a2), (3, .int a3), (4, .int a4)] := hl
  refine lv_aload_n hx hb dX7_shown_0 rfl (lv_at hl 0 rfl) ?_
  refine lv_iload_n hx hb dX7_shown_1 rfl (lv_at hl 1 rfl) ?_
  refine vp_callSi (W.runV (As := [.int a1]) (rest := []) ⟨hx, hb, hml, hown, hts⟩ (r_X_noPerson l D E s.heap.size h0 u a1) (cwV 1 hts g_r_X_shown_r_X_noPerson rfl rfl rfl (by decide +kernel) ⟨Nat.le_of_ble_eq_true rfl, Nat.le_of_ble_eq_true rfl⟩) ⟨pre_blind, va_recv hK hP (ci := 7) (q0 := 0) rfl rfl, pre_at hP hK hD hN⟩ rfl rfl hl.1 rfl (lv_room (Nat.le_of_ble_eq_true rfl)) dX7_shown_2 ⟨Nat.le_of_ble_eq_true rfl, Nat.le_of_ble_eq_true rfl⟩) (fun r_1 er_1 => ?_)
  subst er_1
  refine lv_if_ne (tgt := 17) hx hb dX7_shown_5 (by decide) (fun _ => ?_) (fun h9 => absurd h9 (by decide))
  refine lv_bipush (v := (-2)) hx hb dX7_shown_17 (by decide) ?_
  exact e_s (v := (-2)) hx hb hr rfl rfl hlocks dX7_shown_19

def v_r_X_both : List Cond := .code yX7_both cX7_both 6 (some .int) :: ([.fieldLink RX7 27 "UnseenClock" "plan" "LUnseenClock$Plan;", .fieldLink RX7 115 "UnseenClock$Plan" "people" "I", .code yX7_noPerson cX7_noPerson 2 (some .boolean), .methodLink RX7 128 yX7_noPerson, .instanceMethod yX7_noPerson, .selects RX7 yX7_noPerson yX7_noPerson, .initialized RX7] ++ (wsX70 ++ (wsX30)))
theorem in_r_X_both_X7 : ∀ w ∈ u_ws RX7 TX7 14, w ∈ v_r_X_both := fun w h => List.mem_cons_of_mem _ (List.mem_append_right _ (List.mem_append_left _ h))
theorem in_r_X_both_X3 : ∀ w ∈ u_ws RX3 TX3 12, w ∈ v_r_X_both := fun w h => List.mem_cons_of_mem _ (List.mem_append_right _ (List.mem_append_right _ (h)))
set_option maxRecDepth 20000 in
theorem g_r_X_both_r_X_noPerson : GoodIn v_r_X_both (wsV RX7 128 RX7 yX7_noPerson v_r_X_noPerson) := g_rows _ [4, 5, 6, 7, 3, 1, 2, 8, 9, 10, 11, 12, 13, 14, 15, 16, 17, 18, 19, 20, 21, 22, 23, 24, 25, 26, 27, 28, 29, 30, 31, 32, 33] rfl (by decide +kernel)
set_option maxHeartbeats 2000000 in
set_option maxRecDepth 100000 in
theorem r_X_both (l : Launch) (D : va_G) (E : Nat → ClassId) (sz : Nat) (h0 : Nat) (u : Nat → Nat) (a1 : Int32) (a2 : Int32) (a3 : Int32) (a4 : Int32) : Met l yX7_both v_r_X_both ({ frames := 1, cells := 0, slots := 0, locals := 21 }) (va_Pc [.ref h0, .int a1, .int a2, .int a3, .int a4] (pre D E (wX E h0 u) sz)) (vp_Si (fun r => r = -2)) 0 0 (fun _ => False) := by
  refine c_read (cc := cX7_both) (maxL := 6) (ret := (some .int)) (by decide) rfl (Nat.le_of_ble_eq_true rfl) ?_
  intro p e s m below meth c ls ⟨hx, hb, hr, hts, hown, hlocks, hin, hml⟩ hP hK hD hN hl
  have hown : s.vm.findClass RX7 = some m.cls := hown
  have hl : lv_has ls 6 [(0, .ref h0), (1, .int a1), (2, .int a2), (3, .int a3), (4, .int a4)] := hl
  refine lv_aload_n hx hb dX7_both_0 rfl (lv_at hl 0 rfl) ?_
  refine lv_iload_n hx hb dX7_both_1 rfl (lv_at hl 1 rfl) ?_
  refine vp_callSi (W.runV (As := [.int a1]) (rest := []) ⟨hx, hb, hml, hown, hts⟩ (r_X_noPerson l D E s.heap.size h0 u a1) (cwV 1 hts g_r_X_both_r_X_noPerson rfl rfl rfl (by decide +kernel) ⟨Nat.le_of_ble_eq_true rfl, Nat.le_of_ble_eq_true rfl⟩) ⟨pre_blind, va_recv hK hP (ci := 7) (q0 := 0) rfl rfl, pre_at hP hK hD hN⟩ rfl rfl hl.1 rfl (lv_room (Nat.le_of_ble_eq_true rfl)) dX7_both_2 ⟨Nat.le_of_ble_eq_true rfl, Nat.le_of_ble_eq_true rfl⟩) (fun r_1 er_1 => ?_)
  subst er_1
  refine lv_if_ne (tgt := 31) hx hb dX7_both_5 (by decide) (fun _ => ?_) (fun h9 => absurd h9 (by decide))
  refine lv_bipush (v := (-2)) hx hb dX7_both_31 (by decide) ?_
  exact e_s (v := (-2)) hx hb hr rfl rfl hlocks dX7_both_33

def v_r_X_learns : List Cond := .code yX7_learns cX7_learns 5 (some .int) :: ([.fieldLink RX7 27 "UnseenClock" "plan" "LUnseenClock$Plan;", .fieldLink RX7 115 "UnseenClock$Plan" "people" "I", .code yX7_noPerson cX7_noPerson 2 (some .boolean), .methodLink RX7 128 yX7_noPerson, .instanceMethod yX7_noPerson, .selects RX7 yX7_noPerson yX7_noPerson, .initialized RX7] ++ (wsX70 ++ (wsX30)))
theorem in_r_X_learns_X7 : ∀ w ∈ u_ws RX7 TX7 14, w ∈ v_r_X_learns := fun w h => List.mem_cons_of_mem _ (List.mem_append_right _ (List.mem_append_left _ h))
theorem in_r_X_learns_X3 : ∀ w ∈ u_ws RX3 TX3 12, w ∈ v_r_X_learns := fun w h => List.mem_cons_of_mem _ (List.mem_append_right _ (List.mem_append_right _ (h)))
set_option maxRecDepth 20000 in
theorem g_r_X_learns_r_X_noPerson : GoodIn v_r_X_learns (wsV RX7 128 RX7 yX7_noPerson v_r_X_noPerson) := g_rows _ [4, 5, 6, 7, 3, 1, 2, 8, 9, 10, 11, 12, 13, 14, 15, 16, 17, 18, 19, 20, 21, 22, 23, 24, 25, 26, 27, 28, 29, 30, 31, 32, 33] rfl (by decide +kernel)
set_option maxHeartbeats 2000000 in
set_option maxRecDepth 100000 in
theorem r_X_learns (l : Launch) (D : va_G) (E : Nat → ClassId) (sz : Nat) (h0 : Nat) (u : Nat → Nat) (a1 : Int32) (a2 : Int32) (a3 : Int32) : Met l yX7_learns v_r_X_learns ({ frames := 1, cells := 0, slots := 0, locals := 21 }) (va_Pc [.ref h0, .int a1, .int a2, .int a3] (pre D E (wX E h0 u) sz)) (vp_Si (fun r => r = -2)) 0 0 (fun _ => False) := by
  refine c_read (cc := cX7_learns) (maxL := 5) (ret := (some .int)) (by decide) rfl (Nat.le_of_ble_eq_true rfl) ?_
  intro p e s m below meth c ls ⟨hx, hb, hr, hts, hown, hlocks, hin, hml⟩ hP hK hD hN hl
  have hown : s.vm.findClass RX7 = some m.cls := hown
  have hl : lv_has ls 5 [(0, .ref h0), (1, .int a1), (2, .int a2), (3, .int a3)] := hl
  refine lv_aload_n hx hb dX7_learns_0 rfl (lv_at hl 0 rfl) ?_
  refine lv_iload_n hx hb dX7_learns_1 rfl (lv_at hl 1 rfl) ?_
  refine vp_callSi (W.runV (As := [.int a1]) (rest := []) ⟨hx, hb, hml, hown, hts⟩ (r_X_noPerson l D E s.heap.size h0 u a1) (cwV 1 hts g_r_X_learns_r_X_noPerson rfl rfl rfl (by decide +kernel) ⟨Nat.le_of_ble_eq_true rfl, Nat.le_of_ble_eq_true rfl⟩) ⟨pre_blind, va_recv hK hP (ci := 7) (q0 := 0) rfl rfl, pre_at hP hK hD hN⟩ rfl rfl hl.1 rfl (lv_room (Nat.le_of_ble_eq_true rfl)) dX7_learns_2 ⟨Nat.le_of_ble_eq_true rfl, Nat.le_of_ble_eq_true rfl⟩) (fun r_1 er_1 => ?_)
  subst er_1
  refine lv_if_ne (tgt := 17) hx hb dX7_learns_5 (by decide) (fun _ => ?_) (fun h9 => absurd h9 (by decide))
  refine lv_bipush (v := (-2)) hx hb dX7_learns_17 (by decide) ?_
  exact e_s (v := (-2)) hx hb hr rfl rfl hlocks dX7_learns_19

def v_r_X_sights : List Cond := .code yX7_sights cX7_sights 3 (some .int) :: ([.fieldLink RX7 27 "UnseenClock" "plan" "LUnseenClock$Plan;", .fieldLink RX7 115 "UnseenClock$Plan" "people" "I", .code yX7_noPerson cX7_noPerson 2 (some .boolean), .methodLink RX7 128 yX7_noPerson, .instanceMethod yX7_noPerson, .selects RX7 yX7_noPerson yX7_noPerson, .initialized RX7] ++ (wsX70 ++ (wsX30)))
theorem in_r_X_sights_X7 : ∀ w ∈ u_ws RX7 TX7 14, w ∈ v_r_X_sights := fun w h => List.mem_cons_of_mem _ (List.mem_append_right _ (List.mem_append_left _ h))
theorem in_r_X_sights_X3 : ∀ w ∈ u_ws RX3 TX3 12, w ∈ v_r_X_sights := fun w h => List.mem_cons_of_mem _ (List.mem_append_right _ (List.mem_append_right _ (h)))
set_option maxRecDepth 20000 in
theorem g_r_X_sights_r_X_noPerson : GoodIn v_r_X_sights (wsV RX7 128 RX7 yX7_noPerson v_r_X_noPerson) := g_rows _ [4, 5, 6, 7, 3, 1, 2, 8, 9, 10, 11, 12, 13, 14, 15, 16, 17, 18, 19, 20, 21, 22, 23, 24, 25, 26, 27, 28, 29, 30, 31, 32, 33] rfl (by decide +kernel)
set_option maxHeartbeats 2000000 in
set_option maxRecDepth 100000 in
theorem r_X_sights (l : Launch) (D : va_G) (E : Nat → ClassId) (sz : Nat) (h0 : Nat) (u : Nat → Nat) (a1 : Int32) : Met l yX7_sights v_r_X_sights ({ frames := 1, cells := 0, slots := 0, locals := 21 }) (va_Pc [.ref h0, .int a1] (pre D E (wX E h0 u) sz)) (vp_Si (fun r => r = -2)) 0 0 (fun _ => False) := by
  refine c_read (cc := cX7_sights) (maxL := 3) (ret := (some .int)) (by decide) rfl (Nat.le_of_ble_eq_true rfl) ?_
  intro p e s m below meth c ls ⟨hx, hb, hr, hts, hown, hlocks, hin, hml⟩ hP hK hD hN hl
  have hown : s.vm.findClass RX7 = some m.cls := hown
  have hl : lv_has ls 3 [(0, .ref h0), (1, .int a1)] := hl
  refine lv_aload_n hx hb dX7_sights_0 rfl (lv_at hl 0 rfl) ?_
  refine lv_iload_n hx hb dX7_sights_1 rfl (lv_at hl 1 rfl) ?_
  refine vp_callSi (W.runV (As := [.int a1]) (rest := []) ⟨hx, hb, hml, hown, hts⟩ (r_X_noPerson l D E s.heap.size h0 u a1) (cwV 1 hts g_r_X_sights_r_X_noPerson rfl rfl rfl (by decide +kernel) ⟨Nat.le_of_ble_eq_true rfl, Nat.le_of_ble_eq_true rfl⟩) ⟨pre_blind, va_recv hK hP (ci := 7) (q0 := 0) rfl rfl, pre_at hP hK hD hN⟩ rfl rfl hl.1 rfl (lv_room (Nat.le_of_ble_eq_true rfl)) dX7_sights_2 ⟨Nat.le_of_ble_eq_true rfl, Nat.le_of_ble_eq_true rfl⟩) (fun r_1 er_1 => ?_)
  subst er_1
  refine lv_if_eq (tgt := 11) hx hb dX7_sights_5 (by decide) (fun h9 => absurd h9 (by decide)) (fun _ => ?_)
  refine lv_bipush (v := (-2)) hx hb dX7_sights_8 (by decide) ?_
  exact e_s (v := (-2)) hx hb hr rfl rfl hlocks dX7_sights_10

def v_r_X_meets : List Cond := .code yX7_meets cX7_meets 5 (some .int) :: ([.fieldLink RX7 27 "UnseenClock" "plan" "LUnseenClock$Plan;", .fieldLink RX7 115 "UnseenClock$Plan" "people" "I", .code yX7_noPerson cX7_noPerson 2 (some .boolean), .methodLink RX7 128 yX7_noPerson, .instanceMethod yX7_noPerson, .selects RX7 yX7_noPerson yX7_noPerson, .initialized RX7] ++ (wsX70 ++ (wsX30)))
theorem in_r_X_meets_X7 : ∀ w ∈ u_ws RX7 TX7 14, w ∈ v_r_X_meets := fun w h => List.mem_cons_of_mem _ (List.mem_append_right _ (List.mem_append_left _ h))
theorem in_r_X_meets_X3 : ∀ w ∈ u_ws RX3 TX3 12, w ∈ v_r_X_meets := fun w h => List.mem_cons_of_mem _ (List.mem_append_right _ (List.mem_append_right _ (h)))
set_option maxRecDepth 20000 in
theorem g_r_X_meets_r_X_noPerson : GoodIn v_r_X_meets (wsV RX7 128 RX7 yX7_noPerson v_r_X_noPerson) := g_rows _ [4, 5, 6, 7, 3, 1, 2, 8, 9, 10, 11, 12, 13, 14, 15, 16, 17, 18, 19, 20, 21, 22, 23, 24, 25, 26, 27, 28, 29, 30, 31, 32, 33] rfl (by decide +kernel)
set_option maxHeartbeats 2000000 in
set_option maxRecDepth 100000 in
theorem r_X_meets (l : Launch) (D : va_G) (E : Nat → ClassId) (sz : Nat) (h0 : Nat) (u : Nat → Nat) (a1 : Int32) (a2 : Int32) : Met l yX7_meets v_r_X_meets ({ frames := 1, cells := 0, slots := 0, locals := 21 }) (va_Pc [.ref h0, .int a1, .int a2] (pre D E (wX E h0 u) sz)) (vp_Si (fun r => r = -2)) 0 0 (fun _ => False) := by
  refine c_read (cc := cX7_meets) (maxL := 5) (ret := (some .int)) (by decide) rfl (Nat.le_of_ble_eq_true rfl) ?_
  intro p e s m below meth c ls ⟨hx, hb, hr, hts, hown, hlocks, hin, hml⟩ hP hK hD hN hl
  have hown : s.vm.findClass RX7 = some m.cls := hown
  have hl : lv_has ls 5 [(0, .ref h0), (1, .int a1), (2, .int a2)] := hl
  refine lv_aload_n hx hb dX7_meets_0 rfl (lv_at hl 0 rfl) ?_
  refine lv_iload_n hx hb dX7_meets_1 rfl (lv_at hl 1 rfl) ?_
  refine vp_callSi (W.runV (As := [.int a1]) (rest := []) ⟨hx, hb, hml, hown, hts⟩ (r_X_noPerson l D E s.heap.size h0 u a1) (cwV 1 hts g_r_X_meets_r_X_noPerson rfl rfl rfl (by decide +kernel) ⟨Nat.le_of_ble_eq_true rfl, Nat.le_of_ble_eq_true rfl⟩) ⟨pre_blind, va_recv hK hP (ci := 7) (q0 := 0) rfl rfl, pre_at hP hK hD hN⟩ rfl rfl hl.1 rfl (lv_room (Nat.le_of_ble_eq_true rfl)) dX7_meets_2 ⟨Nat.le_of_ble_eq_true rfl, Nat.le_of_ble_eq_true rfl⟩) (fun r_1 er_1 => ?_)
  subst er_1
  refine lv_if_ne (tgt := 21) hx hb dX7_meets_5 (by decide) (fun _ => ?_) (fun h9 => absurd h9 (by decide))
  refine lv_bipush (v := (-2)) hx hb dX7_meets_21 (by decide) ?_
  exact e_s (v := (-2)) hx hb hr rfl rfl hlocks dX7_meets_23

def v_r_X_spots : List Cond := .code yX7_spots cX7_spots 5 (some .int) :: ([.fieldLink RX7 27 "UnseenClock" "plan" "LUnseenClock$Plan;", .fieldLink RX7 118 "UnseenClock$Plan" "clocks" "I", .code yX7_noClock cX7_noClock 2 (some .boolean), .methodLink RX7 121 yX7_noClock, .instanceMethod yX7_noClock, .selects RX7 yX7_noClock yX7_noClock, .initialized RX7] ++ (wsX70 ++ (wsX30)))
theorem in_r_X_spots_X7 : ∀ w ∈ u_ws RX7 TX7 14, w ∈ v_r_X_spots := fun w h => List.mem_cons_of_mem _ (List.mem_append_right _ (List.mem_append_left _ h))
theorem in_r_X_spots_X3 : ∀ w ∈ u_ws RX3 TX3 12, w ∈ v_r_X_spots := fun w h => List.mem_cons_of_mem _ (List.mem_append_right _ (List.mem_append_right _ (h)))
set_option maxRecDepth 20000 in
theorem g_r_X_spots_r_X_noClock : GoodIn v_r_X_spots (wsV RX7 121 RX7 yX7_noClock v_r_X_noClock) := g_rows _ [4, 5, 6, 7, 3, 1, 2, 8, 9, 10, 11, 12, 13, 14, 15, 16, 17, 18, 19, 20, 21, 22, 23, 24, 25, 26, 27, 28, 29, 30, 31, 32, 33] rfl (by decide +kernel)
set_option maxHeartbeats 2000000 in
set_option maxRecDepth 100000 in
theorem r_X_spots (l : Launch) (D : va_G) (E : Nat → ClassId) (sz : Nat) (h0 : Nat) (u : Nat → Nat) (a1 : Int32) : Met l yX7_spots v_r_X_spots ({ frames := 1, cells := 0, slots := 0, locals := 21 }) (va_Pc [.ref h0, .int a1] (pre D E (wX E h0 u) sz)) (vp_Si (fun r => r = -2)) 0 0 (fun _ => False) := by
  refine c_read (cc := cX7_spots) (maxL := 5) (ret := (some .int)) (by decide) rfl (Nat.le_of_ble_eq_true rfl) ?_
  intro p e s m below meth c ls ⟨hx, hb, hr, hts, hown, hlocks, hin, hml⟩ hP hK hD hN hl
  have hown : s.vm.findClass RX7 = some m.cls := hown
  have hl : lv_has ls 5 [(0, .ref h0), (1, .int a1)] := hl
  refine lv_aload_n hx hb dX7_spots_0 rfl (lv_at hl 0 rfl) ?_
  refine lv_iload_n hx hb dX7_spots_1 rfl (lv_at hl 1 rfl) ?_
  refine vp_callSi (W.runV (As := [.int a1]) (rest := []) ⟨hx, hb, hml, hown, hts⟩ (r_X_noClock l D E s.heap.size h0 u a1) (cwV 1 hts g_r_X_spots_r_X_noClock rfl rfl rfl (by decide +kernel) ⟨Nat.le_of_ble_eq_true rfl, Nat.le_of_ble_eq_true rfl⟩) ⟨pre_blind, va_recv hK hP (ci := 7) (q0 := 0) rfl rfl, pre_at hP hK hD hN⟩ rfl rfl hl.1 rfl (lv_room (Nat.le_of_ble_eq_true rfl)) dX7_spots_2 ⟨Nat.le_of_ble_eq_true rfl, Nat.le_of_ble_eq_true rfl⟩) (fun r_1 er_1 => ?_)
  subst er_1
  refine lv_if_eq (tgt := 11) hx hb dX7_spots_5 (by decide) (fun h9 => absurd h9 (by decide)) (fun _ => ?_)
  refine lv_bipush (v := (-2)) hx hb dX7_spots_8 (by decide) ?_
  exact e_s (v := (-2)) hx hb hr rfl rfl hlocks dX7_spots_10

def v_r_X_when : List Cond := .code yX7_when cX7_when 5 (some .int) :: ([.fieldLink RX7 27 "UnseenClock" "plan" "LUnseenClock$Plan;", .fieldLink RX7 118 "UnseenClock$Plan" "clocks" "I", .code yX7_noClock cX7_noClock 2 (some .boolean), .methodLink RX7 121 yX7_noClock, .instanceMethod yX7_noClock, .selects RX7 yX7_noClock yX7_noClock, .initialized RX7] ++ (wsX70 ++ (wsX30)))
theorem in_r_X_when_X7 : ∀ w ∈ u_ws RX7 TX7 14, w ∈ v_r_X_when := fun w h => List.mem_cons_of_mem _ (List.mem_append_right _ (List.mem_append_left _ h))
theorem in_r_X_when_X3 : ∀ w ∈ u_ws RX3 TX3 12, w ∈ v_r_X_when := fun w h => List.mem_cons_of_mem _ (List.mem_append_right _ (List.mem_append_right _ (h)))
set_option maxRecDepth 20000 in
theorem g_r_X_when_r_X_noClock : GoodIn v_r_X_when (wsV RX7 121 RX7 yX7_noClock v_r_X_noClock) := g_rows _ [4, 5, 6, 7, 3, 1, 2, 8, 9, 10, 11, 12, 13, 14, 15, 16, 17, 18, 19, 20, 21, 22, 23, 24, 25, 26, 27, 28, 29, 30, 31, 32, 33] rfl (by decide +kernel)
set_option maxHeartbeats 2000000 in
set_option maxRecDepth 100000 in
theorem r_X_when (l : Launch) (D : va_G) (E : Nat → ClassId) (sz : Nat) (h0 : Nat) (u : Nat → Nat) (a1 : Int32) (a2 : Int32) : Met l yX7_when v_r_X_when ({ frames := 1, cells := 0, slots := 0, locals := 21 }) (va_Pc [.ref h0, .int a1, .int a2] (pre D E (wX E h0 u) sz)) (vp_Si (fun r => r = -2)) 0 0 (fun _ => False) := by
  refine c_read (cc := cX7_when) (maxL := 5) (ret := (some .int)) (by decide) rfl (Nat.le_of_ble_eq_true rfl) ?_
  intro p e s m below meth c ls ⟨hx, hb, hr, hts, hown, hlocks, hin, hml⟩ hP hK hD hN hl
  have hown : s.vm.findClass RX7 = some m.cls := hown
  have hl : lv_has ls 5 [(0, .ref h0), (1, .int a1), (2, .int a2)] := hl
  refine lv_aload_n hx hb dX7_when_0 rfl (lv_at hl 0 rfl) ?_
  refine lv_iload_n hx hb dX7_when_1 rfl (lv_at hl 1 rfl) ?_
  refine vp_callSi (W.runV (As := [.int a1]) (rest := []) ⟨hx, hb, hml, hown, hts⟩ (r_X_noClock l D E s.heap.size h0 u a1) (cwV 1 hts g_r_X_when_r_X_noClock rfl rfl rfl (by decide +kernel) ⟨Nat.le_of_ble_eq_true rfl, Nat.le_of_ble_eq_true rfl⟩) ⟨pre_blind, va_recv hK hP (ci := 7) (q0 := 0) rfl rfl, pre_at hP hK hD hN⟩ rfl rfl hl.1 rfl (lv_room (Nat.le_of_ble_eq_true rfl)) dX7_when_2 ⟨Nat.le_of_ble_eq_true rfl, Nat.le_of_ble_eq_true rfl⟩) (fun r_1 er_1 => ?_)
  subst er_1
  refine lv_if_eq (tgt := 11) hx hb dX7_when_5 (by decide) (fun h9 => absurd h9 (by decide)) (fun _ => ?_)
  refine lv_bipush (v := (-2)) hx hb dX7_when_8 (by decide) ?_
  exact e_s (v := (-2)) hx hb hr rfl rfl hlocks dX7_when_10

def v_r_X_hours : List Cond := .code yX7_hours cX7_hours 6 (some .int) :: ([.fieldLink RX7 27 "UnseenClock" "plan" "LUnseenClock$Plan;", .fieldLink RX7 118 "UnseenClock$Plan" "clocks" "I", .code yX7_noClock cX7_noClock 2 (some .boolean), .methodLink RX7 121 yX7_noClock, .instanceMethod yX7_noClock, .selects RX7 yX7_noClock yX7_noClock, .initialized RX7] ++ (wsX70 ++ (wsX30)))
theorem in_r_X_hours_X7 : ∀ w ∈ u_ws RX7 TX7 14, w ∈ v_r_X_hours := fun w h => List.mem_cons_of_mem _ (List.mem_append_right _ (List.mem_append_left _ h))
theorem in_r_X_hours_X3 : ∀ w ∈ u_ws RX3 TX3 12, w ∈ v_r_X_hours := fun w h => List.mem_cons_of_mem _ (List.mem_append_right _ (List.mem_append_right _ (h)))
set_option maxRecDepth 20000 in
theorem g_r_X_hours_r_X_noClock : GoodIn v_r_X_hours (wsV RX7 121 RX7 yX7_noClock v_r_X_noClock) := g_rows _ [4, 5, 6, 7, 3, 1, 2, 8, 9, 10, 11, 12, 13, 14, 15, 16, 17, 18, 19, 20, 21, 22, 23, 24, 25, 26, 27, 28, 29, 30, 31, 32, 33] rfl (by decide +kernel)
set_option maxHeartbeats 2000000 in
set_option maxRecDepth 100000 in
theorem r_X_hours (l : Launch) (D : va_G) (E : Nat → ClassId) (sz : Nat) (h0 : Nat) (u : Nat → Nat) (a1 : Int32) : Met l yX7_hours v_r_X_hours ({ frames := 1, cells := 0, slots := 0, locals := 21 }) (va_Pc [.ref h0, .int a1] (pre D E (wX E h0 u) sz)) (vp_Si (fun r => r = -2)) 0 0 (fun _ => False) := by
  refine c_read (cc := cX7_hours) (maxL := 6) (ret := (some .int)) (by decide) rfl (Nat.le_of_ble_eq_true rfl) ?_
  intro p e s m below meth c ls ⟨hx, hb, hr, hts, hown, hlocks, hin, hml⟩ hP hK hD hN hl
  have hown : s.vm.findClass RX7 = some m.cls := hown
  have hl : lv_has ls 6 [(0, .ref h0), (1, .int a1)] := hl
  refine lv_aload_n hx hb dX7_hours_0 rfl (lv_at hl 0 rfl) ?_
  refine lv_iload_n hx hb dX7_hours_1 rfl (lv_at hl 1 rfl) ?_
  refine vp_callSi (W.runV (As := [.int a1]) (rest := []) ⟨hx, hb, hml, hown, hts⟩ (r_X_noClock l D E s.heap.size h0 u a1) (cwV 1 hts g_r_X_hours_r_X_noClock rfl rfl rfl (by decide +kernel) ⟨Nat.le_of_ble_eq_true rfl, Nat.le_of_ble_eq_true rfl⟩) ⟨pre_blind, va_recv hK hP (ci := 7) (q0 := 0) rfl rfl, pre_at hP hK hD hN⟩ rfl rfl hl.1 rfl (lv_room (Nat.le_of_ble_eq_true rfl)) dX7_hours_2 ⟨Nat.le_of_ble_eq_true rfl, Nat.le_of_ble_eq_true rfl⟩) (fun r_1 er_1 => ?_)
  subst er_1
  refine lv_if_eq (tgt := 11) hx hb dX7_hours_5 (by decide) (fun h9 => absurd h9 (by decide)) (fun _ => ?_)
  refine lv_bipush (v := (-2)) hx hb dX7_hours_8 (by decide) ?_
  exact e_s (v := (-2)) hx hb hr rfl rfl hlocks dX7_hours_10

def v_r_X_without : List Cond := .code yX7_without cX7_without 4 (some .int) :: ([.fieldLink RX7 27 "UnseenClock" "plan" "LUnseenClock$Plan;", .fieldLink RX7 115 "UnseenClock$Plan" "people" "I", .code yX7_noPerson cX7_noPerson 2 (some .boolean), .methodLink RX7 128 yX7_noPerson, .instanceMethod yX7_noPerson, .selects RX7 yX7_noPerson yX7_noPerson, .initialized RX7] ++ (wsX70 ++ (wsX30)))
theorem in_r_X_without_X7 : ∀ w ∈ u_ws RX7 TX7 14, w ∈ v_r_X_without := fun w h => List.mem_cons_of_mem _ (List.mem_append_right _ (List.mem_append_left _ h))
theorem in_r_X_without_X3 : ∀ w ∈ u_ws RX3 TX3 12, w ∈ v_r_X_without := fun w h => List.mem_cons_of_mem _ (List.mem_append_right _ (List.mem_append_right _ (h)))
set_option maxRecDepth 20000 in
theorem g_r_X_without_r_X_noPerson : GoodIn v_r_X_without (wsV RX7 128 RX7 yX7_noPerson v_r_X_noPerson) := g_rows _ [4, 5, 6, 7, 3, 1, 2, 8, 9, 10, 11, 12, 13, 14, 15, 16, 17, 18, 19, 20, 21, 22, 23, 24, 25, 26, 27, 28, 29, 30, 31, 32, 33] rfl (by decide +kernel)
set_option maxHeartbeats 2000000 in
set_option maxRecDepth 100000 in
theorem r_X_without (l : Launch) (D : va_G) (E : Nat → ClassId) (sz : Nat) (h0 : Nat) (u : Nat → Nat) (a1 : Int32) (a2 : Int32) (a3 : Int32) : Met l yX7_without v_r_X_without ({ frames := 1, cells := 0, slots := 0, locals := 21 }) (va_Pc [.ref h0, .int a1, .int a2, .int a3] (pre D E (wX E h0 u) sz)) (vp_Si (fun r => r = -2)) 0 0 (fun _ => False) := by
  refine c_read (cc := cX7_without) (maxL := 4) (ret := (some .int)) (by decide) rfl (Nat.le_of_ble_eq_true rfl) ?_
  intro p e s m below meth c ls ⟨hx, hb, hr, hts, hown, hlocks, hin, hml⟩ hP hK hD hN hl
  have hown : s.vm.findClass RX7 = some m.cls := hown
  have hl : lv_has ls 4 [(0, .ref h0), (1, .int a1), (2, .int a2), (3, .int a3)] := hl
  refine lv_aload_n hx hb dX7_without_0 rfl (lv_at hl 0 rfl) ?_
  refine lv_iload_n hx hb dX7_without_1 rfl (lv_at hl 1 rfl) ?_
  refine vp_callSi (W.runV (As := [.int a1]) (rest := []) ⟨hx, hb, hml, hown, hts⟩ (r_X_noPerson l D E s.heap.size h0 u a1) (cwV 1 hts g_r_X_without_r_X_noPerson rfl rfl rfl (by decide +kernel) ⟨Nat.le_of_ble_eq_true rfl, Nat.le_of_ble_eq_true rfl⟩) ⟨pre_blind, va_recv hK hP (ci := 7) (q0 := 0) rfl rfl, pre_at hP hK hD hN⟩ rfl rfl hl.1 rfl (lv_room (Nat.le_of_ble_eq_true rfl)) dX7_without_2 ⟨Nat.le_of_ble_eq_true rfl, Nat.le_of_ble_eq_true rfl⟩) (fun r_1 er_1 => ?_)
  subst er_1
  refine lv_if_ne (tgt := 17) hx hb dX7_without_5 (by decide) (fun _ => ?_) (fun h9 => absurd h9 (by decide))
  refine lv_bipush (v := (-2)) hx hb dX7_without_17 (by decide) ?_
  exact e_s (v := (-2)) hx hb hr rfl rfl hlocks dX7_without_19

def v_r_X_hush : List Cond := .code yX7_hush cX7_hush 6 (some .int) :: ([.fieldLink RX7 27 "UnseenClock" "plan" "LUnseenClock$Plan;", .fieldLink RX7 81 "UnseenClock$Plan" "lines" "I", .code yX7_noSquare cX7_noSquare 1 (some .boolean), .methodLink RX7 208 yX7_noSquare, .instanceMethod yX7_noSquare, .selects RX7 yX7_noSquare yX7_noSquare, .initialized RX7] ++ (wsX70 ++ (wsX30)))
theorem in_r_X_hush_X7 : ∀ w ∈ u_ws RX7 TX7 14, w ∈ v_r_X_hush := fun w h => List.mem_cons_of_mem _ (List.mem_append_right _ (List.mem_append_left _ h))
theorem in_r_X_hush_X3 : ∀ w ∈ u_ws RX3 TX3 12, w ∈ v_r_X_hush := fun w h => List.mem_cons_of_mem _ (List.mem_append_right _ (List.mem_append_right _ (h)))
set_option maxRecDepth 20000 in
theorem g_r_X_hush_r_X_noSquare : GoodIn v_r_X_hush (wsV RX7 208 RX7 yX7_noSquare v_r_X_noSquare) := g_rows _ [4, 5, 6, 7, 3, 1, 2, 8, 9, 10, 11, 12, 13, 14, 15, 16, 17, 18, 19, 20, 21, 22, 23, 24, 25, 26, 27, 28, 29, 30, 31, 32, 33] rfl (by decide +kernel)
set_option maxHeartbeats 2000000 in
set_option maxRecDepth 100000 in
theorem r_X_hush (l : Launch) (D : va_G) (E : Nat → ClassId) (sz : Nat) (h0 : Nat) (u : Nat → Nat) (a1 : Int32) (a2 : Int32) (a3 : Int32) (a4 : Int32) : Met l yX7_hush v_r_X_hush ({ frames := 1, cells := 0, slots := 0, locals := 20 }) (va_Pc [.ref h0, .int a1, .int a2, .int a3, .int a4] (pre D E (wX E h0 u) sz)) (vp_Si (fun r => r = -2)) 0 0 (fun _ => False) := by
  refine c_read (cc := cX7_hush) (maxL := 6) (ret := (some .int)) (by decide) rfl (Nat.le_of_ble_eq_true rfl) ?_
  intro p e s m below meth c ls ⟨hx, hb, hr, hts, hown, hlocks, hin, hml⟩ hP hK hD hN hl
  have hown : s.vm.findClass RX7 = some m.cls := hown
  have hl : lv_has ls 6 [(0, .ref h0), (1, .int a1), (2, .int a2), (3, .int a3), (4, .int a4)] := hl
  refine lv_aload_n hx hb dX7_hush_0 rfl (lv_at hl 0 rfl) ?_
  refine vp_callSi (W.runV (As := []) (rest := []) ⟨hx, hb, hml, hown, hts⟩ (r_X_noSquare l D E s.heap.size h0 u ) (cwV 0 hts g_r_X_hush_r_X_noSquare rfl rfl rfl (by decide +kernel) ⟨Nat.le_of_ble_eq_true rfl, Nat.le_of_ble_eq_true rfl⟩) ⟨pre_blind, va_recv hK hP (ci := 7) (q0 := 0) rfl rfl, pre_at hP hK hD hN⟩ rfl rfl hl.1 rfl (lv_room (Nat.le_of_ble_eq_true rfl)) dX7_hush_1 ⟨Nat.le_of_ble_eq_true rfl, Nat.le_of_ble_eq_true rfl⟩) (fun r_1 er_1 => ?_)
  subst er_1
  refine lv_if_ne (tgt := 34) hx hb dX7_hush_4 (by decide) (fun _ => ?_) (fun h9 => absurd h9 (by decide))
  refine lv_bipush (v := (-2)) hx hb dX7_hush_34 (by decide) ?_
  exact e_s (v := (-2)) hx hb hr rfl rfl hlocks dX7_hush_36

def v_r_X_call : List Cond := .code yX7_call cX7_call 5 (some .int) :: ([.fieldLink RX7 27 "UnseenClock" "plan" "LUnseenClock$Plan;", .fieldLink RX7 115 "UnseenClock$Plan" "people" "I", .code yX7_noPerson cX7_noPerson 2 (some .boolean), .methodLink RX7 128 yX7_noPerson, .instanceMethod yX7_noPerson, .selects RX7 yX7_noPerson yX7_noPerson, .initialized RX7] ++ (wsX70 ++ (wsX30)))
theorem in_r_X_call_X7 : ∀ w ∈ u_ws RX7 TX7 14, w ∈ v_r_X_call := fun w h => List.mem_cons_of_mem _ (List.mem_append_right _ (List.mem_append_left _ h))
theorem in_r_X_call_X3 : ∀ w ∈ u_ws RX3 TX3 12, w ∈ v_r_X_call := fun w h => List.mem_cons_of_mem _ (List.mem_append_right _ (List.mem_append_right _ (h)))
set_option maxRecDepth 20000 in
theorem g_r_X_call_r_X_noPerson : GoodIn v_r_X_call (wsV RX7 128 RX7 yX7_noPerson v_r_X_noPerson) := g_rows _ [4, 5, 6, 7, 3, 1, 2, 8, 9, 10, 11, 12, 13, 14, 15, 16, 17, 18, 19, 20, 21, 22, 23, 24, 25, 26, 27, 28, 29, 30, 31, 32, 33] rfl (by decide +kernel)
set_option maxHeartbeats 2000000 in
set_option maxRecDepth 100000 in
theorem r_X_call (l : Launch) (D : va_G) (E : Nat → ClassId) (sz : Nat) (h0 : Nat) (u : Nat → Nat) (a1 : Int32) (a2 : Int32) : Met l yX7_call v_r_X_call ({ frames := 1, cells := 0, slots := 0, locals := 21 }) (va_Pc [.ref h0, .int a1, .int a2] (pre D E (wX E h0 u) sz)) (vp_Si (fun r => r = -2)) 0 0 (fun _ => False) := by
  refine c_read (cc := cX7_call) (maxL := 5) (ret := (some .int)) (by decide) rfl (Nat.le_of_ble_eq_true rfl) ?_
  intro p e s m below meth c ls ⟨hx, hb, hr, hts, hown, hlocks, hin, hml⟩ hP hK hD hN hl
  have hown : s.vm.findClass RX7 = some m.cls := hown
  have hl : lv_has ls 5 [(0, .ref h0), (1, .int a1), (2, .int a2)] := hl
  refine lv_aload_n hx hb dX7_call_0 rfl (lv_at hl 0 rfl) ?_
  refine lv_iload_n hx hb dX7_call_1 rfl (lv_at hl 1 rfl) ?_
  refine vp_callSi (W.runV (As := [.int a1]) (rest := []) ⟨hx, hb, hml, hown, hts⟩ (r_X_noPerson l D E s.heap.size h0 u a1) (cwV 1 hts g_r_X_call_r_X_noPerson rfl rfl rfl (by decide +kernel) ⟨Nat.le_of_ble_eq_true rfl, Nat.le_of_ble_eq_true rfl⟩) ⟨pre_blind, va_recv hK hP (ci := 7) (q0 := 0) rfl rfl, pre_at hP hK hD hN⟩ rfl rfl hl.1 rfl (lv_room (Nat.le_of_ble_eq_true rfl)) dX7_call_2 ⟨Nat.le_of_ble_eq_true rfl, Nat.le_of_ble_eq_true rfl⟩) (fun r_1 er_1 => ?_)
  subst er_1
  refine lv_if_eq (tgt := 11) hx hb dX7_call_5 (by decide) (fun h9 => absurd h9 (by decide)) (fun _ => ?_)
  refine lv_bipush (v := (-2)) hx hb dX7_call_8 (by decide) ?_
  exact e_s (v := (-2)) hx hb hr rfl rfl hlocks dX7_call_10

def v_r_X_away : List Cond := .code yX7_away cX7_away 6 (some .int) :: ([.fieldLink RX7 27 "UnseenClock" "plan" "LUnseenClock$Plan;", .fieldLink RX7 118 "UnseenClock$Plan" "clocks" "I", .code yX7_noClock cX7_noClock 2 (some .boolean), .methodLink RX7 121 yX7_noClock, .instanceMethod yX7_noClock, .selects RX7 yX7_noClock yX7_noClock, .initialized RX7, .code yX7_noClockThen cX7_noClockThen 3 (some .boolean), .methodLink RX7 172 yX7_noClockThen, .instanceMethod yX7_noClockThen, .selects RX7 yX7_noClockThen yX7_noClockThen] ++ (wsX70 ++ (wsX30)))
theorem in_r_X_away_X7 : ∀ w ∈ u_ws RX7 TX7 14, w ∈ v_r_X_away := fun w h => List.mem_cons_of_mem _ (List.mem_append_right _ (List.mem_append_left _ h))
theorem in_r_X_away_X3 : ∀ w ∈ u_ws RX3 TX3 12, w ∈ v_r_X_away := fun w h => List.mem_cons_of_mem _ (List.mem_append_right _ (List.mem_append_right _ (h)))
set_option maxRecDepth 20000 in
theorem g_r_X_away_r_X_noClockThen : GoodIn v_r_X_away (wsV RX7 172 RX7 yX7_noClockThen v_r_X_noClockThen) := g_rows _ [9, 10, 11, 7, 8, 1, 2, 3, 4, 5, 6, 7, 12, 13, 14, 15, 16, 17, 18, 19, 20, 21, 22, 23, 24, 25, 26, 27, 28, 29, 30, 31, 32, 33, 34, 35, 36, 37] rfl (by decide +kernel)
set_option maxHeartbeats 2000000 in
set_option maxRecDepth 100000 in
theorem r_X_away (l : Launch) (D : va_G) (E : Nat → ClassId) (sz : Nat) (h0 : Nat) (u : Nat → Nat) (a1 : Int32) (a2 : Int32) (a3 : Int32) (a4 : Int32) : Met l yX7_away v_r_X_away ({ frames := 2, cells := 0, slots := 0, locals := 43 }) (va_Pc [.ref h0, .int a1, .int a2, .int a3, .int a4] (pre D E (wX E h0 u) sz)) (vp_Si (fun r => r = -2)) 0 0 (fun _ => False) := by
  refine c_read (cc := cX7_away) (maxL := 6) (ret := (some .int)) (by decide) rfl (Nat.le_of_ble_eq_true rfl) ?_
  intro p e s m below meth c ls ⟨hx, hb, hr, hts, hown, hlocks, hin, hml⟩ hP hK hD hN hl
  have hown : s.vm.findClass RX7 = some m.cls := hown
  have hl : lv_has ls 6 [(0, .ref h0), (1, .int a1), (2, .int a2), (3, .int a3), (4, .int a4)] := hl
  refine lv_aload_n hx hb dX7_away_0 rfl (lv_at hl 0 rfl) ?_
  refine lv_iload_n hx hb dX7_away_1 rfl (lv_at hl 1 rfl) ?_
  refine lv_iload_n hx hb dX7_away_2 rfl (lv_at hl 2 rfl) ?_
  refine vp_callSi (W.runV (As := [.int a1, .int a2]) (rest := []) ⟨hx, hb, hml, hown, hts⟩ (r_X_noClockThen l D E s.heap.size h0 u a1 a2) (cwV 2 hts g_r_X_away_r_X_noClockThen rfl rfl rfl (by decide +kernel) ⟨Nat.le_of_ble_eq_true rfl, Nat.le_of_ble_eq_true rfl⟩) ⟨pre_blind, va_recv hK hP (ci := 7) (q0 := 0) rfl rfl, pre_at hP hK hD hN⟩ rfl rfl hl.1 rfl (lv_room (Nat.le_of_ble_eq_true rfl)) dX7_away_3 ⟨Nat.le_of_ble_eq_true rfl, Nat.le_of_ble_eq_true rfl⟩) (fun r_1 er_1 => ?_)
  subst er_1
  refine lv_if_ne (tgt := 20) hx hb dX7_away_6 (by decide) (fun _ => ?_) (fun h9 => absurd h9 (by decide))
  refine lv_bipush (v := (-2)) hx hb dX7_away_20 (by decide) ?_
  exact e_s (v := (-2)) hx hb hr rfl rfl hlocks dX7_away_22

def v_r_X_kept : List Cond := .code yX7_kept cX7_kept 4 (some .int) :: ([.fieldLink RX7 27 "UnseenClock" "plan" "LUnseenClock$Plan;", .fieldLink RX7 118 "UnseenClock$Plan" "clocks" "I", .code yX7_noClock cX7_noClock 2 (some .boolean), .methodLink RX7 121 yX7_noClock, .instanceMethod yX7_noClock, .selects RX7 yX7_noClock yX7_noClock, .initialized RX7, .code yX7_noClockThen cX7_noClockThen 3 (some .boolean), .methodLink RX7 172 yX7_noClockThen, .instanceMethod yX7_noClockThen, .selects RX7 yX7_noClockThen yX7_noClockThen] ++ (wsX70 ++ (wsX30)))
theorem in_r_X_kept_X7 : ∀ w ∈ u_ws RX7 TX7 14, w ∈ v_r_X_kept := fun w h => List.mem_cons_of_mem _ (List.mem_append_right _ (List.mem_append_left _ h))
theorem in_r_X_kept_X3 : ∀ w ∈ u_ws RX3 TX3 12, w ∈ v_r_X_kept := fun w h => List.mem_cons_of_mem _ (List.mem_append_right _ (List.mem_append_right _ (h)))
set_option maxRecDepth 20000 in
theorem g_r_X_kept_r_X_noClockThen : GoodIn v_r_X_kept (wsV RX7 172 RX7 yX7_noClockThen v_r_X_noClockThen) := g_rows _ [9, 10, 11, 7, 8, 1, 2, 3, 4, 5, 6, 7, 12, 13, 14, 15, 16, 17, 18, 19, 20, 21, 22, 23, 24, 25, 26, 27, 28, 29, 30, 31, 32, 33, 34, 35, 36, 37] rfl (by decide +kernel)
set_option maxHeartbeats 2000000 in
set_option maxRecDepth 100000 in
theorem r_X_kept (l : Launch) (D : va_G) (E : Nat → ClassId) (sz : Nat) (h0 : Nat) (u : Nat → Nat) (a1 : Int32) (a2 : Int32) (a3 : Int32) : Met l yX7_kept v_r_X_kept ({ frames := 2, cells := 0, slots := 0, locals := 43 }) (va_Pc [.ref h0, .int a1, .int a2, .int a3] (pre D E (wX E h0 u) sz)) (vp_Si (fun r => r = -2)) 0 0 (fun _ => False) := by
  refine c_read (cc := cX7_kept) (maxL := 4) (ret := (some .int)) (by decide) rfl (Nat.le_of_ble_eq_true rfl) ?_
  intro p e s m below meth c ls ⟨hx, hb, hr, hts, hown, hlocks, hin, hml⟩ hP hK hD hN hl
  have hown : s.vm.findClass RX7 = some m.cls := hown
  have hl : lv_has ls 4 [(0, .ref h0), (1, .int a1), (2, .int a2), (3, .int a3)] := hl
  refine lv_aload_n hx hb dX7_kept_0 rfl (lv_at hl 0 rfl) ?_
  refine lv_iload_n hx hb dX7_kept_1 rfl (lv_at hl 1 rfl) ?_
  refine lv_iload_n hx hb dX7_kept_2 rfl (lv_at hl 3 rfl) ?_
  refine vp_callSi (W.runV (As := [.int a1, .int a3]) (rest := []) ⟨hx, hb, hml, hown, hts⟩ (r_X_noClockThen l D E s.heap.size h0 u a1 a3) (cwV 2 hts g_r_X_kept_r_X_noClockThen rfl rfl rfl (by decide +kernel) ⟨Nat.le_of_ble_eq_true rfl, Nat.le_of_ble_eq_true rfl⟩) ⟨pre_blind, va_recv hK hP (ci := 7) (q0 := 0) rfl rfl, pre_at hP hK hD hN⟩ rfl rfl hl.1 rfl (lv_room (Nat.le_of_ble_eq_true rfl)) dX7_kept_3 ⟨Nat.le_of_ble_eq_true rfl, Nat.le_of_ble_eq_true rfl⟩) (fun r_1 er_1 => ?_)
  subst er_1
  refine lv_if_ne (tgt := 19) hx hb dX7_kept_6 (by decide) (fun _ => ?_) (fun h9 => absurd h9 (by decide))
  refine lv_bipush (v := (-2)) hx hb dX7_kept_19 (by decide) ?_
  exact e_s (v := (-2)) hx hb hr rfl rfl hlocks dX7_kept_21

def v_r_X_keep : List Cond := .code yX7_keep cX7_keep 4 (some .int) :: ([.fieldLink RX7 27 "UnseenClock" "plan" "LUnseenClock$Plan;", .fieldLink RX7 118 "UnseenClock$Plan" "clocks" "I", .code yX7_noClock cX7_noClock 2 (some .boolean), .methodLink RX7 121 yX7_noClock, .instanceMethod yX7_noClock, .selects RX7 yX7_noClock yX7_noClock, .initialized RX7, .code yX7_noClockThen cX7_noClockThen 3 (some .boolean), .methodLink RX7 172 yX7_noClockThen, .instanceMethod yX7_noClockThen, .selects RX7 yX7_noClockThen yX7_noClockThen, .code yX7_leastKeeping cX7_leastKeeping 5 (some .int), .methodLink RX7 323 yX7_leastKeeping, .instanceMethod yX7_leastKeeping, .selects RX7 yX7_leastKeeping yX7_leastKeeping] ++ (wsX70 ++ (wsX30)))
theorem in_r_X_keep_X7 : ∀ w ∈ u_ws RX7 TX7 14, w ∈ v_r_X_keep := fun w h => List.mem_cons_of_mem _ (List.mem_append_right _ (List.mem_append_left _ h))
theorem in_r_X_keep_X3 : ∀ w ∈ u_ws RX3 TX3 12, w ∈ v_r_X_keep := fun w h => List.mem_cons_of_mem _ (List.mem_append_right _ (List.mem_append_right _ (h)))
set_option maxRecDepth 20000 in
theorem g_r_X_keep_r_X_leastKeeping : GoodIn v_r_X_keep (wsV RX7 323 RX7 yX7_leastKeeping v_r_X_leastKeeping) := g_rows _ [13, 14, 15, 7, 12, 1, 2, 3, 4, 5, 6, 7, 8, 9, 10, 11, 16, 17, 18, 19, 20, 21, 22, 23, 24, 25, 26, 27, 28, 29, 30, 31, 32, 33, 34, 35, 36, 37, 38, 39, 40, 41] rfl (by decide +kernel)
set_option maxHeartbeats 2000000 in
set_option maxRecDepth 100000 in
theorem r_X_keep (l : Launch) (D : va_G) (E : Nat → ClassId) (sz : Nat) (h0 : Nat) (u : Nat → Nat) (a1 : Int32) (a2 : Int32) (a3 : Int32) : Met l yX7_keep v_r_X_keep ({ frames := 3, cells := 0, slots := 0, locals := 67 }) (va_Pc [.ref h0, .int a1, .int a2, .int a3] (pre D E (wX E h0 u) sz)) (vp_Si (fun r => r = -2)) 0 0 (fun _ => False) := by
  refine c_read (cc := cX7_keep) (maxL := 4) (ret := (some .int)) (by decide) rfl (Nat.le_of_ble_eq_true rfl) ?_
  intro p e s m below meth c ls ⟨hx, hb, hr, hts, hown, hlocks, hin, hml⟩ hP hK hD hN hl
  have hown : s.vm.findClass RX7 = some m.cls := hown
  have hl : lv_has ls 4 [(0, .ref h0), (1, .int a1), (2, .int a2), (3, .int a3)] := hl
  refine lv_aload_n hx hb dX7_keep_0 rfl (lv_at hl 0 rfl) ?_
  refine lv_iload_n hx hb dX7_keep_1 rfl (lv_at hl 1 rfl) ?_
  refine lv_iload_n hx hb dX7_keep_2 rfl (lv_at hl 2 rfl) ?_
  refine lv_iload_n hx hb dX7_keep_3 rfl (lv_at hl 3 rfl) ?_
  refine vp_callSi (W.runV (As := [.int a1, .int a2, .int a3]) (rest := []) ⟨hx, hb, hml, hown, hts⟩ (r_X_leastKeeping l D E s.heap.size h0 u a1 a2 a3) (cwV 3 hts g_r_X_keep_r_X_leastKeeping rfl rfl rfl (by decide +kernel) ⟨Nat.le_of_ble_eq_true rfl, Nat.le_of_ble_eq_true rfl⟩) ⟨pre_blind, va_recv hK hP (ci := 7) (q0 := 0) rfl rfl, pre_at hP hK hD hN⟩ rfl rfl hl.1 rfl (lv_room (Nat.le_of_ble_eq_true rfl)) dX7_keep_4 ⟨Nat.le_of_ble_eq_true rfl, Nat.le_of_ble_eq_true rfl⟩) (fun r_1 er_1 => ?_)
  subst er_1
  exact e_s (v := (-2)) hx hb hr rfl rfl hlocks dX7_keep_7

def v_r_X_shifts : List Cond := .code yX7_shifts cX7_shifts 6 (some .int) :: ([.fieldLink RX7 27 "UnseenClock" "plan" "LUnseenClock$Plan;", .fieldLink RX7 118 "UnseenClock$Plan" "clocks" "I", .code yX7_noClock cX7_noClock 2 (some .boolean), .methodLink RX7 121 yX7_noClock, .instanceMethod yX7_noClock, .selects RX7 yX7_noClock yX7_noClock, .initialized RX7, .code yX7_noClockThen cX7_noClockThen 3 (some .boolean), .methodLink RX7 172 yX7_noClockThen, .instanceMethod yX7_noClockThen, .selects RX7 yX7_noClockThen yX7_noClockThen, .code yX7_leastKeeping cX7_leastKeeping 5 (some .int), .methodLink RX7 323 yX7_leastKeeping, .instanceMethod yX7_leastKeeping, .selects RX7 yX7_leastKeeping yX7_leastKeeping] ++ (wsX70 ++ (wsX30)))
theorem in_r_X_shifts_X7 : ∀ w ∈ u_ws RX7 TX7 14, w ∈ v_r_X_shifts := fun w h => List.mem_cons_of_mem _ (List.mem_append_right _ (List.mem_append_left _ h))
theorem in_r_X_shifts_X3 : ∀ w ∈ u_ws RX3 TX3 12, w ∈ v_r_X_shifts := fun w h => List.mem_cons_of_mem _ (List.mem_append_right _ (List.mem_append_right _ (h)))
set_option maxRecDepth 20000 in
theorem g_r_X_shifts_r_X_leastKeeping : GoodIn v_r_X_shifts (wsV RX7 323 RX7 yX7_leastKeeping v_r_X_leastKeeping) := g_rows _ [13, 14, 15, 7, 12, 1, 2, 3, 4, 5, 6, 7, 8, 9, 10, 11, 16, 17, 18, 19, 20, 21, 22, 23, 24, 25, 26, 27, 28, 29, 30, 31, 32, 33, 34, 35, 36, 37, 38, 39, 40, 41] rfl (by decide +kernel)
set_option maxHeartbeats 2000000 in
set_option maxRecDepth 100000 in
theorem r_X_shifts (l : Launch) (D : va_G) (E : Nat → ClassId) (sz : Nat) (h0 : Nat) (u : Nat → Nat) (a1 : Int32) (a2 : Int32) (a3 : Int32) (a4 : Int32) : Met l yX7_shifts v_r_X_shifts ({ frames := 3, cells := 0, slots := 0, locals := 67 }) (va_Pc [.ref h0, .int a1, .int a2, .int a3, .int a4] (pre D E (wX E h0 u) sz)) (vp_Si (fun r => r = -2)) 0 0 (fun _ => False) := by
  refine c_read (cc := cX7_shifts) (maxL := 6) (ret := (some .int)) (by decide) rfl (Nat.le_of_ble_eq_true rfl) ?_
  intro p e s m below meth c ls ⟨hx, hb, hr, hts, hown, hlocks, hin, hml⟩ hP hK hD hN hl
  have hown : s.vm.findClass RX7 = some m.cls := hown
  have hl : lv_has ls 6 [(0, .ref h0), (1, .int a1), (2, .int a2), (3, .int a3), (4, .int a4)] := hl
  refine lv_iload hx hb dX7_shifts_0 (lv_at hl 4 rfl) ?_
  refine lv_iconst (v := 1) hx hb dX7_shifts_2 (by decide) ?_
  refine lv_icmp_lt (tgt := 13) hx hb dX7_shifts_3 (by decide) (fun h_1 => ?_) (fun h_1 => ?_)
  · refine lv_bipush (v := (-2)) hx hb dX7_shifts_13 (by decide) ?_
    exact e_s (v := (-2)) hx hb hr rfl rfl hlocks dX7_shifts_15
  · refine lv_iload hx hb dX7_shifts_6 (lv_at hl 4 rfl) ?_
    refine lv_bipush (v := 40) hx hb dX7_shifts_8 (by decide) ?_
    refine lv_icmp_le (tgt := 16) hx hb dX7_shifts_10 (by decide) (fun h_2 => ?_) (fun h_2 => ?_)
    · refine lv_aload_n hx hb dX7_shifts_16 rfl (lv_at hl 0 rfl) ?_
      refine lv_iload_n hx hb dX7_shifts_17 rfl (lv_at hl 1 rfl) ?_
      refine lv_iload_n hx hb dX7_shifts_18 rfl (lv_at hl 2 rfl) ?_
      refine lv_iload_n hx hb dX7_shifts_19 rfl (lv_at hl 3 rfl) ?_
      refine vp_callSi (W.runV (As := [.int a1, .int a2, .int a3]) (rest := []) ⟨hx, hb, hml, hown, hts⟩ (r_X_leastKeeping l D E s.heap.size h0 u a1 a2 a3) (cwV 3 hts g_r_X_shifts_r_X_leastKeeping rfl rfl rfl (by decide +kernel) ⟨Nat.le_of_ble_eq_true rfl, Nat.le_of_ble_eq_true rfl⟩) ⟨pre_blind, va_recv hK hP (ci := 7) (q0 := 0) rfl rfl, pre_at hP hK hD hN⟩ rfl rfl hl.1 rfl (lv_room (Nat.le_of_ble_eq_true rfl)) dX7_shifts_20 ⟨Nat.le_of_ble_eq_true rfl, Nat.le_of_ble_eq_true rfl⟩) (fun r_3 er_3 => ?_)
      subst er_3
      refine lv_istore (lv' := [(5, .int (-2)), (0, .ref h0), (1, .int a1), (2, .int a2), (3, .int a3), (4, .int a4)]) hx hb dX7_shifts_23 hl (by decide) rfl (fun ls hl => ?_)
      refine lv_iload hx hb dX7_shifts_25 (lv_at hl 0 rfl) ?_
      refine lv_if_ge (tgt := 35) hx hb dX7_shifts_27 (by decide) (fun h9 => absurd h9 (by decide)) (fun _ => ?_)
      refine lv_iload hx hb dX7_shifts_30 (lv_at hl 0 rfl) ?_
      refine lv_goto (tgt := 45) hx hb dX7_shifts_32 (by decide) ?_
      exact e_s (v := (-2)) hx hb hr rfl rfl hlocks dX7_shifts_45
    · refine lv_bipush (v := (-2)) hx hb dX7_shifts_13 (by decide) ?_
      exact e_s (v := (-2)) hx hb hr rfl rfl hlocks dX7_shifts_15

def v_r_X_last : List Cond := .code yX7_last cX7_last 5 (some .int) :: ([.fieldLink RX7 27 "UnseenClock" "plan" "LUnseenClock$Plan;", .fieldLink RX7 118 "UnseenClock$Plan" "clocks" "I", .code yX7_noClock cX7_noClock 2 (some .boolean), .methodLink RX7 121 yX7_noClock, .instanceMethod yX7_noClock, .selects RX7 yX7_noClock yX7_noClock, .initialized RX7, .code yX7_noClockThen cX7_noClockThen 3 (some .boolean), .methodLink RX7 172 yX7_noClockThen, .instanceMethod yX7_noClockThen, .selects RX7 yX7_noClockThen yX7_noClockThen, .code yX7_leastKeeping cX7_leastKeeping 5 (some .int), .methodLink RX7 323 yX7_leastKeeping, .instanceMethod yX7_leastKeeping, .selects RX7 yX7_leastKeeping yX7_leastKeeping] ++ (wsX70 ++ (wsX30)))
theorem in_r_X_last_X7 : ∀ w ∈ u_ws RX7 TX7 14, w ∈ v_r_X_last := fun w h => List.mem_cons_of_mem _ (List.mem_append_right _ (List.mem_append_left _ h))
theorem in_r_X_last_X3 : ∀ w ∈ u_ws RX3 TX3 12, w ∈ v_r_X_last := fun w h => List.mem_cons_of_mem _ (List.mem_append_right _ (List.mem_append_right _ (h)))
set_option maxRecDepth 20000 in
theorem g_r_X_last_r_X_leastKeeping : GoodIn v_r_X_last (wsV RX7 323 RX7 yX7_leastKeeping v_r_X_leastKeeping) := g_rows _ [13, 14, 15, 7, 12, 1, 2, 3, 4, 5, 6, 7, 8, 9, 10, 11, 16, 17, 18, 19, 20, 21, 22, 23, 24, 25, 26, 27, 28, 29, 30, 31, 32, 33, 34, 35, 36, 37, 38, 39, 40, 41] rfl (by decide +kernel)
set_option maxHeartbeats 2000000 in
set_option maxRecDepth 100000 in
theorem r_X_last (l : Launch) (D : va_G) (E : Nat → ClassId) (sz : Nat) (h0 : Nat) (u : Nat → Nat) (a1 : Int32) (a2 : Int32) (a3 : Int32) : Met l yX7_last v_r_X_last ({ frames := 3, cells := 0, slots := 0, locals := 67 }) (va_Pc [.ref h0, .int a1, .int a2, .int a3] (pre D E (wX E h0 u) sz)) (vp_Si (fun r => r = -2)) 0 0 (fun _ => False) := by
  refine c_read (cc := cX7_last) (maxL := 5) (ret := (some .int)) (by decide) rfl (Nat.le_of_ble_eq_true rfl) ?_
  intro p e s m below meth c ls ⟨hx, hb, hr, hts, hown, hlocks, hin, hml⟩ hP hK hD hN hl
  have hown : s.vm.findClass RX7 = some m.cls := hown
  have hl : lv_has ls 5 [(0, .ref h0), (1, .int a1), (2, .int a2), (3, .int a3)] := hl
  refine lv_aload_n hx hb dX7_last_0 rfl (lv_at hl 0 rfl) ?_
  refine lv_iload_n hx hb dX7_last_1 rfl (lv_at hl 1 rfl) ?_
  refine lv_iload_n hx hb dX7_last_2 rfl (lv_at hl 2 rfl) ?_
  refine lv_iload_n hx hb dX7_last_3 rfl (lv_at hl 3 rfl) ?_
  refine vp_callSi (W.runV (As := [.int a1, .int a2, .int a3]) (rest := []) ⟨hx, hb, hml, hown, hts⟩ (r_X_leastKeeping l D E s.heap.size h0 u a1 a2 a3) (cwV 3 hts g_r_X_last_r_X_leastKeeping rfl rfl rfl (by decide +kernel) ⟨Nat.le_of_ble_eq_true rfl, Nat.le_of_ble_eq_true rfl⟩) ⟨pre_blind, va_recv hK hP (ci := 7) (q0 := 0) rfl rfl, pre_at hP hK hD hN⟩ rfl rfl hl.1 rfl (lv_room (Nat.le_of_ble_eq_true rfl)) dX7_last_4 ⟨Nat.le_of_ble_eq_true rfl, Nat.le_of_ble_eq_true rfl⟩) (fun r_1 er_1 => ?_)
  subst er_1
  refine lv_istore (lv' := [(4, .int (-2)), (0, .ref h0), (1, .int a1), (2, .int a2), (3, .int a3)]) hx hb dX7_last_7 hl (by decide) rfl (fun ls hl => ?_)
  refine lv_iload hx hb dX7_last_9 (lv_at hl 0 rfl) ?_
  refine lv_if_ge (tgt := 19) hx hb dX7_last_11 (by decide) (fun h9 => absurd h9 (by decide)) (fun _ => ?_)
  refine lv_iload hx hb dX7_last_14 (lv_at hl 0 rfl) ?_
  refine lv_goto (tgt := 28) hx hb dX7_last_16 (by decide) ?_
  exact e_s (v := (-2)) hx hb hr rfl rfl hlocks dX7_last_28

def v_r_X_all : List Cond := .code yX7_all cX7_all 5 (some .int) :: ([.fieldLink RX7 27 "UnseenClock" "plan" "LUnseenClock$Plan;", .fieldLink RX7 81 "UnseenClock$Plan" "lines" "I", .code yX7_noSquare cX7_noSquare 1 (some .boolean), .methodLink RX7 208 yX7_noSquare, .instanceMethod yX7_noSquare, .selects RX7 yX7_noSquare yX7_noSquare, .initialized RX7] ++ (wsX70 ++ (wsX30)))
theorem in_r_X_all_X7 : ∀ w ∈ u_ws RX7 TX7 14, w ∈ v_r_X_all := fun w h => List.mem_cons_of_mem _ (List.mem_append_right _ (List.mem_append_left _ h))
theorem in_r_X_all_X3 : ∀ w ∈ u_ws RX3 TX3 12, w ∈ v_r_X_all := fun w h => List.mem_cons_of_mem _ (List.mem_append_right _ (List.mem_append_right _ (h)))
set_option maxRecDepth 20000 in
theorem g_r_X_all_r_X_noSquare : GoodIn v_r_X_all (wsV RX7 208 RX7 yX7_noSquare v_r_X_noSquare) := g_rows _ [4, 5, 6, 7, 3, 1, 2, 8, 9, 10, 11, 12, 13, 14, 15, 16, 17, 18, 19, 20, 21, 22, 23, 24, 25, 26, 27, 28, 29, 30, 31, 32, 33] rfl (by decide +kernel)
set_option maxHeartbeats 2000000 in
set_option maxRecDepth 100000 in
theorem r_X_all (l : Launch) (D : va_G) (E : Nat → ClassId) (sz : Nat) (h0 : Nat) (u : Nat → Nat) (a1 : Int32) (a2 : Int32) (a3 : Int32) : Met l yX7_all v_r_X_all ({ frames := 1, cells := 0, slots := 0, locals := 20 }) (va_Pc [.ref h0, .int a1, .int a2, .int a3] (pre D E (wX E h0 u) sz)) (vp_Si (fun r => r = -2)) 0 0 (fun _ => False) := by
  refine c_read (cc := cX7_all) (maxL := 5) (ret := (some .int)) (by decide) rfl (Nat.le_of_ble_eq_true rfl) ?_
  intro p e s m below meth c ls ⟨hx, hb, hr, hts, hown, hlocks, hin, hml⟩ hP hK hD hN hl
  have hown : s.vm.findClass RX7 = some m.cls := hown
  have hl : lv_has ls 5 [(0, .ref h0), (1, .int a1), (2, .int a2), (3, .int a3)] := hl
  refine lv_aload_n hx hb dX7_all_0 rfl (lv_at hl 0 rfl) ?_
  refine vp_callSi (W.runV (As := []) (rest := []) ⟨hx, hb, hml, hown, hts⟩ (r_X_noSquare l D E s.heap.size h0 u ) (cwV 0 hts g_r_X_all_r_X_noSquare rfl rfl rfl (by decide +kernel) ⟨Nat.le_of_ble_eq_true rfl, Nat.le_of_ble_eq_true rfl⟩) ⟨pre_blind, va_recv hK hP (ci := 7) (q0 := 0) rfl rfl, pre_at hP hK hD hN⟩ rfl rfl hl.1 rfl (lv_room (Nat.le_of_ble_eq_true rfl)) dX7_all_1 ⟨Nat.le_of_ble_eq_true rfl, Nat.le_of_ble_eq_true rfl⟩) (fun r_1 er_1 => ?_)
  subst er_1
  refine lv_if_ne (tgt := 25) hx hb dX7_all_4 (by decide) (fun _ => ?_) (fun h9 => absurd h9 (by decide))
  refine lv_bipush (v := (-2)) hx hb dX7_all_25 (by decide) ?_
  exact e_s (v := (-2)) hx hb hr rfl rfl hlocks dX7_all_27

def v_r_X_pace : List Cond := .code yX7_pace cX7_pace 8 (some .int) :: ([.fieldLink RX7 27 "UnseenClock" "plan" "LUnseenClock$Plan;", .fieldLink RX7 118 "UnseenClock$Plan" "clocks" "I", .code yX7_noClock cX7_noClock 2 (some .boolean), .methodLink RX7 121 yX7_noClock, .instanceMethod yX7_noClock, .selects RX7 yX7_noClock yX7_noClock, .initialized RX7, .code yX7_noClockThen cX7_noClockThen 3 (some .boolean), .methodLink RX7 172 yX7_noClockThen, .instanceMethod yX7_noClockThen, .selects RX7 yX7_noClockThen yX7_noClockThen] ++ (wsX70 ++ (wsX30)))
theorem in_r_X_pace_X7 : ∀ w ∈ u_ws RX7 TX7 14, w ∈ v_r_X_pace := fun w h => List.mem_cons_of_mem _ (List.mem_append_right _ (List.mem_append_left _ h))
theorem in_r_X_pace_X3 : ∀ w ∈ u_ws RX3 TX3 12, w ∈ v_r_X_pace := fun w h => List.mem_cons_of_mem _ (List.mem_append_right _ (List.mem_append_right _ (h)))
set_option maxRecDepth 20000 in
theorem g_r_X_pace_r_X_noClockThen : GoodIn v_r_X_pace (wsV RX7 172 RX7 yX7_noClockThen v_r_X_noClockThen) := g_rows _ [9, 10, 11, 7, 8, 1, 2, 3, 4, 5, 6, 7, 12, 13, 14, 15, 16, 17, 18, 19, 20, 21, 22, 23, 24, 25, 26, 27, 28, 29, 30, 31, 32, 33, 34, 35, 36, 37] rfl (by decide +kernel)
set_option maxHeartbeats 2000000 in
set_option maxRecDepth 100000 in
theorem r_X_pace (l : Launch) (D : va_G) (E : Nat → ClassId) (sz : Nat) (h0 : Nat) (u : Nat → Nat) (a1 : Int32) (a2 : Int32) (a3 : Int32) : Met l yX7_pace v_r_X_pace ({ frames := 2, cells := 0, slots := 0, locals := 43 }) (va_Pc [.ref h0, .int a1, .int a2, .int a3] (pre D E (wX E h0 u) sz)) (vp_Si (fun r => r = -2)) 0 0 (fun _ => False) := by
  refine c_read (cc := cX7_pace) (maxL := 8) (ret := (some .int)) (by decide) rfl (Nat.le_of_ble_eq_true rfl) ?_
  intro p e s m below meth c ls ⟨hx, hb, hr, hts, hown, hlocks, hin, hml⟩ hP hK hD hN hl
  have hown : s.vm.findClass RX7 = some m.cls := hown
  have hl : lv_has ls 8 [(0, .ref h0), (1, .int a1), (2, .int a2), (3, .int a3)] := hl
  refine lv_aload_n hx hb dX7_pace_0 rfl (lv_at hl 0 rfl) ?_
  refine lv_iload_n hx hb dX7_pace_1 rfl (lv_at hl 1 rfl) ?_
  refine lv_iload_n hx hb dX7_pace_2 rfl (lv_at hl 2 rfl) ?_
  refine vp_callSi (W.runV (As := [.int a1, .int a2]) (rest := []) ⟨hx, hb, hml, hown, hts⟩ (r_X_noClockThen l D E s.heap.size h0 u a1 a2) (cwV 2 hts g_r_X_pace_r_X_noClockThen rfl rfl rfl (by decide +kernel) ⟨Nat.le_of_ble_eq_true rfl, Nat.le_of_ble_eq_true rfl⟩) ⟨pre_blind, va_recv hK hP (ci := 7) (q0 := 0) rfl rfl, pre_at hP hK hD hN⟩ rfl rfl hl.1 rfl (lv_room (Nat.le_of_ble_eq_true rfl)) dX7_pace_3 ⟨Nat.le_of_ble_eq_true rfl, Nat.le_of_ble_eq_true rfl⟩) (fun r_1 er_1 => ?_)
  subst er_1
  refine lv_if_eq (tgt := 12) hx hb dX7_pace_6 (by decide) (fun h9 => absurd h9 (by decide)) (fun _ => ?_)
  refine lv_bipush (v := (-2)) hx hb dX7_pace_9 (by decide) ?_
  exact e_s (v := (-2)) hx hb hr rfl rfl hlocks dX7_pace_11

def v_r_X_mends : List Cond := .code yX7_mends cX7_mends 4 (some .int) :: ([.fieldLink RX7 27 "UnseenClock" "plan" "LUnseenClock$Plan;", .fieldLink RX7 118 "UnseenClock$Plan" "clocks" "I", .code yX7_noClock cX7_noClock 2 (some .boolean), .methodLink RX7 121 yX7_noClock, .instanceMethod yX7_noClock, .selects RX7 yX7_noClock yX7_noClock, .initialized RX7] ++ (wsX70 ++ (wsX30)))
theorem in_r_X_mends_X7 : ∀ w ∈ u_ws RX7 TX7 14, w ∈ v_r_X_mends := fun w h => List.mem_cons_of_mem _ (List.mem_append_right _ (List.mem_append_left _ h))
theorem in_r_X_mends_X3 : ∀ w ∈ u_ws RX3 TX3 12, w ∈ v_r_X_mends := fun w h => List.mem_cons_of_mem _ (List.mem_append_right _ (List.mem_append_right _ (h)))
set_option maxRecDepth 20000 in
theorem g_r_X_mends_r_X_noClock : GoodIn v_r_X_mends (wsV RX7 121 RX7 yX7_noClock v_r_X_noClock) := g_rows _ [4, 5, 6, 7, 3, 1, 2, 8, 9, 10, 11, 12, 13, 14, 15, 16, 17, 18, 19, 20, 21, 22, 23, 24, 25, 26, 27, 28, 29, 30, 31, 32, 33] rfl (by decide +kernel)
set_option maxHeartbeats 2000000 in
set_option maxRecDepth 100000 in
theorem r_X_mends (l : Launch) (D : va_G) (E : Nat → ClassId) (sz : Nat) (h0 : Nat) (u : Nat → Nat) (a1 : Int32) (a2 : Int32) : Met l yX7_mends v_r_X_mends ({ frames := 1, cells := 0, slots := 0, locals := 21 }) (va_Pc [.ref h0, .int a1, .int a2] (pre D E (wX E h0 u) sz)) (vp_Si (fun r => r = -2)) 0 0 (fun _ => False) := by
  refine c_read (cc := cX7_mends) (maxL := 4) (ret := (some .int)) (by decide) rfl (Nat.le_of_ble_eq_true rfl) ?_
  intro p e s m below meth c ls ⟨hx, hb, hr, hts, hown, hlocks, hin, hml⟩ hP hK hD hN hl
  have hown : s.vm.findClass RX7 = some m.cls := hown
  have hl : lv_has ls 4 [(0, .ref h0), (1, .int a1), (2, .int a2)] := hl
  refine lv_aload_n hx hb dX7_mends_0 rfl (lv_at hl 0 rfl) ?_
  refine lv_iload_n hx hb dX7_mends_1 rfl (lv_at hl 1 rfl) ?_
  refine vp_callSi (W.runV (As := [.int a1]) (rest := []) ⟨hx, hb, hml, hown, hts⟩ (r_X_noClock l D E s.heap.size h0 u a1) (cwV 1 hts g_r_X_mends_r_X_noClock rfl rfl rfl (by decide +kernel) ⟨Nat.le_of_ble_eq_true rfl, Nat.le_of_ble_eq_true rfl⟩) ⟨pre_blind, va_recv hK hP (ci := 7) (q0 := 0) rfl rfl, pre_at hP hK hD hN⟩ rfl rfl hl.1 rfl (lv_room (Nat.le_of_ble_eq_true rfl)) dX7_mends_2 ⟨Nat.le_of_ble_eq_true rfl, Nat.le_of_ble_eq_true rfl⟩) (fun r_1 er_1 => ?_)
  subst er_1
  refine lv_if_ne (tgt := 18) hx hb dX7_mends_5 (by decide) (fun _ => ?_) (fun h9 => absurd h9 (by decide))
  refine lv_bipush (v := (-2)) hx hb dX7_mends_18 (by decide) ?_
  exact e_s (v := (-2)) hx hb hr rfl rfl hlocks dX7_mends_20

def v_r_X_day : List Cond := .code yX7_day cX7_day 4 (some .int) :: ([.constant RX7 344 (2000000000), .code yX7_noSeed cX7_noSeed 1 (some .boolean), .methodLink RX7 338 yX7_noSeed, .static yX7_noSeed, .initialized RX7, .fieldLink RX7 27 "UnseenClock" "plan" "LUnseenClock$Plan;", .fieldLink RX7 118 "UnseenClock$Plan" "clocks" "I", .code yX7_noClock cX7_noClock 2 (some .boolean), .methodLink RX7 121 yX7_noClock, .instanceMethod yX7_noClock, .selects RX7 yX7_noClock yX7_noClock, .code yX7_noClockThen cX7_noClockThen 3 (some .boolean), .methodLink RX7 172 yX7_noClockThen, .instanceMethod yX7_noClockThen, .selects RX7 yX7_noClockThen yX7_noClockThen] ++ (wsX70 ++ (wsX30)))
theorem in_r_X_day_X7 : ∀ w ∈ u_ws RX7 TX7 14, w ∈ v_r_X_day := fun w h => List.mem_cons_of_mem _ (List.mem_append_right _ (List.mem_append_left _ h))
theorem in_r_X_day_X3 : ∀ w ∈ u_ws RX3 TX3 12, w ∈ v_r_X_day := fun w h => List.mem_cons_of_mem _ (List.mem_append_right _ (List.mem_append_right _ (h)))
set_option maxRecDepth 20000 in
theorem g_r_X_day_r_X_noSeed : GoodIn v_r_X_day (va_wsS RX7 338 yX7_noSeed v_r_X_noSeed) := g_rows _ [3, 4, 5, 2, 1] rfl (by decide +kernel)
set_option maxRecDepth 20000 in
theorem g_r_X_day_r_X_noClockThen : GoodIn v_r_X_day (wsV RX7 172 RX7 yX7_noClockThen v_r_X_noClockThen) := g_rows _ [13, 14, 15, 5, 12, 6, 7, 8, 9, 10, 11, 5, 16, 17, 18, 19, 20, 21, 22, 23, 24, 25, 26, 27, 28, 29, 30, 31, 32, 33, 34, 35, 36, 37, 38, 39, 40, 41] rfl (by decide +kernel)
set_option maxHeartbeats 2000000 in
set_option maxRecDepth 100000 in
theorem r_X_day (l : Launch) (D : va_G) (E : Nat → ClassId) (sz : Nat) (h0 : Nat) (u : Nat → Nat) (a1 : Int32) (a2 : Int32) (a3 : Int32) : Met l yX7_day v_r_X_day ({ frames := 2, cells := 0, slots := 0, locals := 43 }) (va_Pc [.ref h0, .int a1, .int a2, .int a3] (pre D E (wX E h0 u) sz)) (vp_Si (fun r => r = -2)) 0 0 (fun _ => False) := by
  refine c_read (cc := cX7_day) (maxL := 4) (ret := (some .int)) (by decide) rfl (Nat.le_of_ble_eq_true rfl) ?_
  intro p e s m below meth c ls ⟨hx, hb, hr, hts, hown, hlocks, hin, hml⟩ hP hK hD hN hl
  have hown : s.vm.findClass RX7 = some m.cls := hown
  have hl : lv_has ls 4 [(0, .ref h0), (1, .int a1), (2, .int a2), (3, .int a3)] := hl
  refine lv_iload_n hx hb dX7_day_0 rfl (lv_at hl 1 rfl) ?_
  refine vp_callSi (W.runS (As := [.int a1]) (rest := []) ⟨hx, hb, hml, hown, hts⟩ (r_X_noSeed l D E s.heap.size h0 u a1) (va_cwS 1 hts g_r_X_day_r_X_noSeed rfl rfl rfl (by decide +kernel) ⟨Nat.le_of_ble_eq_true rfl, Nat.le_of_ble_eq_true rfl⟩) ⟨pre_blind, pre_at hP hK hD hN⟩ rfl rfl hl.1 rfl (lv_room (Nat.le_of_ble_eq_true rfl)) dX7_day_1 ⟨Nat.le_of_ble_eq_true rfl, Nat.le_of_ble_eq_true rfl⟩) (fun r_1 er_1 => ?_)
  refine lv_if_ne (tgt := 16) hx hb dX7_day_4 (by decide) (fun h_2 => ?_) (fun h_2 => ?_)
  · refine lv_bipush (v := (-2)) hx hb dX7_day_16 (by decide) ?_
    exact e_s (v := (-2)) hx hb hr rfl rfl hlocks dX7_day_18
  · refine lv_aload_n hx hb dX7_day_7 rfl (lv_at hl 0 rfl) ?_
    refine lv_iload_n hx hb dX7_day_8 rfl (lv_at hl 2 rfl) ?_
    refine lv_iload_n hx hb dX7_day_9 rfl (lv_at hl 3 rfl) ?_
    refine vp_callSi (W.runV (As := [.int a2, .int a3]) (rest := []) ⟨hx, hb, hml, hown, hts⟩ (r_X_noClockThen l D E s.heap.size h0 u a2 a3) (cwV 2 hts g_r_X_day_r_X_noClockThen rfl rfl rfl (by decide +kernel) ⟨Nat.le_of_ble_eq_true rfl, Nat.le_of_ble_eq_true rfl⟩) ⟨pre_blind, va_recv hK hP (ci := 7) (q0 := 0) rfl rfl, pre_at hP hK hD hN⟩ rfl rfl hl.1 rfl (lv_room (Nat.le_of_ble_eq_true rfl)) dX7_day_10 ⟨Nat.le_of_ble_eq_true rfl, Nat.le_of_ble_eq_true rfl⟩) (fun r_3 er_3 => ?_)
    subst er_3
    refine lv_if_eq (tgt := 19) hx hb dX7_day_13 (by decide) (fun h9 => absurd h9 (by decide)) (fun _ => ?_)
    refine lv_bipush (v := (-2)) hx hb dX7_day_16 (by decide) ?_
    exact e_s (v := (-2)) hx hb hr rfl rfl hlocks dX7_day_18

def v_r_X_days : List Cond := .code yX7_days cX7_days 8 (some .int) :: ([.constant RX7 344 (2000000000), .code yX7_noSeed cX7_noSeed 1 (some .boolean), .methodLink RX7 338 yX7_noSeed, .static yX7_noSeed, .initialized RX7, .fieldLink RX7 27 "UnseenClock" "plan" "LUnseenClock$Plan;", .fieldLink RX7 118 "UnseenClock$Plan" "clocks" "I", .code yX7_noClock cX7_noClock 2 (some .boolean), .methodLink RX7 121 yX7_noClock, .instanceMethod yX7_noClock, .selects RX7 yX7_noClock yX7_noClock, .code yX7_noClockThen cX7_noClockThen 3 (some .boolean), .methodLink RX7 172 yX7_noClockThen, .instanceMethod yX7_noClockThen, .selects RX7 yX7_noClockThen yX7_noClockThen] ++ (wsX70 ++ (wsX30)))
theorem in_r_X_days_X7 : ∀ w ∈ u_ws RX7 TX7 14, w ∈ v_r_X_days := fun w h => List.mem_cons_of_mem _ (List.mem_append_right _ (List.mem_append_left _ h))
theorem in_r_X_days_X3 : ∀ w ∈ u_ws RX3 TX3 12, w ∈ v_r_X_days := fun w h => List.mem_cons_of_mem _ (List.mem_append_right _ (List.mem_append_right _ (h)))
set_option maxRecDepth 20000 in
theorem g_r_X_days_r_X_noSeed : GoodIn v_r_X_days (va_wsS RX7 338 yX7_noSeed v_r_X_noSeed) := g_rows _ [3, 4, 5, 2, 1] rfl (by decide +kernel)
set_option maxRecDepth 20000 in
theorem g_r_X_days_r_X_noClockThen : GoodIn v_r_X_days (wsV RX7 172 RX7 yX7_noClockThen v_r_X_noClockThen) := g_rows _ [13, 14, 15, 5, 12, 6, 7, 8, 9, 10, 11, 5, 16, 17, 18, 19, 20, 21, 22, 23, 24, 25, 26, 27, 28, 29, 30, 31, 32, 33, 34, 35, 36, 37, 38, 39, 40, 41] rfl (by decide +kernel)
set_option maxHeartbeats 2000000 in
set_option maxRecDepth 100000 in
theorem r_X_days (l : Launch) (D : va_G) (E : Nat → ClassId) (sz : Nat) (h0 : Nat) (u : Nat → Nat) (a1 : Int32) (a2 : Int32) (a3 : Int32) (a4 : Int32) (a5 : Int32) : Met l yX7_days v_r_X_days ({ frames := 2, cells := 0, slots := 0, locals := 43 }) (va_Pc [.ref h0, .int a1, .int a2, .int a3, .int a4, .int a5] (pre D E (wX E h0 u) sz)) (vp_Si (fun r => r = -2)) 0 0 (fun _ => False) := by
  refine c_read (cc := cX7_days) (maxL := 8) (ret := (some .int)) (by decide) rfl (Nat.le_of_ble_eq_true rfl) ?_
  intro p e s m below meth c ls ⟨hx, hb, hr, hts, hown, hlocks, hin, hml⟩ hP hK hD hN hl
  have hown : s.vm.findClass RX7 = some m.cls := hown
  have hl : lv_has ls 8 [(0, .ref h0), (1, .int a1), (2, .int a2), (3, .int a3), (4, .int a4), (5, .int a5)] := hl
  refine lv_iload_n hx hb dX7_days_0 rfl (lv_at hl 1 rfl) ?_
  refine vp_callSi (W.runS (As := [.int a1]) (rest := []) ⟨hx, hb, hml, hown, hts⟩ (r_X_noSeed l D E s.heap.size h0 u a1) (va_cwS 1 hts g_r_X_days_r_X_noSeed rfl rfl rfl (by decide +kernel) ⟨Nat.le_of_ble_eq_true rfl, Nat.le_of_ble_eq_true rfl⟩) ⟨pre_blind, pre_at hP hK hD hN⟩ rfl rfl hl.1 rfl (lv_room (Nat.le_of_ble_eq_true rfl)) dX7_days_1 ⟨Nat.le_of_ble_eq_true rfl, Nat.le_of_ble_eq_true rfl⟩) (fun r_1 er_1 => ?_)
  refine lv_if_ne (tgt := 28) hx hb dX7_days_4 (by decide) (fun h_2 => ?_) (fun h_2 => ?_)
  · refine lv_bipush (v := (-2)) hx hb dX7_days_28 (by decide) ?_
    exact e_s (v := (-2)) hx hb hr rfl rfl hlocks dX7_days_30
  · refine lv_iload_n hx hb dX7_days_7 rfl (lv_at hl 2 rfl) ?_
    refine lv_iconst (v := 1) hx hb dX7_days_8 (by decide) ?_
    refine lv_icmp_lt (tgt := 28) hx hb dX7_days_9 (by decide) (fun h_3 => ?_) (fun h_3 => ?_)
    · refine lv_bipush (v := (-2)) hx hb dX7_days_28 (by decide) ?_
      exact e_s (v := (-2)) hx hb hr rfl rfl hlocks dX7_days_30
    · refine lv_iload_n hx hb dX7_days_12 rfl (lv_at hl 2 rfl) ?_
      refine lv_bipush (v := 20) hx hb dX7_days_13 (by decide) ?_
      refine lv_icmp_gt (tgt := 28) hx hb dX7_days_15 (by decide) (fun h_4 => ?_) (fun h_4 => ?_)
      · refine lv_bipush (v := (-2)) hx hb dX7_days_28 (by decide) ?_
        exact e_s (v := (-2)) hx hb hr rfl rfl hlocks dX7_days_30
      · refine lv_aload_n hx hb dX7_days_18 rfl (lv_at hl 0 rfl) ?_
        refine lv_iload_n hx hb dX7_days_19 rfl (lv_at hl 3 rfl) ?_
        refine lv_iload hx hb dX7_days_20 (lv_at hl 4 rfl) ?_
        refine vp_callSi (W.runV (As := [.int a3, .int a4]) (rest := []) ⟨hx, hb, hml, hown, hts⟩ (r_X_noClockThen l D E s.heap.size h0 u a3 a4) (cwV 2 hts g_r_X_days_r_X_noClockThen rfl rfl rfl (by decide +kernel) ⟨Nat.le_of_ble_eq_true rfl, Nat.le_of_ble_eq_true rfl⟩) ⟨pre_blind, va_recv hK hP (ci := 7) (q0 := 0) rfl rfl, pre_at hP hK hD hN⟩ rfl rfl hl.1 rfl (lv_room (Nat.le_of_ble_eq_true rfl)) dX7_days_22 ⟨Nat.le_of_ble_eq_true rfl, Nat.le_of_ble_eq_true rfl⟩) (fun r_5 er_5 => ?_)
        subst er_5
        refine lv_if_eq (tgt := 31) hx hb dX7_days_25 (by decide) (fun h9 => absurd h9 (by decide)) (fun _ => ?_)
        refine lv_bipush (v := (-2)) hx hb dX7_days_28 (by decide) ?_
        exact e_s (v := (-2)) hx hb hr rfl rfl hlocks dX7_days_30

