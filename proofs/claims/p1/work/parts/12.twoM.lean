theorem dX8_at_0 : decode cX8_at 0 = .ok (.aload_n 0, 1) := by decide +kernel
theorem dX8_at_1 : decode cX8_at 1 = .ok (.iload_n 1, 1) := by decide +kernel
theorem dX8_at_2 : decode cX8_at 2 = .ok (.invokevirtual 307, 3) := by decide +kernel
theorem dX8_at_5 : decode cX8_at 5 = .ok (.ifCond .eq 11, 3) := by decide +kernel
theorem dX8_at_16 : decode cX8_at 16 = .ok (.bipush (-2), 2) := by decide +kernel
theorem dX8_at_18 : decode cX8_at 18 = .ok (.ireturn, 1) := by decide +kernel
theorem dX8_sees_0 : decode cX8_sees 0 = .ok (.aload_n 0, 1) := by decide +kernel
theorem dX8_sees_1 : decode cX8_sees 1 = .ok (.iload_n 1, 1) := by decide +kernel
theorem dX8_sees_2 : decode cX8_sees 2 = .ok (.invokevirtual 307, 3) := by decide +kernel
theorem dX8_sees_5 : decode cX8_sees 5 = .ok (.ifCond .eq 19, 3) := by decide +kernel
theorem dX8_sees_24 : decode cX8_sees 24 = .ok (.bipush (-2), 2) := by decide +kernel
theorem dX8_sees_26 : decode cX8_sees 26 = .ok (.ireturn, 1) := by decide +kernel
theorem dX8_looks_0 : decode cX8_looks 0 = .ok (.aload_n 0, 1) := by decide +kernel
theorem dX8_looks_1 : decode cX8_looks 1 = .ok (.iload_n 1, 1) := by decide +kernel
theorem dX8_looks_2 : decode cX8_looks 2 = .ok (.invokevirtual 307, 3) := by decide +kernel
theorem dX8_looks_5 : decode cX8_looks 5 = .ok (.ifCond .eq 19, 3) := by decide +kernel
theorem dX8_looks_24 : decode cX8_looks 24 = .ok (.bipush (-2), 2) := by decide +kernel
theorem dX8_looks_26 : decode cX8_looks 26 = .ok (.ireturn, 1) := by decide +kernel
theorem dX8_eyes_0 : decode cX8_eyes 0 = .ok (.aload_n 0, 1) := by decide +kernel
theorem dX8_eyes_1 : decode cX8_eyes 1 = .ok (.iload_n 1, 1) := by decide +kernel
theorem dX8_eyes_2 : decode cX8_eyes 2 = .ok (.invokevirtual 314, 3) := by decide +kernel
theorem dX8_eyes_5 : decode cX8_eyes 5 = .ok (.ifCond .eq 11, 3) := by decide +kernel
theorem dX8_eyes_16 : decode cX8_eyes 16 = .ok (.bipush (-2), 2) := by decide +kernel
theorem dX8_eyes_18 : decode cX8_eyes 18 = .ok (.ireturn, 1) := by decide +kernel
theorem dX8_shows_0 : decode cX8_shows 0 = .ok (.aload_n 0, 1) := by decide +kernel
theorem dX8_shows_1 : decode cX8_shows 1 = .ok (.iload_n 1, 1) := by decide +kernel
theorem dX8_shows_2 : decode cX8_shows 2 = .ok (.invokevirtual 314, 3) := by decide +kernel
theorem dX8_shows_5 : decode cX8_shows 5 = .ok (.ifCond .eq 11, 3) := by decide +kernel
theorem dX8_shows_16 : decode cX8_shows 16 = .ok (.bipush (-2), 2) := by decide +kernel
theorem dX8_shows_18 : decode cX8_shows 18 = .ok (.ireturn, 1) := by decide +kernel
theorem dX8_value_0 : decode cX8_value 0 = .ok (.aload_n 0, 1) := by decide +kernel
theorem dX8_value_1 : decode cX8_value 1 = .ok (.iload_n 1, 1) := by decide +kernel
theorem dX8_value_2 : decode cX8_value 2 = .ok (.invokevirtual 314, 3) := by decide +kernel
theorem dX8_value_5 : decode cX8_value 5 = .ok (.ifCond .eq 23, 3) := by decide +kernel
theorem dX8_value_28 : decode cX8_value 28 = .ok (.bipush (-2), 2) := by decide +kernel
theorem dX8_value_30 : decode cX8_value 30 = .ok (.ireturn, 1) := by decide +kernel
theorem dX8_still_0 : decode cX8_still 0 = .ok (.aload_n 0, 1) := by decide +kernel
theorem dX8_still_1 : decode cX8_still 1 = .ok (.iload_n 1, 1) := by decide +kernel
theorem dX8_still_2 : decode cX8_still 2 = .ok (.invokevirtual 314, 3) := by decide +kernel
theorem dX8_still_5 : decode cX8_still 5 = .ok (.ifCond .eq 15, 3) := by decide +kernel
theorem dX8_still_20 : decode cX8_still 20 = .ok (.bipush (-2), 2) := by decide +kernel
theorem dX8_still_22 : decode cX8_still 22 = .ok (.ireturn, 1) := by decide +kernel
theorem dX8_open_0 : decode cX8_open 0 = .ok (.aload_n 0, 1) := by decide +kernel
theorem dX8_open_1 : decode cX8_open 1 = .ok (.invokevirtual 108, 3) := by decide +kernel
theorem dX8_open_4 : decode cX8_open 4 = .ok (.ifCond .ne 6, 3) := by decide +kernel
theorem dX8_open_7 : decode cX8_open 7 = .ok (.bipush (-2), 2) := by decide +kernel
theorem dX8_open_9 : decode cX8_open 9 = .ok (.ireturn, 1) := by decide +kernel
theorem dX8_opens_0 : decode cX8_opens 0 = .ok (.aload_n 0, 1) := by decide +kernel
theorem dX8_opens_1 : decode cX8_opens 1 = .ok (.invokevirtual 108, 3) := by decide +kernel
theorem dX8_opens_4 : decode cX8_opens 4 = .ok (.ifCond .ne 6, 3) := by decide +kernel
theorem dX8_opens_7 : decode cX8_opens 7 = .ok (.bipush (-2), 2) := by decide +kernel
theorem dX8_opens_9 : decode cX8_opens 9 = .ok (.ireturn, 1) := by decide +kernel
theorem dX8_bell_0 : decode cX8_bell 0 = .ok (.aload_n 0, 1) := by decide +kernel
theorem dX8_bell_1 : decode cX8_bell 1 = .ok (.invokevirtual 108, 3) := by decide +kernel
theorem dX8_bell_4 : decode cX8_bell 4 = .ok (.ifCond .eq 22, 3) := by decide +kernel
theorem dX8_bell_26 : decode cX8_bell 26 = .ok (.bipush (-2), 2) := by decide +kernel
theorem dX8_bell_28 : decode cX8_bell 28 = .ok (.ireturn, 1) := by decide +kernel
theorem dX8_courses_0 : decode cX8_courses 0 = .ok (.aload_n 0, 1) := by decide +kernel
theorem dX8_courses_1 : decode cX8_courses 1 = .ok (.invokevirtual 108, 3) := by decide +kernel
theorem dX8_courses_4 : decode cX8_courses 4 = .ok (.ifCond .ne 6, 3) := by decide +kernel
theorem dX8_courses_7 : decode cX8_courses 7 = .ok (.bipush (-2), 2) := by decide +kernel
theorem dX8_courses_9 : decode cX8_courses 9 = .ok (.ireturn, 1) := by decide +kernel
theorem dX8_among_0 : decode cX8_among 0 = .ok (.aload_n 0, 1) := by decide +kernel
theorem dX8_among_1 : decode cX8_among 1 = .ok (.iload_n 1, 1) := by decide +kernel
theorem dX8_among_2 : decode cX8_among 2 = .ok (.invokevirtual 314, 3) := by decide +kernel
theorem dX8_among_5 : decode cX8_among 5 = .ok (.ifCond .eq 18, 3) := by decide +kernel
theorem dX8_among_23 : decode cX8_among 23 = .ok (.bipush (-2), 2) := by decide +kernel
theorem dX8_among_25 : decode cX8_among 25 = .ok (.ireturn, 1) := by decide +kernel
theorem dX8_sure_0 : decode cX8_sure 0 = .ok (.aload_n 0, 1) := by decide +kernel
theorem dX8_sure_1 : decode cX8_sure 1 = .ok (.iload_n 1, 1) := by decide +kernel
theorem dX8_sure_2 : decode cX8_sure 2 = .ok (.aload_n 0, 1) := by decide +kernel
theorem dX8_sure_3 : decode cX8_sure 3 = .ok (.iload_n 2, 1) := by decide +kernel
theorem dX8_sure_4 : decode cX8_sure 4 = .ok (.invokevirtual 314, 3) := by decide +kernel
theorem dX8_sure_7 : decode cX8_sure 7 = .ok (.ifCond .eq 15, 3) := by decide +kernel
theorem dX8_sure_22 : decode cX8_sure 22 = .ok (.iconst 0, 1) := by decide +kernel
theorem dX8_sure_23 : decode cX8_sure 23 = .ok (.bipush 20, 2) := by decide +kernel
theorem dX8_sure_25 : decode cX8_sure 25 = .ok (.invokevirtual 422, 3) := by decide +kernel
theorem dX8_sure_28 : decode cX8_sure 28 = .ok (.istore 4, 2) := by decide +kernel
theorem dX8_sure_30 : decode cX8_sure 30 = .ok (.iload 4, 2) := by decide +kernel
theorem dX8_sure_32 : decode cX8_sure 32 = .ok (.ifCond .ge 8, 3) := by decide +kernel
theorem dX8_sure_35 : decode cX8_sure 35 = .ok (.iload 4, 2) := by decide +kernel
theorem dX8_sure_37 : decode cX8_sure 37 = .ok (.goto 11, 3) := by decide +kernel
theorem dX8_sure_48 : decode cX8_sure 48 = .ok (.ireturn, 1) := by decide +kernel
theorem dX8_needs__0 : decode cX8_needs_ 0 = .ok (.aload_n 0, 1) := by decide +kernel
theorem dX8_needs__1 : decode cX8_needs_ 1 = .ok (.iload_n 1, 1) := by decide +kernel
theorem dX8_needs__2 : decode cX8_needs_ 2 = .ok (.aload_n 0, 1) := by decide +kernel
theorem dX8_needs__3 : decode cX8_needs_ 3 = .ok (.iload_n 2, 1) := by decide +kernel
theorem dX8_needs__4 : decode cX8_needs_ 4 = .ok (.invokevirtual 314, 3) := by decide +kernel
theorem dX8_needs__7 : decode cX8_needs_ 7 = .ok (.ifCond .eq 15, 3) := by decide +kernel
theorem dX8_needs__22 : decode cX8_needs_ 22 = .ok (.iconst 0, 1) := by decide +kernel
theorem dX8_needs__23 : decode cX8_needs_ 23 = .ok (.bipush 8, 2) := by decide +kernel
theorem dX8_needs__25 : decode cX8_needs_ 25 = .ok (.invokevirtual 422, 3) := by decide +kernel
theorem dX8_needs__28 : decode cX8_needs_ 28 = .ok (.istore 4, 2) := by decide +kernel
theorem dX8_needs__30 : decode cX8_needs_ 30 = .ok (.iload 4, 2) := by decide +kernel
theorem dX8_needs__32 : decode cX8_needs_ 32 = .ok (.ifCond .ge 6, 3) := by decide +kernel
theorem dX8_needs__35 : decode cX8_needs_ 35 = .ok (.iload 4, 2) := by decide +kernel
theorem dX8_needs__37 : decode cX8_needs_ 37 = .ok (.ireturn, 1) := by decide +kernel
theorem dX8_knows_0 : decode cX8_knows 0 = .ok (.aload_n 0, 1) := by decide +kernel
theorem dX8_knows_1 : decode cX8_knows 1 = .ok (.iload_n 1, 1) := by decide +kernel
theorem dX8_knows_2 : decode cX8_knows 2 = .ok (.invokevirtual 307, 3) := by decide +kernel
theorem dX8_knows_5 : decode cX8_knows 5 = .ok (.ifCond .eq 19, 3) := by decide +kernel
theorem dX8_knows_24 : decode cX8_knows 24 = .ok (.bipush (-2), 2) := by decide +kernel
theorem dX8_knows_26 : decode cX8_knows 26 = .ok (.ireturn, 1) := by decide +kernel
theorem dX8_common_0 : decode cX8_common 0 = .ok (.aload_n 0, 1) := by decide +kernel
theorem dX8_common_1 : decode cX8_common 1 = .ok (.iload_n 2, 1) := by decide +kernel
theorem dX8_common_2 : decode cX8_common 2 = .ok (.invokevirtual 314, 3) := by decide +kernel
theorem dX8_common_5 : decode cX8_common 5 = .ok (.ifCond .eq 31, 3) := by decide +kernel
theorem dX8_common_36 : decode cX8_common 36 = .ok (.bipush (-2), 2) := by decide +kernel
theorem dX8_common_38 : decode cX8_common 38 = .ok (.ireturn, 1) := by decide +kernel
theorem dX8_alike_0 : decode cX8_alike 0 = .ok (.aload_n 0, 1) := by decide +kernel
theorem dX8_alike_1 : decode cX8_alike 1 = .ok (.iload_n 1, 1) := by decide +kernel
theorem dX8_alike_2 : decode cX8_alike 2 = .ok (.invokevirtual 307, 3) := by decide +kernel
theorem dX8_alike_5 : decode cX8_alike 5 = .ok (.ifCond .ne 6, 3) := by decide +kernel
theorem dX8_alike_8 : decode cX8_alike 8 = .ok (.bipush (-2), 2) := by decide +kernel
theorem dX8_alike_10 : decode cX8_alike 10 = .ok (.ireturn, 1) := by decide +kernel
theorem dX8_lie_0 : decode cX8_lie 0 = .ok (.aload_n 0, 1) := by decide +kernel
theorem dX8_lie_1 : decode cX8_lie 1 = .ok (.iload_n 1, 1) := by decide +kernel
theorem dX8_lie_2 : decode cX8_lie 2 = .ok (.iload_n 2, 1) := by decide +kernel
theorem dX8_lie_3 : decode cX8_lie 3 = .ok (.iload_n 3, 1) := by decide +kernel
theorem dX8_lie_4 : decode cX8_lie 4 = .ok (.iload 4, 2) := by decide +kernel
theorem dX8_lie_6 : decode cX8_lie 6 = .ok (.invokevirtual 449, 3) := by decide +kernel
theorem dX8_lie_9 : decode cX8_lie 9 = .ok (.ifCond .ne 6, 3) := by decide +kernel
theorem dX8_lie_12 : decode cX8_lie 12 = .ok (.bipush (-2), 2) := by decide +kernel
theorem dX8_lie_14 : decode cX8_lie 14 = .ok (.ireturn, 1) := by decide +kernel
theorem dX8_shown_0 : decode cX8_shown 0 = .ok (.aload_n 0, 1) := by decide +kernel
theorem dX8_shown_1 : decode cX8_shown 1 = .ok (.iload_n 1, 1) := by decide +kernel
theorem dX8_shown_2 : decode cX8_shown 2 = .ok (.iload_n 2, 1) := by decide +kernel
theorem dX8_shown_3 : decode cX8_shown 3 = .ok (.iload_n 3, 1) := by decide +kernel
theorem dX8_shown_4 : decode cX8_shown 4 = .ok (.iload 4, 2) := by decide +kernel
theorem dX8_shown_6 : decode cX8_shown 6 = .ok (.invokevirtual 449, 3) := by decide +kernel
theorem dX8_shown_9 : decode cX8_shown 9 = .ok (.ifCond .ne 6, 3) := by decide +kernel
theorem dX8_shown_12 : decode cX8_shown 12 = .ok (.bipush (-2), 2) := by decide +kernel
theorem dX8_shown_14 : decode cX8_shown 14 = .ok (.ireturn, 1) := by decide +kernel
theorem dX8_both_0 : decode cX8_both 0 = .ok (.aload_n 0, 1) := by decide +kernel
theorem dX8_both_1 : decode cX8_both 1 = .ok (.iload_n 1, 1) := by decide +kernel
theorem dX8_both_2 : decode cX8_both 2 = .ok (.iload_n 2, 1) := by decide +kernel
theorem dX8_both_3 : decode cX8_both 3 = .ok (.invokevirtual 455, 3) := by decide +kernel
theorem dX8_both_6 : decode cX8_both 6 = .ok (.ifCond .eq 20, 3) := by decide +kernel
theorem dX8_both_26 : decode cX8_both 26 = .ok (.bipush (-2), 2) := by decide +kernel
theorem dX8_both_28 : decode cX8_both 28 = .ok (.ireturn, 1) := by decide +kernel
theorem dX8_learns_0 : decode cX8_learns 0 = .ok (.aload_n 0, 1) := by decide +kernel
theorem dX8_learns_1 : decode cX8_learns 1 = .ok (.iload_n 1, 1) := by decide +kernel
theorem dX8_learns_2 : decode cX8_learns 2 = .ok (.invokevirtual 307, 3) := by decide +kernel
theorem dX8_learns_5 : decode cX8_learns 5 = .ok (.ifCond .eq 19, 3) := by decide +kernel
theorem dX8_learns_24 : decode cX8_learns 24 = .ok (.bipush (-2), 2) := by decide +kernel
theorem dX8_learns_26 : decode cX8_learns 26 = .ok (.ireturn, 1) := by decide +kernel
theorem dX8_sights_0 : decode cX8_sights 0 = .ok (.aload_n 0, 1) := by decide +kernel
theorem dX8_sights_1 : decode cX8_sights 1 = .ok (.iload_n 1, 1) := by decide +kernel
theorem dX8_sights_2 : decode cX8_sights 2 = .ok (.invokevirtual 307, 3) := by decide +kernel
theorem dX8_sights_5 : decode cX8_sights 5 = .ok (.ifCond .ne 6, 3) := by decide +kernel
theorem dX8_sights_8 : decode cX8_sights 8 = .ok (.bipush (-2), 2) := by decide +kernel
theorem dX8_sights_10 : decode cX8_sights 10 = .ok (.ireturn, 1) := by decide +kernel
theorem dX8_meets_0 : decode cX8_meets 0 = .ok (.aload_n 0, 1) := by decide +kernel
theorem dX8_meets_1 : decode cX8_meets 1 = .ok (.iload_n 1, 1) := by decide +kernel
theorem dX8_meets_2 : decode cX8_meets 2 = .ok (.iload_n 2, 1) := by decide +kernel
theorem dX8_meets_3 : decode cX8_meets 3 = .ok (.invokevirtual 455, 3) := by decide +kernel
theorem dX8_meets_6 : decode cX8_meets 6 = .ok (.ifCond .ne 6, 3) := by decide +kernel
theorem dX8_meets_9 : decode cX8_meets 9 = .ok (.bipush (-2), 2) := by decide +kernel
theorem dX8_meets_11 : decode cX8_meets 11 = .ok (.ireturn, 1) := by decide +kernel
theorem dX8_spots_0 : decode cX8_spots 0 = .ok (.aload_n 0, 1) := by decide +kernel
theorem dX8_spots_1 : decode cX8_spots 1 = .ok (.iload_n 1, 1) := by decide +kernel
theorem dX8_spots_2 : decode cX8_spots 2 = .ok (.invokevirtual 314, 3) := by decide +kernel
theorem dX8_spots_5 : decode cX8_spots 5 = .ok (.ifCond .ne 6, 3) := by decide +kernel
theorem dX8_spots_8 : decode cX8_spots 8 = .ok (.bipush (-2), 2) := by decide +kernel
theorem dX8_spots_10 : decode cX8_spots 10 = .ok (.ireturn, 1) := by decide +kernel
theorem dX8_when_0 : decode cX8_when 0 = .ok (.aload_n 0, 1) := by decide +kernel
theorem dX8_when_1 : decode cX8_when 1 = .ok (.iload_n 1, 1) := by decide +kernel
theorem dX8_when_2 : decode cX8_when 2 = .ok (.invokevirtual 314, 3) := by decide +kernel
theorem dX8_when_5 : decode cX8_when 5 = .ok (.ifCond .eq 10, 3) := by decide +kernel
theorem dX8_when_15 : decode cX8_when 15 = .ok (.bipush (-2), 2) := by decide +kernel
theorem dX8_when_17 : decode cX8_when 17 = .ok (.ireturn, 1) := by decide +kernel
theorem dX8_hours_0 : decode cX8_hours 0 = .ok (.aload_n 0, 1) := by decide +kernel
theorem dX8_hours_1 : decode cX8_hours 1 = .ok (.iload_n 1, 1) := by decide +kernel
theorem dX8_hours_2 : decode cX8_hours 2 = .ok (.invokevirtual 314, 3) := by decide +kernel
theorem dX8_hours_5 : decode cX8_hours 5 = .ok (.ifCond .ne 6, 3) := by decide +kernel
theorem dX8_hours_8 : decode cX8_hours 8 = .ok (.bipush (-2), 2) := by decide +kernel
theorem dX8_hours_10 : decode cX8_hours 10 = .ok (.ireturn, 1) := by decide +kernel
theorem dX8_without_0 : decode cX8_without 0 = .ok (.aload_n 0, 1) := by decide +kernel
theorem dX8_without_1 : decode cX8_without 1 = .ok (.iload_n 1, 1) := by decide +kernel
theorem dX8_without_2 : decode cX8_without 2 = .ok (.invokevirtual 307, 3) := by decide +kernel
theorem dX8_without_5 : decode cX8_without 5 = .ok (.ifCond .eq 19, 3) := by decide +kernel
theorem dX8_without_24 : decode cX8_without 24 = .ok (.bipush (-2), 2) := by decide +kernel
theorem dX8_without_26 : decode cX8_without 26 = .ok (.ireturn, 1) := by decide +kernel
theorem dX8_hush_0 : decode cX8_hush 0 = .ok (.aload_n 0, 1) := by decide +kernel
theorem dX8_hush_1 : decode cX8_hush 1 = .ok (.iload_n 3, 1) := by decide +kernel
theorem dX8_hush_2 : decode cX8_hush 2 = .ok (.invokevirtual 390, 3) := by decide +kernel
theorem dX8_hush_5 : decode cX8_hush 5 = .ok (.ifCond .eq 33, 3) := by decide +kernel
theorem dX8_hush_38 : decode cX8_hush 38 = .ok (.bipush (-2), 2) := by decide +kernel
theorem dX8_hush_40 : decode cX8_hush 40 = .ok (.ireturn, 1) := by decide +kernel
theorem dX8_call_0 : decode cX8_call 0 = .ok (.aload_n 0, 1) := by decide +kernel
theorem dX8_call_1 : decode cX8_call 1 = .ok (.iload_n 1, 1) := by decide +kernel
theorem dX8_call_2 : decode cX8_call 2 = .ok (.invokevirtual 307, 3) := by decide +kernel
theorem dX8_call_5 : decode cX8_call 5 = .ok (.ifCond .ne 6, 3) := by decide +kernel
theorem dX8_call_8 : decode cX8_call 8 = .ok (.bipush (-2), 2) := by decide +kernel
theorem dX8_call_10 : decode cX8_call 10 = .ok (.ireturn, 1) := by decide +kernel
theorem dX8_away_0 : decode cX8_away 0 = .ok (.aload_n 0, 1) := by decide +kernel
theorem dX8_away_1 : decode cX8_away 1 = .ok (.iload_n 1, 1) := by decide +kernel
theorem dX8_away_2 : decode cX8_away 2 = .ok (.invokevirtual 314, 3) := by decide +kernel
theorem dX8_away_5 : decode cX8_away 5 = .ok (.ifCond .eq 29, 3) := by decide +kernel
theorem dX8_away_34 : decode cX8_away 34 = .ok (.bipush (-2), 2) := by decide +kernel
theorem dX8_away_36 : decode cX8_away 36 = .ok (.ireturn, 1) := by decide +kernel
theorem dX8_kept_0 : decode cX8_kept 0 = .ok (.aload_n 0, 1) := by decide +kernel
theorem dX8_kept_1 : decode cX8_kept 1 = .ok (.iload_n 1, 1) := by decide +kernel
theorem dX8_kept_2 : decode cX8_kept 2 = .ok (.invokevirtual 314, 3) := by decide +kernel
theorem dX8_kept_5 : decode cX8_kept 5 = .ok (.ifCond .eq 33, 3) := by decide +kernel
theorem dX8_kept_38 : decode cX8_kept 38 = .ok (.bipush (-2), 2) := by decide +kernel
theorem dX8_kept_40 : decode cX8_kept 40 = .ok (.ireturn, 1) := by decide +kernel
theorem dX8_keep_0 : decode cX8_keep 0 = .ok (.aload_n 0, 1) := by decide +kernel
theorem dX8_keep_1 : decode cX8_keep 1 = .ok (.iload_n 1, 1) := by decide +kernel
theorem dX8_keep_2 : decode cX8_keep 2 = .ok (.invokevirtual 314, 3) := by decide +kernel
theorem dX8_keep_5 : decode cX8_keep 5 = .ok (.ifCond .eq 28, 3) := by decide +kernel
theorem dX8_keep_33 : decode cX8_keep 33 = .ok (.bipush (-2), 2) := by decide +kernel
theorem dX8_keep_35 : decode cX8_keep 35 = .ok (.ireturn, 1) := by decide +kernel
theorem dX8_shifts_0 : decode cX8_shifts 0 = .ok (.aload_n 0, 1) := by decide +kernel
theorem dX8_shifts_1 : decode cX8_shifts 1 = .ok (.iload_n 1, 1) := by decide +kernel
theorem dX8_shifts_2 : decode cX8_shifts 2 = .ok (.invokevirtual 314, 3) := by decide +kernel
theorem dX8_shifts_5 : decode cX8_shifts 5 = .ok (.ifCond .eq 31, 3) := by decide +kernel
theorem dX8_shifts_36 : decode cX8_shifts 36 = .ok (.bipush (-2), 2) := by decide +kernel
theorem dX8_shifts_38 : decode cX8_shifts 38 = .ok (.ireturn, 1) := by decide +kernel
theorem dX8_last_0 : decode cX8_last 0 = .ok (.aload_n 0, 1) := by decide +kernel
theorem dX8_last_1 : decode cX8_last 1 = .ok (.iload_n 1, 1) := by decide +kernel
theorem dX8_last_2 : decode cX8_last 2 = .ok (.invokevirtual 314, 3) := by decide +kernel
theorem dX8_last_5 : decode cX8_last 5 = .ok (.ifCond .eq 18, 3) := by decide +kernel
theorem dX8_last_23 : decode cX8_last 23 = .ok (.bipush (-2), 2) := by decide +kernel
theorem dX8_last_25 : decode cX8_last 25 = .ok (.ireturn, 1) := by decide +kernel
theorem dX8_all_0 : decode cX8_all 0 = .ok (.aload_n 0, 1) := by decide +kernel
theorem dX8_all_1 : decode cX8_all 1 = .ok (.iload_n 2, 1) := by decide +kernel
theorem dX8_all_2 : decode cX8_all 2 = .ok (.invokevirtual 390, 3) := by decide +kernel
theorem dX8_all_5 : decode cX8_all 5 = .ok (.ifCond .eq 22, 3) := by decide +kernel
theorem dX8_all_27 : decode cX8_all 27 = .ok (.bipush (-2), 2) := by decide +kernel
theorem dX8_all_29 : decode cX8_all 29 = .ok (.ireturn, 1) := by decide +kernel
theorem dX8_pace_0 : decode cX8_pace 0 = .ok (.aload_n 0, 1) := by decide +kernel
theorem dX8_pace_1 : decode cX8_pace 1 = .ok (.iload_n 1, 1) := by decide +kernel
theorem dX8_pace_2 : decode cX8_pace 2 = .ok (.invokevirtual 314, 3) := by decide +kernel
theorem dX8_pace_5 : decode cX8_pace 5 = .ok (.ifCond .eq 18, 3) := by decide +kernel
theorem dX8_pace_23 : decode cX8_pace 23 = .ok (.bipush (-2), 2) := by decide +kernel
theorem dX8_pace_25 : decode cX8_pace 25 = .ok (.ireturn, 1) := by decide +kernel
theorem dX8_mends_0 : decode cX8_mends 0 = .ok (.aload_n 0, 1) := by decide +kernel
theorem dX8_mends_1 : decode cX8_mends 1 = .ok (.iload_n 1, 1) := by decide +kernel
theorem dX8_mends_2 : decode cX8_mends 2 = .ok (.invokevirtual 314, 3) := by decide +kernel
theorem dX8_mends_5 : decode cX8_mends 5 = .ok (.ifCond .eq 15, 3) := by decide +kernel
theorem dX8_mends_20 : decode cX8_mends 20 = .ok (.bipush (-2), 2) := by decide +kernel
theorem dX8_mends_22 : decode cX8_mends 22 = .ok (.ireturn, 1) := by decide +kernel
theorem dX8_day_0 : decode cX8_day 0 = .ok (.iload_n 1, 1) := by decide +kernel
theorem dX8_day_1 : decode cX8_day 1 = .ok (.i2l, 1) := by decide +kernel
theorem dX8_day_2 : decode cX8_day 2 = .ok (.lconst 0, 1) := by decide +kernel
theorem dX8_day_3 : decode cX8_day 3 = .ok (.ldc2_w 474, 3) := by decide +kernel
theorem dX8_day_6 : decode cX8_day 6 = .ok (.invokestatic 104, 3) := by decide +kernel
theorem dX8_day_9 : decode cX8_day 9 = .ok (.ifCond .eq 30, 3) := by decide +kernel
theorem dX8_day_12 : decode cX8_day 12 = .ok (.aload_n 0, 1) := by decide +kernel
theorem dX8_day_13 : decode cX8_day 13 = .ok (.iload_n 2, 1) := by decide +kernel
theorem dX8_day_14 : decode cX8_day 14 = .ok (.invokevirtual 314, 3) := by decide +kernel
theorem dX8_day_17 : decode cX8_day 17 = .ok (.ifCond .eq 22, 3) := by decide +kernel
theorem dX8_day_39 : decode cX8_day 39 = .ok (.bipush (-2), 2) := by decide +kernel
theorem dX8_day_41 : decode cX8_day 41 = .ok (.ireturn, 1) := by decide +kernel
theorem dX8_days_0 : decode cX8_days 0 = .ok (.iload_n 1, 1) := by decide +kernel
theorem dX8_days_1 : decode cX8_days 1 = .ok (.i2l, 1) := by decide +kernel
theorem dX8_days_2 : decode cX8_days 2 = .ok (.lconst 0, 1) := by decide +kernel
theorem dX8_days_3 : decode cX8_days 3 = .ok (.ldc2_w 474, 3) := by decide +kernel
theorem dX8_days_6 : decode cX8_days 6 = .ok (.invokestatic 104, 3) := by decide +kernel
theorem dX8_days_9 : decode cX8_days 9 = .ok (.ifCond .eq 40, 3) := by decide +kernel
theorem dX8_days_12 : decode cX8_days 12 = .ok (.iload_n 2, 1) := by decide +kernel
theorem dX8_days_13 : decode cX8_days 13 = .ok (.i2l, 1) := by decide +kernel
theorem dX8_days_14 : decode cX8_days 14 = .ok (.lconst 1, 1) := by decide +kernel
theorem dX8_days_15 : decode cX8_days 15 = .ok (.ldc2_w 480, 3) := by decide +kernel
theorem dX8_days_18 : decode cX8_days 18 = .ok (.invokestatic 104, 3) := by decide +kernel
theorem dX8_days_21 : decode cX8_days 21 = .ok (.ifCond .eq 28, 3) := by decide +kernel
theorem dX8_days_24 : decode cX8_days 24 = .ok (.aload_n 0, 1) := by decide +kernel
theorem dX8_days_25 : decode cX8_days 25 = .ok (.iload_n 3, 1) := by decide +kernel
theorem dX8_days_26 : decode cX8_days 26 = .ok (.invokevirtual 314, 3) := by decide +kernel
theorem dX8_days_29 : decode cX8_days 29 = .ok (.ifCond .eq 20, 3) := by decide +kernel
theorem dX8_days_49 : decode cX8_days 49 = .ok (.bipush (-2), 2) := by decide +kernel
theorem dX8_days_51 : decode cX8_days 51 = .ok (.ireturn, 1) := by decide +kernel
theorem dX8_agree_0 : decode cX8_agree 0 = .ok (.aload_n 0, 1) := by decide +kernel
theorem dX8_agree_1 : decode cX8_agree 1 = .ok (.iload_n 1, 1) := by decide +kernel
theorem dX8_agree_2 : decode cX8_agree 2 = .ok (.iconst 1, 1) := by decide +kernel
theorem dX8_agree_3 : decode cX8_agree 3 = .ok (.bipush 20, 2) := by decide +kernel
theorem dX8_agree_5 : decode cX8_agree 5 = .ok (.invokevirtual 422, 3) := by decide +kernel
theorem dX8_agree_8 : decode cX8_agree 8 = .ok (.istore_n 2, 1) := by decide +kernel
theorem dX8_agree_9 : decode cX8_agree 9 = .ok (.iload_n 2, 1) := by decide +kernel
theorem dX8_agree_10 : decode cX8_agree 10 = .ok (.ifCond .ge 5, 3) := by decide +kernel
theorem dX8_agree_13 : decode cX8_agree 13 = .ok (.iload_n 2, 1) := by decide +kernel
theorem dX8_agree_14 : decode cX8_agree 14 = .ok (.ireturn, 1) := by decide +kernel
def v_r_M_at : List Cond := .code yX8_at cX8_at 3 (some .int) :: ([.fieldLink RX8 9 "UnseenClockModel" "world" "[I", .code yX8_in cX8_in 6 (some .boolean), .methodLink RX8 104 yX8_in, .static yX8_in, .initialized RX8, .code yX8_isPerson cX8_isPerson 2 (some .boolean), .methodLink RX8 307 yX8_isPerson, .instanceMethod yX8_isPerson, .selects RX8 yX8_isPerson yX8_isPerson] ++ (wsX80))
theorem in_r_M_at_X8 : ∀ w ∈ u_ws RX8 TX8 41, w ∈ v_r_M_at := fun w h => List.mem_cons_of_mem _ (List.mem_append_right _ (h))
set_option maxRecDepth 20000 in
theorem g_r_M_at_r_M_isPerson : GoodIn v_r_M_at (wsV RX8 307 RX8 yX8_isPerson v_r_M_isPerson) := g_rows _ [7, 8, 9, 5, 6, 1, 2, 3, 4, 5, 10, 11, 12, 13, 14, 15, 16, 17, 18, 19, 20, 21, 22, 23, 24, 25, 26, 27, 28, 29, 30, 31, 32, 33, 34, 35, 36, 37, 38, 39, 40, 41, 42, 43, 44, 45, 46, 47, 48, 49, 50] rfl (by decide +kernel)
set_option maxHeartbeats 2000000 in
set_option maxRecDepth 100000 in
theorem r_M_at (l : Launch) (D : va_G) (E : Nat → ClassId) (sz : Nat) (h0 : Nat) (u : Nat → Nat) (a1 : Int32) (a2 : Int32) : Met l yX8_at v_r_M_at ({ frames := 2, cells := 0, slots := 0, locals := 46 }) (va_Pc [.ref h0, .int a1, .int a2] (pre D E (wM E h0 u) sz)) (vp_Si (fun r => r = -2)) 0 0 (fun _ => False) := by
  refine c_read (cc := cX8_at) (maxL := 3) (ret := (some .int)) (by decide) rfl (Nat.le_of_ble_eq_true rfl) ?_
  intro p e s m below meth c ls ⟨hx, hb, hr, hts, hown, hlocks, hin, hml⟩ hP hK hD hN hl
  have hown : s.vm.findClass RX8 = some m.cls := hown
  have hl : lv_has ls 3 [(0, .ref h0), (1, .int a1), (2, .int a2)] := hl
  refine lv_aload_n hx hb dX8_at_0 rfl (lv_at hl 0 rfl) ?_
  refine lv_iload_n hx hb dX8_at_1 rfl (lv_at hl 1 rfl) ?_
  refine vp_callSi (W.runV (As := [.int a1]) (rest := []) ⟨hx, hb, hml, hown, hts⟩ (r_M_isPerson l D E s.heap.size h0 u a1) (cwV 1 hts g_r_M_at_r_M_isPerson rfl rfl rfl (by decide +kernel) ⟨Nat.le_of_ble_eq_true rfl, Nat.le_of_ble_eq_true rfl⟩) ⟨pre_blind, va_recv hK hP (ci := 8) (q0 := 0) rfl rfl, pre_at hP hK hD hN⟩ rfl rfl hl.1 rfl (lv_room (Nat.le_of_ble_eq_true rfl)) dX8_at_2 ⟨Nat.le_of_ble_eq_true rfl, Nat.le_of_ble_eq_true rfl⟩) (fun r_1 er_1 => ?_)
  subst er_1
  refine lv_if_eq (tgt := 16) hx hb dX8_at_5 (by decide) (fun _ => ?_) (fun h9 => absurd (by decide) h9)
  refine lv_bipush (v := (-2)) hx hb dX8_at_16 (by decide) ?_
  exact e_s (v := (-2)) hx hb hr rfl rfl hlocks dX8_at_18

def v_r_M_sees : List Cond := .code yX8_sees cX8_sees 4 (some .int) :: ([.fieldLink RX8 9 "UnseenClockModel" "world" "[I", .code yX8_in cX8_in 6 (some .boolean), .methodLink RX8 104 yX8_in, .static yX8_in, .initialized RX8, .code yX8_isPerson cX8_isPerson 2 (some .boolean), .methodLink RX8 307 yX8_isPerson, .instanceMethod yX8_isPerson, .selects RX8 yX8_isPerson yX8_isPerson] ++ (wsX80))
theorem in_r_M_sees_X8 : ∀ w ∈ u_ws RX8 TX8 41, w ∈ v_r_M_sees := fun w h => List.mem_cons_of_mem _ (List.mem_append_right _ (h))
set_option maxRecDepth 20000 in
theorem g_r_M_sees_r_M_isPerson : GoodIn v_r_M_sees (wsV RX8 307 RX8 yX8_isPerson v_r_M_isPerson) := g_rows _ [7, 8, 9, 5, 6, 1, 2, 3, 4, 5, 10, 11, 12, 13, 14, 15, 16, 17, 18, 19, 20, 21, 22, 23, 24, 25, 26, 27, 28, 29, 30, 31, 32, 33, 34, 35, 36, 37, 38, 39, 40, 41, 42, 43, 44, 45, 46, 47, 48, 49, 50] rfl (by decide +kernel)
set_option maxHeartbeats 2000000 in
set_option maxRecDepth 100000 in
theorem r_M_sees (l : Launch) (D : va_G) (E : Nat → ClassId) (sz : Nat) (h0 : Nat) (u : Nat → Nat) (a1 : Int32) (a2 : Int32) (a3 : Int32) : Met l yX8_sees v_r_M_sees ({ frames := 2, cells := 0, slots := 0, locals := 46 }) (va_Pc [.ref h0, .int a1, .int a2, .int a3] (pre D E (wM E h0 u) sz)) (vp_Si (fun r => r = -2)) 0 0 (fun _ => False) := by
  refine c_read (cc := cX8_sees) (maxL := 4) (ret := (some .int)) (by decide) rfl (Nat.le_of_ble_eq_true rfl) ?_
  intro p e s m below meth c ls ⟨hx, hb, hr, hts, hown, hlocks, hin, hml⟩ hP hK hD hN hl
  have hown : s.vm.findClass RX8 = some m.cls := hown
  have hl : lv_has ls 4 [(0, .ref h0), (1, .int a1), (2, .int a2), (3, .int a3)] := hl
  refine lv_aload_n hx hb dX8_sees_0 rfl (lv_at hl 0 rfl) ?_
  refine lv_iload_n hx hb dX8_sees_1 rfl (lv_at hl 1 rfl) ?_
  refine vp_callSi (W.runV (As := [.int a1]) (rest := []) ⟨hx, hb, hml, hown, hts⟩ (r_M_isPerson l D E s.heap.size h0 u a1) (cwV 1 hts g_r_M_sees_r_M_isPerson rfl rfl rfl (by decide +kernel) ⟨Nat.le_of_ble_eq_true rfl, Nat.le_of_ble_eq_true rfl⟩) ⟨pre_blind, va_recv hK hP (ci := 8) (q0 := 0) rfl rfl, pre_at hP hK hD hN⟩ rfl rfl hl.1 rfl (lv_room (Nat.le_of_ble_eq_true rfl)) dX8_sees_2 ⟨Nat.le_of_ble_eq_true rfl, Nat.le_of_ble_eq_true rfl⟩) (fun r_1 er_1 => ?_)
  subst er_1
  refine lv_if_eq (tgt := 24) hx hb dX8_sees_5 (by decide) (fun _ => ?_) (fun h9 => absurd (by decide) h9)
  refine lv_bipush (v := (-2)) hx hb dX8_sees_24 (by decide) ?_
  exact e_s (v := (-2)) hx hb hr rfl rfl hlocks dX8_sees_26

def v_r_M_looks : List Cond := .code yX8_looks cX8_looks 4 (some .int) :: ([.fieldLink RX8 9 "UnseenClockModel" "world" "[I", .code yX8_in cX8_in 6 (some .boolean), .methodLink RX8 104 yX8_in, .static yX8_in, .initialized RX8, .code yX8_isPerson cX8_isPerson 2 (some .boolean), .methodLink RX8 307 yX8_isPerson, .instanceMethod yX8_isPerson, .selects RX8 yX8_isPerson yX8_isPerson] ++ (wsX80))
theorem in_r_M_looks_X8 : ∀ w ∈ u_ws RX8 TX8 41, w ∈ v_r_M_looks := fun w h => List.mem_cons_of_mem _ (List.mem_append_right _ (h))
set_option maxRecDepth 20000 in
theorem g_r_M_looks_r_M_isPerson : GoodIn v_r_M_looks (wsV RX8 307 RX8 yX8_isPerson v_r_M_isPerson) := g_rows _ [7, 8, 9, 5, 6, 1, 2, 3, 4, 5, 10, 11, 12, 13, 14, 15, 16, 17, 18, 19, 20, 21, 22, 23, 24, 25, 26, 27, 28, 29, 30, 31, 32, 33, 34, 35, 36, 37, 38, 39, 40, 41, 42, 43, 44, 45, 46, 47, 48, 49, 50] rfl (by decide +kernel)
set_option maxHeartbeats 2000000 in
set_option maxRecDepth 100000 in
theorem r_M_looks (l : Launch) (D : va_G) (E : Nat → ClassId) (sz : Nat) (h0 : Nat) (u : Nat → Nat) (a1 : Int32) (a2 : Int32) (a3 : Int32) : Met l yX8_looks v_r_M_looks ({ frames := 2, cells := 0, slots := 0, locals := 46 }) (va_Pc [.ref h0, .int a1, .int a2, .int a3] (pre D E (wM E h0 u) sz)) (vp_Si (fun r => r = -2)) 0 0 (fun _ => False) := by
  refine c_read (cc := cX8_looks) (maxL := 4) (ret := (some .int)) (by decide) rfl (Nat.le_of_ble_eq_true rfl) ?_
  intro p e s m below meth c ls ⟨hx, hb, hr, hts, hown, hlocks, hin, hml⟩ hP hK hD hN hl
  have hown : s.vm.findClass RX8 = some m.cls := hown
  have hl : lv_has ls 4 [(0, .ref h0), (1, .int a1), (2, .int a2), (3, .int a3)] := hl
  refine lv_aload_n hx hb dX8_looks_0 rfl (lv_at hl 0 rfl) ?_
  refine lv_iload_n hx hb dX8_looks_1 rfl (lv_at hl 1 rfl) ?_
  refine vp_callSi (W.runV (As := [.int a1]) (rest := []) ⟨hx, hb, hml, hown, hts⟩ (r_M_isPerson l D E s.heap.size h0 u a1) (cwV 1 hts g_r_M_looks_r_M_isPerson rfl rfl rfl (by decide +kernel) ⟨Nat.le_of_ble_eq_true rfl, Nat.le_of_ble_eq_true rfl⟩) ⟨pre_blind, va_recv hK hP (ci := 8) (q0 := 0) rfl rfl, pre_at hP hK hD hN⟩ rfl rfl hl.1 rfl (lv_room (Nat.le_of_ble_eq_true rfl)) dX8_looks_2 ⟨Nat.le_of_ble_eq_true rfl, Nat.le_of_ble_eq_true rfl⟩) (fun r_1 er_1 => ?_)
  subst er_1
  refine lv_if_eq (tgt := 24) hx hb dX8_looks_5 (by decide) (fun _ => ?_) (fun h9 => absurd (by decide) h9)
  refine lv_bipush (v := (-2)) hx hb dX8_looks_24 (by decide) ?_
  exact e_s (v := (-2)) hx hb hr rfl rfl hlocks dX8_looks_26

def v_r_M_eyes : List Cond := .code yX8_eyes cX8_eyes 5 (some .int) :: ([.fieldLink RX8 9 "UnseenClockModel" "world" "[I", .code yX8_in cX8_in 6 (some .boolean), .methodLink RX8 104 yX8_in, .static yX8_in, .initialized RX8, .code yX8_isClock cX8_isClock 2 (some .boolean), .methodLink RX8 314 yX8_isClock, .instanceMethod yX8_isClock, .selects RX8 yX8_isClock yX8_isClock] ++ (wsX80))
theorem in_r_M_eyes_X8 : ∀ w ∈ u_ws RX8 TX8 41, w ∈ v_r_M_eyes := fun w h => List.mem_cons_of_mem _ (List.mem_append_right _ (h))
set_option maxRecDepth 20000 in
theorem g_r_M_eyes_r_M_isClock : GoodIn v_r_M_eyes (wsV RX8 314 RX8 yX8_isClock v_r_M_isClock) := g_rows _ [7, 8, 9, 5, 6, 1, 2, 3, 4, 5, 10, 11, 12, 13, 14, 15, 16, 17, 18, 19, 20, 21, 22, 23, 24, 25, 26, 27, 28, 29, 30, 31, 32, 33, 34, 35, 36, 37, 38, 39, 40, 41, 42, 43, 44, 45, 46, 47, 48, 49, 50] rfl (by decide +kernel)
set_option maxHeartbeats 2000000 in
set_option maxRecDepth 100000 in
theorem r_M_eyes (l : Launch) (D : va_G) (E : Nat → ClassId) (sz : Nat) (h0 : Nat) (u : Nat → Nat) (a1 : Int32) (a2 : Int32) : Met l yX8_eyes v_r_M_eyes ({ frames := 2, cells := 0, slots := 0, locals := 46 }) (va_Pc [.ref h0, .int a1, .int a2] (pre D E (wM E h0 u) sz)) (vp_Si (fun r => r = -2)) 0 0 (fun _ => False) := by
  refine c_read (cc := cX8_eyes) (maxL := 5) (ret := (some .int)) (by decide) rfl (Nat.le_of_ble_eq_true rfl) ?_
  intro p e s m below meth c ls ⟨hx, hb, hr, hts, hown, hlocks, hin, hml⟩ hP hK hD hN hl
  have hown : s.vm.findClass RX8 = some m.cls := hown
  have hl : lv_has ls 5 [(0, .ref h0), (1, .int a1), (2, .int a2)] := hl
  refine lv_aload_n hx hb dX8_eyes_0 rfl (lv_at hl 0 rfl) ?_
  refine lv_iload_n hx hb dX8_eyes_1 rfl (lv_at hl 1 rfl) ?_
  refine vp_callSi (W.runV (As := [.int a1]) (rest := []) ⟨hx, hb, hml, hown, hts⟩ (r_M_isClock l D E s.heap.size h0 u a1) (cwV 1 hts g_r_M_eyes_r_M_isClock rfl rfl rfl (by decide +kernel) ⟨Nat.le_of_ble_eq_true rfl, Nat.le_of_ble_eq_true rfl⟩) ⟨pre_blind, va_recv hK hP (ci := 8) (q0 := 0) rfl rfl, pre_at hP hK hD hN⟩ rfl rfl hl.1 rfl (lv_room (Nat.le_of_ble_eq_true rfl)) dX8_eyes_2 ⟨Nat.le_of_ble_eq_true rfl, Nat.le_of_ble_eq_true rfl⟩) (fun r_1 er_1 => ?_)
  subst er_1
  refine lv_if_eq (tgt := 16) hx hb dX8_eyes_5 (by decide) (fun _ => ?_) (fun h9 => absurd (by decide) h9)
  refine lv_bipush (v := (-2)) hx hb dX8_eyes_16 (by decide) ?_
  exact e_s (v := (-2)) hx hb hr rfl rfl hlocks dX8_eyes_18

def v_r_M_shows : List Cond := .code yX8_shows cX8_shows 3 (some .int) :: ([.fieldLink RX8 9 "UnseenClockModel" "world" "[I", .code yX8_in cX8_in 6 (some .boolean), .methodLink RX8 104 yX8_in, .static yX8_in, .initialized RX8, .code yX8_isClock cX8_isClock 2 (some .boolean), .methodLink RX8 314 yX8_isClock, .instanceMethod yX8_isClock, .selects RX8 yX8_isClock yX8_isClock] ++ (wsX80))
theorem in_r_M_shows_X8 : ∀ w ∈ u_ws RX8 TX8 41, w ∈ v_r_M_shows := fun w h => List.mem_cons_of_mem _ (List.mem_append_right _ (h))
set_option maxRecDepth 20000 in
theorem g_r_M_shows_r_M_isClock : GoodIn v_r_M_shows (wsV RX8 314 RX8 yX8_isClock v_r_M_isClock) := g_rows _ [7, 8, 9, 5, 6, 1, 2, 3, 4, 5, 10, 11, 12, 13, 14, 15, 16, 17, 18, 19, 20, 21, 22, 23, 24, 25, 26, 27, 28, 29, 30, 31, 32, 33, 34, 35, 36, 37, 38, 39, 40, 41, 42, 43, 44, 45, 46, 47, 48, 49, 50] rfl (by decide +kernel)
set_option maxHeartbeats 2000000 in
set_option maxRecDepth 100000 in
theorem r_M_shows (l : Launch) (D : va_G) (E : Nat → ClassId) (sz : Nat) (h0 : Nat) (u : Nat → Nat) (a1 : Int32) (a2 : Int32) : Met l yX8_shows v_r_M_shows ({ frames := 2, cells := 0, slots := 0, locals := 46 }) (va_Pc [.ref h0, .int a1, .int a2] (pre D E (wM E h0 u) sz)) (vp_Si (fun r => r = -2)) 0 0 (fun _ => False) := by
  refine c_read (cc := cX8_shows) (maxL := 3) (ret := (some .int)) (by decide) rfl (Nat.le_of_ble_eq_true rfl) ?_
  intro p e s m below meth c ls ⟨hx, hb, hr, hts, hown, hlocks, hin, hml⟩ hP hK hD hN hl
  have hown : s.vm.findClass RX8 = some m.cls := hown
  have hl : lv_has ls 3 [(0, .ref h0), (1, .int a1), (2, .int a2)] := hl
  refine lv_aload_n hx hb dX8_shows_0 rfl (lv_at hl 0 rfl) ?_
  refine lv_iload_n hx hb dX8_shows_1 rfl (lv_at hl 1 rfl) ?_
  refine vp_callSi (W.runV (As := [.int a1]) (rest := []) ⟨hx, hb, hml, hown, hts⟩ (r_M_isClock l D E s.heap.size h0 u a1) (cwV 1 hts g_r_M_shows_r_M_isClock rfl rfl rfl (by decide +kernel) ⟨Nat.le_of_ble_eq_true rfl, Nat.le_of_ble_eq_true rfl⟩) ⟨pre_blind, va_recv hK hP (ci := 8) (q0 := 0) rfl rfl, pre_at hP hK hD hN⟩ rfl rfl hl.1 rfl (lv_room (Nat.le_of_ble_eq_true rfl)) dX8_shows_2 ⟨Nat.le_of_ble_eq_true rfl, Nat.le_of_ble_eq_true rfl⟩) (fun r_1 er_1 => ?_)
  subst er_1
  refine lv_if_eq (tgt := 16) hx hb dX8_shows_5 (by decide) (fun _ => ?_) (fun h9 => absurd (by decide) h9)
  refine lv_bipush (v := (-2)) hx hb dX8_shows_16 (by decide) ?_
  exact e_s (v := (-2)) hx hb hr rfl rfl hlocks dX8_shows_18

def v_r_M_value : List Cond := .code yX8_value cX8_value 6 (some .int) :: ([.fieldLink RX8 9 "UnseenClockModel" "world" "[I", .code yX8_in cX8_in 6 (some .boolean), .methodLink RX8 104 yX8_in, .static yX8_in, .initialized RX8, .code yX8_isClock cX8_isClock 2 (some .boolean), .methodLink RX8 314 yX8_isClock, .instanceMethod yX8_isClock, .selects RX8 yX8_isClock yX8_isClock] ++ (wsX80))
theorem in_r_M_value_X8 : ∀ w ∈ u_ws RX8 TX8 41, w ∈ v_r_M_value := fun w h => List.mem_cons_of_mem _ (List.mem_append_right _ (h))
set_option maxRecDepth 20000 in
theorem g_r_M_value_r_M_isClock : GoodIn v_r_M_value (wsV RX8 314 RX8 yX8_isClock v_r_M_isClock) := g_rows _ [7, 8, 9, 5, 6, 1, 2, 3, 4, 5, 10, 11, 12, 13, 14, 15, 16, 17, 18, 19, 20, 21, 22, 23, 24, 25, 26, 27, 28, 29, 30, 31, 32, 33, 34, 35, 36, 37, 38, 39, 40, 41, 42, 43, 44, 45, 46, 47, 48, 49, 50] rfl (by decide +kernel)
set_option maxHeartbeats 2000000 in
set_option maxRecDepth 100000 in
theorem r_M_value (l : Launch) (D : va_G) (E : Nat → ClassId) (sz : Nat) (h0 : Nat) (u : Nat → Nat) (a1 : Int32) (a2 : Int32) (a3 : Int32) : Met l yX8_value v_r_M_value ({ frames := 2, cells := 0, slots := 0, locals := 46 }) (va_Pc [.ref h0, .int a1, .int a2, .int a3] (pre D E (wM E h0 u) sz)) (vp_Si (fun r => r = -2)) 0 0 (fun _ => False) := by
  refine c_read (cc := cX8_value) (maxL := 6) (ret := (some .int)) (by decide) rfl (Nat.le_of_ble_eq_true rfl) ?_
  intro p e s m below meth c ls ⟨hx, hb, hr, hts, hown, hlocks, hin, hml⟩ hP hK hD hN hl
  have hown : s.vm.findClass RX8 = some m.cls := hown
  have hl : lv_has ls 6 [(0, .ref h0), (1, .int a1), (2, .int a2), (3, .int a3)] := hl
  refine lv_aload_n hx hb dX8_value_0 rfl (lv_at hl 0 rfl) ?_
  refine lv_iload_n hx hb dX8_value_1 rfl (lv_at hl 1 rfl) ?_
  refine vp_callSi (W.runV (As := [.int a1]) (rest := []) ⟨hx, hb, hml, hown, hts⟩ (r_M_isClock l D E s.heap.size h0 u a1) (cwV 1 hts g_r_M_value_r_M_isClock rfl rfl rfl (by decide +kernel) ⟨Nat.le_of_ble_eq_true rfl, Nat.le_of_ble_eq_true rfl⟩) ⟨pre_blind, va_recv hK hP (ci := 8) (q0 := 0) rfl rfl, pre_at hP hK hD hN⟩ rfl rfl hl.1 rfl (lv_room (Nat.le_of_ble_eq_true rfl)) dX8_value_2 ⟨Nat.le_of_ble_eq_true rfl, Nat.le_of_ble_eq_true rfl⟩) (fun r_1 er_1 => ?_)
  subst er_1
  refine lv_if_eq (tgt := 28) hx hb dX8_value_5 (by decide) (fun _ => ?_) (fun h9 => absurd (by decide) h9)
  refine lv_bipush (v := (-2)) hx hb dX8_value_28 (by decide) ?_
  exact e_s (v := (-2)) hx hb hr rfl rfl hlocks dX8_value_30

def v_r_M_still : List Cond := .code yX8_still cX8_still 9 (some .int) :: ([.fieldLink RX8 9 "UnseenClockModel" "world" "[I", .code yX8_in cX8_in 6 (some .boolean), .methodLink RX8 104 yX8_in, .static yX8_in, .initialized RX8, .code yX8_isClock cX8_isClock 2 (some .boolean), .methodLink RX8 314 yX8_isClock, .instanceMethod yX8_isClock, .selects RX8 yX8_isClock yX8_isClock] ++ (wsX80))
theorem in_r_M_still_X8 : ∀ w ∈ u_ws RX8 TX8 41, w ∈ v_r_M_still := fun w h => List.mem_cons_of_mem _ (List.mem_append_right _ (h))
set_option maxRecDepth 20000 in
theorem g_r_M_still_r_M_isClock : GoodIn v_r_M_still (wsV RX8 314 RX8 yX8_isClock v_r_M_isClock) := g_rows _ [7, 8, 9, 5, 6, 1, 2, 3, 4, 5, 10, 11, 12, 13, 14, 15, 16, 17, 18, 19, 20, 21, 22, 23, 24, 25, 26, 27, 28, 29, 30, 31, 32, 33, 34, 35, 36, 37, 38, 39, 40, 41, 42, 43, 44, 45, 46, 47, 48, 49, 50] rfl (by decide +kernel)
set_option maxHeartbeats 2000000 in
set_option maxRecDepth 100000 in
theorem r_M_still (l : Launch) (D : va_G) (E : Nat → ClassId) (sz : Nat) (h0 : Nat) (u : Nat → Nat) (a1 : Int32) (a2 : Int32) : Met l yX8_still v_r_M_still ({ frames := 2, cells := 0, slots := 0, locals := 46 }) (va_Pc [.ref h0, .int a1, .int a2] (pre D E (wM E h0 u) sz)) (vp_Si (fun r => r = -2)) 0 0 (fun _ => False) := by
  refine c_read (cc := cX8_still) (maxL := 9) (ret := (some .int)) (by decide) rfl (Nat.le_of_ble_eq_true rfl) ?_
  intro p e s m below meth c ls ⟨hx, hb, hr, hts, hown, hlocks, hin, hml⟩ hP hK hD hN hl
  have hown : s.vm.findClass RX8 = some m.cls := hown
  have hl : lv_has ls 9 [(0, .ref h0), (1, .int a1), (2, .int a2)] := hl
  refine lv_aload_n hx hb dX8_still_0 rfl (lv_at hl 0 rfl) ?_
  refine lv_iload_n hx hb dX8_still_1 rfl (lv_at hl 1 rfl) ?_
  refine vp_callSi (W.runV (As := [.int a1]) (rest := []) ⟨hx, hb, hml, hown, hts⟩ (r_M_isClock l D E s.heap.size h0 u a1) (cwV 1 hts g_r_M_still_r_M_isClock rfl rfl rfl (by decide +kernel) ⟨Nat.le_of_ble_eq_true rfl, Nat.le_of_ble_eq_true rfl⟩) ⟨pre_blind, va_recv hK hP (ci := 8) (q0 := 0) rfl rfl, pre_at hP hK hD hN⟩ rfl rfl hl.1 rfl (lv_room (Nat.le_of_ble_eq_true rfl)) dX8_still_2 ⟨Nat.le_of_ble_eq_true rfl, Nat.le_of_ble_eq_true rfl⟩) (fun r_1 er_1 => ?_)
  subst er_1
  refine lv_if_eq (tgt := 20) hx hb dX8_still_5 (by decide) (fun _ => ?_) (fun h9 => absurd (by decide) h9)
  refine lv_bipush (v := (-2)) hx hb dX8_still_20 (by decide) ?_
  exact e_s (v := (-2)) hx hb hr rfl rfl hlocks dX8_still_22

def v_r_M_open : List Cond := .code yX8_open cX8_open 1 (some .int) :: ([.fieldLink RX8 9 "UnseenClockModel" "world" "[I", .code yX8_isSquare cX8_isSquare 1 (some .boolean), .methodLink RX8 108 yX8_isSquare, .instanceMethod yX8_isSquare, .selects RX8 yX8_isSquare yX8_isSquare, .initialized RX8] ++ (wsX80))
theorem in_r_M_open_X8 : ∀ w ∈ u_ws RX8 TX8 41, w ∈ v_r_M_open := fun w h => List.mem_cons_of_mem _ (List.mem_append_right _ (h))
set_option maxRecDepth 20000 in
theorem g_r_M_open_r_M_isSquare : GoodIn v_r_M_open (wsV RX8 108 RX8 yX8_isSquare v_r_M_isSquare) := g_rows _ [3, 4, 5, 6, 2, 1, 7, 8, 9, 10, 11, 12, 13, 14, 15, 16, 17, 18, 19, 20, 21, 22, 23, 24, 25, 26, 27, 28, 29, 30, 31, 32, 33, 34, 35, 36, 37, 38, 39, 40, 41, 42, 43, 44, 45, 46, 47] rfl (by decide +kernel)
set_option maxHeartbeats 2000000 in
set_option maxRecDepth 100000 in
theorem r_M_open (l : Launch) (D : va_G) (E : Nat → ClassId) (sz : Nat) (h0 : Nat) (u : Nat → Nat)  : Met l yX8_open v_r_M_open ({ frames := 1, cells := 0, slots := 0, locals := 20 }) (va_Pc [.ref h0] (pre D E (wM E h0 u) sz)) (vp_Si (fun r => r = -2)) 0 0 (fun _ => False) := by
  refine c_read (cc := cX8_open) (maxL := 1) (ret := (some .int)) (by decide) rfl (Nat.le_of_ble_eq_true rfl) ?_
  intro p e s m below meth c ls ⟨hx, hb, hr, hts, hown, hlocks, hin, hml⟩ hP hK hD hN hl
  have hown : s.vm.findClass RX8 = some m.cls := hown
  have hl : lv_has ls 1 [(0, .ref h0)] := hl
  refine lv_aload_n hx hb dX8_open_0 rfl (lv_at hl 0 rfl) ?_
  refine vp_callSi (W.runV (As := []) (rest := []) ⟨hx, hb, hml, hown, hts⟩ (r_M_isSquare l D E s.heap.size h0 u ) (cwV 0 hts g_r_M_open_r_M_isSquare rfl rfl rfl (by decide +kernel) ⟨Nat.le_of_ble_eq_true rfl, Nat.le_of_ble_eq_true rfl⟩) ⟨pre_blind, va_recv hK hP (ci := 8) (q0 := 0) rfl rfl, pre_at hP hK hD hN⟩ rfl rfl hl.1 rfl (lv_room (Nat.le_of_ble_eq_true rfl)) dX8_open_1 ⟨Nat.le_of_ble_eq_true rfl, Nat.le_of_ble_eq_true rfl⟩) (fun r_1 er_1 => ?_)
  subst er_1
  refine lv_if_ne (tgt := 10) hx hb dX8_open_4 (by decide) (fun h9 => absurd (by decide) h9) (fun _ => ?_)
  refine lv_bipush (v := (-2)) hx hb dX8_open_7 (by decide) ?_
  exact e_s (v := (-2)) hx hb hr rfl rfl hlocks dX8_open_9

def v_r_M_opens : List Cond := .code yX8_opens cX8_opens 2 (some .int) :: ([.fieldLink RX8 9 "UnseenClockModel" "world" "[I", .code yX8_isSquare cX8_isSquare 1 (some .boolean), .methodLink RX8 108 yX8_isSquare, .instanceMethod yX8_isSquare, .selects RX8 yX8_isSquare yX8_isSquare, .initialized RX8] ++ (wsX80))
theorem in_r_M_opens_X8 : ∀ w ∈ u_ws RX8 TX8 41, w ∈ v_r_M_opens := fun w h => List.mem_cons_of_mem _ (List.mem_append_right _ (h))
set_option maxRecDepth 20000 in
theorem g_r_M_opens_r_M_isSquare : GoodIn v_r_M_opens (wsV RX8 108 RX8 yX8_isSquare v_r_M_isSquare) := g_rows _ [3, 4, 5, 6, 2, 1, 7, 8, 9, 10, 11, 12, 13, 14, 15, 16, 17, 18, 19, 20, 21, 22, 23, 24, 25, 26, 27, 28, 29, 30, 31, 32, 33, 34, 35, 36, 37, 38, 39, 40, 41, 42, 43, 44, 45, 46, 47] rfl (by decide +kernel)
set_option maxHeartbeats 2000000 in
set_option maxRecDepth 100000 in
theorem r_M_opens (l : Launch) (D : va_G) (E : Nat → ClassId) (sz : Nat) (h0 : Nat) (u : Nat → Nat) (a1 : Int32) : Met l yX8_opens v_r_M_opens ({ frames := 1, cells := 0, slots := 0, locals := 20 }) (va_Pc [.ref h0, .int a1] (pre D E (wM E h0 u) sz)) (vp_Si (fun r => r = -2)) 0 0 (fun _ => False) := by
  refine c_read (cc := cX8_opens) (maxL := 2) (ret := (some .int)) (by decide) rfl (Nat.le_of_ble_eq_true rfl) ?_
  intro p e s m below meth c ls ⟨hx, hb, hr, hts, hown, hlocks, hin, hml⟩ hP hK hD hN hl
  have hown : s.vm.findClass RX8 = some m.cls := hown
  have hl : lv_has ls 2 [(0, .ref h0), (1, .int a1)] := hl
  refine lv_aload_n hx hb dX8_opens_0 rfl (lv_at hl 0 rfl) ?_
  refine vp_callSi (W.runV (As := []) (rest := []) ⟨hx, hb, hml, hown, hts⟩ (r_M_isSquare l D E s.heap.size h0 u ) (cwV 0 hts g_r_M_opens_r_M_isSquare rfl rfl rfl (by decide +kernel) ⟨Nat.le_of_ble_eq_true rfl, Nat.le_of_ble_eq_true rfl⟩) ⟨pre_blind, va_recv hK hP (ci := 8) (q0 := 0) rfl rfl, pre_at hP hK hD hN⟩ rfl rfl hl.1 rfl (lv_room (Nat.le_of_ble_eq_true rfl)) dX8_opens_1 ⟨Nat.le_of_ble_eq_true rfl, Nat.le_of_ble_eq_true rfl⟩) (fun r_1 er_1 => ?_)
  subst er_1
  refine lv_if_ne (tgt := 10) hx hb dX8_opens_4 (by decide) (fun h9 => absurd (by decide) h9) (fun _ => ?_)
  refine lv_bipush (v := (-2)) hx hb dX8_opens_7 (by decide) ?_
  exact e_s (v := (-2)) hx hb hr rfl rfl hlocks dX8_opens_9

def v_r_M_bell : List Cond := .code yX8_bell cX8_bell 4 (some .int) :: ([.fieldLink RX8 9 "UnseenClockModel" "world" "[I", .code yX8_isSquare cX8_isSquare 1 (some .boolean), .methodLink RX8 108 yX8_isSquare, .instanceMethod yX8_isSquare, .selects RX8 yX8_isSquare yX8_isSquare, .initialized RX8] ++ (wsX80))
theorem in_r_M_bell_X8 : ∀ w ∈ u_ws RX8 TX8 41, w ∈ v_r_M_bell := fun w h => List.mem_cons_of_mem _ (List.mem_append_right _ (h))
set_option maxRecDepth 20000 in
theorem g_r_M_bell_r_M_isSquare : GoodIn v_r_M_bell (wsV RX8 108 RX8 yX8_isSquare v_r_M_isSquare) := g_rows _ [3, 4, 5, 6, 2, 1, 7, 8, 9, 10, 11, 12, 13, 14, 15, 16, 17, 18, 19, 20, 21, 22, 23, 24, 25, 26, 27, 28, 29, 30, 31, 32, 33, 34, 35, 36, 37, 38, 39, 40, 41, 42, 43, 44, 45, 46, 47] rfl (by decide +kernel)
set_option maxHeartbeats 2000000 in
set_option maxRecDepth 100000 in
theorem r_M_bell (l : Launch) (D : va_G) (E : Nat → ClassId) (sz : Nat) (h0 : Nat) (u : Nat → Nat) (a1 : Int32) (a2 : Int32) : Met l yX8_bell v_r_M_bell ({ frames := 1, cells := 0, slots := 0, locals := 20 }) (va_Pc [.ref h0, .int a1, .int a2] (pre D E (wM E h0 u) sz)) (vp_Si (fun r => r = -2)) 0 0 (fun _ => False) := by
  refine c_read (cc := cX8_bell) (maxL := 4) (ret := (some .int)) (by decide) rfl (Nat.le_of_ble_eq_true rfl) ?_
  intro p e s m below meth c ls ⟨hx, hb, hr, hts, hown, hlocks, hin, hml⟩ hP hK hD hN hl
  have hown : s.vm.findClass RX8 = some m.cls := hown
  have hl : lv_has ls 4 [(0, .ref h0), (1, .int a1), (2, .int a2)] := hl
  refine lv_aload_n hx hb dX8_bell_0 rfl (lv_at hl 0 rfl) ?_
  refine vp_callSi (W.runV (As := []) (rest := []) ⟨hx, hb, hml, hown, hts⟩ (r_M_isSquare l D E s.heap.size h0 u ) (cwV 0 hts g_r_M_bell_r_M_isSquare rfl rfl rfl (by decide +kernel) ⟨Nat.le_of_ble_eq_true rfl, Nat.le_of_ble_eq_true rfl⟩) ⟨pre_blind, va_recv hK hP (ci := 8) (q0 := 0) rfl rfl, pre_at hP hK hD hN⟩ rfl rfl hl.1 rfl (lv_room (Nat.le_of_ble_eq_true rfl)) dX8_bell_1 ⟨Nat.le_of_ble_eq_true rfl, Nat.le_of_ble_eq_true rfl⟩) (fun r_1 er_1 => ?_)
  subst er_1
  refine lv_if_eq (tgt := 26) hx hb dX8_bell_4 (by decide) (fun _ => ?_) (fun h9 => absurd (by decide) h9)
  refine lv_bipush (v := (-2)) hx hb dX8_bell_26 (by decide) ?_
  exact e_s (v := (-2)) hx hb hr rfl rfl hlocks dX8_bell_28

def v_r_M_courses : List Cond := .code yX8_courses cX8_courses 1 (some .int) :: ([.fieldLink RX8 9 "UnseenClockModel" "world" "[I", .code yX8_isSquare cX8_isSquare 1 (some .boolean), .methodLink RX8 108 yX8_isSquare, .instanceMethod yX8_isSquare, .selects RX8 yX8_isSquare yX8_isSquare, .initialized RX8] ++ (wsX80))
theorem in_r_M_courses_X8 : ∀ w ∈ u_ws RX8 TX8 41, w ∈ v_r_M_courses := fun w h => List.mem_cons_of_mem _ (List.mem_append_right _ (h))
set_option maxRecDepth 20000 in
theorem g_r_M_courses_r_M_isSquare : GoodIn v_r_M_courses (wsV RX8 108 RX8 yX8_isSquare v_r_M_isSquare) := g_rows _ [3, 4, 5, 6, 2, 1, 7, 8, 9, 10, 11, 12, 13, 14, 15, 16, 17, 18, 19, 20, 21, 22, 23, 24, 25, 26, 27, 28, 29, 30, 31, 32, 33, 34, 35, 36, 37, 38, 39, 40, 41, 42, 43, 44, 45, 46, 47] rfl (by decide +kernel)
set_option maxHeartbeats 2000000 in
set_option maxRecDepth 100000 in
theorem r_M_courses (l : Launch) (D : va_G) (E : Nat → ClassId) (sz : Nat) (h0 : Nat) (u : Nat → Nat)  : Met l yX8_courses v_r_M_courses ({ frames := 1, cells := 0, slots := 0, locals := 20 }) (va_Pc [.ref h0] (pre D E (wM E h0 u) sz)) (vp_Si (fun r => r = -2)) 0 0 (fun _ => False) := by
  refine c_read (cc := cX8_courses) (maxL := 1) (ret := (some .int)) (by decide) rfl (Nat.le_of_ble_eq_true rfl) ?_
  intro p e s m below meth c ls ⟨hx, hb, hr, hts, hown, hlocks, hin, hml⟩ hP hK hD hN hl
  have hown : s.vm.findClass RX8 = some m.cls := hown
  have hl : lv_has ls 1 [(0, .ref h0)] := hl
  refine lv_aload_n hx hb dX8_courses_0 rfl (lv_at hl 0 rfl) ?_
  refine vp_callSi (W.runV (As := []) (rest := []) ⟨hx, hb, hml, hown, hts⟩ (r_M_isSquare l D E s.heap.size h0 u ) (cwV 0 hts g_r_M_courses_r_M_isSquare rfl rfl rfl (by decide +kernel) ⟨Nat.le_of_ble_eq_true rfl, Nat.le_of_ble_eq_true rfl⟩) ⟨pre_blind, va_recv hK hP (ci := 8) (q0 := 0) rfl rfl, pre_at hP hK hD hN⟩ rfl rfl hl.1 rfl (lv_room (Nat.le_of_ble_eq_true rfl)) dX8_courses_1 ⟨Nat.le_of_ble_eq_true rfl, Nat.le_of_ble_eq_true rfl⟩) (fun r_1 er_1 => ?_)
  subst er_1
  refine lv_if_ne (tgt := 10) hx hb dX8_courses_4 (by decide) (fun h9 => absurd (by decide) h9) (fun _ => ?_)
  refine lv_bipush (v := (-2)) hx hb dX8_courses_7 (by decide) ?_
  exact e_s (v := (-2)) hx hb hr rfl rfl hlocks dX8_courses_9

def v_r_M_among : List Cond := .code yX8_among cX8_among 6 (some .int) :: ([.fieldLink RX8 9 "UnseenClockModel" "world" "[I", .code yX8_in cX8_in 6 (some .boolean), .methodLink RX8 104 yX8_in, .static yX8_in, .initialized RX8, .code yX8_isClock cX8_isClock 2 (some .boolean), .methodLink RX8 314 yX8_isClock, .instanceMethod yX8_isClock, .selects RX8 yX8_isClock yX8_isClock] ++ (wsX80))
theorem in_r_M_among_X8 : ∀ w ∈ u_ws RX8 TX8 41, w ∈ v_r_M_among := fun w h => List.mem_cons_of_mem _ (List.mem_append_right _ (h))
set_option maxRecDepth 20000 in
theorem g_r_M_among_r_M_isClock : GoodIn v_r_M_among (wsV RX8 314 RX8 yX8_isClock v_r_M_isClock) := g_rows _ [7, 8, 9, 5, 6, 1, 2, 3, 4, 5, 10, 11, 12, 13, 14, 15, 16, 17, 18, 19, 20, 21, 22, 23, 24, 25, 26, 27, 28, 29, 30, 31, 32, 33, 34, 35, 36, 37, 38, 39, 40, 41, 42, 43, 44, 45, 46, 47, 48, 49, 50] rfl (by decide +kernel)
set_option maxHeartbeats 2000000 in
set_option maxRecDepth 100000 in
theorem r_M_among (l : Launch) (D : va_G) (E : Nat → ClassId) (sz : Nat) (h0 : Nat) (u : Nat → Nat) (a1 : Int32) (a2 : Int32) (a3 : Int32) : Met l yX8_among v_r_M_among ({ frames := 2, cells := 0, slots := 0, locals := 46 }) (va_Pc [.ref h0, .int a1, .int a2, .int a3] (pre D E (wM E h0 u) sz)) (vp_Si (fun r => r = -2)) 0 0 (fun _ => False) := by
  refine c_read (cc := cX8_among) (maxL := 6) (ret := (some .int)) (by decide) rfl (Nat.le_of_ble_eq_true rfl) ?_
  intro p e s m below meth c ls ⟨hx, hb, hr, hts, hown, hlocks, hin, hml⟩ hP hK hD hN hl
  have hown : s.vm.findClass RX8 = some m.cls := hown
  have hl : lv_has ls 6 [(0, .ref h0), (1, .int a1), (2, .int a2), (3, .int a3)] := hl
  refine lv_aload_n hx hb dX8_among_0 rfl (lv_at hl 0 rfl) ?_
  refine lv_iload_n hx hb dX8_among_1 rfl (lv_at hl 1 rfl) ?_
  refine vp_callSi (W.runV (As := [.int a1]) (rest := []) ⟨hx, hb, hml, hown, hts⟩ (r_M_isClock l D E s.heap.size h0 u a1) (cwV 1 hts g_r_M_among_r_M_isClock rfl rfl rfl (by decide +kernel) ⟨Nat.le_of_ble_eq_true rfl, Nat.le_of_ble_eq_true rfl⟩) ⟨pre_blind, va_recv hK hP (ci := 8) (q0 := 0) rfl rfl, pre_at hP hK hD hN⟩ rfl rfl hl.1 rfl (lv_room (Nat.le_of_ble_eq_true rfl)) dX8_among_2 ⟨Nat.le_of_ble_eq_true rfl, Nat.le_of_ble_eq_true rfl⟩) (fun r_1 er_1 => ?_)
  subst er_1
  refine lv_if_eq (tgt := 23) hx hb dX8_among_5 (by decide) (fun _ => ?_) (fun h9 => absurd (by decide) h9)
  refine lv_bipush (v := (-2)) hx hb dX8_among_23 (by decide) ?_
  exact e_s (v := (-2)) hx hb hr rfl rfl hlocks dX8_among_25

def v_r_M_sure : List Cond := .code yX8_sure cX8_sure 5 (some .int) :: ([.fieldLink RX8 9 "UnseenClockModel" "world" "[I", .code yX8_in cX8_in 6 (some .boolean), .methodLink RX8 104 yX8_in, .static yX8_in, .initialized RX8, .code yX8_isClock cX8_isClock 2 (some .boolean), .methodLink RX8 314 yX8_isClock, .instanceMethod yX8_isClock, .selects RX8 yX8_isClock yX8_isClock, .constantLong RX8 482 (3), .code yX8_isSlot cX8_isSlot 1 (some .boolean), .methodLink RX8 416 yX8_isSlot, .static yX8_isSlot, .code yX8_isSquare cX8_isSquare 1 (some .boolean), .methodLink RX8 108 yX8_isSquare, .instanceMethod yX8_isSquare, .selects RX8 yX8_isSquare yX8_isSquare, .code yX8_asksSightings cX8_asksSightings 9 (some .int), .methodLink RX8 422 yX8_asksSightings, .instanceMethod yX8_asksSightings, .selects RX8 yX8_asksSightings yX8_asksSightings] ++ (wsX80))
theorem in_r_M_sure_X8 : ∀ w ∈ u_ws RX8 TX8 41, w ∈ v_r_M_sure := fun w h => List.mem_cons_of_mem _ (List.mem_append_right _ (h))
set_option maxRecDepth 20000 in
theorem g_r_M_sure_r_M_isClock : GoodIn v_r_M_sure (wsV RX8 314 RX8 yX8_isClock v_r_M_isClock) := g_rows _ [7, 8, 9, 5, 6, 1, 2, 3, 4, 5, 22, 23, 24, 25, 26, 27, 28, 29, 30, 31, 32, 33, 34, 35, 36, 37, 38, 39, 40, 41, 42, 43, 44, 45, 46, 47, 48, 49, 50, 51, 52, 53, 54, 55, 56, 57, 58, 59, 60, 61, 62] rfl (by decide +kernel)
set_option maxRecDepth 20000 in
theorem g_r_M_sure_r_M_asksSightings : GoodIn v_r_M_sure (wsV RX8 422 RX8 yX8_asksSightings v_r_M_asksSightings) := g_rows _ [19, 20, 21, 5, 18, 10, 2, 3, 4, 5, 11, 12, 13, 1, 14, 15, 16, 17, 22, 23, 24, 25, 26, 27, 28, 29, 30, 31, 32, 33, 34, 35, 36, 37, 38, 39, 40, 41, 42, 43, 44, 45, 46, 47, 48, 49, 50, 51, 52, 53, 54, 55, 56, 57, 58, 59, 60, 61, 62] rfl (by decide +kernel)
set_option maxHeartbeats 2000000 in
set_option maxRecDepth 100000 in
theorem r_M_sure (l : Launch) (D : va_G) (E : Nat → ClassId) (sz : Nat) (h0 : Nat) (u : Nat → Nat) (a1 : Int32) (a2 : Int32) (a3 : Int32) : Met l yX8_sure v_r_M_sure ({ frames := 3, cells := 0, slots := 0, locals := 73 }) (va_Pc [.ref h0, .int a1, .int a2, .int a3] (pre D E (wM E h0 u) sz)) (vp_Si (fun r => r = -2)) 0 0 (fun _ => False) := by
  refine c_read (cc := cX8_sure) (maxL := 5) (ret := (some .int)) (by decide) rfl (Nat.le_of_ble_eq_true rfl) ?_
  intro p e s m below meth c ls ⟨hx, hb, hr, hts, hown, hlocks, hin, hml⟩ hP hK hD hN hl
  have hown : s.vm.findClass RX8 = some m.cls := hown
  have hl : lv_has ls 5 [(0, .ref h0), (1, .int a1), (2, .int a2), (3, .int a3)] := hl
  refine lv_aload_n hx hb dX8_sure_0 rfl (lv_at hl 0 rfl) ?_
  refine lv_iload_n hx hb dX8_sure_1 rfl (lv_at hl 1 rfl) ?_
  refine lv_aload_n hx hb dX8_sure_2 rfl (lv_at hl 0 rfl) ?_
  refine lv_iload_n hx hb dX8_sure_3 rfl (lv_at hl 2 rfl) ?_
  refine vp_callSi (W.runV (As := [.int a2]) (rest := [.int a1, .ref h0]) ⟨hx, hb, hml, hown, hts⟩ (r_M_isClock l D E s.heap.size h0 u a2) (cwV 1 hts g_r_M_sure_r_M_isClock rfl rfl rfl (by decide +kernel) ⟨Nat.le_of_ble_eq_true rfl, Nat.le_of_ble_eq_true rfl⟩) ⟨pre_blind, va_recv hK hP (ci := 8) (q0 := 0) rfl rfl, pre_at hP hK hD hN⟩ rfl rfl hl.1 rfl (lv_room (Nat.le_of_ble_eq_true rfl)) dX8_sure_4 ⟨Nat.le_of_ble_eq_true rfl, Nat.le_of_ble_eq_true rfl⟩) (fun r_1 er_1 => ?_)
  subst er_1
  refine lv_if_eq (tgt := 22) hx hb dX8_sure_7 (by decide) (fun _ => ?_) (fun h9 => absurd (by decide) h9)
  refine lv_iconst (v := 0) hx hb dX8_sure_22 (by decide) ?_
  refine lv_bipush (v := 20) hx hb dX8_sure_23 (by decide) ?_
  refine vp_callSi (W.runV (As := [.int a1, .int 0, .int 20]) (rest := []) ⟨hx, hb, hml, hown, hts⟩ (r_M_asksSightings l D E s.heap.size h0 u a1 0 20) (cwV 3 hts g_r_M_sure_r_M_asksSightings rfl rfl rfl (by decide +kernel) ⟨Nat.le_of_ble_eq_true rfl, Nat.le_of_ble_eq_true rfl⟩) ⟨pre_blind, va_recv hK hP (ci := 8) (q0 := 0) rfl rfl, pre_at hP hK hD hN⟩ rfl rfl hl.1 rfl (lv_room (Nat.le_of_ble_eq_true rfl)) dX8_sure_25 ⟨Nat.le_of_ble_eq_true rfl, Nat.le_of_ble_eq_true rfl⟩) (fun r_3 er_3 => ?_)
  subst er_3
  refine lv_istore (lv' := [(4, .int (-2)), (0, .ref h0), (1, .int a1), (2, .int a2), (3, .int a3)]) hx hb dX8_sure_28 hl (by decide) rfl (fun ls hl => ?_)
  refine lv_iload hx hb dX8_sure_30 (lv_at hl 0 rfl) ?_
  refine lv_if_ge (tgt := 40) hx hb dX8_sure_32 (by decide) (fun h9 => absurd h9 (by decide)) (fun _ => ?_)
  refine lv_iload hx hb dX8_sure_35 (lv_at hl 0 rfl) ?_
  refine lv_goto (tgt := 48) hx hb dX8_sure_37 (by decide) ?_
  exact e_s (v := (-2)) hx hb hr rfl rfl hlocks dX8_sure_48

def v_r_M_needs : List Cond := .code yX8_needs_ cX8_needs_ 7 (some .int) :: ([.fieldLink RX8 9 "UnseenClockModel" "world" "[I", .code yX8_in cX8_in 6 (some .boolean), .methodLink RX8 104 yX8_in, .static yX8_in, .initialized RX8, .code yX8_isClock cX8_isClock 2 (some .boolean), .methodLink RX8 314 yX8_isClock, .instanceMethod yX8_isClock, .selects RX8 yX8_isClock yX8_isClock, .constantLong RX8 482 (3), .code yX8_isSlot cX8_isSlot 1 (some .boolean), .methodLink RX8 416 yX8_isSlot, .static yX8_isSlot, .code yX8_isSquare cX8_isSquare 1 (some .boolean), .methodLink RX8 108 yX8_isSquare, .instanceMethod yX8_isSquare, .selects RX8 yX8_isSquare yX8_isSquare, .code yX8_asksSightings cX8_asksSightings 9 (some .int), .methodLink RX8 422 yX8_asksSightings, .instanceMethod yX8_asksSightings, .selects RX8 yX8_asksSightings yX8_asksSightings] ++ (wsX80))
theorem in_r_M_needs_X8 : ∀ w ∈ u_ws RX8 TX8 41, w ∈ v_r_M_needs := fun w h => List.mem_cons_of_mem _ (List.mem_append_right _ (h))
set_option maxRecDepth 20000 in
theorem g_r_M_needs_r_M_isClock : GoodIn v_r_M_needs (wsV RX8 314 RX8 yX8_isClock v_r_M_isClock) := g_rows _ [7, 8, 9, 5, 6, 1, 2, 3, 4, 5, 22, 23, 24, 25, 26, 27, 28, 29, 30, 31, 32, 33, 34, 35, 36, 37, 38, 39, 40, 41, 42, 43, 44, 45, 46, 47, 48, 49, 50, 51, 52, 53, 54, 55, 56, 57, 58, 59, 60, 61, 62] rfl (by decide +kernel)
set_option maxRecDepth 20000 in
theorem g_r_M_needs_r_M_asksSightings : GoodIn v_r_M_needs (wsV RX8 422 RX8 yX8_asksSightings v_r_M_asksSightings) := g_rows _ [19, 20, 21, 5, 18, 10, 2, 3, 4, 5, 11, 12, 13, 1, 14, 15, 16, 17, 22, 23, 24, 25, 26, 27, 28, 29, 30, 31, 32, 33, 34, 35, 36, 37, 38, 39, 40, 41, 42, 43, 44, 45, 46, 47, 48, 49, 50, 51, 52, 53, 54, 55, 56, 57, 58, 59, 60, 61, 62] rfl (by decide +kernel)
set_option maxHeartbeats 2000000 in
set_option maxRecDepth 100000 in
theorem r_M_needs (l : Launch) (D : va_G) (E : Nat → ClassId) (sz : Nat) (h0 : Nat) (u : Nat → Nat) (a1 : Int32) (a2 : Int32) (a3 : Int32) : Met l yX8_needs_ v_r_M_needs ({ frames := 3, cells := 0, slots := 0, locals := 73 }) (va_Pc [.ref h0, .int a1, .int a2, .int a3] (pre D E (wM E h0 u) sz)) (vp_Si (fun r => r = -2)) 0 0 (fun _ => False) := by
  refine c_read (cc := cX8_needs_) (maxL := 7) (ret := (some .int)) (by decide) rfl (Nat.le_of_ble_eq_true rfl) ?_
  intro p e s m below meth c ls ⟨hx, hb, hr, hts, hown, hlocks, hin, hml⟩ hP hK hD hN hl
  have hown : s.vm.findClass RX8 = some m.cls := hown
  have hl : lv_has ls 7 [(0, .ref h0), (1, .int a1), (2, .int a2), (3, .int a3)] := hl
  refine lv_aload_n hx hb dX8_needs__0 rfl (lv_at hl 0 rfl) ?_
  refine lv_iload_n hx hb dX8_needs__1 rfl (lv_at hl 1 rfl) ?_
  refine lv_aload_n hx hb dX8_needs__2 rfl (lv_at hl 0 rfl) ?_
  refine lv_iload_n hx hb dX8_needs__3 rfl (lv_at hl 2 rfl) ?_
  refine vp_callSi (W.runV (As := [.int a2]) (rest := [.int a1, .ref h0]) ⟨hx, hb, hml, hown, hts⟩ (r_M_isClock l D E s.heap.size h0 u a2) (cwV 1 hts g_r_M_needs_r_M_isClock rfl rfl rfl (by decide +kernel) ⟨Nat.le_of_ble_eq_true rfl, Nat.le_of_ble_eq_true rfl⟩) ⟨pre_blind, va_recv hK hP (ci := 8) (q0 := 0) rfl rfl, pre_at hP hK hD hN⟩ rfl rfl hl.1 rfl (lv_room (Nat.le_of_ble_eq_true rfl)) dX8_needs__4 ⟨Nat.le_of_ble_eq_true rfl, Nat.le_of_ble_eq_true rfl⟩) (fun r_1 er_1 => ?_)
  subst er_1
  refine lv_if_eq (tgt := 22) hx hb dX8_needs__7 (by decide) (fun _ => ?_) (fun h9 => absurd (by decide) h9)
  refine lv_iconst (v := 0) hx hb dX8_needs__22 (by decide) ?_
  refine lv_bipush (v := 8) hx hb dX8_needs__23 (by decide) ?_
  refine vp_callSi (W.runV (As := [.int a1, .int 0, .int 8]) (rest := []) ⟨hx, hb, hml, hown, hts⟩ (r_M_asksSightings l D E s.heap.size h0 u a1 0 8) (cwV 3 hts g_r_M_needs_r_M_asksSightings rfl rfl rfl (by decide +kernel) ⟨Nat.le_of_ble_eq_true rfl, Nat.le_of_ble_eq_true rfl⟩) ⟨pre_blind, va_recv hK hP (ci := 8) (q0 := 0) rfl rfl, pre_at hP hK hD hN⟩ rfl rfl hl.1 rfl (lv_room (Nat.le_of_ble_eq_true rfl)) dX8_needs__25 ⟨Nat.le_of_ble_eq_true rfl, Nat.le_of_ble_eq_true rfl⟩) (fun r_3 er_3 => ?_)
  subst er_3
  refine lv_istore (lv' := [(4, .int (-2)), (0, .ref h0), (1, .int a1), (2, .int a2), (3, .int a3)]) hx hb dX8_needs__28 hl (by decide) rfl (fun ls hl => ?_)
  refine lv_iload hx hb dX8_needs__30 (lv_at hl 0 rfl) ?_
  refine lv_if_ge (tgt := 38) hx hb dX8_needs__32 (by decide) (fun h9 => absurd h9 (by decide)) (fun _ => ?_)
  refine lv_iload hx hb dX8_needs__35 (lv_at hl 0 rfl) ?_
  exact e_s (v := (-2)) hx hb hr rfl rfl hlocks dX8_needs__37

def v_r_M_knows : List Cond := .code yX8_knows cX8_knows 5 (some .int) :: ([.fieldLink RX8 9 "UnseenClockModel" "world" "[I", .code yX8_in cX8_in 6 (some .boolean), .methodLink RX8 104 yX8_in, .static yX8_in, .initialized RX8, .code yX8_isPerson cX8_isPerson 2 (some .boolean), .methodLink RX8 307 yX8_isPerson, .instanceMethod yX8_isPerson, .selects RX8 yX8_isPerson yX8_isPerson] ++ (wsX80))
theorem in_r_M_knows_X8 : ∀ w ∈ u_ws RX8 TX8 41, w ∈ v_r_M_knows := fun w h => List.mem_cons_of_mem _ (List.mem_append_right _ (h))
set_option maxRecDepth 20000 in
theorem g_r_M_knows_r_M_isPerson : GoodIn v_r_M_knows (wsV RX8 307 RX8 yX8_isPerson v_r_M_isPerson) := g_rows _ [7, 8, 9, 5, 6, 1, 2, 3, 4, 5, 10, 11, 12, 13, 14, 15, 16, 17, 18, 19, 20, 21, 22, 23, 24, 25, 26, 27, 28, 29, 30, 31, 32, 33, 34, 35, 36, 37, 38, 39, 40, 41, 42, 43, 44, 45, 46, 47, 48, 49, 50] rfl (by decide +kernel)
set_option maxHeartbeats 2000000 in
set_option maxRecDepth 100000 in
theorem r_M_knows (l : Launch) (D : va_G) (E : Nat → ClassId) (sz : Nat) (h0 : Nat) (u : Nat → Nat) (a1 : Int32) (a2 : Int32) (a3 : Int32) : Met l yX8_knows v_r_M_knows ({ frames := 2, cells := 0, slots := 0, locals := 46 }) (va_Pc [.ref h0, .int a1, .int a2, .int a3] (pre D E (wM E h0 u) sz)) (vp_Si (fun r => r = -2)) 0 0 (fun _ => False) := by
  refine c_read (cc := cX8_knows) (maxL := 5) (ret := (some .int)) (by decide) rfl (Nat.le_of_ble_eq_true rfl) ?_
  intro p e s m below meth c ls ⟨hx, hb, hr, hts, hown, hlocks, hin, hml⟩ hP hK hD hN hl
  have hown : s.vm.findClass RX8 = some m.cls := hown
  have hl : lv_has ls 5 [(0, .ref h0), (1, .int a1), (2, .int a2), (3, .int a3)] := hl
  refine lv_aload_n hx hb dX8_knows_0 rfl (lv_at hl 0 rfl) ?_
  refine lv_iload_n hx hb dX8_knows_1 rfl (lv_at hl 1 rfl) ?_
  refine vp_callSi (W.runV (As := [.int a1]) (rest := []) ⟨hx, hb, hml, hown, hts⟩ (r_M_isPerson l D E s.heap.size h0 u a1) (cwV 1 hts g_r_M_knows_r_M_isPerson rfl rfl rfl (by decide +kernel) ⟨Nat.le_of_ble_eq_true rfl, Nat.le_of_ble_eq_true rfl⟩) ⟨pre_blind, va_recv hK hP (ci := 8) (q0 := 0) rfl rfl, pre_at hP hK hD hN⟩ rfl rfl hl.1 rfl (lv_room (Nat.le_of_ble_eq_true rfl)) dX8_knows_2 ⟨Nat.le_of_ble_eq_true rfl, Nat.le_of_ble_eq_true rfl⟩) (fun r_1 er_1 => ?_)
  subst er_1
  refine lv_if_eq (tgt := 24) hx hb dX8_knows_5 (by decide) (fun _ => ?_) (fun h9 => absurd (by decide) h9)
  refine lv_bipush (v := (-2)) hx hb dX8_knows_24 (by decide) ?_
  exact e_s (v := (-2)) hx hb hr rfl rfl hlocks dX8_knows_26

def v_r_M_common : List Cond := .code yX8_common cX8_common 4 (some .int) :: ([.fieldLink RX8 9 "UnseenClockModel" "world" "[I", .code yX8_in cX8_in 6 (some .boolean), .methodLink RX8 104 yX8_in, .static yX8_in, .initialized RX8, .code yX8_isClock cX8_isClock 2 (some .boolean), .methodLink RX8 314 yX8_isClock, .instanceMethod yX8_isClock, .selects RX8 yX8_isClock yX8_isClock] ++ (wsX80))
theorem in_r_M_common_X8 : ∀ w ∈ u_ws RX8 TX8 41, w ∈ v_r_M_common := fun w h => List.mem_cons_of_mem _ (List.mem_append_right _ (h))
set_option maxRecDepth 20000 in
theorem g_r_M_common_r_M_isClock : GoodIn v_r_M_common (wsV RX8 314 RX8 yX8_isClock v_r_M_isClock) := g_rows _ [7, 8, 9, 5, 6, 1, 2, 3, 4, 5, 10, 11, 12, 13, 14, 15, 16, 17, 18, 19, 20, 21, 22, 23, 24, 25, 26, 27, 28, 29, 30, 31, 32, 33, 34, 35, 36, 37, 38, 39, 40, 41, 42, 43, 44, 45, 46, 47, 48, 49, 50] rfl (by decide +kernel)
set_option maxHeartbeats 2000000 in
set_option maxRecDepth 100000 in
theorem r_M_common (l : Launch) (D : va_G) (E : Nat → ClassId) (sz : Nat) (h0 : Nat) (u : Nat → Nat) (a1 : Int32) (a2 : Int32) (a3 : Int32) : Met l yX8_common v_r_M_common ({ frames := 2, cells := 0, slots := 0, locals := 46 }) (va_Pc [.ref h0, .int a1, .int a2, .int a3] (pre D E (wM E h0 u) sz)) (vp_Si (fun r => r = -2)) 0 0 (fun _ => False) := by
  refine c_read (cc := cX8_common) (maxL := 4) (ret := (some .int)) (by decide) rfl (Nat.le_of_ble_eq_true rfl) ?_
  intro p e s m below meth c ls ⟨hx, hb, hr, hts, hown, hlocks, hin, hml⟩ hP hK hD hN hl
  have hown : s.vm.findClass RX8 = some m.cls := hown
  have hl : lv_has ls 4 [(0, .ref h0), (1, .int a1), (2, .int a2), (3, .int a3)] := hl
  refine lv_aload_n hx hb dX8_common_0 rfl (lv_at hl 0 rfl) ?_
  refine lv_iload_n hx hb dX8_common_1 rfl (lv_at hl 2 rfl) ?_
  refine vp_callSi (W.runV (As := [.int a2]) (rest := []) ⟨hx, hb, hml, hown, hts⟩ (r_M_isClock l D E s.heap.size h0 u a2) (cwV 1 hts g_r_M_common_r_M_isClock rfl rfl rfl (by decide +kernel) ⟨Nat.le_of_ble_eq_true rfl, Nat.le_of_ble_eq_true rfl⟩) ⟨pre_blind, va_recv hK hP (ci := 8) (q0 := 0) rfl rfl, pre_at hP hK hD hN⟩ rfl rfl hl.1 rfl (lv_room (Nat.le_of_ble_eq_true rfl)) dX8_common_2 ⟨Nat.le_of_ble_eq_true rfl, Nat.le_of_ble_eq_true rfl⟩) (fun r_1 er_1 => ?_)
  subst er_1
  refine lv_if_eq (tgt := 36) hx hb dX8_common_5 (by decide) (fun _ => ?_) (fun h9 => absurd (by decide) h9)
  refine lv_bipush (v := (-2)) hx hb dX8_common_36 (by decide) ?_
  exact e_s (v := (-2)) hx hb hr rfl rfl hlocks dX8_common_38

def v_r_M_alike : List Cond := .code yX8_alike cX8_alike 4 (some .int) :: ([.fieldLink RX8 9 "UnseenClockModel" "world" "[I", .code yX8_in cX8_in 6 (some .boolean), .methodLink RX8 104 yX8_in, .static yX8_in, .initialized RX8, .code yX8_isPerson cX8_isPerson 2 (some .boolean), .methodLink RX8 307 yX8_isPerson, .instanceMethod yX8_isPerson, .selects RX8 yX8_isPerson yX8_isPerson] ++ (wsX80))
theorem in_r_M_alike_X8 : ∀ w ∈ u_ws RX8 TX8 41, w ∈ v_r_M_alike := fun w h => List.mem_cons_of_mem _ (List.mem_append_right _ (h))
set_option maxRecDepth 20000 in
theorem g_r_M_alike_r_M_isPerson : GoodIn v_r_M_alike (wsV RX8 307 RX8 yX8_isPerson v_r_M_isPerson) := g_rows _ [7, 8, 9, 5, 6, 1, 2, 3, 4, 5, 10, 11, 12, 13, 14, 15, 16, 17, 18, 19, 20, 21, 22, 23, 24, 25, 26, 27, 28, 29, 30, 31, 32, 33, 34, 35, 36, 37, 38, 39, 40, 41, 42, 43, 44, 45, 46, 47, 48, 49, 50] rfl (by decide +kernel)
set_option maxHeartbeats 2000000 in
set_option maxRecDepth 100000 in
theorem r_M_alike (l : Launch) (D : va_G) (E : Nat → ClassId) (sz : Nat) (h0 : Nat) (u : Nat → Nat) (a1 : Int32) : Met l yX8_alike v_r_M_alike ({ frames := 2, cells := 0, slots := 0, locals := 46 }) (va_Pc [.ref h0, .int a1] (pre D E (wM E h0 u) sz)) (vp_Si (fun r => r = -2)) 0 0 (fun _ => False) := by
  refine c_read (cc := cX8_alike) (maxL := 4) (ret := (some .int)) (by decide) rfl (Nat.le_of_ble_eq_true rfl) ?_
  intro p e s m below meth c ls ⟨hx, hb, hr, hts, hown, hlocks, hin, hml⟩ hP hK hD hN hl
  have hown : s.vm.findClass RX8 = some m.cls := hown
  have hl : lv_has ls 4 [(0, .ref h0), (1, .int a1)] := hl
  refine lv_aload_n hx hb dX8_alike_0 rfl (lv_at hl 0 rfl) ?_
  refine lv_iload_n hx hb dX8_alike_1 rfl (lv_at hl 1 rfl) ?_
  refine vp_callSi (W.runV (As := [.int a1]) (rest := []) ⟨hx, hb, hml, hown, hts⟩ (r_M_isPerson l D E s.heap.size h0 u a1) (cwV 1 hts g_r_M_alike_r_M_isPerson rfl rfl rfl (by decide +kernel) ⟨Nat.le_of_ble_eq_true rfl, Nat.le_of_ble_eq_true rfl⟩) ⟨pre_blind, va_recv hK hP (ci := 8) (q0 := 0) rfl rfl, pre_at hP hK hD hN⟩ rfl rfl hl.1 rfl (lv_room (Nat.le_of_ble_eq_true rfl)) dX8_alike_2 ⟨Nat.le_of_ble_eq_true rfl, Nat.le_of_ble_eq_true rfl⟩) (fun r_1 er_1 => ?_)
  subst er_1
  refine lv_if_ne (tgt := 11) hx hb dX8_alike_5 (by decide) (fun h9 => absurd (by decide) h9) (fun _ => ?_)
  refine lv_bipush (v := (-2)) hx hb dX8_alike_8 (by decide) ?_
  exact e_s (v := (-2)) hx hb hr rfl rfl hlocks dX8_alike_10

def v_r_M_lie : List Cond := .code yX8_lie cX8_lie 5 (some .int) :: ([.fieldLink RX8 9 "UnseenClockModel" "world" "[I", .code yX8_in cX8_in 6 (some .boolean), .methodLink RX8 104 yX8_in, .static yX8_in, .initialized RX8, .code yX8_isPerson cX8_isPerson 2 (some .boolean), .methodLink RX8 307 yX8_isPerson, .instanceMethod yX8_isPerson, .selects RX8 yX8_isPerson yX8_isPerson, .code yX8_isAsked cX8_isAsked 5 (some .boolean), .methodLink RX8 449 yX8_isAsked, .instanceMethod yX8_isAsked, .selects RX8 yX8_isAsked yX8_isAsked] ++ (wsX80))
theorem in_r_M_lie_X8 : ∀ w ∈ u_ws RX8 TX8 41, w ∈ v_r_M_lie := fun w h => List.mem_cons_of_mem _ (List.mem_append_right _ (h))
set_option maxRecDepth 20000 in
theorem g_r_M_lie_r_M_isAsked : GoodIn v_r_M_lie (wsV RX8 449 RX8 yX8_isAsked v_r_M_isAsked) := g_rows _ [11, 12, 13, 5, 10, 1, 2, 3, 4, 5, 6, 7, 8, 9, 14, 15, 16, 17, 18, 19, 20, 21, 22, 23, 24, 25, 26, 27, 28, 29, 30, 31, 32, 33, 34, 35, 36, 37, 38, 39, 40, 41, 42, 43, 44, 45, 46, 47, 48, 49, 50, 51, 52, 53, 54] rfl (by decide +kernel)
set_option maxHeartbeats 2000000 in
set_option maxRecDepth 100000 in
theorem r_M_lie (l : Launch) (D : va_G) (E : Nat → ClassId) (sz : Nat) (h0 : Nat) (u : Nat → Nat) (a1 : Int32) (a2 : Int32) (a3 : Int32) (a4 : Int32) : Met l yX8_lie v_r_M_lie ({ frames := 3, cells := 0, slots := 0, locals := 70 }) (va_Pc [.ref h0, .int a1, .int a2, .int a3, .int a4] (pre D E (wM E h0 u) sz)) (vp_Si (fun r => r = -2)) 0 0 (fun _ => False) := by
  refine c_read (cc := cX8_lie) (maxL := 5) (ret := (some .int)) (by decide) rfl (Nat.le_of_ble_eq_true rfl) ?_
  intro p e s m below meth c ls ⟨hx, hb, hr, hts, hown, hlocks, hin, hml⟩ hP hK hD hN hl
  have hown : s.vm.findClass RX8 = some m.cls := hown
  have hl : lv_has ls 5 [(0, .ref h0), (1, .int a1), (2, .int a2), (3, .int a3), (4, .int a4)] := hl
  refine lv_aload_n hx hb dX8_lie_0 rfl (lv_at hl 0 rfl) ?_
  refine lv_iload_n hx hb dX8_lie_1 rfl (lv_at hl 1 rfl) ?_
  refine lv_iload_n hx hb dX8_lie_2 rfl (lv_at hl 2 rfl) ?_
  refine lv_iload_n hx hb dX8_lie_3 rfl (lv_at hl 3 rfl) ?_
  refine lv_iload hx hb dX8_lie_4 (lv_at hl 4 rfl) ?_
  refine vp_callSi (W.runV (As := [.int a1, .int a2, .int a3, .int a4]) (rest := []) ⟨hx, hb, hml, hown, hts⟩ (r_M_isAsked l D E s.heap.size h0 u a1 a2 a3 a4) (cwV 4 hts g_r_M_lie_r_M_isAsked rfl rfl rfl (by decide +kernel) ⟨Nat.le_of_ble_eq_true rfl, Nat.le_of_ble_eq_true rfl⟩) ⟨pre_blind, va_recv hK hP (ci := 8) (q0 := 0) rfl rfl, pre_at hP hK hD hN⟩ rfl rfl hl.1 rfl (lv_room (Nat.le_of_ble_eq_true rfl)) dX8_lie_6 ⟨Nat.le_of_ble_eq_true rfl, Nat.le_of_ble_eq_true rfl⟩) (fun r_1 er_1 => ?_)
  subst er_1
  refine lv_if_ne (tgt := 15) hx hb dX8_lie_9 (by decide) (fun h9 => absurd (by decide) h9) (fun _ => ?_)
  refine lv_bipush (v := (-2)) hx hb dX8_lie_12 (by decide) ?_
  exact e_s (v := (-2)) hx hb hr rfl rfl hlocks dX8_lie_14

def v_r_M_shown : List Cond := .code yX8_shown cX8_shown 5 (some .int) :: ([.fieldLink RX8 9 "UnseenClockModel" "world" "[I", .code yX8_in cX8_in 6 (some .boolean), .methodLink RX8 104 yX8_in, .static yX8_in, .initialized RX8, .code yX8_isPerson cX8_isPerson 2 (some .boolean), .methodLink RX8 307 yX8_isPerson, .instanceMethod yX8_isPerson, .selects RX8 yX8_isPerson yX8_isPerson, .code yX8_isAsked cX8_isAsked 5 (some .boolean), .methodLink RX8 449 yX8_isAsked, .instanceMethod yX8_isAsked, .selects RX8 yX8_isAsked yX8_isAsked] ++ (wsX80))
theorem in_r_M_shown_X8 : ∀ w ∈ u_ws RX8 TX8 41, w ∈ v_r_M_shown := fun w h => List.mem_cons_of_mem _ (List.mem_append_right _ (h))
set_option maxRecDepth 20000 in
theorem g_r_M_shown_r_M_isAsked : GoodIn v_r_M_shown (wsV RX8 449 RX8 yX8_isAsked v_r_M_isAsked) := g_rows _ [11, 12, 13, 5, 10, 1, 2, 3, 4, 5, 6, 7, 8, 9, 14, 15, 16, 17, 18, 19, 20, 21, 22, 23, 24, 25, 26, 27, 28, 29, 30, 31, 32, 33, 34, 35, 36, 37, 38, 39, 40, 41, 42, 43, 44, 45, 46, 47, 48, 49, 50, 51, 52, 53, 54] rfl (by decide +kernel)
set_option maxHeartbeats 2000000 in
set_option maxRecDepth 100000 in
theorem r_M_shown (l : Launch) (D : va_G) (E : Nat → ClassId) (sz : Nat) (h0 : Nat) (u : Nat → Nat) (a1 : Int32) (a2 : Int32) (a3 : Int32) (a4 : Int32) : Met l yX8_shown v_r_M_shown ({ frames := 3, cells := 0, slots := 0, locals := 70 }) (va_Pc [.ref h0, .int a1, .int a2, .int a3, .int a4] (pre D E (wM E h0 u) sz)) (vp_Si (fun r => r = -2)) 0 0 (fun _ => False) := by
  refine c_read (cc := cX8_shown) (maxL := 5) (ret := (some .int)) (by decide) rfl (Nat.le_of_ble_eq_true rfl) ?_
  intro p e s m below meth c ls ⟨hx, hb, hr, hts, hown, hlocks, hin, hml⟩ hP hK hD hN hl
  have hown : s.vm.findClass RX8 = some m.cls := hown
  have hl : lv_has ls 5 [(0, .ref h0), (1, .int a1), (2, .int a2), (3, .int a3), (4, .int a4)] := hl
  refine lv_aload_n hx hb dX8_shown_0 rfl (lv_at hl 0 rfl) ?_
  refine lv_iload_n hx hb dX8_shown_1 rfl (lv_at hl 1 rfl) ?_
  refine lv_iload_n hx hb dX8_shown_2 rfl (lv_at hl 2 rfl) ?_
  refine lv_iload_n hx hb dX8_shown_3 rfl (lv_at hl 3 rfl) ?_
  refine lv_iload hx hb dX8_shown_4 (lv_at hl 4 rfl) ?_
  refine vp_callSi (W.runV (As := [.int a1, .int a2, .int a3, .int a4]) (rest := []) ⟨hx, hb, hml, hown, hts⟩ (r_M_isAsked l D E s.heap.size h0 u a1 a2 a3 a4) (cwV 4 hts g_r_M_shown_r_M_isAsked rfl rfl rfl (by decide +kernel) ⟨Nat.le_of_ble_eq_true rfl, Nat.le_of_ble_eq_true rfl⟩) ⟨pre_blind, va_recv hK hP (ci := 8) (q0 := 0) rfl rfl, pre_at hP hK hD hN⟩ rfl rfl hl.1 rfl (lv_room (Nat.le_of_ble_eq_true rfl)) dX8_shown_6 ⟨Nat.le_of_ble_eq_true rfl, Nat.le_of_ble_eq_true rfl⟩) (fun r_1 er_1 => ?_)
  subst er_1
  refine lv_if_ne (tgt := 15) hx hb dX8_shown_9 (by decide) (fun h9 => absurd (by decide) h9) (fun _ => ?_)
  refine lv_bipush (v := (-2)) hx hb dX8_shown_12 (by decide) ?_
  exact e_s (v := (-2)) hx hb hr rfl rfl hlocks dX8_shown_14

def v_r_M_both : List Cond := .code yX8_both cX8_both 6 (some .int) :: ([.fieldLink RX8 9 "UnseenClockModel" "world" "[I", .code yX8_in cX8_in 6 (some .boolean), .methodLink RX8 104 yX8_in, .static yX8_in, .initialized RX8, .code yX8_isPerson cX8_isPerson 2 (some .boolean), .methodLink RX8 307 yX8_isPerson, .instanceMethod yX8_isPerson, .selects RX8 yX8_isPerson yX8_isPerson, .code yX8_areTwo cX8_areTwo 3 (some .boolean), .methodLink RX8 455 yX8_areTwo, .instanceMethod yX8_areTwo, .selects RX8 yX8_areTwo yX8_areTwo] ++ (wsX80))
theorem in_r_M_both_X8 : ∀ w ∈ u_ws RX8 TX8 41, w ∈ v_r_M_both := fun w h => List.mem_cons_of_mem _ (List.mem_append_right _ (h))
set_option maxRecDepth 20000 in
theorem g_r_M_both_r_M_areTwo : GoodIn v_r_M_both (wsV RX8 455 RX8 yX8_areTwo v_r_M_areTwo) := g_rows _ [11, 12, 13, 5, 10, 1, 2, 3, 4, 5, 6, 7, 8, 9, 14, 15, 16, 17, 18, 19, 20, 21, 22, 23, 24, 25, 26, 27, 28, 29, 30, 31, 32, 33, 34, 35, 36, 37, 38, 39, 40, 41, 42, 43, 44, 45, 46, 47, 48, 49, 50, 51, 52, 53, 54] rfl (by decide +kernel)
set_option maxHeartbeats 2000000 in
set_option maxRecDepth 100000 in
theorem r_M_both (l : Launch) (D : va_G) (E : Nat → ClassId) (sz : Nat) (h0 : Nat) (u : Nat → Nat) (a1 : Int32) (a2 : Int32) (a3 : Int32) (a4 : Int32) : Met l yX8_both v_r_M_both ({ frames := 3, cells := 0, slots := 0, locals := 68 }) (va_Pc [.ref h0, .int a1, .int a2, .int a3, .int a4] (pre D E (wM E h0 u) sz)) (vp_Si (fun r => r = -2)) 0 0 (fun _ => False) := by
  refine c_read (cc := cX8_both) (maxL := 6) (ret := (some .int)) (by decide) rfl (Nat.le_of_ble_eq_true rfl) ?_
  intro p e s m below meth c ls ⟨hx, hb, hr, hts, hown, hlocks, hin, hml⟩ hP hK hD hN hl
  have hown : s.vm.findClass RX8 = some m.cls := hown
  have hl : lv_has ls 6 [(0, .ref h0), (1, .int a1), (2, .int a2), (3, .int a3), (4, .int a4)] := hl
  refine lv_aload_n hx hb dX8_both_0 rfl (lv_at hl 0 rfl) ?_
  refine lv_iload_n hx hb dX8_both_1 rfl (lv_at hl 1 rfl) ?_
  refine lv_iload_n hx hb dX8_both_2 rfl (lv_at hl 2 rfl) ?_
  refine vp_callSi (W.runV (As := [.int a1, .int a2]) (rest := []) ⟨hx, hb, hml, hown, hts⟩ (r_M_areTwo l D E s.heap.size h0 u a1 a2) (cwV 2 hts g_r_M_both_r_M_areTwo rfl rfl rfl (by decide +kernel) ⟨Nat.le_of_ble_eq_true rfl, Nat.le_of_ble_eq_true rfl⟩) ⟨pre_blind, va_recv hK hP (ci := 8) (q0 := 0) rfl rfl, pre_at hP hK hD hN⟩ rfl rfl hl.1 rfl (lv_room (Nat.le_of_ble_eq_true rfl)) dX8_both_3 ⟨Nat.le_of_ble_eq_true rfl, Nat.le_of_ble_eq_true rfl⟩) (fun r_1 er_1 => ?_)
  subst er_1
  refine lv_if_eq (tgt := 26) hx hb dX8_both_6 (by decide) (fun _ => ?_) (fun h9 => absurd (by decide) h9)
  refine lv_bipush (v := (-2)) hx hb dX8_both_26 (by decide) ?_
  exact e_s (v := (-2)) hx hb hr rfl rfl hlocks dX8_both_28

def v_r_M_learns : List Cond := .code yX8_learns cX8_learns 6 (some .int) :: ([.fieldLink RX8 9 "UnseenClockModel" "world" "[I", .code yX8_in cX8_in 6 (some .boolean), .methodLink RX8 104 yX8_in, .static yX8_in, .initialized RX8, .code yX8_isPerson cX8_isPerson 2 (some .boolean), .methodLink RX8 307 yX8_isPerson, .instanceMethod yX8_isPerson, .selects RX8 yX8_isPerson yX8_isPerson] ++ (wsX80))
theorem in_r_M_learns_X8 : ∀ w ∈ u_ws RX8 TX8 41, w ∈ v_r_M_learns := fun w h => List.mem_cons_of_mem _ (List.mem_append_right _ (h))
set_option maxRecDepth 20000 in
theorem g_r_M_learns_r_M_isPerson : GoodIn v_r_M_learns (wsV RX8 307 RX8 yX8_isPerson v_r_M_isPerson) := g_rows _ [7, 8, 9, 5, 6, 1, 2, 3, 4, 5, 10, 11, 12, 13, 14, 15, 16, 17, 18, 19, 20, 21, 22, 23, 24, 25, 26, 27, 28, 29, 30, 31, 32, 33, 34, 35, 36, 37, 38, 39, 40, 41, 42, 43, 44, 45, 46, 47, 48, 49, 50] rfl (by decide +kernel)
set_option maxHeartbeats 2000000 in
set_option maxRecDepth 100000 in
theorem r_M_learns (l : Launch) (D : va_G) (E : Nat → ClassId) (sz : Nat) (h0 : Nat) (u : Nat → Nat) (a1 : Int32) (a2 : Int32) (a3 : Int32) : Met l yX8_learns v_r_M_learns ({ frames := 2, cells := 0, slots := 0, locals := 46 }) (va_Pc [.ref h0, .int a1, .int a2, .int a3] (pre D E (wM E h0 u) sz)) (vp_Si (fun r => r = -2)) 0 0 (fun _ => False) := by
  refine c_read (cc := cX8_learns) (maxL := 6) (ret := (some .int)) (by decide) rfl (Nat.le_of_ble_eq_true rfl) ?_
  intro p e s m below meth c ls ⟨hx, hb, hr, hts, hown, hlocks, hin, hml⟩ hP hK hD hN hl
  have hown : s.vm.findClass RX8 = some m.cls := hown
  have hl : lv_has ls 6 [(0, .ref h0), (1, .int a1), (2, .int a2), (3, .int a3)] := hl
  refine lv_aload_n hx hb dX8_learns_0 rfl (lv_at hl 0 rfl) ?_
  refine lv_iload_n hx hb dX8_learns_1 rfl (lv_at hl 1 rfl) ?_
  refine vp_callSi (W.runV (As := [.int a1]) (rest := []) ⟨hx, hb, hml, hown, hts⟩ (r_M_isPerson l D E s.heap.size h0 u a1) (cwV 1 hts g_r_M_learns_r_M_isPerson rfl rfl rfl (by decide +kernel) ⟨Nat.le_of_ble_eq_true rfl, Nat.le_of_ble_eq_true rfl⟩) ⟨pre_blind, va_recv hK hP (ci := 8) (q0 := 0) rfl rfl, pre_at hP hK hD hN⟩ rfl rfl hl.1 rfl (lv_room (Nat.le_of_ble_eq_true rfl)) dX8_learns_2 ⟨Nat.le_of_ble_eq_true rfl, Nat.le_of_ble_eq_true rfl⟩) (fun r_1 er_1 => ?_)
  subst er_1
  refine lv_if_eq (tgt := 24) hx hb dX8_learns_5 (by decide) (fun _ => ?_) (fun h9 => absurd (by decide) h9)
  refine lv_bipush (v := (-2)) hx hb dX8_learns_24 (by decide) ?_
  exact e_s (v := (-2)) hx hb hr rfl rfl hlocks dX8_learns_26

def v_r_M_sights : List Cond := .code yX8_sights cX8_sights 6 (some .int) :: ([.fieldLink RX8 9 "UnseenClockModel" "world" "[I", .code yX8_in cX8_in 6 (some .boolean), .methodLink RX8 104 yX8_in, .static yX8_in, .initialized RX8, .code yX8_isPerson cX8_isPerson 2 (some .boolean), .methodLink RX8 307 yX8_isPerson, .instanceMethod yX8_isPerson, .selects RX8 yX8_isPerson yX8_isPerson] ++ (wsX80))
theorem in_r_M_sights_X8 : ∀ w ∈ u_ws RX8 TX8 41, w ∈ v_r_M_sights := fun w h => List.mem_cons_of_mem _ (List.mem_append_right _ (h))
set_option maxRecDepth 20000 in
theorem g_r_M_sights_r_M_isPerson : GoodIn v_r_M_sights (wsV RX8 307 RX8 yX8_isPerson v_r_M_isPerson) := g_rows _ [7, 8, 9, 5, 6, 1, 2, 3, 4, 5, 10, 11, 12, 13, 14, 15, 16, 17, 18, 19, 20, 21, 22, 23, 24, 25, 26, 27, 28, 29, 30, 31, 32, 33, 34, 35, 36, 37, 38, 39, 40, 41, 42, 43, 44, 45, 46, 47, 48, 49, 50] rfl (by decide +kernel)
set_option maxHeartbeats 2000000 in
set_option maxRecDepth 100000 in
theorem r_M_sights (l : Launch) (D : va_G) (E : Nat → ClassId) (sz : Nat) (h0 : Nat) (u : Nat → Nat) (a1 : Int32) : Met l yX8_sights v_r_M_sights ({ frames := 2, cells := 0, slots := 0, locals := 46 }) (va_Pc [.ref h0, .int a1] (pre D E (wM E h0 u) sz)) (vp_Si (fun r => r = -2)) 0 0 (fun _ => False) := by
  refine c_read (cc := cX8_sights) (maxL := 6) (ret := (some .int)) (by decide) rfl (Nat.le_of_ble_eq_true rfl) ?_
  intro p e s m below meth c ls ⟨hx, hb, hr, hts, hown, hlocks, hin, hml⟩ hP hK hD hN hl
  have hown : s.vm.findClass RX8 = some m.cls := hown
  have hl : lv_has ls 6 [(0, .ref h0), (1, .int a1)] := hl
  refine lv_aload_n hx hb dX8_sights_0 rfl (lv_at hl 0 rfl) ?_
  refine lv_iload_n hx hb dX8_sights_1 rfl (lv_at hl 1 rfl) ?_
  refine vp_callSi (W.runV (As := [.int a1]) (rest := []) ⟨hx, hb, hml, hown, hts⟩ (r_M_isPerson l D E s.heap.size h0 u a1) (cwV 1 hts g_r_M_sights_r_M_isPerson rfl rfl rfl (by decide +kernel) ⟨Nat.le_of_ble_eq_true rfl, Nat.le_of_ble_eq_true rfl⟩) ⟨pre_blind, va_recv hK hP (ci := 8) (q0 := 0) rfl rfl, pre_at hP hK hD hN⟩ rfl rfl hl.1 rfl (lv_room (Nat.le_of_ble_eq_true rfl)) dX8_sights_2 ⟨Nat.le_of_ble_eq_true rfl, Nat.le_of_ble_eq_true rfl⟩) (fun r_1 er_1 => ?_)
  subst er_1
  refine lv_if_ne (tgt := 11) hx hb dX8_sights_5 (by decide) (fun h9 => absurd (by decide) h9) (fun _ => ?_)
  refine lv_bipush (v := (-2)) hx hb dX8_sights_8 (by decide) ?_
  exact e_s (v := (-2)) hx hb hr rfl rfl hlocks dX8_sights_10

def v_r_M_meets : List Cond := .code yX8_meets cX8_meets 7 (some .int) :: ([.fieldLink RX8 9 "UnseenClockModel" "world" "[I", .code yX8_in cX8_in 6 (some .boolean), .methodLink RX8 104 yX8_in, .static yX8_in, .initialized RX8, .code yX8_isPerson cX8_isPerson 2 (some .boolean), .methodLink RX8 307 yX8_isPerson, .instanceMethod yX8_isPerson, .selects RX8 yX8_isPerson yX8_isPerson, .code yX8_areTwo cX8_areTwo 3 (some .boolean), .methodLink RX8 455 yX8_areTwo, .instanceMethod yX8_areTwo, .selects RX8 yX8_areTwo yX8_areTwo] ++ (wsX80))
theorem in_r_M_meets_X8 : ∀ w ∈ u_ws RX8 TX8 41, w ∈ v_r_M_meets := fun w h => List.mem_cons_of_mem _ (List.mem_append_right _ (h))
set_option maxRecDepth 20000 in
theorem g_r_M_meets_r_M_areTwo : GoodIn v_r_M_meets (wsV RX8 455 RX8 yX8_areTwo v_r_M_areTwo) := g_rows _ [11, 12, 13, 5, 10, 1, 2, 3, 4, 5, 6, 7, 8, 9, 14, 15, 16, 17, 18, 19, 20, 21, 22, 23, 24, 25, 26, 27, 28, 29, 30, 31, 32, 33, 34, 35, 36, 37, 38, 39, 40, 41, 42, 43, 44, 45, 46, 47, 48, 49, 50, 51, 52, 53, 54] rfl (by decide +kernel)
set_option maxHeartbeats 2000000 in
set_option maxRecDepth 100000 in
theorem r_M_meets (l : Launch) (D : va_G) (E : Nat → ClassId) (sz : Nat) (h0 : Nat) (u : Nat → Nat) (a1 : Int32) (a2 : Int32) : Met l yX8_meets v_r_M_meets ({ frames := 3, cells := 0, slots := 0, locals := 68 }) (va_Pc [.ref h0, .int a1, .int a2] (pre D E (wM E h0 u) sz)) (vp_Si (fun r => r = -2)) 0 0 (fun _ => False) := by
  refine c_read (cc := cX8_meets) (maxL := 7) (ret := (some .int)) (by decide) rfl (Nat.le_of_ble_eq_true rfl) ?_
  intro p e s m below meth c ls ⟨hx, hb, hr, hts, hown, hlocks, hin, hml⟩ hP hK hD hN hl
  have hown : s.vm.findClass RX8 = some m.cls := hown
  have hl : lv_has ls 7 [(0, .ref h0), (1, .int a1), (2, .int a2)] := hl
  refine lv_aload_n hx hb dX8_meets_0 rfl (lv_at hl 0 rfl) ?_
  refine lv_iload_n hx hb dX8_meets_1 rfl (lv_at hl 1 rfl) ?_
  refine lv_iload_n hx hb dX8_meets_2 rfl (lv_at hl 2 rfl) ?_
  refine vp_callSi (W.runV (As := [.int a1, .int a2]) (rest := []) ⟨hx, hb, hml, hown, hts⟩ (r_M_areTwo l D E s.heap.size h0 u a1 a2) (cwV 2 hts g_r_M_meets_r_M_areTwo rfl rfl rfl (by decide +kernel) ⟨Nat.le_of_ble_eq_true rfl, Nat.le_of_ble_eq_true rfl⟩) ⟨pre_blind, va_recv hK hP (ci := 8) (q0 := 0) rfl rfl, pre_at hP hK hD hN⟩ rfl rfl hl.1 rfl (lv_room (Nat.le_of_ble_eq_true rfl)) dX8_meets_3 ⟨Nat.le_of_ble_eq_true rfl, Nat.le_of_ble_eq_true rfl⟩) (fun r_1 er_1 => ?_)
  subst er_1
  refine lv_if_ne (tgt := 12) hx hb dX8_meets_6 (by decide) (fun h9 => absurd (by decide) h9) (fun _ => ?_)
  refine lv_bipush (v := (-2)) hx hb dX8_meets_9 (by decide) ?_
  exact e_s (v := (-2)) hx hb hr rfl rfl hlocks dX8_meets_11

def v_r_M_spots : List Cond := .code yX8_spots cX8_spots 5 (some .int) :: ([.fieldLink RX8 9 "UnseenClockModel" "world" "[I", .code yX8_in cX8_in 6 (some .boolean), .methodLink RX8 104 yX8_in, .static yX8_in, .initialized RX8, .code yX8_isClock cX8_isClock 2 (some .boolean), .methodLink RX8 314 yX8_isClock, .instanceMethod yX8_isClock, .selects RX8 yX8_isClock yX8_isClock] ++ (wsX80))
theorem in_r_M_spots_X8 : ∀ w ∈ u_ws RX8 TX8 41, w ∈ v_r_M_spots := fun w h => List.mem_cons_of_mem _ (List.mem_append_right _ (h))
set_option maxRecDepth 20000 in
theorem g_r_M_spots_r_M_isClock : GoodIn v_r_M_spots (wsV RX8 314 RX8 yX8_isClock v_r_M_isClock) := g_rows _ [7, 8, 9, 5, 6, 1, 2, 3, 4, 5, 10, 11, 12, 13, 14, 15, 16, 17, 18, 19, 20, 21, 22, 23, 24, 25, 26, 27, 28, 29, 30, 31, 32, 33, 34, 35, 36, 37, 38, 39, 40, 41, 42, 43, 44, 45, 46, 47, 48, 49, 50] rfl (by decide +kernel)
set_option maxHeartbeats 2000000 in
set_option maxRecDepth 100000 in
theorem r_M_spots (l : Launch) (D : va_G) (E : Nat → ClassId) (sz : Nat) (h0 : Nat) (u : Nat → Nat) (a1 : Int32) : Met l yX8_spots v_r_M_spots ({ frames := 2, cells := 0, slots := 0, locals := 46 }) (va_Pc [.ref h0, .int a1] (pre D E (wM E h0 u) sz)) (vp_Si (fun r => r = -2)) 0 0 (fun _ => False) := by
  refine c_read (cc := cX8_spots) (maxL := 5) (ret := (some .int)) (by decide) rfl (Nat.le_of_ble_eq_true rfl) ?_
  intro p e s m below meth c ls ⟨hx, hb, hr, hts, hown, hlocks, hin, hml⟩ hP hK hD hN hl
  have hown : s.vm.findClass RX8 = some m.cls := hown
  have hl : lv_has ls 5 [(0, .ref h0), (1, .int a1)] := hl
  refine lv_aload_n hx hb dX8_spots_0 rfl (lv_at hl 0 rfl) ?_
  refine lv_iload_n hx hb dX8_spots_1 rfl (lv_at hl 1 rfl) ?_
  refine vp_callSi (W.runV (As := [.int a1]) (rest := []) ⟨hx, hb, hml, hown, hts⟩ (r_M_isClock l D E s.heap.size h0 u a1) (cwV 1 hts g_r_M_spots_r_M_isClock rfl rfl rfl (by decide +kernel) ⟨Nat.le_of_ble_eq_true rfl, Nat.le_of_ble_eq_true rfl⟩) ⟨pre_blind, va_recv hK hP (ci := 8) (q0 := 0) rfl rfl, pre_at hP hK hD hN⟩ rfl rfl hl.1 rfl (lv_room (Nat.le_of_ble_eq_true rfl)) dX8_spots_2 ⟨Nat.le_of_ble_eq_true rfl, Nat.le_of_ble_eq_true rfl⟩) (fun r_1 er_1 => ?_)
  subst er_1
  refine lv_if_ne (tgt := 11) hx hb dX8_spots_5 (by decide) (fun h9 => absurd (by decide) h9) (fun _ => ?_)
  refine lv_bipush (v := (-2)) hx hb dX8_spots_8 (by decide) ?_
  exact e_s (v := (-2)) hx hb hr rfl rfl hlocks dX8_spots_10

def v_r_M_when : List Cond := .code yX8_when cX8_when 4 (some .int) :: ([.fieldLink RX8 9 "UnseenClockModel" "world" "[I", .code yX8_in cX8_in 6 (some .boolean), .methodLink RX8 104 yX8_in, .static yX8_in, .initialized RX8, .code yX8_isClock cX8_isClock 2 (some .boolean), .methodLink RX8 314 yX8_isClock, .instanceMethod yX8_isClock, .selects RX8 yX8_isClock yX8_isClock] ++ (wsX80))
theorem in_r_M_when_X8 : ∀ w ∈ u_ws RX8 TX8 41, w ∈ v_r_M_when := fun w h => List.mem_cons_of_mem _ (List.mem_append_right _ (h))
set_option maxRecDepth 20000 in
theorem g_r_M_when_r_M_isClock : GoodIn v_r_M_when (wsV RX8 314 RX8 yX8_isClock v_r_M_isClock) := g_rows _ [7, 8, 9, 5, 6, 1, 2, 3, 4, 5, 10, 11, 12, 13, 14, 15, 16, 17, 18, 19, 20, 21, 22, 23, 24, 25, 26, 27, 28, 29, 30, 31, 32, 33, 34, 35, 36, 37, 38, 39, 40, 41, 42, 43, 44, 45, 46, 47, 48, 49, 50] rfl (by decide +kernel)
set_option maxHeartbeats 2000000 in
set_option maxRecDepth 100000 in
theorem r_M_when (l : Launch) (D : va_G) (E : Nat → ClassId) (sz : Nat) (h0 : Nat) (u : Nat → Nat) (a1 : Int32) (a2 : Int32) : Met l yX8_when v_r_M_when ({ frames := 2, cells := 0, slots := 0, locals := 46 }) (va_Pc [.ref h0, .int a1, .int a2] (pre D E (wM E h0 u) sz)) (vp_Si (fun r => r = -2)) 0 0 (fun _ => False) := by
  refine c_read (cc := cX8_when) (maxL := 4) (ret := (some .int)) (by decide) rfl (Nat.le_of_ble_eq_true rfl) ?_
  intro p e s m below meth c ls ⟨hx, hb, hr, hts, hown, hlocks, hin, hml⟩ hP hK hD hN hl
  have hown : s.vm.findClass RX8 = some m.cls := hown
  have hl : lv_has ls 4 [(0, .ref h0), (1, .int a1), (2, .int a2)] := hl
  refine lv_aload_n hx hb dX8_when_0 rfl (lv_at hl 0 rfl) ?_
  refine lv_iload_n hx hb dX8_when_1 rfl (lv_at hl 1 rfl) ?_
  refine vp_callSi (W.runV (As := [.int a1]) (rest := []) ⟨hx, hb, hml, hown, hts⟩ (r_M_isClock l D E s.heap.size h0 u a1) (cwV 1 hts g_r_M_when_r_M_isClock rfl rfl rfl (by decide +kernel) ⟨Nat.le_of_ble_eq_true rfl, Nat.le_of_ble_eq_true rfl⟩) ⟨pre_blind, va_recv hK hP (ci := 8) (q0 := 0) rfl rfl, pre_at hP hK hD hN⟩ rfl rfl hl.1 rfl (lv_room (Nat.le_of_ble_eq_true rfl)) dX8_when_2 ⟨Nat.le_of_ble_eq_true rfl, Nat.le_of_ble_eq_true rfl⟩) (fun r_1 er_1 => ?_)
  subst er_1
  refine lv_if_eq (tgt := 15) hx hb dX8_when_5 (by decide) (fun _ => ?_) (fun h9 => absurd (by decide) h9)
  refine lv_bipush (v := (-2)) hx hb dX8_when_15 (by decide) ?_
  exact e_s (v := (-2)) hx hb hr rfl rfl hlocks dX8_when_17

def v_r_M_hours : List Cond := .code yX8_hours cX8_hours 6 (some .int) :: ([.fieldLink RX8 9 "UnseenClockModel" "world" "[I", .code yX8_in cX8_in 6 (some .boolean), .methodLink RX8 104 yX8_in, .static yX8_in, .initialized RX8, .code yX8_isClock cX8_isClock 2 (some .boolean), .methodLink RX8 314 yX8_isClock, .instanceMethod yX8_isClock, .selects RX8 yX8_isClock yX8_isClock] ++ (wsX80))
theorem in_r_M_hours_X8 : ∀ w ∈ u_ws RX8 TX8 41, w ∈ v_r_M_hours := fun w h => List.mem_cons_of_mem _ (List.mem_append_right _ (h))
set_option maxRecDepth 20000 in
theorem g_r_M_hours_r_M_isClock : GoodIn v_r_M_hours (wsV RX8 314 RX8 yX8_isClock v_r_M_isClock) := g_rows _ [7, 8, 9, 5, 6, 1, 2, 3, 4, 5, 10, 11, 12, 13, 14, 15, 16, 17, 18, 19, 20, 21, 22, 23, 24, 25, 26, 27, 28, 29, 30, 31, 32, 33, 34, 35, 36, 37, 38, 39, 40, 41, 42, 43, 44, 45, 46, 47, 48, 49, 50] rfl (by decide +kernel)
set_option maxHeartbeats 2000000 in
set_option maxRecDepth 100000 in
theorem r_M_hours (l : Launch) (D : va_G) (E : Nat → ClassId) (sz : Nat) (h0 : Nat) (u : Nat → Nat) (a1 : Int32) : Met l yX8_hours v_r_M_hours ({ frames := 2, cells := 0, slots := 0, locals := 46 }) (va_Pc [.ref h0, .int a1] (pre D E (wM E h0 u) sz)) (vp_Si (fun r => r = -2)) 0 0 (fun _ => False) := by
  refine c_read (cc := cX8_hours) (maxL := 6) (ret := (some .int)) (by decide) rfl (Nat.le_of_ble_eq_true rfl) ?_
  intro p e s m below meth c ls ⟨hx, hb, hr, hts, hown, hlocks, hin, hml⟩ hP hK hD hN hl
  have hown : s.vm.findClass RX8 = some m.cls := hown
  have hl : lv_has ls 6 [(0, .ref h0), (1, .int a1)] := hl
  refine lv_aload_n hx hb dX8_hours_0 rfl (lv_at hl 0 rfl) ?_
  refine lv_iload_n hx hb dX8_hours_1 rfl (lv_at hl 1 rfl) ?_
  refine vp_callSi (W.runV (As := [.int a1]) (rest := []) ⟨hx, hb, hml, hown, hts⟩ (r_M_isClock l D E s.heap.size h0 u a1) (cwV 1 hts g_r_M_hours_r_M_isClock rfl rfl rfl (by decide +kernel) ⟨Nat.le_of_ble_eq_true rfl, Nat.le_of_ble_eq_true rfl⟩) ⟨pre_blind, va_recv hK hP (ci := 8) (q0 := 0) rfl rfl, pre_at hP hK hD hN⟩ rfl rfl hl.1 rfl (lv_room (Nat.le_of_ble_eq_true rfl)) dX8_hours_2 ⟨Nat.le_of_ble_eq_true rfl, Nat.le_of_ble_eq_true rfl⟩) (fun r_1 er_1 => ?_)
  subst er_1
  refine lv_if_ne (tgt := 11) hx hb dX8_hours_5 (by decide) (fun h9 => absurd (by decide) h9) (fun _ => ?_)
  refine lv_bipush (v := (-2)) hx hb dX8_hours_8 (by decide) ?_
  exact e_s (v := (-2)) hx hb hr rfl rfl hlocks dX8_hours_10

def v_r_M_without : List Cond := .code yX8_without cX8_without 5 (some .int) :: ([.fieldLink RX8 9 "UnseenClockModel" "world" "[I", .code yX8_in cX8_in 6 (some .boolean), .methodLink RX8 104 yX8_in, .static yX8_in, .initialized RX8, .code yX8_isPerson cX8_isPerson 2 (some .boolean), .methodLink RX8 307 yX8_isPerson, .instanceMethod yX8_isPerson, .selects RX8 yX8_isPerson yX8_isPerson] ++ (wsX80))
theorem in_r_M_without_X8 : ∀ w ∈ u_ws RX8 TX8 41, w ∈ v_r_M_without := fun w h => List.mem_cons_of_mem _ (List.mem_append_right _ (h))
set_option maxRecDepth 20000 in
theorem g_r_M_without_r_M_isPerson : GoodIn v_r_M_without (wsV RX8 307 RX8 yX8_isPerson v_r_M_isPerson) := g_rows _ [7, 8, 9, 5, 6, 1, 2, 3, 4, 5, 10, 11, 12, 13, 14, 15, 16, 17, 18, 19, 20, 21, 22, 23, 24, 25, 26, 27, 28, 29, 30, 31, 32, 33, 34, 35, 36, 37, 38, 39, 40, 41, 42, 43, 44, 45, 46, 47, 48, 49, 50] rfl (by decide +kernel)
set_option maxHeartbeats 2000000 in
set_option maxRecDepth 100000 in
theorem r_M_without (l : Launch) (D : va_G) (E : Nat → ClassId) (sz : Nat) (h0 : Nat) (u : Nat → Nat) (a1 : Int32) (a2 : Int32) (a3 : Int32) : Met l yX8_without v_r_M_without ({ frames := 2, cells := 0, slots := 0, locals := 46 }) (va_Pc [.ref h0, .int a1, .int a2, .int a3] (pre D E (wM E h0 u) sz)) (vp_Si (fun r => r = -2)) 0 0 (fun _ => False) := by
  refine c_read (cc := cX8_without) (maxL := 5) (ret := (some .int)) (by decide) rfl (Nat.le_of_ble_eq_true rfl) ?_
  intro p e s m below meth c ls ⟨hx, hb, hr, hts, hown, hlocks, hin, hml⟩ hP hK hD hN hl
  have hown : s.vm.findClass RX8 = some m.cls := hown
  have hl : lv_has ls 5 [(0, .ref h0), (1, .int a1), (2, .int a2), (3, .int a3)] := hl
  refine lv_aload_n hx hb dX8_without_0 rfl (lv_at hl 0 rfl) ?_
  refine lv_iload_n hx hb dX8_without_1 rfl (lv_at hl 1 rfl) ?_
  refine vp_callSi (W.runV (As := [.int a1]) (rest := []) ⟨hx, hb, hml, hown, hts⟩ (r_M_isPerson l D E s.heap.size h0 u a1) (cwV 1 hts g_r_M_without_r_M_isPerson rfl rfl rfl (by decide +kernel) ⟨Nat.le_of_ble_eq_true rfl, Nat.le_of_ble_eq_true rfl⟩) ⟨pre_blind, va_recv hK hP (ci := 8) (q0 := 0) rfl rfl, pre_at hP hK hD hN⟩ rfl rfl hl.1 rfl (lv_room (Nat.le_of_ble_eq_true rfl)) dX8_without_2 ⟨Nat.le_of_ble_eq_true rfl, Nat.le_of_ble_eq_true rfl⟩) (fun r_1 er_1 => ?_)
  subst er_1
  refine lv_if_eq (tgt := 24) hx hb dX8_without_5 (by decide) (fun _ => ?_) (fun h9 => absurd (by decide) h9)
  refine lv_bipush (v := (-2)) hx hb dX8_without_24 (by decide) ?_
  exact e_s (v := (-2)) hx hb hr rfl rfl hlocks dX8_without_26

def v_r_M_hush : List Cond := .code yX8_hush cX8_hush 8 (some .int) :: ([.fieldLink RX8 9 "UnseenClockModel" "world" "[I", .code yX8_isSquare cX8_isSquare 1 (some .boolean), .methodLink RX8 108 yX8_isSquare, .instanceMethod yX8_isSquare, .selects RX8 yX8_isSquare yX8_isSquare, .initialized RX8, .code yX8_isTime cX8_isTime 2 (some .boolean), .methodLink RX8 390 yX8_isTime, .instanceMethod yX8_isTime, .selects RX8 yX8_isTime yX8_isTime] ++ (wsX80))
theorem in_r_M_hush_X8 : ∀ w ∈ u_ws RX8 TX8 41, w ∈ v_r_M_hush := fun w h => List.mem_cons_of_mem _ (List.mem_append_right _ (h))
set_option maxRecDepth 20000 in
theorem g_r_M_hush_r_M_isTime : GoodIn v_r_M_hush (wsV RX8 390 RX8 yX8_isTime v_r_M_isTime) := g_rows _ [8, 9, 10, 6, 7, 1, 2, 3, 4, 5, 6, 11, 12, 13, 14, 15, 16, 17, 18, 19, 20, 21, 22, 23, 24, 25, 26, 27, 28, 29, 30, 31, 32, 33, 34, 35, 36, 37, 38, 39, 40, 41, 42, 43, 44, 45, 46, 47, 48, 49, 50, 51] rfl (by decide +kernel)
set_option maxHeartbeats 2000000 in
set_option maxRecDepth 100000 in
theorem r_M_hush (l : Launch) (D : va_G) (E : Nat → ClassId) (sz : Nat) (h0 : Nat) (u : Nat → Nat) (a1 : Int32) (a2 : Int32) (a3 : Int32) (a4 : Int32) : Met l yX8_hush v_r_M_hush ({ frames := 2, cells := 0, slots := 0, locals := 41 }) (va_Pc [.ref h0, .int a1, .int a2, .int a3, .int a4] (pre D E (wM E h0 u) sz)) (vp_Si (fun r => r = -2)) 0 0 (fun _ => False) := by
  refine c_read (cc := cX8_hush) (maxL := 8) (ret := (some .int)) (by decide) rfl (Nat.le_of_ble_eq_true rfl) ?_
  intro p e s m below meth c ls ⟨hx, hb, hr, hts, hown, hlocks, hin, hml⟩ hP hK hD hN hl
  have hown : s.vm.findClass RX8 = some m.cls := hown
  have hl : lv_has ls 8 [(0, .ref h0), (1, .int a1), (2, .int a2), (3, .int a3), (4, .int a4)] := hl
  refine lv_aload_n hx hb dX8_hush_0 rfl (lv_at hl 0 rfl) ?_
  refine lv_iload_n hx hb dX8_hush_1 rfl (lv_at hl 3 rfl) ?_
  refine vp_callSi (W.runV (As := [.int a3]) (rest := []) ⟨hx, hb, hml, hown, hts⟩ (r_M_isTime l D E s.heap.size h0 u a3) (cwV 1 hts g_r_M_hush_r_M_isTime rfl rfl rfl (by decide +kernel) ⟨Nat.le_of_ble_eq_true rfl, Nat.le_of_ble_eq_true rfl⟩) ⟨pre_blind, va_recv hK hP (ci := 8) (q0 := 0) rfl rfl, pre_at hP hK hD hN⟩ rfl rfl hl.1 rfl (lv_room (Nat.le_of_ble_eq_true rfl)) dX8_hush_2 ⟨Nat.le_of_ble_eq_true rfl, Nat.le_of_ble_eq_true rfl⟩) (fun r_1 er_1 => ?_)
  subst er_1
  refine lv_if_eq (tgt := 38) hx hb dX8_hush_5 (by decide) (fun _ => ?_) (fun h9 => absurd (by decide) h9)
  refine lv_bipush (v := (-2)) hx hb dX8_hush_38 (by decide) ?_
  exact e_s (v := (-2)) hx hb hr rfl rfl hlocks dX8_hush_40

def v_r_M_call : List Cond := .code yX8_call cX8_call 4 (some .int) :: ([.fieldLink RX8 9 "UnseenClockModel" "world" "[I", .code yX8_in cX8_in 6 (some .boolean), .methodLink RX8 104 yX8_in, .static yX8_in, .initialized RX8, .code yX8_isPerson cX8_isPerson 2 (some .boolean), .methodLink RX8 307 yX8_isPerson, .instanceMethod yX8_isPerson, .selects RX8 yX8_isPerson yX8_isPerson] ++ (wsX80))
theorem in_r_M_call_X8 : ∀ w ∈ u_ws RX8 TX8 41, w ∈ v_r_M_call := fun w h => List.mem_cons_of_mem _ (List.mem_append_right _ (h))
set_option maxRecDepth 20000 in
theorem g_r_M_call_r_M_isPerson : GoodIn v_r_M_call (wsV RX8 307 RX8 yX8_isPerson v_r_M_isPerson) := g_rows _ [7, 8, 9, 5, 6, 1, 2, 3, 4, 5, 10, 11, 12, 13, 14, 15, 16, 17, 18, 19, 20, 21, 22, 23, 24, 25, 26, 27, 28, 29, 30, 31, 32, 33, 34, 35, 36, 37, 38, 39, 40, 41, 42, 43, 44, 45, 46, 47, 48, 49, 50] rfl (by decide +kernel)
set_option maxHeartbeats 2000000 in
set_option maxRecDepth 100000 in
theorem r_M_call (l : Launch) (D : va_G) (E : Nat → ClassId) (sz : Nat) (h0 : Nat) (u : Nat → Nat) (a1 : Int32) (a2 : Int32) : Met l yX8_call v_r_M_call ({ frames := 2, cells := 0, slots := 0, locals := 46 }) (va_Pc [.ref h0, .int a1, .int a2] (pre D E (wM E h0 u) sz)) (vp_Si (fun r => r = -2)) 0 0 (fun _ => False) := by
  refine c_read (cc := cX8_call) (maxL := 4) (ret := (some .int)) (by decide) rfl (Nat.le_of_ble_eq_true rfl) ?_
  intro p e s m below meth c ls ⟨hx, hb, hr, hts, hown, hlocks, hin, hml⟩ hP hK hD hN hl
  have hown : s.vm.findClass RX8 = some m.cls := hown
  have hl : lv_has ls 4 [(0, .ref h0), (1, .int a1), (2, .int a2)] := hl
  refine lv_aload_n hx hb dX8_call_0 rfl (lv_at hl 0 rfl) ?_
  refine lv_iload_n hx hb dX8_call_1 rfl (lv_at hl 1 rfl) ?_
  refine vp_callSi (W.runV (As := [.int a1]) (rest := []) ⟨hx, hb, hml, hown, hts⟩ (r_M_isPerson l D E s.heap.size h0 u a1) (cwV 1 hts g_r_M_call_r_M_isPerson rfl rfl rfl (by decide +kernel) ⟨Nat.le_of_ble_eq_true rfl, Nat.le_of_ble_eq_true rfl⟩) ⟨pre_blind, va_recv hK hP (ci := 8) (q0 := 0) rfl rfl, pre_at hP hK hD hN⟩ rfl rfl hl.1 rfl (lv_room (Nat.le_of_ble_eq_true rfl)) dX8_call_2 ⟨Nat.le_of_ble_eq_true rfl, Nat.le_of_ble_eq_true rfl⟩) (fun r_1 er_1 => ?_)
  subst er_1
  refine lv_if_ne (tgt := 11) hx hb dX8_call_5 (by decide) (fun h9 => absurd (by decide) h9) (fun _ => ?_)
  refine lv_bipush (v := (-2)) hx hb dX8_call_8 (by decide) ?_
  exact e_s (v := (-2)) hx hb hr rfl rfl hlocks dX8_call_10

def v_r_M_away : List Cond := .code yX8_away cX8_away 6 (some .int) :: ([.fieldLink RX8 9 "UnseenClockModel" "world" "[I", .code yX8_in cX8_in 6 (some .boolean), .methodLink RX8 104 yX8_in, .static yX8_in, .initialized RX8, .code yX8_isClock cX8_isClock 2 (some .boolean), .methodLink RX8 314 yX8_isClock, .instanceMethod yX8_isClock, .selects RX8 yX8_isClock yX8_isClock] ++ (wsX80))
theorem in_r_M_away_X8 : ∀ w ∈ u_ws RX8 TX8 41, w ∈ v_r_M_away := fun w h => List.mem_cons_of_mem _ (List.mem_append_right _ (h))
set_option maxRecDepth 20000 in
theorem g_r_M_away_r_M_isClock : GoodIn v_r_M_away (wsV RX8 314 RX8 yX8_isClock v_r_M_isClock) := g_rows _ [7, 8, 9, 5, 6, 1, 2, 3, 4, 5, 10, 11, 12, 13, 14, 15, 16, 17, 18, 19, 20, 21, 22, 23, 24, 25, 26, 27, 28, 29, 30, 31, 32, 33, 34, 35, 36, 37, 38, 39, 40, 41, 42, 43, 44, 45, 46, 47, 48, 49, 50] rfl (by decide +kernel)
set_option maxHeartbeats 2000000 in
set_option maxRecDepth 100000 in
theorem r_M_away (l : Launch) (D : va_G) (E : Nat → ClassId) (sz : Nat) (h0 : Nat) (u : Nat → Nat) (a1 : Int32) (a2 : Int32) (a3 : Int32) (a4 : Int32) : Met l yX8_away v_r_M_away ({ frames := 2, cells := 0, slots := 0, locals := 46 }) (va_Pc [.ref h0, .int a1, .int a2, .int a3, .int a4] (pre D E (wM E h0 u) sz)) (vp_Si (fun r => r = -2)) 0 0 (fun _ => False) := by
  refine c_read (cc := cX8_away) (maxL := 6) (ret := (some .int)) (by decide) rfl (Nat.le_of_ble_eq_true rfl) ?_
  intro p e s m below meth c ls ⟨hx, hb, hr, hts, hown, hlocks, hin, hml⟩ hP hK hD hN hl
  have hown : s.vm.findClass RX8 = some m.cls := hown
  have hl : lv_has ls 6 [(0, .ref h0), (1, .int a1), (2, .int a2), (3, .int a3), (4, .int a4)] := hl
  refine lv_aload_n hx hb dX8_away_0 rfl (lv_at hl 0 rfl) ?_
  refine lv_iload_n hx hb dX8_away_1 rfl (lv_at hl 1 rfl) ?_
  refine vp_callSi (W.runV (As := [.int a1]) (rest := []) ⟨hx, hb, hml, hown, hts⟩ (r_M_isClock l D E s.heap.size h0 u a1) (cwV 1 hts g_r_M_away_r_M_isClock rfl rfl rfl (by decide +kernel) ⟨Nat.le_of_ble_eq_true rfl, Nat.le_of_ble_eq_true rfl⟩) ⟨pre_blind, va_recv hK hP (ci := 8) (q0 := 0) rfl rfl, pre_at hP hK hD hN⟩ rfl rfl hl.1 rfl (lv_room (Nat.le_of_ble_eq_true rfl)) dX8_away_2 ⟨Nat.le_of_ble_eq_true rfl, Nat.le_of_ble_eq_true rfl⟩) (fun r_1 er_1 => ?_)
  subst er_1
  refine lv_if_eq (tgt := 34) hx hb dX8_away_5 (by decide) (fun _ => ?_) (fun h9 => absurd (by decide) h9)
  refine lv_bipush (v := (-2)) hx hb dX8_away_34 (by decide) ?_
  exact e_s (v := (-2)) hx hb hr rfl rfl hlocks dX8_away_36

def v_r_M_kept : List Cond := .code yX8_kept cX8_kept 4 (some .int) :: ([.fieldLink RX8 9 "UnseenClockModel" "world" "[I", .code yX8_in cX8_in 6 (some .boolean), .methodLink RX8 104 yX8_in, .static yX8_in, .initialized RX8, .code yX8_isClock cX8_isClock 2 (some .boolean), .methodLink RX8 314 yX8_isClock, .instanceMethod yX8_isClock, .selects RX8 yX8_isClock yX8_isClock] ++ (wsX80))
theorem in_r_M_kept_X8 : ∀ w ∈ u_ws RX8 TX8 41, w ∈ v_r_M_kept := fun w h => List.mem_cons_of_mem _ (List.mem_append_right _ (h))
set_option maxRecDepth 20000 in
theorem g_r_M_kept_r_M_isClock : GoodIn v_r_M_kept (wsV RX8 314 RX8 yX8_isClock v_r_M_isClock) := g_rows _ [7, 8, 9, 5, 6, 1, 2, 3, 4, 5, 10, 11, 12, 13, 14, 15, 16, 17, 18, 19, 20, 21, 22, 23, 24, 25, 26, 27, 28, 29, 30, 31, 32, 33, 34, 35, 36, 37, 38, 39, 40, 41, 42, 43, 44, 45, 46, 47, 48, 49, 50] rfl (by decide +kernel)
set_option maxHeartbeats 2000000 in
set_option maxRecDepth 100000 in
theorem r_M_kept (l : Launch) (D : va_G) (E : Nat → ClassId) (sz : Nat) (h0 : Nat) (u : Nat → Nat) (a1 : Int32) (a2 : Int32) (a3 : Int32) : Met l yX8_kept v_r_M_kept ({ frames := 2, cells := 0, slots := 0, locals := 46 }) (va_Pc [.ref h0, .int a1, .int a2, .int a3] (pre D E (wM E h0 u) sz)) (vp_Si (fun r => r = -2)) 0 0 (fun _ => False) := by
  refine c_read (cc := cX8_kept) (maxL := 4) (ret := (some .int)) (by decide) rfl (Nat.le_of_ble_eq_true rfl) ?_
  intro p e s m below meth c ls ⟨hx, hb, hr, hts, hown, hlocks, hin, hml⟩ hP hK hD hN hl
  have hown : s.vm.findClass RX8 = some m.cls := hown
  have hl : lv_has ls 4 [(0, .ref h0), (1, .int a1), (2, .int a2), (3, .int a3)] := hl
  refine lv_aload_n hx hb dX8_kept_0 rfl (lv_at hl 0 rfl) ?_
  refine lv_iload_n hx hb dX8_kept_1 rfl (lv_at hl 1 rfl) ?_
  refine vp_callSi (W.runV (As := [.int a1]) (rest := []) ⟨hx, hb, hml, hown, hts⟩ (r_M_isClock l D E s.heap.size h0 u a1) (cwV 1 hts g_r_M_kept_r_M_isClock rfl rfl rfl (by decide +kernel) ⟨Nat.le_of_ble_eq_true rfl, Nat.le_of_ble_eq_true rfl⟩) ⟨pre_blind, va_recv hK hP (ci := 8) (q0 := 0) rfl rfl, pre_at hP hK hD hN⟩ rfl rfl hl.1 rfl (lv_room (Nat.le_of_ble_eq_true rfl)) dX8_kept_2 ⟨Nat.le_of_ble_eq_true rfl, Nat.le_of_ble_eq_true rfl⟩) (fun r_1 er_1 => ?_)
  subst er_1
  refine lv_if_eq (tgt := 38) hx hb dX8_kept_5 (by decide) (fun _ => ?_) (fun h9 => absurd (by decide) h9)
  refine lv_bipush (v := (-2)) hx hb dX8_kept_38 (by decide) ?_
  exact e_s (v := (-2)) hx hb hr rfl rfl hlocks dX8_kept_40

def v_r_M_keep : List Cond := .code yX8_keep cX8_keep 4 (some .int) :: ([.fieldLink RX8 9 "UnseenClockModel" "world" "[I", .code yX8_in cX8_in 6 (some .boolean), .methodLink RX8 104 yX8_in, .static yX8_in, .initialized RX8, .code yX8_isClock cX8_isClock 2 (some .boolean), .methodLink RX8 314 yX8_isClock, .instanceMethod yX8_isClock, .selects RX8 yX8_isClock yX8_isClock] ++ (wsX80))
theorem in_r_M_keep_X8 : ∀ w ∈ u_ws RX8 TX8 41, w ∈ v_r_M_keep := fun w h => List.mem_cons_of_mem _ (List.mem_append_right _ (h))
set_option maxRecDepth 20000 in
theorem g_r_M_keep_r_M_isClock : GoodIn v_r_M_keep (wsV RX8 314 RX8 yX8_isClock v_r_M_isClock) := g_rows _ [7, 8, 9, 5, 6, 1, 2, 3, 4, 5, 10, 11, 12, 13, 14, 15, 16, 17, 18, 19, 20, 21, 22, 23, 24, 25, 26, 27, 28, 29, 30, 31, 32, 33, 34, 35, 36, 37, 38, 39, 40, 41, 42, 43, 44, 45, 46, 47, 48, 49, 50] rfl (by decide +kernel)
set_option maxHeartbeats 2000000 in
set_option maxRecDepth 100000 in
theorem r_M_keep (l : Launch) (D : va_G) (E : Nat → ClassId) (sz : Nat) (h0 : Nat) (u : Nat → Nat) (a1 : Int32) (a2 : Int32) (a3 : Int32) : Met l yX8_keep v_r_M_keep ({ frames := 2, cells := 0, slots := 0, locals := 46 }) (va_Pc [.ref h0, .int a1, .int a2, .int a3] (pre D E (wM E h0 u) sz)) (vp_Si (fun r => r = -2)) 0 0 (fun _ => False) := by
  refine c_read (cc := cX8_keep) (maxL := 4) (ret := (some .int)) (by decide) rfl (Nat.le_of_ble_eq_true rfl) ?_
  intro p e s m below meth c ls ⟨hx, hb, hr, hts, hown, hlocks, hin, hml⟩ hP hK hD hN hl
  have hown : s.vm.findClass RX8 = some m.cls := hown
  have hl : lv_has ls 4 [(0, .ref h0), (1, .int a1), (2, .int a2), (3, .int a3)] := hl
  refine lv_aload_n hx hb dX8_keep_0 rfl (lv_at hl 0 rfl) ?_
  refine lv_iload_n hx hb dX8_keep_1 rfl (lv_at hl 1 rfl) ?_
  refine vp_callSi (W.runV (As := [.int a1]) (rest := []) ⟨hx, hb, hml, hown, hts⟩ (r_M_isClock l D E s.heap.size h0 u a1) (cwV 1 hts g_r_M_keep_r_M_isClock rfl rfl rfl (by decide +kernel) ⟨Nat.le_of_ble_eq_true rfl, Nat.le_of_ble_eq_true rfl⟩) ⟨pre_blind, va_recv hK hP (ci := 8) (q0 := 0) rfl rfl, pre_at hP hK hD hN⟩ rfl rfl hl.1 rfl (lv_room (Nat.le_of_ble_eq_true rfl)) dX8_keep_2 ⟨Nat.le_of_ble_eq_true rfl, Nat.le_of_ble_eq_true rfl⟩) (fun r_1 er_1 => ?_)
  subst er_1
  refine lv_if_eq (tgt := 33) hx hb dX8_keep_5 (by decide) (fun _ => ?_) (fun h9 => absurd (by decide) h9)
  refine lv_bipush (v := (-2)) hx hb dX8_keep_33 (by decide) ?_
  exact e_s (v := (-2)) hx hb hr rfl rfl hlocks dX8_keep_35

def v_r_M_shifts : List Cond := .code yX8_shifts cX8_shifts 6 (some .int) :: ([.fieldLink RX8 9 "UnseenClockModel" "world" "[I", .code yX8_in cX8_in 6 (some .boolean), .methodLink RX8 104 yX8_in, .static yX8_in, .initialized RX8, .code yX8_isClock cX8_isClock 2 (some .boolean), .methodLink RX8 314 yX8_isClock, .instanceMethod yX8_isClock, .selects RX8 yX8_isClock yX8_isClock] ++ (wsX80))
theorem in_r_M_shifts_X8 : ∀ w ∈ u_ws RX8 TX8 41, w ∈ v_r_M_shifts := fun w h => List.mem_cons_of_mem _ (List.mem_append_right _ (h))
set_option maxRecDepth 20000 in
theorem g_r_M_shifts_r_M_isClock : GoodIn v_r_M_shifts (wsV RX8 314 RX8 yX8_isClock v_r_M_isClock) := g_rows _ [7, 8, 9, 5, 6, 1, 2, 3, 4, 5, 10, 11, 12, 13, 14, 15, 16, 17, 18, 19, 20, 21, 22, 23, 24, 25, 26, 27, 28, 29, 30, 31, 32, 33, 34, 35, 36, 37, 38, 39, 40, 41, 42, 43, 44, 45, 46, 47, 48, 49, 50] rfl (by decide +kernel)
set_option maxHeartbeats 2000000 in
set_option maxRecDepth 100000 in
theorem r_M_shifts (l : Launch) (D : va_G) (E : Nat → ClassId) (sz : Nat) (h0 : Nat) (u : Nat → Nat) (a1 : Int32) (a2 : Int32) (a3 : Int32) (a4 : Int32) : Met l yX8_shifts v_r_M_shifts ({ frames := 2, cells := 0, slots := 0, locals := 46 }) (va_Pc [.ref h0, .int a1, .int a2, .int a3, .int a4] (pre D E (wM E h0 u) sz)) (vp_Si (fun r => r = -2)) 0 0 (fun _ => False) := by
  refine c_read (cc := cX8_shifts) (maxL := 6) (ret := (some .int)) (by decide) rfl (Nat.le_of_ble_eq_true rfl) ?_
  intro p e s m below meth c ls ⟨hx, hb, hr, hts, hown, hlocks, hin, hml⟩ hP hK hD hN hl
  have hown : s.vm.findClass RX8 = some m.cls := hown
  have hl : lv_has ls 6 [(0, .ref h0), (1, .int a1), (2, .int a2), (3, .int a3), (4, .int a4)] := hl
  refine lv_aload_n hx hb dX8_shifts_0 rfl (lv_at hl 0 rfl) ?_
  refine lv_iload_n hx hb dX8_shifts_1 rfl (lv_at hl 1 rfl) ?_
  refine vp_callSi (W.runV (As := [.int a1]) (rest := []) ⟨hx, hb, hml, hown, hts⟩ (r_M_isClock l D E s.heap.size h0 u a1) (cwV 1 hts g_r_M_shifts_r_M_isClock rfl rfl rfl (by decide +kernel) ⟨Nat.le_of_ble_eq_true rfl, Nat.le_of_ble_eq_true rfl⟩) ⟨pre_blind, va_recv hK hP (ci := 8) (q0 := 0) rfl rfl, pre_at hP hK hD hN⟩ rfl rfl hl.1 rfl (lv_room (Nat.le_of_ble_eq_true rfl)) dX8_shifts_2 ⟨Nat.le_of_ble_eq_true rfl, Nat.le_of_ble_eq_true rfl⟩) (fun r_1 er_1 => ?_)
  subst er_1
  refine lv_if_eq (tgt := 36) hx hb dX8_shifts_5 (by decide) (fun _ => ?_) (fun h9 => absurd (by decide) h9)
  refine lv_bipush (v := (-2)) hx hb dX8_shifts_36 (by decide) ?_
  exact e_s (v := (-2)) hx hb hr rfl rfl hlocks dX8_shifts_38

def v_r_M_last : List Cond := .code yX8_last cX8_last 4 (some .int) :: ([.fieldLink RX8 9 "UnseenClockModel" "world" "[I", .code yX8_in cX8_in 6 (some .boolean), .methodLink RX8 104 yX8_in, .static yX8_in, .initialized RX8, .code yX8_isClock cX8_isClock 2 (some .boolean), .methodLink RX8 314 yX8_isClock, .instanceMethod yX8_isClock, .selects RX8 yX8_isClock yX8_isClock] ++ (wsX80))
theorem in_r_M_last_X8 : ∀ w ∈ u_ws RX8 TX8 41, w ∈ v_r_M_last := fun w h => List.mem_cons_of_mem _ (List.mem_append_right _ (h))
set_option maxRecDepth 20000 in
theorem g_r_M_last_r_M_isClock : GoodIn v_r_M_last (wsV RX8 314 RX8 yX8_isClock v_r_M_isClock) := g_rows _ [7, 8, 9, 5, 6, 1, 2, 3, 4, 5, 10, 11, 12, 13, 14, 15, 16, 17, 18, 19, 20, 21, 22, 23, 24, 25, 26, 27, 28, 29, 30, 31, 32, 33, 34, 35, 36, 37, 38, 39, 40, 41, 42, 43, 44, 45, 46, 47, 48, 49, 50] rfl (by decide +kernel)
set_option maxHeartbeats 2000000 in
set_option maxRecDepth 100000 in
theorem r_M_last (l : Launch) (D : va_G) (E : Nat → ClassId) (sz : Nat) (h0 : Nat) (u : Nat → Nat) (a1 : Int32) (a2 : Int32) (a3 : Int32) : Met l yX8_last v_r_M_last ({ frames := 2, cells := 0, slots := 0, locals := 46 }) (va_Pc [.ref h0, .int a1, .int a2, .int a3] (pre D E (wM E h0 u) sz)) (vp_Si (fun r => r = -2)) 0 0 (fun _ => False) := by
  refine c_read (cc := cX8_last) (maxL := 4) (ret := (some .int)) (by decide) rfl (Nat.le_of_ble_eq_true rfl) ?_
  intro p e s m below meth c ls ⟨hx, hb, hr, hts, hown, hlocks, hin, hml⟩ hP hK hD hN hl
  have hown : s.vm.findClass RX8 = some m.cls := hown
  have hl : lv_has ls 4 [(0, .ref h0), (1, .int a1), (2, .int a2), (3, .int a3)] := hl
  refine lv_aload_n hx hb dX8_last_0 rfl (lv_at hl 0 rfl) ?_
  refine lv_iload_n hx hb dX8_last_1 rfl (lv_at hl 1 rfl) ?_
  refine vp_callSi (W.runV (As := [.int a1]) (rest := []) ⟨hx, hb, hml, hown, hts⟩ (r_M_isClock l D E s.heap.size h0 u a1) (cwV 1 hts g_r_M_last_r_M_isClock rfl rfl rfl (by decide +kernel) ⟨Nat.le_of_ble_eq_true rfl, Nat.le_of_ble_eq_true rfl⟩) ⟨pre_blind, va_recv hK hP (ci := 8) (q0 := 0) rfl rfl, pre_at hP hK hD hN⟩ rfl rfl hl.1 rfl (lv_room (Nat.le_of_ble_eq_true rfl)) dX8_last_2 ⟨Nat.le_of_ble_eq_true rfl, Nat.le_of_ble_eq_true rfl⟩) (fun r_1 er_1 => ?_)
  subst er_1
  refine lv_if_eq (tgt := 23) hx hb dX8_last_5 (by decide) (fun _ => ?_) (fun h9 => absurd (by decide) h9)
  refine lv_bipush (v := (-2)) hx hb dX8_last_23 (by decide) ?_
  exact e_s (v := (-2)) hx hb hr rfl rfl hlocks dX8_last_25

def v_r_M_all : List Cond := .code yX8_all cX8_all 6 (some .int) :: ([.fieldLink RX8 9 "UnseenClockModel" "world" "[I", .code yX8_isSquare cX8_isSquare 1 (some .boolean), .methodLink RX8 108 yX8_isSquare, .instanceMethod yX8_isSquare, .selects RX8 yX8_isSquare yX8_isSquare, .initialized RX8, .code yX8_isTime cX8_isTime 2 (some .boolean), .methodLink RX8 390 yX8_isTime, .instanceMethod yX8_isTime, .selects RX8 yX8_isTime yX8_isTime] ++ (wsX80))
theorem in_r_M_all_X8 : ∀ w ∈ u_ws RX8 TX8 41, w ∈ v_r_M_all := fun w h => List.mem_cons_of_mem _ (List.mem_append_right _ (h))
set_option maxRecDepth 20000 in
theorem g_r_M_all_r_M_isTime : GoodIn v_r_M_all (wsV RX8 390 RX8 yX8_isTime v_r_M_isTime) := g_rows _ [8, 9, 10, 6, 7, 1, 2, 3, 4, 5, 6, 11, 12, 13, 14, 15, 16, 17, 18, 19, 20, 21, 22, 23, 24, 25, 26, 27, 28, 29, 30, 31, 32, 33, 34, 35, 36, 37, 38, 39, 40, 41, 42, 43, 44, 45, 46, 47, 48, 49, 50, 51] rfl (by decide +kernel)
set_option maxHeartbeats 2000000 in
set_option maxRecDepth 100000 in
theorem r_M_all (l : Launch) (D : va_G) (E : Nat → ClassId) (sz : Nat) (h0 : Nat) (u : Nat → Nat) (a1 : Int32) (a2 : Int32) (a3 : Int32) : Met l yX8_all v_r_M_all ({ frames := 2, cells := 0, slots := 0, locals := 41 }) (va_Pc [.ref h0, .int a1, .int a2, .int a3] (pre D E (wM E h0 u) sz)) (vp_Si (fun r => r = -2)) 0 0 (fun _ => False) := by
  refine c_read (cc := cX8_all) (maxL := 6) (ret := (some .int)) (by decide) rfl (Nat.le_of_ble_eq_true rfl) ?_
  intro p e s m below meth c ls ⟨hx, hb, hr, hts, hown, hlocks, hin, hml⟩ hP hK hD hN hl
  have hown : s.vm.findClass RX8 = some m.cls := hown
  have hl : lv_has ls 6 [(0, .ref h0), (1, .int a1), (2, .int a2), (3, .int a3)] := hl
  refine lv_aload_n hx hb dX8_all_0 rfl (lv_at hl 0 rfl) ?_
  refine lv_iload_n hx hb dX8_all_1 rfl (lv_at hl 2 rfl) ?_
  refine vp_callSi (W.runV (As := [.int a2]) (rest := []) ⟨hx, hb, hml, hown, hts⟩ (r_M_isTime l D E s.heap.size h0 u a2) (cwV 1 hts g_r_M_all_r_M_isTime rfl rfl rfl (by decide +kernel) ⟨Nat.le_of_ble_eq_true rfl, Nat.le_of_ble_eq_true rfl⟩) ⟨pre_blind, va_recv hK hP (ci := 8) (q0 := 0) rfl rfl, pre_at hP hK hD hN⟩ rfl rfl hl.1 rfl (lv_room (Nat.le_of_ble_eq_true rfl)) dX8_all_2 ⟨Nat.le_of_ble_eq_true rfl, Nat.le_of_ble_eq_true rfl⟩) (fun r_1 er_1 => ?_)
  subst er_1
  refine lv_if_eq (tgt := 27) hx hb dX8_all_5 (by decide) (fun _ => ?_) (fun h9 => absurd (by decide) h9)
  refine lv_bipush (v := (-2)) hx hb dX8_all_27 (by decide) ?_
  exact e_s (v := (-2)) hx hb hr rfl rfl hlocks dX8_all_29

def v_r_M_pace : List Cond := .code yX8_pace cX8_pace 8 (some .int) :: ([.fieldLink RX8 9 "UnseenClockModel" "world" "[I", .code yX8_in cX8_in 6 (some .boolean), .methodLink RX8 104 yX8_in, .static yX8_in, .initialized RX8, .code yX8_isClock cX8_isClock 2 (some .boolean), .methodLink RX8 314 yX8_isClock, .instanceMethod yX8_isClock, .selects RX8 yX8_isClock yX8_isClock] ++ (wsX80))
theorem in_r_M_pace_X8 : ∀ w ∈ u_ws RX8 TX8 41, w ∈ v_r_M_pace := fun w h => List.mem_cons_of_mem _ (List.mem_append_right _ (h))
set_option maxRecDepth 20000 in
theorem g_r_M_pace_r_M_isClock : GoodIn v_r_M_pace (wsV RX8 314 RX8 yX8_isClock v_r_M_isClock) := g_rows _ [7, 8, 9, 5, 6, 1, 2, 3, 4, 5, 10, 11, 12, 13, 14, 15, 16, 17, 18, 19, 20, 21, 22, 23, 24, 25, 26, 27, 28, 29, 30, 31, 32, 33, 34, 35, 36, 37, 38, 39, 40, 41, 42, 43, 44, 45, 46, 47, 48, 49, 50] rfl (by decide +kernel)
set_option maxHeartbeats 2000000 in
set_option maxRecDepth 100000 in
theorem r_M_pace (l : Launch) (D : va_G) (E : Nat → ClassId) (sz : Nat) (h0 : Nat) (u : Nat → Nat) (a1 : Int32) (a2 : Int32) (a3 : Int32) : Met l yX8_pace v_r_M_pace ({ frames := 2, cells := 0, slots := 0, locals := 46 }) (va_Pc [.ref h0, .int a1, .int a2, .int a3] (pre D E (wM E h0 u) sz)) (vp_Si (fun r => r = -2)) 0 0 (fun _ => False) := by
  refine c_read (cc := cX8_pace) (maxL := 8) (ret := (some .int)) (by decide) rfl (Nat.le_of_ble_eq_true rfl) ?_
  intro p e s m below meth c ls ⟨hx, hb, hr, hts, hown, hlocks, hin, hml⟩ hP hK hD hN hl
  have hown : s.vm.findClass RX8 = some m.cls := hown
  have hl : lv_has ls 8 [(0, .ref h0), (1, .int a1), (2, .int a2), (3, .int a3)] := hl
  refine lv_aload_n hx hb dX8_pace_0 rfl (lv_at hl 0 rfl) ?_
  refine lv_iload_n hx hb dX8_pace_1 rfl (lv_at hl 1 rfl) ?_
  refine vp_callSi (W.runV (As := [.int a1]) (rest := []) ⟨hx, hb, hml, hown, hts⟩ (r_M_isClock l D E s.heap.size h0 u a1) (cwV 1 hts g_r_M_pace_r_M_isClock rfl rfl rfl (by decide +kernel) ⟨Nat.le_of_ble_eq_true rfl, Nat.le_of_ble_eq_true rfl⟩) ⟨pre_blind, va_recv hK hP (ci := 8) (q0 := 0) rfl rfl, pre_at hP hK hD hN⟩ rfl rfl hl.1 rfl (lv_room (Nat.le_of_ble_eq_true rfl)) dX8_pace_2 ⟨Nat.le_of_ble_eq_true rfl, Nat.le_of_ble_eq_true rfl⟩) (fun r_1 er_1 => ?_)
  subst er_1
  refine lv_if_eq (tgt := 23) hx hb dX8_pace_5 (by decide) (fun _ => ?_) (fun h9 => absurd (by decide) h9)
  refine lv_bipush (v := (-2)) hx hb dX8_pace_23 (by decide) ?_
  exact e_s (v := (-2)) hx hb hr rfl rfl hlocks dX8_pace_25

def v_r_M_mends : List Cond := .code yX8_mends cX8_mends 4 (some .int) :: ([.fieldLink RX8 9 "UnseenClockModel" "world" "[I", .code yX8_in cX8_in 6 (some .boolean), .methodLink RX8 104 yX8_in, .static yX8_in, .initialized RX8, .code yX8_isClock cX8_isClock 2 (some .boolean), .methodLink RX8 314 yX8_isClock, .instanceMethod yX8_isClock, .selects RX8 yX8_isClock yX8_isClock] ++ (wsX80))
theorem in_r_M_mends_X8 : ∀ w ∈ u_ws RX8 TX8 41, w ∈ v_r_M_mends := fun w h => List.mem_cons_of_mem _ (List.mem_append_right _ (h))
set_option maxRecDepth 20000 in
theorem g_r_M_mends_r_M_isClock : GoodIn v_r_M_mends (wsV RX8 314 RX8 yX8_isClock v_r_M_isClock) := g_rows _ [7, 8, 9, 5, 6, 1, 2, 3, 4, 5, 10, 11, 12, 13, 14, 15, 16, 17, 18, 19, 20, 21, 22, 23, 24, 25, 26, 27, 28, 29, 30, 31, 32, 33, 34, 35, 36, 37, 38, 39, 40, 41, 42, 43, 44, 45, 46, 47, 48, 49, 50] rfl (by decide +kernel)
set_option maxHeartbeats 2000000 in
set_option maxRecDepth 100000 in
theorem r_M_mends (l : Launch) (D : va_G) (E : Nat → ClassId) (sz : Nat) (h0 : Nat) (u : Nat → Nat) (a1 : Int32) (a2 : Int32) : Met l yX8_mends v_r_M_mends ({ frames := 2, cells := 0, slots := 0, locals := 46 }) (va_Pc [.ref h0, .int a1, .int a2] (pre D E (wM E h0 u) sz)) (vp_Si (fun r => r = -2)) 0 0 (fun _ => False) := by
  refine c_read (cc := cX8_mends) (maxL := 4) (ret := (some .int)) (by decide) rfl (Nat.le_of_ble_eq_true rfl) ?_
  intro p e s m below meth c ls ⟨hx, hb, hr, hts, hown, hlocks, hin, hml⟩ hP hK hD hN hl
  have hown : s.vm.findClass RX8 = some m.cls := hown
  have hl : lv_has ls 4 [(0, .ref h0), (1, .int a1), (2, .int a2)] := hl
  refine lv_aload_n hx hb dX8_mends_0 rfl (lv_at hl 0 rfl) ?_
  refine lv_iload_n hx hb dX8_mends_1 rfl (lv_at hl 1 rfl) ?_
  refine vp_callSi (W.runV (As := [.int a1]) (rest := []) ⟨hx, hb, hml, hown, hts⟩ (r_M_isClock l D E s.heap.size h0 u a1) (cwV 1 hts g_r_M_mends_r_M_isClock rfl rfl rfl (by decide +kernel) ⟨Nat.le_of_ble_eq_true rfl, Nat.le_of_ble_eq_true rfl⟩) ⟨pre_blind, va_recv hK hP (ci := 8) (q0 := 0) rfl rfl, pre_at hP hK hD hN⟩ rfl rfl hl.1 rfl (lv_room (Nat.le_of_ble_eq_true rfl)) dX8_mends_2 ⟨Nat.le_of_ble_eq_true rfl, Nat.le_of_ble_eq_true rfl⟩) (fun r_1 er_1 => ?_)
  subst er_1
  refine lv_if_eq (tgt := 20) hx hb dX8_mends_5 (by decide) (fun _ => ?_) (fun h9 => absurd (by decide) h9)
  refine lv_bipush (v := (-2)) hx hb dX8_mends_20 (by decide) ?_
  exact e_s (v := (-2)) hx hb hr rfl rfl hlocks dX8_mends_22

def v_r_M_day : List Cond := .code yX8_day cX8_day 4 (some .int) :: ([.constantLong RX8 474 (2000000000), .code yX8_in cX8_in 6 (some .boolean), .methodLink RX8 104 yX8_in, .static yX8_in, .initialized RX8, .fieldLink RX8 9 "UnseenClockModel" "world" "[I", .code yX8_isClock cX8_isClock 2 (some .boolean), .methodLink RX8 314 yX8_isClock, .instanceMethod yX8_isClock, .selects RX8 yX8_isClock yX8_isClock] ++ (wsX80))
theorem in_r_M_day_X8 : ∀ w ∈ u_ws RX8 TX8 41, w ∈ v_r_M_day := fun w h => List.mem_cons_of_mem _ (List.mem_append_right _ (h))
set_option maxRecDepth 20000 in
theorem g_r_M_day_r_M_in : GoodIn v_r_M_day (va_wsS RX8 104 yX8_in v_r_M_in) := g_rows _ [3, 4, 5, 2] rfl (by decide +kernel)
set_option maxRecDepth 20000 in
theorem g_r_M_day_r_M_isClock : GoodIn v_r_M_day (wsV RX8 314 RX8 yX8_isClock v_r_M_isClock) := g_rows _ [8, 9, 10, 5, 7, 6, 2, 3, 4, 5, 11, 12, 13, 14, 15, 16, 17, 18, 19, 20, 21, 22, 23, 24, 25, 26, 27, 28, 29, 30, 31, 32, 33, 34, 35, 36, 37, 38, 39, 40, 41, 42, 43, 44, 45, 46, 47, 48, 49, 50, 51] rfl (by decide +kernel)
set_option maxHeartbeats 2000000 in
set_option maxRecDepth 100000 in
theorem r_M_day (l : Launch) (D : va_G) (E : Nat → ClassId) (sz : Nat) (h0 : Nat) (u : Nat → Nat) (a1 : Int32) (a2 : Int32) (a3 : Int32) : Met l yX8_day v_r_M_day ({ frames := 2, cells := 0, slots := 0, locals := 46 }) (va_Pc [.ref h0, .int a1, .int a2, .int a3] (pre D E (wM E h0 u) sz)) (vp_Si (fun r => r = -2)) 0 0 (fun _ => False) := by
  refine c_read (cc := cX8_day) (maxL := 4) (ret := (some .int)) (by decide) rfl (Nat.le_of_ble_eq_true rfl) ?_
  intro p e s m below meth c ls ⟨hx, hb, hr, hts, hown, hlocks, hin, hml⟩ hP hK hD hN hl
  have hown : s.vm.findClass RX8 = some m.cls := hown
  have hl : lv_has ls 4 [(0, .ref h0), (1, .int a1), (2, .int a2), (3, .int a3)] := hl
  refine lv_iload_n hx hb dX8_day_0 rfl (lv_at hl 1 rfl) ?_
  refine lv_i2l (v := Int32.toInt64 a1) hx hb dX8_day_1 rfl ?_
  refine lv_lconst (v := 0) hx hb dX8_day_2 (by decide) ?_
  refine lv_ldc2 (v := 2000000000) hx hb hown (hts (.constantLong RX8 474 (2000000000)) (List.mem_of_getElem? (i := 1) rfl)) dX8_day_3 ?_
  refine vp_callSi (W.runS (As := [.long (Int32.toInt64 a1), .long 0, .long 2000000000]) (rest := []) ⟨hx, hb, hml, hown, hts⟩ (r_M_in l D E s.heap.size h0 u (Int32.toInt64 a1) 0 2000000000) (va_cwS 3 hts g_r_M_day_r_M_in rfl rfl rfl (by decide +kernel) ⟨Nat.le_of_ble_eq_true rfl, Nat.le_of_ble_eq_true rfl⟩) ⟨pre_blind, pre_at hP hK hD hN⟩ rfl rfl hl.1 rfl (lv_room (Nat.le_of_ble_eq_true rfl)) dX8_day_6 ⟨Nat.le_of_ble_eq_true rfl, Nat.le_of_ble_eq_true rfl⟩) (fun r_1 er_1 => ?_)
  refine lv_if_eq (tgt := 39) hx hb dX8_day_9 (by decide) (fun h_2 => ?_) (fun h_2 => ?_)
  · refine lv_bipush (v := (-2)) hx hb dX8_day_39 (by decide) ?_
    exact e_s (v := (-2)) hx hb hr rfl rfl hlocks dX8_day_41
  · refine lv_aload_n hx hb dX8_day_12 rfl (lv_at hl 0 rfl) ?_
    refine lv_iload_n hx hb dX8_day_13 rfl (lv_at hl 2 rfl) ?_
    refine vp_callSi (W.runV (As := [.int a2]) (rest := []) ⟨hx, hb, hml, hown, hts⟩ (r_M_isClock l D E s.heap.size h0 u a2) (cwV 1 hts g_r_M_day_r_M_isClock rfl rfl rfl (by decide +kernel) ⟨Nat.le_of_ble_eq_true rfl, Nat.le_of_ble_eq_true rfl⟩) ⟨pre_blind, va_recv hK hP (ci := 8) (q0 := 0) rfl rfl, pre_at hP hK hD hN⟩ rfl rfl hl.1 rfl (lv_room (Nat.le_of_ble_eq_true rfl)) dX8_day_14 ⟨Nat.le_of_ble_eq_true rfl, Nat.le_of_ble_eq_true rfl⟩) (fun r_3 er_3 => ?_)
    subst er_3
    refine lv_if_eq (tgt := 39) hx hb dX8_day_17 (by decide) (fun _ => ?_) (fun h9 => absurd (by decide) h9)
    refine lv_bipush (v := (-2)) hx hb dX8_day_39 (by decide) ?_
    exact e_s (v := (-2)) hx hb hr rfl rfl hlocks dX8_day_41

def v_r_M_days : List Cond := .code yX8_days cX8_days 8 (some .int) :: ([.constantLong RX8 474 (2000000000), .code yX8_in cX8_in 6 (some .boolean), .methodLink RX8 104 yX8_in, .static yX8_in, .initialized RX8, .constantLong RX8 480 (20), .fieldLink RX8 9 "UnseenClockModel" "world" "[I", .code yX8_isClock cX8_isClock 2 (some .boolean), .methodLink RX8 314 yX8_isClock, .instanceMethod yX8_isClock, .selects RX8 yX8_isClock yX8_isClock] ++ (wsX80))
theorem in_r_M_days_X8 : ∀ w ∈ u_ws RX8 TX8 41, w ∈ v_r_M_days := fun w h => List.mem_cons_of_mem _ (List.mem_append_right _ (h))
set_option maxRecDepth 20000 in
theorem g_r_M_days_r_M_in : GoodIn v_r_M_days (va_wsS RX8 104 yX8_in v_r_M_in) := g_rows _ [3, 4, 5, 2] rfl (by decide +kernel)
set_option maxRecDepth 20000 in
theorem g_r_M_days_r_M_isClock : GoodIn v_r_M_days (wsV RX8 314 RX8 yX8_isClock v_r_M_isClock) := g_rows _ [9, 10, 11, 5, 8, 7, 2, 3, 4, 5, 12, 13, 14, 15, 16, 17, 18, 19, 20, 21, 22, 23, 24, 25, 26, 27, 28, 29, 30, 31, 32, 33, 34, 35, 36, 37, 38, 39, 40, 41, 42, 43, 44, 45, 46, 47, 48, 49, 50, 51, 52] rfl (by decide +kernel)
set_option maxHeartbeats 2000000 in
set_option maxRecDepth 100000 in
theorem r_M_days (l : Launch) (D : va_G) (E : Nat → ClassId) (sz : Nat) (h0 : Nat) (u : Nat → Nat) (a1 : Int32) (a2 : Int32) (a3 : Int32) (a4 : Int32) (a5 : Int32) : Met l yX8_days v_r_M_days ({ frames := 2, cells := 0, slots := 0, locals := 46 }) (va_Pc [.ref h0, .int a1, .int a2, .int a3, .int a4, .int a5] (pre D E (wM E h0 u) sz)) (vp_Si (fun r => r = -2)) 0 0 (fun _ => False) := by
  refine c_read (cc := cX8_days) (maxL := 8) (ret := (some .int)) (by decide) rfl (Nat.le_of_ble_eq_true rfl) ?_
  intro p e s m below meth c ls ⟨hx, hb, hr, hts, hown, hlocks, hin, hml⟩ hP hK hD hN hl
  have hown : s.vm.findClass RX8 = some m.cls := hown
  have hl : lv_has ls 8 [(0, .ref h0), (1, .int a1), (2, .int a2), (3, .int a3), (4, .int a4), (5, .int a5)] := hl
  refine lv_iload_n hx hb dX8_days_0 rfl (lv_at hl 1 rfl) ?_
  refine lv_i2l (v := Int32.toInt64 a1) hx hb dX8_days_1 rfl ?_
  refine lv_lconst (v := 0) hx hb dX8_days_2 (by decide) ?_
  refine lv_ldc2 (v := 2000000000) hx hb hown (hts (.constantLong RX8 474 (2000000000)) (List.mem_of_getElem? (i := 1) rfl)) dX8_days_3 ?_
  refine vp_callSi (W.runS (As := [.long (Int32.toInt64 a1), .long 0, .long 2000000000]) (rest := []) ⟨hx, hb, hml, hown, hts⟩ (r_M_in l D E s.heap.size h0 u (Int32.toInt64 a1) 0 2000000000) (va_cwS 3 hts g_r_M_days_r_M_in rfl rfl rfl (by decide +kernel) ⟨Nat.le_of_ble_eq_true rfl, Nat.le_of_ble_eq_true rfl⟩) ⟨pre_blind, pre_at hP hK hD hN⟩ rfl rfl hl.1 rfl (lv_room (Nat.le_of_ble_eq_true rfl)) dX8_days_6 ⟨Nat.le_of_ble_eq_true rfl, Nat.le_of_ble_eq_true rfl⟩) (fun r_1 er_1 => ?_)
  refine lv_if_eq (tgt := 49) hx hb dX8_days_9 (by decide) (fun h_2 => ?_) (fun h_2 => ?_)
  · refine lv_bipush (v := (-2)) hx hb dX8_days_49 (by decide) ?_
    exact e_s (v := (-2)) hx hb hr rfl rfl hlocks dX8_days_51
  · refine lv_iload_n hx hb dX8_days_12 rfl (lv_at hl 2 rfl) ?_
    refine lv_i2l (v := Int32.toInt64 a2) hx hb dX8_days_13 rfl ?_
    refine lv_lconst (v := 1) hx hb dX8_days_14 (by decide) ?_
    refine lv_ldc2 (v := 20) hx hb hown (hts (.constantLong RX8 480 (20)) (List.mem_of_getElem? (i := 6) rfl)) dX8_days_15 ?_
    refine vp_callSi (W.runS (As := [.long (Int32.toInt64 a2), .long 1, .long 20]) (rest := []) ⟨hx, hb, hml, hown, hts⟩ (r_M_in l D E s.heap.size h0 u (Int32.toInt64 a2) 1 20) (va_cwS 3 hts g_r_M_days_r_M_in rfl rfl rfl (by decide +kernel) ⟨Nat.le_of_ble_eq_true rfl, Nat.le_of_ble_eq_true rfl⟩) ⟨pre_blind, pre_at hP hK hD hN⟩ rfl rfl hl.1 rfl (lv_room (Nat.le_of_ble_eq_true rfl)) dX8_days_18 ⟨Nat.le_of_ble_eq_true rfl, Nat.le_of_ble_eq_true rfl⟩) (fun r_3 er_3 => ?_)
    refine lv_if_eq (tgt := 49) hx hb dX8_days_21 (by decide) (fun h_4 => ?_) (fun h_4 => ?_)
    · refine lv_bipush (v := (-2)) hx hb dX8_days_49 (by decide) ?_
      exact e_s (v := (-2)) hx hb hr rfl rfl hlocks dX8_days_51
    · refine lv_aload_n hx hb dX8_days_24 rfl (lv_at hl 0 rfl) ?_
      refine lv_iload_n hx hb dX8_days_25 rfl (lv_at hl 3 rfl) ?_
      refine vp_callSi (W.runV (As := [.int a3]) (rest := []) ⟨hx, hb, hml, hown, hts⟩ (r_M_isClock l D E s.heap.size h0 u a3) (cwV 1 hts g_r_M_days_r_M_isClock rfl rfl rfl (by decide +kernel) ⟨Nat.le_of_ble_eq_true rfl, Nat.le_of_ble_eq_true rfl⟩) ⟨pre_blind, va_recv hK hP (ci := 8) (q0 := 0) rfl rfl, pre_at hP hK hD hN⟩ rfl rfl hl.1 rfl (lv_room (Nat.le_of_ble_eq_true rfl)) dX8_days_26 ⟨Nat.le_of_ble_eq_true rfl, Nat.le_of_ble_eq_true rfl⟩) (fun r_5 er_5 => ?_)
      subst er_5
      refine lv_if_eq (tgt := 49) hx hb dX8_days_29 (by decide) (fun _ => ?_) (fun h9 => absurd (by decide) h9)
      refine lv_bipush (v := (-2)) hx hb dX8_days_49 (by decide) ?_
      exact e_s (v := (-2)) hx hb hr rfl rfl hlocks dX8_days_51

def v_r_M_agree : List Cond := .code yX8_agree cX8_agree 5 (some .int) :: ([.constantLong RX8 482 (3), .code yX8_in cX8_in 6 (some .boolean), .methodLink RX8 104 yX8_in, .static yX8_in, .initialized RX8, .code yX8_isSlot cX8_isSlot 1 (some .boolean), .methodLink RX8 416 yX8_isSlot, .static yX8_isSlot, .fieldLink RX8 9 "UnseenClockModel" "world" "[I", .code yX8_isSquare cX8_isSquare 1 (some .boolean), .methodLink RX8 108 yX8_isSquare, .instanceMethod yX8_isSquare, .selects RX8 yX8_isSquare yX8_isSquare, .code yX8_asksSightings cX8_asksSightings 9 (some .int), .methodLink RX8 422 yX8_asksSightings, .instanceMethod yX8_asksSightings, .selects RX8 yX8_asksSightings yX8_asksSightings] ++ (wsX80))
theorem in_r_M_agree_X8 : ∀ w ∈ u_ws RX8 TX8 41, w ∈ v_r_M_agree := fun w h => List.mem_cons_of_mem _ (List.mem_append_right _ (h))
set_option maxRecDepth 20000 in
theorem g_r_M_agree_r_M_asksSightings : GoodIn v_r_M_agree (wsV RX8 422 RX8 yX8_asksSightings v_r_M_asksSightings) := g_rows _ [15, 16, 17, 5, 14, 1, 2, 3, 4, 5, 6, 7, 8, 9, 10, 11, 12, 13, 18, 19, 20, 21, 22, 23, 24, 25, 26, 27, 28, 29, 30, 31, 32, 33, 34, 35, 36, 37, 38, 39, 40, 41, 42, 43, 44, 45, 46, 47, 48, 49, 50, 51, 52, 53, 54, 55, 56, 57, 58] rfl (by decide +kernel)
set_option maxHeartbeats 2000000 in
set_option maxRecDepth 100000 in
theorem r_M_agree (l : Launch) (D : va_G) (E : Nat → ClassId) (sz : Nat) (h0 : Nat) (u : Nat → Nat) (a1 : Int32) : Met l yX8_agree v_r_M_agree ({ frames := 3, cells := 0, slots := 0, locals := 73 }) (va_Pc [.ref h0, .int a1] (pre D E (wM E h0 u) sz)) (vp_Si (fun r => r = -2)) 0 0 (fun _ => False) := by
  refine c_read (cc := cX8_agree) (maxL := 5) (ret := (some .int)) (by decide) rfl (Nat.le_of_ble_eq_true rfl) ?_
  intro p e s m below meth c ls ⟨hx, hb, hr, hts, hown, hlocks, hin, hml⟩ hP hK hD hN hl
  have hown : s.vm.findClass RX8 = some m.cls := hown
  have hl : lv_has ls 5 [(0, .ref h0), (1, .int a1)] := hl
  refine lv_aload_n hx hb dX8_agree_0 rfl (lv_at hl 0 rfl) ?_
  refine lv_iload_n hx hb dX8_agree_1 rfl (lv_at hl 1 rfl) ?_
  refine lv_iconst (v := 1) hx hb dX8_agree_2 (by decide) ?_
  refine lv_bipush (v := 20) hx hb dX8_agree_3 (by decide) ?_
  refine vp_callSi (W.runV (As := [.int a1, .int 1, .int 20]) (rest := []) ⟨hx, hb, hml, hown, hts⟩ (r_M_asksSightings l D E s.heap.size h0 u a1 1 20) (cwV 3 hts g_r_M_agree_r_M_asksSightings rfl rfl rfl (by decide +kernel) ⟨Nat.le_of_ble_eq_true rfl, Nat.le_of_ble_eq_true rfl⟩) ⟨pre_blind, va_recv hK hP (ci := 8) (q0 := 0) rfl rfl, pre_at hP hK hD hN⟩ rfl rfl hl.1 rfl (lv_room (Nat.le_of_ble_eq_true rfl)) dX8_agree_5 ⟨Nat.le_of_ble_eq_true rfl, Nat.le_of_ble_eq_true rfl⟩) (fun r_1 er_1 => ?_)
  subst er_1
  refine lv_istore_n (lv' := [(2, .int (-2)), (0, .ref h0), (1, .int a1)]) hx hb dX8_agree_8 rfl hl (by decide) rfl (fun ls hl => ?_)
  refine lv_iload_n hx hb dX8_agree_9 rfl (lv_at hl 0 rfl) ?_
  refine lv_if_ge (tgt := 15) hx hb dX8_agree_10 (by decide) (fun h9 => absurd h9 (by decide)) (fun _ => ?_)
  refine lv_iload_n hx hb dX8_agree_13 rfl (lv_at hl 0 rfl) ?_
  exact e_s (v := (-2)) hx hb hr rfl rfl hlocks dX8_agree_14

