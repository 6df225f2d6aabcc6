theorem dX8_in_0 : decode cX8_in 0 = .ok (.lload_n 0, 1) := by decide +kernel
theorem dX8_in_1 : decode cX8_in 1 = .ok (.lload_n 2, 1) := by decide +kernel
theorem dX8_in_2 : decode cX8_in 2 = .ok (.lcmp, 1) := by decide +kernel
theorem dX8_in_3 : decode cX8_in 3 = .ok (.ifCond .lt 14, 3) := by decide +kernel
theorem dX8_in_6 : decode cX8_in 6 = .ok (.lload_n 0, 1) := by decide +kernel
theorem dX8_in_7 : decode cX8_in 7 = .ok (.lload 4, 2) := by decide +kernel
theorem dX8_in_9 : decode cX8_in 9 = .ok (.lcmp, 1) := by decide +kernel
theorem dX8_in_10 : decode cX8_in 10 = .ok (.ifCond .gt 7, 3) := by decide +kernel
theorem dX8_in_13 : decode cX8_in 13 = .ok (.iconst 1, 1) := by decide +kernel
theorem dX8_in_14 : decode cX8_in 14 = .ok (.goto 4, 3) := by decide +kernel
theorem dX8_in_17 : decode cX8_in 17 = .ok (.iconst 0, 1) := by decide +kernel
theorem dX8_in_18 : decode cX8_in 18 = .ok (.ireturn, 1) := by decide +kernel
theorem dX8_isSquare_0 : decode cX8_isSquare 0 = .ok (.aload_n 0, 1) := by decide +kernel
theorem dX8_isSquare_1 : decode cX8_isSquare 1 = .ok (.getfield 9, 3) := by decide +kernel
theorem dX8_isSquare_4 : decode cX8_isSquare 4 = .ok (.iconst 4, 1) := by decide +kernel
theorem dX8_isSquare_5 : decode cX8_isSquare 5 = .ok (.iaload, 1) := by decide +kernel
theorem dX8_isSquare_6 : decode cX8_isSquare 6 = .ok (.ifCond .le 7, 3) := by decide +kernel
theorem dX8_isSquare_13 : decode cX8_isSquare 13 = .ok (.iconst 0, 1) := by decide +kernel
theorem dX8_isSquare_14 : decode cX8_isSquare 14 = .ok (.ireturn, 1) := by decide +kernel
theorem dX8_isClock_0 : decode cX8_isClock 0 = .ok (.iload_n 1, 1) := by decide +kernel
theorem dX8_isClock_1 : decode cX8_isClock 1 = .ok (.i2l, 1) := by decide +kernel
theorem dX8_isClock_2 : decode cX8_isClock 2 = .ok (.lconst 0, 1) := by decide +kernel
theorem dX8_isClock_3 : decode cX8_isClock 3 = .ok (.aload_n 0, 1) := by decide +kernel
theorem dX8_isClock_4 : decode cX8_isClock 4 = .ok (.getfield 9, 3) := by decide +kernel
theorem dX8_isClock_7 : decode cX8_isClock 7 = .ok (.iconst 1, 1) := by decide +kernel
theorem dX8_isClock_8 : decode cX8_isClock 8 = .ok (.iaload, 1) := by decide +kernel
theorem dX8_isClock_9 : decode cX8_isClock 9 = .ok (.iconst 1, 1) := by decide +kernel
theorem dX8_isClock_10 : decode cX8_isClock 10 = .ok (.isub, 1) := by decide +kernel
theorem dX8_isClock_11 : decode cX8_isClock 11 = .ok (.i2l, 1) := by decide +kernel
theorem dX8_isClock_12 : decode cX8_isClock 12 = .ok (.invokestatic 104, 3) := by decide +kernel
theorem dX8_isClock_15 : decode cX8_isClock 15 = .ok (.ireturn, 1) := by decide +kernel
theorem dX8_isPerson_0 : decode cX8_isPerson 0 = .ok (.iload_n 1, 1) := by decide +kernel
theorem dX8_isPerson_1 : decode cX8_isPerson 1 = .ok (.i2l, 1) := by decide +kernel
theorem dX8_isPerson_2 : decode cX8_isPerson 2 = .ok (.lconst 0, 1) := by decide +kernel
theorem dX8_isPerson_3 : decode cX8_isPerson 3 = .ok (.aload_n 0, 1) := by decide +kernel
theorem dX8_isPerson_4 : decode cX8_isPerson 4 = .ok (.getfield 9, 3) := by decide +kernel
theorem dX8_isPerson_7 : decode cX8_isPerson 7 = .ok (.iconst 2, 1) := by decide +kernel
theorem dX8_isPerson_8 : decode cX8_isPerson 8 = .ok (.iaload, 1) := by decide +kernel
theorem dX8_isPerson_9 : decode cX8_isPerson 9 = .ok (.iconst 1, 1) := by decide +kernel
theorem dX8_isPerson_10 : decode cX8_isPerson 10 = .ok (.isub, 1) := by decide +kernel
theorem dX8_isPerson_11 : decode cX8_isPerson 11 = .ok (.i2l, 1) := by decide +kernel
theorem dX8_isPerson_12 : decode cX8_isPerson 12 = .ok (.invokestatic 104, 3) := by decide +kernel
theorem dX8_isPerson_15 : decode cX8_isPerson 15 = .ok (.ireturn, 1) := by decide +kernel
theorem dX8_isTime_0 : decode cX8_isTime 0 = .ok (.aload_n 0, 1) := by decide +kernel
theorem dX8_isTime_1 : decode cX8_isTime 1 = .ok (.invokevirtual 108, 3) := by decide +kernel
theorem dX8_isTime_4 : decode cX8_isTime 4 = .ok (.ifCond .eq 24, 3) := by decide +kernel
theorem dX8_isTime_28 : decode cX8_isTime 28 = .ok (.iconst 0, 1) := by decide +kernel
theorem dX8_isTime_29 : decode cX8_isTime 29 = .ok (.ireturn, 1) := by decide +kernel
theorem dX8_isAsked_0 : decode cX8_isAsked 0 = .ok (.aload_n 0, 1) := by decide +kernel
theorem dX8_isAsked_1 : decode cX8_isAsked 1 = .ok (.iload_n 1, 1) := by decide +kernel
theorem dX8_isAsked_2 : decode cX8_isAsked 2 = .ok (.invokevirtual 307, 3) := by decide +kernel
theorem dX8_isAsked_5 : decode cX8_isAsked 5 = .ok (.ifCond .eq 31, 3) := by decide +kernel
theorem dX8_isAsked_36 : decode cX8_isAsked 36 = .ok (.iconst 0, 1) := by decide +kernel
theorem dX8_isAsked_37 : decode cX8_isAsked 37 = .ok (.ireturn, 1) := by decide +kernel
theorem dX8_areTwo_0 : decode cX8_areTwo 0 = .ok (.aload_n 0, 1) := by decide +kernel
theorem dX8_areTwo_1 : decode cX8_areTwo 1 = .ok (.iload_n 1, 1) := by decide +kernel
theorem dX8_areTwo_2 : decode cX8_areTwo 2 = .ok (.invokevirtual 307, 3) := by decide +kernel
theorem dX8_areTwo_5 : decode cX8_areTwo 5 = .ok (.ifCond .eq 20, 3) := by decide +kernel
theorem dX8_areTwo_25 : decode cX8_areTwo 25 = .ok (.iconst 0, 1) := by decide +kernel
theorem dX8_areTwo_26 : decode cX8_areTwo 26 = .ok (.ireturn, 1) := by decide +kernel
theorem dX7_noSquare_0 : decode cX7_noSquare 0 = .ok (.aload_n 0, 1) := by decide +kernel
theorem dX7_noSquare_1 : decode cX7_noSquare 1 = .ok (.getfield 27, 3) := by decide +kernel
theorem dX7_noSquare_4 : decode cX7_noSquare 4 = .ok (.getfield 81, 3) := by decide +kernel
theorem dX7_noSquare_7 : decode cX7_noSquare 7 = .ok (.ifCond .ne 7, 3) := by decide +kernel
theorem dX7_noSquare_10 : decode cX7_noSquare 10 = .ok (.iconst 1, 1) := by decide +kernel
theorem dX7_noSquare_11 : decode cX7_noSquare 11 = .ok (.goto 4, 3) := by decide +kernel
theorem dX7_noSquare_15 : decode cX7_noSquare 15 = .ok (.ireturn, 1) := by decide +kernel
theorem dX7_noPerson_0 : decode cX7_noPerson 0 = .ok (.iload_n 1, 1) := by decide +kernel
theorem dX7_noPerson_1 : decode cX7_noPerson 1 = .ok (.ifCond .lt 14, 3) := by decide +kernel
theorem dX7_noPerson_4 : decode cX7_noPerson 4 = .ok (.iload_n 1, 1) := by decide +kernel
theorem dX7_noPerson_5 : decode cX7_noPerson 5 = .ok (.aload_n 0, 1) := by decide +kernel
theorem dX7_noPerson_6 : decode cX7_noPerson 6 = .ok (.getfield 27, 3) := by decide +kernel
theorem dX7_noPerson_9 : decode cX7_noPerson 9 = .ok (.getfield 115, 3) := by decide +kernel
theorem dX7_noPerson_12 : decode cX7_noPerson 12 = .ok (.if_icmp .lt 7, 3) := by decide +kernel
theorem dX7_noPerson_15 : decode cX7_noPerson 15 = .ok (.iconst 1, 1) := by decide +kernel
theorem dX7_noPerson_16 : decode cX7_noPerson 16 = .ok (.goto 4, 3) := by decide +kernel
theorem dX7_noPerson_20 : decode cX7_noPerson 20 = .ok (.ireturn, 1) := by decide +kernel
theorem dX7_noClock_0 : decode cX7_noClock 0 = .ok (.iload_n 1, 1) := by decide +kernel
theorem dX7_noClock_1 : decode cX7_noClock 1 = .ok (.ifCond .lt 14, 3) := by decide +kernel
theorem dX7_noClock_4 : decode cX7_noClock 4 = .ok (.iload_n 1, 1) := by decide +kernel
theorem dX7_noClock_5 : decode cX7_noClock 5 = .ok (.aload_n 0, 1) := by decide +kernel
theorem dX7_noClock_6 : decode cX7_noClock 6 = .ok (.getfield 27, 3) := by decide +kernel
theorem dX7_noClock_9 : decode cX7_noClock 9 = .ok (.getfield 118, 3) := by decide +kernel
theorem dX7_noClock_12 : decode cX7_noClock 12 = .ok (.if_icmp .lt 7, 3) := by decide +kernel
theorem dX7_noClock_15 : decode cX7_noClock 15 = .ok (.iconst 1, 1) := by decide +kernel
theorem dX7_noClock_16 : decode cX7_noClock 16 = .ok (.goto 4, 3) := by decide +kernel
theorem dX7_noClock_20 : decode cX7_noClock 20 = .ok (.ireturn, 1) := by decide +kernel
theorem dX7_noClockThen_0 : decode cX7_noClockThen 0 = .ok (.aload_n 0, 1) := by decide +kernel
theorem dX7_noClockThen_1 : decode cX7_noClockThen 1 = .ok (.iload_n 1, 1) := by decide +kernel
theorem dX7_noClockThen_2 : decode cX7_noClockThen 2 = .ok (.invokevirtual 121, 3) := by decide +kernel
theorem dX7_noClockThen_5 : decode cX7_noClockThen 5 = .ok (.ifCond .ne 11, 3) := by decide +kernel
theorem dX7_noClockThen_16 : decode cX7_noClockThen 16 = .ok (.iconst 1, 1) := by decide +kernel
theorem dX7_noClockThen_17 : decode cX7_noClockThen 17 = .ok (.goto 4, 3) := by decide +kernel
theorem dX7_noClockThen_21 : decode cX7_noClockThen 21 = .ok (.ireturn, 1) := by decide +kernel
theorem dX7_noSeed_0 : decode cX7_noSeed 0 = .ok (.iload_n 0, 1) := by decide +kernel
theorem dX7_noSeed_1 : decode cX7_noSeed 1 = .ok (.ifCond .lt 10, 3) := by decide +kernel
theorem dX7_noSeed_4 : decode cX7_noSeed 4 = .ok (.iload_n 0, 1) := by decide +kernel
theorem dX7_noSeed_5 : decode cX7_noSeed 5 = .ok (.ldc_w 344, 3) := by decide +kernel
theorem dX7_noSeed_8 : decode cX7_noSeed 8 = .ok (.if_icmp .le 7, 3) := by decide +kernel
theorem dX7_noSeed_11 : decode cX7_noSeed 11 = .ok (.iconst 1, 1) := by decide +kernel
theorem dX7_noSeed_12 : decode cX7_noSeed 12 = .ok (.goto 4, 3) := by decide +kernel
theorem dX7_noSeed_15 : decode cX7_noSeed 15 = .ok (.iconst 0, 1) := by decide +kernel
theorem dX7_noSeed_16 : decode cX7_noSeed 16 = .ok (.ireturn, 1) := by decide +kernel
theorem dX7_noSlot_0 : decode cX7_noSlot 0 = .ok (.iload_n 0, 1) := by decide +kernel
theorem dX7_noSlot_1 : decode cX7_noSlot 1 = .ok (.ifCond .lt 8, 3) := by decide +kernel
theorem dX7_noSlot_4 : decode cX7_noSlot 4 = .ok (.iload_n 0, 1) := by decide +kernel
theorem dX7_noSlot_5 : decode cX7_noSlot 5 = .ok (.iconst 4, 1) := by decide +kernel
theorem dX7_noSlot_6 : decode cX7_noSlot 6 = .ok (.if_icmp .lt 7, 3) := by decide +kernel
theorem dX7_noSlot_9 : decode cX7_noSlot 9 = .ok (.iconst 1, 1) := by decide +kernel
theorem dX7_noSlot_10 : decode cX7_noSlot 10 = .ok (.goto 4, 3) := by decide +kernel
theorem dX7_noSlot_13 : decode cX7_noSlot 13 = .ok (.iconst 0, 1) := by decide +kernel
theorem dX7_noSlot_14 : decode cX7_noSlot 14 = .ok (.ireturn, 1) := by decide +kernel
theorem dX7_leastKeeping_0 : decode cX7_leastKeeping 0 = .ok (.aload_n 0, 1) := by decide +kernel
theorem dX7_leastKeeping_1 : decode cX7_leastKeeping 1 = .ok (.iload_n 1, 1) := by decide +kernel
theorem dX7_leastKeeping_2 : decode cX7_leastKeeping 2 = .ok (.iload_n 2, 1) := by decide +kernel
theorem dX7_leastKeeping_3 : decode cX7_leastKeeping 3 = .ok (.invokevirtual 172, 3) := by decide +kernel
theorem dX7_leastKeeping_6 : decode cX7_leastKeeping 6 = .ok (.ifCond .eq 6, 3) := by decide +kernel
theorem dX7_leastKeeping_9 : decode cX7_leastKeeping 9 = .ok (.bipush (-2), 2) := by decide +kernel
theorem dX7_leastKeeping_11 : decode cX7_leastKeeping 11 = .ok (.ireturn, 1) := by decide +kernel

theorem lt64 {a b : Int64} : a < b ↔ a.toInt < b.toInt := Int64.lt_iff_toInt_lt
theorem in_1 {v lo hi : Int64} (h : lg_cmp v lo < 0) : (0 : Int32) = if lo.toInt ≤ v.toInt ∧ v.toInt ≤ hi.toInt then 1 else 0 := by
  have h1 := lt64.mp ((lg_cmp_lt v lo).mp h)
  rw [if_neg (by omega)]
theorem in_2 {v lo hi : Int64} (h : 0 < lg_cmp v hi) : (0 : Int32) = if lo.toInt ≤ v.toInt ∧ v.toInt ≤ hi.toInt then 1 else 0 := by
  have h1 := lt64.mp ((lg_cmp_gt v hi).mp h)
  rw [if_neg (by omega)]
theorem in_3 {v lo hi : Int64} (h : ¬ lg_cmp v lo < 0) (h2 : ¬ 0 < lg_cmp v hi) : (1 : Int32) = if lo.toInt ≤ v.toInt ∧ v.toInt ≤ hi.toInt then 1 else 0 := by
  have h1 : ¬ v < lo := fun q => h ((lg_cmp_lt v lo).mpr q)
  have h3 : ¬ hi < v := fun q => h2 ((lg_cmp_gt v hi).mpr q)
  rw [lt64] at h1 h3
  rw [if_pos (by omega)]
theorem z64 : (0 : Int64).toInt = 0 := by decide
theorem in_no (v : Int64) : (if (0 : Int64).toInt ≤ v.toInt ∧ v.toInt ≤ (-1 : Int64).toInt then (1 : Int32) else 0) = 0 := by
  have h : (-1 : Int64).toInt = -1 := by decide
  rw [if_neg (by rw [z64, h]; omega)]
theorem t64 (x : Int32) : x.toInt64.toInt = x.toInt := Int32.toInt_toInt64 x
theorem lt32 {a b : Int32} : a < b ↔ a.toInt < b.toInt := Int32.lt_iff_toInt_lt
theorem le32 {a b : Int32} : a ≤ b ↔ a.toInt ≤ b.toInt := Int32.le_iff_toInt_le
theorem z32 : (0 : Int32).toInt = 0 := by decide
theorem in_out {x : Int32} {n : Int} {hi : Int64} (hh : hi.toInt = n) (h : ¬ (0 ≤ x.toInt ∧ x.toInt ≤ n)) : (if (0 : Int64).toInt ≤ x.toInt64.toInt ∧ x.toInt64.toInt ≤ hi.toInt then (1 : Int32) else 0) = 0 := by
  rw [if_neg]
  rw [z64, hh, t64]
  exact h
theorem of_int {x : Int32} {k : Int32} (h : x.toInt = k.toInt) : x = k := Int32.toInt_inj.mp h
theorem cs3 (x : Int32) : ¬ (0 ≤ x.toInt ∧ x.toInt ≤ 2) ∨ x = 0 ∨ x = 1 ∨ x = 2 := by
  by_cases h : 0 ≤ x.toInt ∧ x.toInt ≤ 2
  · refine Or.inr ?_
    rcases (show x.toInt = 0 ∨ x.toInt = 1 ∨ x.toInt = 2 by omega) with q | q | q
    · exact Or.inl (of_int (q.trans (by decide)))
    · exact Or.inr (Or.inl (of_int (q.trans (by decide))))
    · exact Or.inr (Or.inr (of_int (q.trans (by decide))))
  · exact Or.inl h
theorem cs4 (x : Int32) : ¬ (0 ≤ x.toInt ∧ x.toInt ≤ 3) ∨ x = 0 ∨ x = 1 ∨ x = 2 ∨ x = 3 := by
  by_cases h : 0 ≤ x.toInt ∧ x.toInt ≤ 3
  · refine Or.inr ?_
    rcases (show x.toInt = 0 ∨ x.toInt = 1 ∨ x.toInt = 2 ∨ x.toInt = 3 by omega) with q | q | q | q
    · exact Or.inl (of_int (q.trans (by decide)))
    · exact Or.inr (Or.inl (of_int (q.trans (by decide))))
    · exact Or.inr (Or.inr (Or.inl (of_int (q.trans (by decide)))))
    · exact Or.inr (Or.inr (Or.inr (of_int (q.trans (by decide)))))
  · exact Or.inl h
theorem cs10 (x : Int32) : ¬ (0 ≤ x.toInt ∧ x.toInt ≤ 9) ∨ x = 0 ∨ x = 1 ∨ x = 2 ∨ x = 3 ∨ x = 4 ∨ x = 5 ∨ x = 6 ∨ x = 7 ∨ x = 8 ∨ x = 9 := by
  by_cases h : 0 ≤ x.toInt ∧ x.toInt ≤ 9
  · refine Or.inr ?_
    have e : ∀ k : Int32, x.toInt = k.toInt → x = k := fun k q => of_int q
    rcases (show x.toInt = 0 ∨ x.toInt = 1 ∨ x.toInt = 2 ∨ x.toInt = 3 ∨ x.toInt = 4 ∨ x.toInt = 5 ∨ x.toInt = 6 ∨ x.toInt = 7 ∨ x.toInt = 8 ∨ x.toInt = 9 by omega) with q | q | q | q | q | q | q | q | q | q
    · rw [e 0 (q.trans (by decide))]; simp
    · rw [e 1 (q.trans (by decide))]; simp
    · rw [e 2 (q.trans (by decide))]; simp
    · rw [e 3 (q.trans (by decide))]; simp
    · rw [e 4 (q.trans (by decide))]; simp
    · rw [e 5 (q.trans (by decide))]; simp
    · rw [e 6 (q.trans (by decide))]; simp
    · rw [e 7 (q.trans (by decide))]; simp
    · rw [e 8 (q.trans (by decide))]; simp
    · rw [e 9 (q.trans (by decide))]; simp
  · exact Or.inl h
theorem out_tb {x : Int32} {n : Int} (h : ¬ (0 ≤ x.toInt ∧ x.toInt ≤ n)) : x.toInt < 0 ∨ n < x.toInt := by omega
theorem slot_1 {x : Int32} (h : x < 0) : (1 : Int32) = if 0 ≤ x.toInt ∧ x.toInt ≤ 3 then 0 else 1 := by
  rw [lt32, z32] at h
  rw [if_neg (by omega)]
theorem slot_2 {x : Int32} (h : ¬ x < 4) : (1 : Int32) = if 0 ≤ x.toInt ∧ x.toInt ≤ 3 then 0 else 1 := by
  rw [lt32, show (4 : Int32).toInt = 4 by decide] at h
  rw [if_neg (by omega)]
theorem slot_3 {x : Int32} (h : ¬ x < 0) (h2 : x < 4) : (0 : Int32) = if 0 ≤ x.toInt ∧ x.toInt ≤ 3 then 0 else 1 := by
  rw [lt32, z32] at h
  rw [lt32, show (4 : Int32).toInt = 4 by decide] at h2
  rw [if_pos (by omega)]

def v_r_M_in : List Cond := .code yX8_in cX8_in 6 (some .boolean) :: ([])
set_option maxHeartbeats 2000000 in
set_option maxRecDepth 100000 in
theorem r_M_in (l : Launch) (D : va_G) (E : Nat → ClassId) (sz : Nat) (h0 : Nat) (u : Nat → Nat) (a1 : Int64) (a2 : Int64) (a3 : Int64) : Met l yX8_in v_r_M_in ({ frames := 0, cells := 0, slots := 0, locals := 0 }) (va_Pc [.long a1, .long a2, .long a3] (pre D E (wM E h0 u) sz)) (vp_Si (fun r => r = if a2.toInt ≤ a1.toInt ∧ a1.toInt ≤ a3.toInt then 1 else 0)) 0 0 (fun _ => False) := by
  refine c_read (cc := cX8_in) (maxL := 6) (ret := (some .boolean)) (by decide) rfl (Nat.le_of_ble_eq_true rfl) ?_
  intro p e s m below meth c ls ⟨hx, hb, hr, hts, hown, hlocks, hin, hml⟩ hP hK hD hN hl
  have hown : s.vm.findClass RX8 = some m.cls := hown
  have hl : lv_has ls 6 [(0, .long a1), (2, .long a2), (4, .long a3)] := hl
  refine lv_lload_n hx hb dX8_in_0 rfl (lv_at hl 0 rfl) ?_
  refine lv_lload_n hx hb dX8_in_1 rfl (lv_at hl 1 rfl) ?_
  refine W.lcmp hx hb dX8_in_2 ?_
  refine lv_if_lt (tgt := 17) hx hb dX8_in_3 (by decide) (fun h_1 => ?_) (fun h_1 => ?_)
  · refine lv_iconst (v := 0) hx hb dX8_in_17 (by decide) ?_
    exact e_s (v := 0) hx hb hr rfl (in_1 h_1) hlocks dX8_in_18
  · refine lv_lload_n hx hb dX8_in_6 rfl (lv_at hl 0 rfl) ?_
    refine lv_lload hx hb dX8_in_7 (lv_at hl 2 rfl) ?_
    refine W.lcmp hx hb dX8_in_9 ?_
    refine lv_if_gt (tgt := 17) hx hb dX8_in_10 (by decide) (fun h_2 => ?_) (fun h_2 => ?_)
    · refine lv_iconst (v := 0) hx hb dX8_in_17 (by decide) ?_
      exact e_s (v := 0) hx hb hr rfl (in_2 h_2) hlocks dX8_in_18
    · refine lv_iconst (v := 1) hx hb dX8_in_13 (by decide) ?_
      refine lv_goto (tgt := 18) hx hb dX8_in_14 (by decide) ?_
      exact e_s (v := 1) hx hb hr rfl (in_3 h_1 h_2) hlocks dX8_in_18

def v_r_M_isSquare : List Cond := .code yX8_isSquare cX8_isSquare 1 (some .boolean) :: ([.fieldLink RX8 9 "UnseenClockModel" "world" "[I"] ++ (wsX80))
theorem in_r_M_isSquare_X8 : ∀ w ∈ u_ws RX8 TX8 41, w ∈ v_r_M_isSquare := fun w h => List.mem_cons_of_mem _ (List.mem_append_right _ (h))
set_option maxHeartbeats 2000000 in
set_option maxRecDepth 100000 in
theorem r_M_isSquare (l : Launch) (D : va_G) (E : Nat → ClassId) (sz : Nat) (h0 : Nat) (u : Nat → Nat)  : Met l yX8_isSquare v_r_M_isSquare ({ frames := 0, cells := 0, slots := 0, locals := 0 }) (va_Pc [.ref h0] (pre D E (wM E h0 u) sz)) (vp_Si (fun r => r = 0)) 0 0 (fun _ => False) := by
  refine c_read (cc := cX8_isSquare) (maxL := 1) (ret := (some .boolean)) (by decide) rfl (Nat.le_of_ble_eq_true rfl) ?_
  intro p e s m below meth c ls ⟨hx, hb, hr, hts, hown, hlocks, hin, hml⟩ hP hK hD hN hl
  have hown : s.vm.findClass RX8 = some m.cls := hown
  have hl : lv_has ls 1 [(0, .ref h0)] := hl
  refine lv_aload_n hx hb dX8_isSquare_0 rfl (lv_at hl 0 rfl) ?_
  refine va_get (ci := 8) (v := .ref (u 0)) (C := RX8) (T := TX8) (N := 41) hx hb hts in_r_M_isSquare_X8 hown hK hP 0 rfl rfl 1 (by decide) (hts (.fieldLink RX8 9 "UnseenClockModel" "world" "[I") (List.mem_of_getElem? (i := 1) rfl)) (fun _ h9 => h9) rfl dX8_isSquare_1 ?_
  refine lv_iconst (v := 4) hx hb dX8_isSquare_4 (by decide) ?_
  refine va_iald hx hb hK hP 1 0 rfl rfl (by unfold vp_in; decide) dX8_isSquare_5 ?_
  refine lv_toc (y := 0) rfl ?_
  refine lv_if_le (tgt := 13) hx hb dX8_isSquare_6 (by decide) (fun _ => ?_) (fun h9 => absurd (by decide) h9)
  refine lv_iconst (v := 0) hx hb dX8_isSquare_13 (by decide) ?_
  exact e_s (v := 0) hx hb hr rfl rfl hlocks dX8_isSquare_14

def v_r_M_isClock : List Cond := .code yX8_isClock cX8_isClock 2 (some .boolean) :: ([.fieldLink RX8 9 "UnseenClockModel" "world" "[I", .code yX8_in cX8_in 6 (some .boolean), .methodLink RX8 104 yX8_in, .static yX8_in, .initialized RX8] ++ (wsX80))
theorem in_r_M_isClock_X8 : ∀ w ∈ u_ws RX8 TX8 41, w ∈ v_r_M_isClock := fun w h => List.mem_cons_of_mem _ (List.mem_append_right _ (h))
set_option maxRecDepth 20000 in
theorem g_r_M_isClock_r_M_in : GoodIn v_r_M_isClock (va_wsS RX8 104 yX8_in v_r_M_in) := g_rows _ [3, 4, 5, 2] rfl (by decide +kernel)
set_option maxHeartbeats 2000000 in
set_option maxRecDepth 100000 in
theorem r_M_isClock (l : Launch) (D : va_G) (E : Nat → ClassId) (sz : Nat) (h0 : Nat) (u : Nat → Nat) (a1 : Int32) : Met l yX8_isClock v_r_M_isClock ({ frames := 1, cells := 0, slots := 0, locals := 25 }) (va_Pc [.ref h0, .int a1] (pre D E (wM E h0 u) sz)) (vp_Si (fun r => r = 0)) 0 0 (fun _ => False) := by
  refine c_read (cc := cX8_isClock) (maxL := 2) (ret := (some .boolean)) (by decide) rfl (Nat.le_of_ble_eq_true rfl) ?_
  intro p e s m below meth c ls ⟨hx, hb, hr, hts, hown, hlocks, hin, hml⟩ hP hK hD hN hl
  have hown : s.vm.findClass RX8 = some m.cls := hown
  have hl : lv_has ls 2 [(0, .ref h0), (1, .int a1)] := hl
  refine lv_iload_n hx hb dX8_isClock_0 rfl (lv_at hl 1 rfl) ?_
  refine lv_i2l (v := Int32.toInt64 a1) hx hb dX8_isClock_1 rfl ?_
  refine lv_lconst (v := 0) hx hb dX8_isClock_2 (by decide) ?_
  refine lv_aload_n hx hb dX8_isClock_3 rfl (lv_at hl 0 rfl) ?_
  refine va_get (ci := 8) (v := .ref (u 0)) (C := RX8) (T := TX8) (N := 41) hx hb hts in_r_M_isClock_X8 hown hK hP 0 rfl rfl 1 (by decide) (hts (.fieldLink RX8 9 "UnseenClockModel" "world" "[I") (List.mem_of_getElem? (i := 1) rfl)) (fun _ h9 => h9) rfl dX8_isClock_4 ?_
  refine lv_iconst (v := 1) hx hb dX8_isClock_7 (by decide) ?_
  refine va_iald hx hb hK hP 1 0 rfl rfl (by unfold vp_in; decide) dX8_isClock_8 ?_
  refine lv_toc (y := 0) rfl ?_
  refine lv_iconst (v := 1) hx hb dX8_isClock_9 (by decide) ?_
  refine lv_isub hx hb dX8_isClock_10 ?_
  refine lv_toc (y := (-1)) (by decide) ?_
  refine lv_i2l (v := (-1)) hx hb dX8_isClock_11 (by decide) ?_
  refine vp_callSi (W.runS (As := [.long (Int32.toInt64 a1), .long 0, .long (-1)]) (rest := []) ⟨hx, hb, hml, hown, hts⟩ (r_M_in l D E s.heap.size h0 u (Int32.toInt64 a1) 0 (-1)) (va_cwS 3 hts g_r_M_isClock_r_M_in rfl rfl rfl (by decide +kernel) ⟨Nat.le_of_ble_eq_true rfl, Nat.le_of_ble_eq_true rfl⟩) ⟨pre_blind, pre_at hP hK hD hN⟩ rfl rfl hl.1 rfl (lv_room (Nat.le_of_ble_eq_true rfl)) dX8_isClock_12 ⟨Nat.le_of_ble_eq_true rfl, Nat.le_of_ble_eq_true rfl⟩) (fun r_1 er_1 => ?_)
  subst er_1
  refine lv_toc (y := 0) (in_no _) ?_
  exact e_s (v := 0) hx hb hr rfl rfl hlocks dX8_isClock_15

def v_r_M_isPerson : List Cond := .code yX8_isPerson cX8_isPerson 2 (some .boolean) :: ([.fieldLink RX8 9 "UnseenClockModel" "world" "[I", .code yX8_in cX8_in 6 (some .boolean), .methodLink RX8 104 yX8_in, .static yX8_in, .initialized RX8] ++ (wsX80))
theorem in_r_M_isPerson_X8 : ∀ w ∈ u_ws RX8 TX8 41, w ∈ v_r_M_isPerson := fun w h => List.mem_cons_of_mem _ (List.mem_append_right _ (h))
set_option maxRecDepth 20000 in
theorem g_r_M_isPerson_r_M_in : GoodIn v_r_M_isPerson (va_wsS RX8 104 yX8_in v_r_M_in) := g_rows _ [3, 4, 5, 2] rfl (by decide +kernel)
set_option maxHeartbeats 2000000 in
set_option maxRecDepth 100000 in
theorem r_M_isPerson (l : Launch) (D : va_G) (E : Nat → ClassId) (sz : Nat) (h0 : Nat) (u : Nat → Nat) (a1 : Int32) : Met l yX8_isPerson v_r_M_isPerson ({ frames := 1, cells := 0, slots := 0, locals := 25 }) (va_Pc [.ref h0, .int a1] (pre D E (wM E h0 u) sz)) (vp_Si (fun r => r = 0)) 0 0 (fun _ => False) := by
  refine c_read (cc := cX8_isPerson) (maxL := 2) (ret := (some .boolean)) (by decide) rfl (Nat.le_of_ble_eq_true rfl) ?_
  intro p e s m below meth c ls ⟨hx, hb, hr, hts, hown, hlocks, hin, hml⟩ hP hK hD hN hl
  have hown : s.vm.findClass RX8 = some m.cls := hown
  have hl : lv_has ls 2 [(0, .ref h0), (1, .int a1)] := hl
  refine lv_iload_n hx hb dX8_isPerson_0 rfl (lv_at hl 1 rfl) ?_
  refine lv_i2l (v := Int32.toInt64 a1) hx hb dX8_isPerson_1 rfl ?_
  refine lv_lconst (v := 0) hx hb dX8_isPerson_2 (by decide) ?_
  refine lv_aload_n hx hb dX8_isPerson_3 rfl (lv_at hl 0 rfl) ?_
  refine va_get (ci := 8) (v := .ref (u 0)) (C := RX8) (T := TX8) (N := 41) hx hb hts in_r_M_isPerson_X8 hown hK hP 0 rfl rfl 1 (by decide) (hts (.fieldLink RX8 9 "UnseenClockModel" "world" "[I") (List.mem_of_getElem? (i := 1) rfl)) (fun _ h9 => h9) rfl dX8_isPerson_4 ?_
  refine lv_iconst (v := 2) hx hb dX8_isPerson_7 (by decide) ?_
  refine va_iald hx hb hK hP 1 0 rfl rfl (by unfold vp_in; decide) dX8_isPerson_8 ?_
  refine lv_toc (y := 0) rfl ?_
  refine lv_iconst (v := 1) hx hb dX8_isPerson_9 (by decide) ?_
  refine lv_isub hx hb dX8_isPerson_10 ?_
  refine lv_toc (y := (-1)) (by decide) ?_
  refine lv_i2l (v := (-1)) hx hb dX8_isPerson_11 (by decide) ?_
  refine vp_callSi (W.runS (As := [.long (Int32.toInt64 a1), .long 0, .long (-1)]) (rest := []) ⟨hx, hb, hml, hown, hts⟩ (r_M_in l D E s.heap.size h0 u (Int32.toInt64 a1) 0 (-1)) (va_cwS 3 hts g_r_M_isPerson_r_M_in rfl rfl rfl (by decide +kernel) ⟨Nat.le_of_ble_eq_true rfl, Nat.le_of_ble_eq_true rfl⟩) ⟨pre_blind, pre_at hP hK hD hN⟩ rfl rfl hl.1 rfl (lv_room (Nat.le_of_ble_eq_true rfl)) dX8_isPerson_12 ⟨Nat.le_of_ble_eq_true rfl, Nat.le_of_ble_eq_true rfl⟩) (fun r_1 er_1 => ?_)
  subst er_1
  refine lv_toc (y := 0) (in_no _) ?_
  exact e_s (v := 0) hx hb hr rfl rfl hlocks dX8_isPerson_15

def v_r_M_isTime : List Cond := .code yX8_isTime cX8_isTime 2 (some .boolean) :: ([.fieldLink RX8 9 "UnseenClockModel" "world" "[I", .code yX8_isSquare cX8_isSquare 1 (some .boolean), .methodLink RX8 108 yX8_isSquare, .instanceMethod yX8_isSquare, .selects RX8 yX8_isSquare yX8_isSquare, .initialized RX8] ++ (wsX80))
theorem in_r_M_isTime_X8 : ∀ w ∈ u_ws RX8 TX8 41, w ∈ v_r_M_isTime := fun w h => List.mem_cons_of_mem _ (List.mem_append_right _ (h))
set_option maxRecDepth 20000 in
theorem g_r_M_isTime_r_M_isSquare : GoodIn v_r_M_isTime (wsV RX8 108 RX8 yX8_isSquare v_r_M_isSquare) := g_rows _ [3, 4, 5, 6, 2, 1, 7, 8, 9, 10, 11, 12, 13, 14, 15, 16, 17, 18, 19, 20, 21, 22, 23, 24, 25, 26, 27, 28, 29, 30, 31, 32, 33, 34, 35, 36, 37, 38, 39, 40, 41, 42, 43, 44, 45, 46, 47] rfl (by decide +kernel)
set_option maxHeartbeats 2000000 in
set_option maxRecDepth 100000 in
theorem r_M_isTime (l : Launch) (D : va_G) (E : Nat → ClassId) (sz : Nat) (h0 : Nat) (u : Nat → Nat) (a1 : Int32) : Met l yX8_isTime v_r_M_isTime ({ frames := 1, cells := 0, slots := 0, locals := 20 }) (va_Pc [.ref h0, .int a1] (pre D E (wM E h0 u) sz)) (vp_Si (fun r => r = 0)) 0 0 (fun _ => False) := by
  refine c_read (cc := cX8_isTime) (maxL := 2) (ret := (some .boolean)) (by decide) rfl (Nat.le_of_ble_eq_true rfl) ?_
  intro p e s m below meth c ls ⟨hx, hb, hr, hts, hown, hlocks, hin, hml⟩ hP hK hD hN hl
  have hown : s.vm.findClass RX8 = some m.cls := hown
  have hl : lv_has ls 2 [(0, .ref h0), (1, .int a1)] := hl
  refine lv_aload_n hx hb dX8_isTime_0 rfl (lv_at hl 0 rfl) ?_
  refine vp_callSi (W.runV (As := []) (rest := []) ⟨hx, hb, hml, hown, hts⟩ (r_M_isSquare l D E s.heap.size h0 u ) (cwV 0 hts g_r_M_isTime_r_M_isSquare rfl rfl rfl (by decide +kernel) ⟨Nat.le_of_ble_eq_true rfl, Nat.le_of_ble_eq_true rfl⟩) ⟨pre_blind, va_recv hK hP (ci := 8) (q0 := 0) rfl rfl, pre_at hP hK hD hN⟩ rfl rfl hl.1 rfl (lv_room (Nat.le_of_ble_eq_true rfl)) dX8_isTime_1 ⟨Nat.le_of_ble_eq_true rfl, Nat.le_of_ble_eq_true rfl⟩) (fun r_1 er_1 => ?_)
  subst er_1
  refine lv_if_eq (tgt := 28) hx hb dX8_isTime_4 (by decide) (fun _ => ?_) (fun h9 => absurd (by decide) h9)
  refine lv_iconst (v := 0) hx hb dX8_isTime_28 (by decide) ?_
  exact e_s (v := 0) hx hb hr rfl rfl hlocks dX8_isTime_29

def v_r_M_isAsked : List Cond := .code yX8_isAsked cX8_isAsked 5 (some .boolean) :: ([.fieldLink RX8 9 "UnseenClockModel" "world" "[I", .code yX8_in cX8_in 6 (some .boolean), .methodLink RX8 104 yX8_in, .static yX8_in, .initialized RX8, .code yX8_isPerson cX8_isPerson 2 (some .boolean), .methodLink RX8 307 yX8_isPerson, .instanceMethod yX8_isPerson, .selects RX8 yX8_isPerson yX8_isPerson] ++ (wsX80))
theorem in_r_M_isAsked_X8 : ∀ w ∈ u_ws RX8 TX8 41, w ∈ v_r_M_isAsked := fun w h => List.mem_cons_of_mem _ (List.mem_append_right _ (h))
set_option maxRecDepth 20000 in
theorem g_r_M_isAsked_r_M_isPerson : GoodIn v_r_M_isAsked (wsV RX8 307 RX8 yX8_isPerson v_r_M_isPerson) := g_rows _ [7, 8, 9, 5, 6, 1, 2, 3, 4, 5, 10, 11, 12, 13, 14, 15, 16, 17, 18, 19, 20, 21, 22, 23, 24, 25, 26, 27, 28, 29, 30, 31, 32, 33, 34, 35, 36, 37, 38, 39, 40, 41, 42, 43, 44, 45, 46, 47, 48, 49, 50] rfl (by decide +kernel)
set_option maxHeartbeats 2000000 in
set_option maxRecDepth 100000 in
theorem r_M_isAsked (l : Launch) (D : va_G) (E : Nat → ClassId) (sz : Nat) (h0 : Nat) (u : Nat → Nat) (a1 : Int32) (a2 : Int32) (a3 : Int32) (a4 : Int32) : Met l yX8_isAsked v_r_M_isAsked ({ frames := 2, cells := 0, slots := 0, locals := 46 }) (va_Pc [.ref h0, .int a1, .int a2, .int a3, .int a4] (pre D E (wM E h0 u) sz)) (vp_Si (fun r => r = 0)) 0 0 (fun _ => False) := by
  refine c_read (cc := cX8_isAsked) (maxL := 5) (ret := (some .boolean)) (by decide) rfl (Nat.le_of_ble_eq_true rfl) ?_
  intro p e s m below meth c ls ⟨hx, hb, hr, hts, hown, hlocks, hin, hml⟩ hP hK hD hN hl
  have hown : s.vm.findClass RX8 = some m.cls := hown
  have hl : lv_has ls 5 [(0, .ref h0), (1, .int a1), (2, .int a2), (3, .int a3), (4, .int a4)] := hl
  refine lv_aload_n hx hb dX8_isAsked_0 rfl (lv_at hl 0 rfl) ?_
  refine lv_iload_n hx hb dX8_isAsked_1 rfl (lv_at hl 1 rfl) ?_
  refine vp_callSi (W.runV (As := [.int a1]) (rest := []) ⟨hx, hb, hml, hown, hts⟩ (r_M_isPerson l D E s.heap.size h0 u a1) (cwV 1 hts g_r_M_isAsked_r_M_isPerson rfl rfl rfl (by decide +kernel) ⟨Nat.le_of_ble_eq_true rfl, Nat.le_of_ble_eq_true rfl⟩) ⟨pre_blind, va_recv hK hP (ci := 8) (q0 := 0) rfl rfl, pre_at hP hK hD hN⟩ rfl rfl hl.1 rfl (lv_room (Nat.le_of_ble_eq_true rfl)) dX8_isAsked_2 ⟨Nat.le_of_ble_eq_true rfl, Nat.le_of_ble_eq_true rfl⟩) (fun r_1 er_1 => ?_)
  subst er_1
  refine lv_if_eq (tgt := 36) hx hb dX8_isAsked_5 (by decide) (fun _ => ?_) (fun h9 => absurd (by decide) h9)
  refine lv_iconst (v := 0) hx hb dX8_isAsked_36 (by decide) ?_
  exact e_s (v := 0) hx hb hr rfl rfl hlocks dX8_isAsked_37

def v_r_M_areTwo : List Cond := .code yX8_areTwo cX8_areTwo 3 (some .boolean) :: ([.fieldLink RX8 9 "UnseenClockModel" "world" "[I", .code yX8_in cX8_in 6 (some .boolean), .methodLink RX8 104 yX8_in, .static yX8_in, .initialized RX8, .code yX8_isPerson cX8_isPerson 2 (some .boolean), .methodLink RX8 307 yX8_isPerson, .instanceMethod yX8_isPerson, .selects RX8 yX8_isPerson yX8_isPerson] ++ (wsX80))
theorem in_r_M_areTwo_X8 : ∀ w ∈ u_ws RX8 TX8 41, w ∈ v_r_M_areTwo := fun w h => List.mem_cons_of_mem _ (List.mem_append_right _ (h))
set_option maxRecDepth 20000 in
theorem g_r_M_areTwo_r_M_isPerson : GoodIn v_r_M_areTwo (wsV RX8 307 RX8 yX8_isPerson v_r_M_isPerson) := g_rows _ [7, 8, 9, 5, 6, 1, 2, 3, 4, 5, 10, 11, 12, 13, 14, 15, 16, 17, 18, 19, 20, 21, 22, 23, 24, 25, 26, 27, 28, 29, 30, 31, 32, 33, 34, 35, 36, 37, 38, 39, 40, 41, 42, 43, 44, 45, 46, 47, 48, 49, 50] rfl (by decide +kernel)
set_option maxHeartbeats 2000000 in
set_option maxRecDepth 100000 in
theorem r_M_areTwo (l : Launch) (D : va_G) (E : Nat → ClassId) (sz : Nat) (h0 : Nat) (u : Nat → Nat) (a1 : Int32) (a2 : Int32) : Met l yX8_areTwo v_r_M_areTwo ({ frames := 2, cells := 0, slots := 0, locals := 46 }) (va_Pc [.ref h0, .int a1, .int a2] (pre D E (wM E h0 u) sz)) (vp_Si (fun r => r = 0)) 0 0 (fun _ => False) := by
  refine c_read (cc := cX8_areTwo) (maxL := 3) (ret := (some .boolean)) (by decide) rfl (Nat.le_of_ble_eq_true rfl) ?_
  intro p e s m below meth c ls ⟨hx, hb, hr, hts, hown, hlocks, hin, hml⟩ hP hK hD hN hl
  have hown : s.vm.findClass RX8 = some m.cls := hown
  have hl : lv_has ls 3 [(0, .ref h0), (1, .int a1), (2, .int a2)] := hl
  refine lv_aload_n hx hb dX8_areTwo_0 rfl (lv_at hl 0 rfl) ?_
  refine lv_iload_n hx hb dX8_areTwo_1 rfl (lv_at hl 1 rfl) ?_
  refine vp_callSi (W.runV (As := [.int a1]) (rest := []) ⟨hx, hb, hml, hown, hts⟩ (r_M_isPerson l D E s.heap.size h0 u a1) (cwV 1 hts g_r_M_areTwo_r_M_isPerson rfl rfl rfl (by decide +kernel) ⟨Nat.le_of_ble_eq_true rfl, Nat.le_of_ble_eq_true rfl⟩) ⟨pre_blind, va_recv hK hP (ci := 8) (q0 := 0) rfl rfl, pre_at hP hK hD hN⟩ rfl rfl hl.1 rfl (lv_room (Nat.le_of_ble_eq_true rfl)) dX8_areTwo_2 ⟨Nat.le_of_ble_eq_true rfl, Nat.le_of_ble_eq_true rfl⟩) (fun r_1 er_1 => ?_)
  subst er_1
  refine lv_if_eq (tgt := 25) hx hb dX8_areTwo_5 (by decide) (fun _ => ?_) (fun h9 => absurd (by decide) h9)
  refine lv_iconst (v := 0) hx hb dX8_areTwo_25 (by decide) ?_
  exact e_s (v := 0) hx hb hr rfl rfl hlocks dX8_areTwo_26

def v_r_X_noSquare : List Cond := .code yX7_noSquare cX7_noSquare 1 (some .boolean) :: ([.fieldLink RX7 27 "UnseenClock" "plan" "LUnseenClock$Plan;", .fieldLink RX7 81 "UnseenClock$Plan" "lines" "I"] ++ (wsX70 ++ (wsX30)))
theorem in_r_X_noSquare_X7 : ∀ w ∈ u_ws RX7 TX7 14, w ∈ v_r_X_noSquare := fun w h => List.mem_cons_of_mem _ (List.mem_append_right _ (List.mem_append_left _ h))
theorem in_r_X_noSquare_X3 : ∀ w ∈ u_ws RX3 TX3 12, w ∈ v_r_X_noSquare := fun w h => List.mem_cons_of_mem _ (List.mem_append_right _ (List.mem_append_right _ (h)))
set_option maxHeartbeats 2000000 in
set_option maxRecDepth 100000 in
theorem r_X_noSquare (l : Launch) (D : va_G) (E : Nat → ClassId) (sz : Nat) (h0 : Nat) (u : Nat → Nat)  : Met l yX7_noSquare v_r_X_noSquare ({ frames := 0, cells := 0, slots := 0, locals := 0 }) (va_Pc [.ref h0] (pre D E (wX E h0 u) sz)) (vp_Si (fun r => r = 1)) 0 0 (fun _ => False) := by
  refine c_read (cc := cX7_noSquare) (maxL := 1) (ret := (some .boolean)) (by decide) rfl (Nat.le_of_ble_eq_true rfl) ?_
  intro p e s m below meth c ls ⟨hx, hb, hr, hts, hown, hlocks, hin, hml⟩ hP hK hD hN hl
  have hown : s.vm.findClass RX7 = some m.cls := hown
  have hl : lv_has ls 1 [(0, .ref h0)] := hl
  refine lv_aload_n hx hb dX7_noSquare_0 rfl (lv_at hl 0 rfl) ?_
  refine va_get (ci := 7) (v := .ref (u 0)) (C := RX7) (T := TX7) (N := 14) hx hb hts in_r_X_noSquare_X7 hown hK hP 0 rfl rfl 5 (by decide) (hts (.fieldLink RX7 27 "UnseenClock" "plan" "LUnseenClock$Plan;") (List.mem_of_getElem? (i := 1) rfl)) (fun _ h9 => h9) rfl dX7_noSquare_1 ?_
  refine va_get (ci := 3) (v := .int 0) (C := RX3) (T := TX3) (N := 12) hx hb hts in_r_X_noSquare_X3 hown hK hP 1 rfl rfl 3 (by decide) (hts (.fieldLink RX7 81 "UnseenClock$Plan" "lines" "I") (List.mem_of_getElem? (i := 2) rfl)) (fun _ h9 => h9) rfl dX7_noSquare_4 ?_
  refine lv_if_ne (tgt := 14) hx hb dX7_noSquare_7 (by decide) (fun h9 => absurd (by decide) h9) (fun _ => ?_)
  refine lv_iconst (v := 1) hx hb dX7_noSquare_10 (by decide) ?_
  refine lv_goto (tgt := 15) hx hb dX7_noSquare_11 (by decide) ?_
  exact e_s (v := 1) hx hb hr rfl rfl hlocks dX7_noSquare_15

def v_r_X_noPerson : List Cond := .code yX7_noPerson cX7_noPerson 2 (some .boolean) :: ([.fieldLink RX7 27 "UnseenClock" "plan" "LUnseenClock$Plan;", .fieldLink RX7 115 "UnseenClock$Plan" "people" "I"] ++ (wsX70 ++ (wsX30)))
theorem in_r_X_noPerson_X7 : ∀ w ∈ u_ws RX7 TX7 14, w ∈ v_r_X_noPerson := fun w h => List.mem_cons_of_mem _ (List.mem_append_right _ (List.mem_append_left _ h))
theorem in_r_X_noPerson_X3 : ∀ w ∈ u_ws RX3 TX3 12, w ∈ v_r_X_noPerson := fun w h => List.mem_cons_of_mem _ (List.mem_append_right _ (List.mem_append_right _ (h)))
set_option maxHeartbeats 2000000 in
set_option maxRecDepth 100000 in
theorem r_X_noPerson (l : Launch) (D : va_G) (E : Nat → ClassId) (sz : Nat) (h0 : Nat) (u : Nat → Nat) (a1 : Int32) : Met l yX7_noPerson v_r_X_noPerson ({ frames := 0, cells := 0, slots := 0, locals := 0 }) (va_Pc [.ref h0, .int a1] (pre D E (wX E h0 u) sz)) (vp_Si (fun r => r = 1)) 0 0 (fun _ => False) := by
  refine c_read (cc := cX7_noPerson) (maxL := 2) (ret := (some .boolean)) (by decide) rfl (Nat.le_of_ble_eq_true rfl) ?_
  intro p e s m below meth c ls ⟨hx, hb, hr, hts, hown, hlocks, hin, hml⟩ hP hK hD hN hl
  have hown : s.vm.findClass RX7 = some m.cls := hown
  have hl : lv_has ls 2 [(0, .ref h0), (1, .int a1)] := hl
  refine lv_iload_n hx hb dX7_noPerson_0 rfl (lv_at hl 1 rfl) ?_
  refine lv_if_lt (tgt := 15) hx hb dX7_noPerson_1 (by decide) (fun h_1 => ?_) (fun h_1 => ?_)
  · refine lv_iconst (v := 1) hx hb dX7_noPerson_15 (by decide) ?_
    refine lv_goto (tgt := 20) hx hb dX7_noPerson_16 (by decide) ?_
    exact e_s (v := 1) hx hb hr rfl rfl hlocks dX7_noPerson_20
  · refine lv_iload_n hx hb dX7_noPerson_4 rfl (lv_at hl 1 rfl) ?_
    refine lv_aload_n hx hb dX7_noPerson_5 rfl (lv_at hl 0 rfl) ?_
    refine va_get (ci := 7) (v := .ref (u 0)) (C := RX7) (T := TX7) (N := 14) hx hb hts in_r_X_noPerson_X7 hown hK hP 0 rfl rfl 5 (by decide) (hts (.fieldLink RX7 27 "UnseenClock" "plan" "LUnseenClock$Plan;") (List.mem_of_getElem? (i := 1) rfl)) (fun _ h9 => h9) rfl dX7_noPerson_6 ?_
    refine va_get (ci := 3) (v := .int 0) (C := RX3) (T := TX3) (N := 12) hx hb hts in_r_X_noPerson_X3 hown hK hP 1 rfl rfl 6 (by decide) (hts (.fieldLink RX7 115 "UnseenClock$Plan" "people" "I") (List.mem_of_getElem? (i := 2) rfl)) (fun _ h9 => h9) rfl dX7_noPerson_9 ?_
    refine lv_icmp_lt (tgt := 19) hx hb dX7_noPerson_12 (by decide) (fun h9 => absurd h9 h_1) (fun _ => ?_)
    refine lv_iconst (v := 1) hx hb dX7_noPerson_15 (by decide) ?_
    refine lv_goto (tgt := 20) hx hb dX7_noPerson_16 (by decide) ?_
    exact e_s (v := 1) hx hb hr rfl rfl hlocks dX7_noPerson_20

def v_r_X_noClock : List Cond := .code yX7_noClock cX7_noClock 2 (some .boolean) :: ([.fieldLink RX7 27 "UnseenClock" "plan" "LUnseenClock$Plan;", .fieldLink RX7 118 "UnseenClock$Plan" "clocks" "I"] ++ (wsX70 ++ (wsX30)))
theorem in_r_X_noClock_X7 : ∀ w ∈ u_ws RX7 TX7 14, w ∈ v_r_X_noClock := fun w h => List.mem_cons_of_mem _ (List.mem_append_right _ (List.mem_append_left _ h))
theorem in_r_X_noClock_X3 : ∀ w ∈ u_ws RX3 TX3 12, w ∈ v_r_X_noClock := fun w h => List.mem_cons_of_mem _ (List.mem_append_right _ (List.mem_append_right _ (h)))
set_option maxHeartbeats 2000000 in
set_option maxRecDepth 100000 in
theorem r_X_noClock (l : Launch) (D : va_G) (E : Nat → ClassId) (sz : Nat) (h0 : Nat) (u : Nat → Nat) (a1 : Int32) : Met l yX7_noClock v_r_X_noClock ({ frames := 0, cells := 0, slots := 0, locals := 0 }) (va_Pc [.ref h0, .int a1] (pre D E (wX E h0 u) sz)) (vp_Si (fun r => r = 1)) 0 0 (fun _ => False) := by
  refine c_read (cc := cX7_noClock) (maxL := 2) (ret := (some .boolean)) (by decide) rfl (Nat.le_of_ble_eq_true rfl) ?_
  intro p e s m below meth c ls ⟨hx, hb, hr, hts, hown, hlocks, hin, hml⟩ hP hK hD hN hl
  have hown : s.vm.findClass RX7 = some m.cls := hown
  have hl : lv_has ls 2 [(0, .ref h0), (1, .int a1)] := hl
  refine lv_iload_n hx hb dX7_noClock_0 rfl (lv_at hl 1 rfl) ?_
  refine lv_if_lt (tgt := 15) hx hb dX7_noClock_1 (by decide) (fun h_1 => ?_) (fun h_1 => ?_)
  · refine lv_iconst (v := 1) hx hb dX7_noClock_15 (by decide) ?_
    refine lv_goto (tgt := 20) hx hb dX7_noClock_16 (by decide) ?_
    exact e_s (v := 1) hx hb hr rfl rfl hlocks dX7_noClock_20
  · refine lv_iload_n hx hb dX7_noClock_4 rfl (lv_at hl 1 rfl) ?_
    refine lv_aload_n hx hb dX7_noClock_5 rfl (lv_at hl 0 rfl) ?_
    refine va_get (ci := 7) (v := .ref (u 0)) (C := RX7) (T := TX7) (N := 14) hx hb hts in_r_X_noClock_X7 hown hK hP 0 rfl rfl 5 (by decide) (hts (.fieldLink RX7 27 "UnseenClock" "plan" "LUnseenClock$Plan;") (List.mem_of_getElem? (i := 1) rfl)) (fun _ h9 => h9) rfl dX7_noClock_6 ?_
    refine va_get (ci := 3) (v := .int 0) (C := RX3) (T := TX3) (N := 12) hx hb hts in_r_X_noClock_X3 hown hK hP 1 rfl rfl 5 (by decide) (hts (.fieldLink RX7 118 "UnseenClock$Plan" "clocks" "I") (List.mem_of_getElem? (i := 2) rfl)) (fun _ h9 => h9) rfl dX7_noClock_9 ?_
    refine lv_icmp_lt (tgt := 19) hx hb dX7_noClock_12 (by decide) (fun h9 => absurd h9 h_1) (fun _ => ?_)
    refine lv_iconst (v := 1) hx hb dX7_noClock_15 (by decide) ?_
    refine lv_goto (tgt := 20) hx hb dX7_noClock_16 (by decide) ?_
    exact e_s (v := 1) hx hb hr rfl rfl hlocks dX7_noClock_20

def v_r_X_noClockThen : List Cond := .code yX7_noClockThen cX7_noClockThen 3 (some .boolean) :: ([.fieldLink RX7 27 "UnseenClock" "plan" "LUnseenClock$Plan;", .fieldLink RX7 118 "UnseenClock$Plan" "clocks" "I", .code yX7_noClock cX7_noClock 2 (some .boolean), .methodLink RX7 121 yX7_noClock, .instanceMethod yX7_noClock, .selects RX7 yX7_noClock yX7_noClock, .initialized RX7] ++ (wsX70 ++ (wsX30)))
theorem in_r_X_noClockThen_X7 : ∀ w ∈ u_ws RX7 TX7 14, w ∈ v_r_X_noClockThen := fun w h => List.mem_cons_of_mem _ (List.mem_append_right _ (List.mem_append_left _ h))
theorem in_r_X_noClockThen_X3 : ∀ w ∈ u_ws RX3 TX3 12, w ∈ v_r_X_noClockThen := fun w h => List.mem_cons_of_mem _ (List.mem_append_right _ (List.mem_append_right _ (h)))
set_option maxRecDepth 20000 in
theorem g_r_X_noClockThen_r_X_noClock : GoodIn v_r_X_noClockThen (wsV RX7 121 RX7 yX7_noClock v_r_X_noClock) := g_rows _ [4, 5, 6, 7, 3, 1, 2, 8, 9, 10, 11, 12, 13, 14, 15, 16, 17, 18, 19, 20, 21, 22, 23, 24, 25, 26, 27, 28, 29, 30, 31, 32, 33] rfl (by decide +kernel)
set_option maxHeartbeats 2000000 in
set_option maxRecDepth 100000 in
theorem r_X_noClockThen (l : Launch) (D : va_G) (E : Nat → ClassId) (sz : Nat) (h0 : Nat) (u : Nat → Nat) (a1 : Int32) (a2 : Int32) : Met l yX7_noClockThen v_r_X_noClockThen ({ frames := 1, cells := 0, slots := 0, locals := 21 }) (va_Pc [.ref h0, .int a1, .int a2] (pre D E (wX E h0 u) sz)) (vp_Si (fun r => r = 1)) 0 0 (fun _ => False) := by
  refine c_read (cc := cX7_noClockThen) (maxL := 3) (ret := (some .boolean)) (by decide) rfl (Nat.le_of_ble_eq_true rfl) ?_
  intro p e s m below meth c ls ⟨hx, hb, hr, hts, hown, hlocks, hin, hml⟩ hP hK hD hN hl
  have hown : s.vm.findClass RX7 = some m.cls := hown
  have hl : lv_has ls 3 [(0, .ref h0), (1, .int a1), (2, .int a2)] := hl
  refine lv_aload_n hx hb dX7_noClockThen_0 rfl (lv_at hl 0 rfl) ?_
  refine lv_iload_n hx hb dX7_noClockThen_1 rfl (lv_at hl 1 rfl) ?_
  refine vp_callSi (W.runV (As := [.int a1]) (rest := []) ⟨hx, hb, hml, hown, hts⟩ (r_X_noClock l D E s.heap.size h0 u a1) (cwV 1 hts g_r_X_noClockThen_r_X_noClock rfl rfl rfl (by decide +kernel) ⟨Nat.le_of_ble_eq_true rfl, Nat.le_of_ble_eq_true rfl⟩) ⟨pre_blind, va_recv hK hP (ci := 7) (q0 := 0) rfl rfl, pre_at hP hK hD hN⟩ rfl rfl hl.1 rfl (lv_room (Nat.le_of_ble_eq_true rfl)) dX7_noClockThen_2 ⟨Nat.le_of_ble_eq_true rfl, Nat.le_of_ble_eq_true rfl⟩) (fun r_1 er_1 => ?_)
  subst er_1
  refine lv_if_ne (tgt := 16) hx hb dX7_noClockThen_5 (by decide) (fun _ => ?_) (fun h9 => absurd h9 (by decide))
  refine lv_iconst (v := 1) hx hb dX7_noClockThen_16 (by decide) ?_
  refine lv_goto (tgt := 21) hx hb dX7_noClockThen_17 (by decide) ?_
  exact e_s (v := 1) hx hb hr rfl rfl hlocks dX7_noClockThen_21

def v_r_X_noSeed : List Cond := .code yX7_noSeed cX7_noSeed 1 (some .boolean) :: ([.constant RX7 344 (2000000000)])
set_option maxHeartbeats 2000000 in
set_option maxRecDepth 100000 in
theorem r_X_noSeed (l : Launch) (D : va_G) (E : Nat → ClassId) (sz : Nat) (h0 : Nat) (u : Nat → Nat) (a1 : Int32) : Met l yX7_noSeed v_r_X_noSeed ({ frames := 0, cells := 0, slots := 0, locals := 0 }) (va_Pc [.int a1] (pre D E (wX E h0 u) sz)) (vp_Si (fun r => True)) 0 0 (fun _ => False) := by
  refine c_read (cc := cX7_noSeed) (maxL := 1) (ret := (some .boolean)) (by decide) rfl (Nat.le_of_ble_eq_true rfl) ?_
  intro p e s m below meth c ls ⟨hx, hb, hr, hts, hown, hlocks, hin, hml⟩ hP hK hD hN hl
  have hown : s.vm.findClass RX7 = some m.cls := hown
  have hl : lv_has ls 1 [(0, .int a1)] := hl
  refine lv_iload_n hx hb dX7_noSeed_0 rfl (lv_at hl 0 rfl) ?_
  refine lv_if_lt (tgt := 11) hx hb dX7_noSeed_1 (by decide) (fun h_1 => ?_) (fun h_1 => ?_)
  · refine lv_iconst (v := 1) hx hb dX7_noSeed_11 (by decide) ?_
    refine lv_goto (tgt := 16) hx hb dX7_noSeed_12 (by decide) ?_
    exact e_s (v := 1) hx hb hr rfl trivial hlocks dX7_noSeed_16
  · refine lv_iload_n hx hb dX7_noSeed_4 rfl (lv_at hl 0 rfl) ?_
    refine lv_ldcw (v := 2000000000) hx hb hown (hts (.constant RX7 344 (2000000000)) (List.mem_of_getElem? (i := 1) rfl)) dX7_noSeed_5 ?_
    refine lv_icmp_le (tgt := 15) hx hb dX7_noSeed_8 (by decide) (fun h_2 => ?_) (fun h_2 => ?_)
    · refine lv_iconst (v := 0) hx hb dX7_noSeed_15 (by decide) ?_
      exact e_s (v := 0) hx hb hr rfl trivial hlocks dX7_noSeed_16
    · refine lv_iconst (v := 1) hx hb dX7_noSeed_11 (by decide) ?_
      refine lv_goto (tgt := 16) hx hb dX7_noSeed_12 (by decide) ?_
      exact e_s (v := 1) hx hb hr rfl trivial hlocks dX7_noSeed_16

def v_r_X_noSlot : List Cond := .code yX7_noSlot cX7_noSlot 1 (some .boolean) :: ([])
set_option maxHeartbeats 2000000 in
set_option maxRecDepth 100000 in
theorem r_X_noSlot (l : Launch) (D : va_G) (E : Nat → ClassId) (sz : Nat) (h0 : Nat) (u : Nat → Nat) (a1 : Int32) : Met l yX7_noSlot v_r_X_noSlot ({ frames := 0, cells := 0, slots := 0, locals := 0 }) (va_Pc [.int a1] (pre D E (wX E h0 u) sz)) (vp_Si (fun r => r = if 0 ≤ a1.toInt ∧ a1.toInt ≤ 3 then 0 else 1)) 0 0 (fun _ => False) := by
  refine c_read (cc := cX7_noSlot) (maxL := 1) (ret := (some .boolean)) (by decide) rfl (Nat.le_of_ble_eq_true rfl) ?_
  intro p e s m below meth c ls ⟨hx, hb, hr, hts, hown, hlocks, hin, hml⟩ hP hK hD hN hl
  have hown : s.vm.findClass RX7 = some m.cls := hown
  have hl : lv_has ls 1 [(0, .int a1)] := hl
  refine lv_iload_n hx hb dX7_noSlot_0 rfl (lv_at hl 0 rfl) ?_
  refine lv_if_lt (tgt := 9) hx hb dX7_noSlot_1 (by decide) (fun h_1 => ?_) (fun h_1 => ?_)
  · refine lv_iconst (v := 1) hx hb dX7_noSlot_9 (by decide) ?_
    refine lv_goto (tgt := 14) hx hb dX7_noSlot_10 (by decide) ?_
    exact e_s (v := 1) hx hb hr rfl (slot_1 h_1) hlocks dX7_noSlot_14
  · refine lv_iload_n hx hb dX7_noSlot_4 rfl (lv_at hl 0 rfl) ?_
    refine lv_iconst (v := 4) hx hb dX7_noSlot_5 (by decide) ?_
    refine lv_icmp_lt (tgt := 13) hx hb dX7_noSlot_6 (by decide) (fun h_2 => ?_) (fun h_2 => ?_)
    · refine lv_iconst (v := 0) hx hb dX7_noSlot_13 (by decide) ?_
      exact e_s (v := 0) hx hb hr rfl (slot_3 h_1 h_2) hlocks dX7_noSlot_14
    · refine lv_iconst (v := 1) hx hb dX7_noSlot_9 (by decide) ?_
      refine lv_goto (tgt := 14) hx hb dX7_noSlot_10 (by decide) ?_
      exact e_s (v := 1) hx hb hr rfl (slot_2 h_2) hlocks dX7_noSlot_14

def v_r_X_leastKeeping : List Cond := .code yX7_leastKeeping cX7_leastKeeping 5 (some .int) :: ([.fieldLink RX7 27 "UnseenClock" "plan" "LUnseenClock$Plan;", .fieldLink RX7 118 "UnseenClock$Plan" "clocks" "I", .code yX7_noClock cX7_noClock 2 (some .boolean), .methodLink RX7 121 yX7_noClock, .instanceMethod yX7_noClock, .selects RX7 yX7_noClock yX7_noClock, .initialized RX7, .code yX7_noClockThen cX7_noClockThen 3 (some .boolean), .methodLink RX7 172 yX7_noClockThen, .instanceMethod yX7_noClockThen, .selects RX7 yX7_noClockThen yX7_noClockThen] ++ (wsX70 ++ (wsX30)))
theorem in_r_X_leastKeeping_X7 : ∀ w ∈ u_ws RX7 TX7 14, w ∈ v_r_X_leastKeeping := fun w h => List.mem_cons_of_mem _ (List.mem_append_right _ (List.mem_append_left _ h))
theorem in_r_X_leastKeeping_X3 : ∀ w ∈ u_ws RX3 TX3 12, w ∈ v_r_X_leastKeeping := fun w h => List.mem_cons_of_mem _ (List.mem_append_right _ (List.mem_append_right _ (h)))
set_option maxRecDepth 20000 in
theorem g_r_X_leastKeeping_r_X_noClockThen : GoodIn v_r_X_leastKeeping (wsV RX7 172 RX7 yX7_noClockThen v_r_X_noClockThen) := g_rows _ [9, 10, 11, 7, 8, 1, 2, 3, 4, 5, 6, 7, 12, 13, 14, 15, 16, 17, 18, 19, 20, 21, 22, 23, 24, 25, 26, 27, 28, 29, 30, 31, 32, 33, 34, 35, 36, 37] rfl (by decide +kernel)
set_option maxHeartbeats 2000000 in
set_option maxRecDepth 100000 in
theorem r_X_leastKeeping (l : Launch) (D : va_G) (E : Nat → ClassId) (sz : Nat) (h0 : Nat) (u : Nat → Nat) (a1 : Int32) (a2 : Int32) (a3 : Int32) : Met l yX7_leastKeeping v_r_X_leastKeeping ({ frames := 2, cells := 0, slots := 0, locals := 43 }) (va_Pc [.ref h0, .int a1, .int a2, .int a3] (pre D E (wX E h0 u) sz)) (vp_Si (fun r => r = -2)) 0 0 (fun _ => False) := by
  refine c_read (cc := cX7_leastKeeping) (maxL := 5) (ret := (some .int)) (by decide) rfl (Nat.le_of_ble_eq_true rfl) ?_
  intro p e s m below meth c ls ⟨hx, hb, hr, hts, hown, hlocks, hin, hml⟩ hP hK hD hN hl
  have hown : s.vm.findClass RX7 = some m.cls := hown
  have hl : lv_has ls 5 [(0, .ref h0), (1, .int a1), (2, .int a2), (3, .int a3)] := hl
  refine lv_aload_n hx hb dX7_leastKeeping_0 rfl (lv_at hl 0 rfl) ?_
  refine lv_iload_n hx hb dX7_leastKeeping_1 rfl (lv_at hl 1 rfl) ?_
  refine lv_iload_n hx hb dX7_leastKeeping_2 rfl (lv_at hl 2 rfl) ?_
  refine vp_callSi (W.runV (As := [.int a1, .int a2]) (rest := []) ⟨hx, hb, hml, hown, hts⟩ (r_X_noClockThen l D E s.heap.size h0 u a1 a2) (cwV 2 hts g_r_X_leastKeeping_r_X_noClockThen rfl rfl rfl (by decide +kernel) ⟨Nat.le_of_ble_eq_true rfl, Nat.le_of_ble_eq_true rfl⟩) ⟨pre_blind, va_recv hK hP (ci := 7) (q0 := 0) rfl rfl, pre_at hP hK hD hN⟩ rfl rfl hl.1 rfl (lv_room (Nat.le_of_ble_eq_true rfl)) dX7_leastKeeping_3 ⟨Nat.le_of_ble_eq_true rfl, Nat.le_of_ble_eq_true rfl⟩) (fun r_1 er_1 => ?_)
  subst er_1
  refine lv_if_eq (tgt := 12) hx hb dX7_leastKeeping_6 (by decide) (fun h9 => absurd h9 (by decide)) (fun _ => ?_)
  refine lv_bipush (v := (-2)) hx hb dX7_leastKeeping_9 (by decide) ?_
  exact e_s (v := (-2)) hx hb hr rfl rfl hlocks dX7_leastKeeping_11

