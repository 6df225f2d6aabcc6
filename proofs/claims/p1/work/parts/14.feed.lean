theorem dX7_end_0 : decode cX7_end 0 = .ok (.iload_n 1, 1) := by decide +kernel
theorem dX7_end_1 : decode cX7_end 1 = .ok (.ifCond .lt 11, 3) := by decide +kernel
theorem dX7_end_4 : decode cX7_end 4 = .ok (.iload_n 1, 1) := by decide +kernel
theorem dX7_end_5 : decode cX7_end 5 = .ok (.aload_n 0, 1) := by decide +kernel
theorem dX7_end_6 : decode cX7_end 6 = .ok (.getfield 55, 3) := by decide +kernel
theorem dX7_end_9 : decode cX7_end 9 = .ok (.if_icmp .le 5, 3) := by decide +kernel
theorem dX7_end_12 : decode cX7_end 12 = .ok (.iconst (-1), 1) := by decide +kernel
theorem dX7_end_13 : decode cX7_end 13 = .ok (.ireturn, 1) := by decide +kernel
theorem dX7_end_14 : decode cX7_end 14 = .ok (.aload_n 0, 1) := by decide +kernel
theorem dX7_end_15 : decode cX7_end 15 = .ok (.iload_n 1, 1) := by decide +kernel
theorem dX7_end_16 : decode cX7_end 16 = .ok (.putfield 55, 3) := by decide +kernel
theorem dX7_end_19 : decode cX7_end 19 = .ok (.iload_n 1, 1) := by decide +kernel
theorem dX7_end_20 : decode cX7_end 20 = .ok (.ireturn, 1) := by decide +kernel
theorem dX8_end_0 : decode cX8_end 0 = .ok (.iload_n 1, 1) := by decide +kernel
theorem dX8_end_1 : decode cX8_end 1 = .ok (.i2l, 1) := by decide +kernel
theorem dX8_end_2 : decode cX8_end 2 = .ok (.lconst 0, 1) := by decide +kernel
theorem dX8_end_3 : decode cX8_end 3 = .ok (.aload_n 0, 1) := by decide +kernel
theorem dX8_end_4 : decode cX8_end 4 = .ok (.getfield 114, 3) := by decide +kernel
theorem dX8_end_7 : decode cX8_end 7 = .ok (.i2l, 1) := by decide +kernel
theorem dX8_end_8 : decode cX8_end 8 = .ok (.invokestatic 104, 3) := by decide +kernel
theorem dX8_end_11 : decode cX8_end 11 = .ok (.ifCond .ne 5, 3) := by decide +kernel
theorem dX8_end_14 : decode cX8_end 14 = .ok (.iconst (-1), 1) := by decide +kernel
theorem dX8_end_15 : decode cX8_end 15 = .ok (.ireturn, 1) := by decide +kernel
theorem dX8_end_16 : decode cX8_end 16 = .ok (.aload_n 0, 1) := by decide +kernel
theorem dX8_end_17 : decode cX8_end 17 = .ok (.iload_n 1, 1) := by decide +kernel
theorem dX8_end_18 : decode cX8_end 18 = .ok (.putfield 114, 3) := by decide +kernel
theorem dX8_end_21 : decode cX8_end 21 = .ok (.iload_n 1, 1) := by decide +kernel
theorem dX8_end_22 : decode cX8_end 22 = .ok (.ireturn, 1) := by decide +kernel
theorem dX7_appendNumber_0 : decode cX7_appendNumber 0 = .ok (.bipush 24, 2) := by decide +kernel
theorem dX7_appendNumber_2 : decode cX7_appendNumber 2 = .ok (.istore_n 2, 1) := by decide +kernel
theorem dX7_appendNumber_3 : decode cX7_appendNumber 3 = .ok (.iload_n 2, 1) := by decide +kernel
theorem dX7_appendNumber_4 : decode cX7_appendNumber 4 = .ok (.ifCond .lt 42, 3) := by decide +kernel
theorem dX7_appendNumber_7 : decode cX7_appendNumber 7 = .ok (.aload_n 0, 1) := by decide +kernel
theorem dX7_appendNumber_8 : decode cX7_appendNumber 8 = .ok (.getfield 55, 3) := by decide +kernel
theorem dX7_appendNumber_11 : decode cX7_appendNumber 11 = .ok (.sipush 2400, 3) := by decide +kernel
theorem dX7_appendNumber_14 : decode cX7_appendNumber 14 = .ok (.if_icmp .ge 32, 3) := by decide +kernel
theorem dX7_appendNumber_17 : decode cX7_appendNumber 17 = .ok (.aload_n 0, 1) := by decide +kernel
theorem dX7_appendNumber_18 : decode cX7_appendNumber 18 = .ok (.getfield 9, 3) := by decide +kernel
theorem dX7_appendNumber_21 : decode cX7_appendNumber 21 = .ok (.aload_n 0, 1) := by decide +kernel
theorem dX7_appendNumber_22 : decode cX7_appendNumber 22 = .ok (.getfield 55, 3) := by decide +kernel
theorem dX7_appendNumber_25 : decode cX7_appendNumber 25 = .ok (.iload_n 1, 1) := by decide +kernel
theorem dX7_appendNumber_26 : decode cX7_appendNumber 26 = .ok (.iload_n 2, 1) := by decide +kernel
theorem dX7_appendNumber_27 : decode cX7_appendNumber 27 = .ok (.iushr, 1) := by decide +kernel
theorem dX7_appendNumber_28 : decode cX7_appendNumber 28 = .ok (.i2b, 1) := by decide +kernel
theorem dX7_appendNumber_29 : decode cX7_appendNumber 29 = .ok (.bastore, 1) := by decide +kernel
theorem dX7_appendNumber_30 : decode cX7_appendNumber 30 = .ok (.aload_n 0, 1) := by decide +kernel
theorem dX7_appendNumber_31 : decode cX7_appendNumber 31 = .ok (.dup, 1) := by decide +kernel
theorem dX7_appendNumber_32 : decode cX7_appendNumber 32 = .ok (.getfield 55, 3) := by decide +kernel
theorem dX7_appendNumber_35 : decode cX7_appendNumber 35 = .ok (.iconst 1, 1) := by decide +kernel
theorem dX7_appendNumber_36 : decode cX7_appendNumber 36 = .ok (.iadd, 1) := by decide +kernel
theorem dX7_appendNumber_37 : decode cX7_appendNumber 37 = .ok (.putfield 55, 3) := by decide +kernel
theorem dX7_appendNumber_40 : decode cX7_appendNumber 40 = .ok (.iinc 2 (-8), 3) := by decide +kernel
theorem dX7_appendNumber_43 : decode cX7_appendNumber 43 = .ok (.goto (-40), 3) := by decide +kernel
theorem dX7_appendNumber_46 : decode cX7_appendNumber 46 = .ok (.return_, 1) := by decide +kernel
theorem dX7_feed_0 : decode cX7_feed 0 = .ok (.aload_n 0, 1) := by decide +kernel
theorem dX7_feed_1 : decode cX7_feed 1 = .ok (.getfield 55, 3) := by decide +kernel
theorem dX7_feed_4 : decode cX7_feed 4 = .ok (.bipush 20, 2) := by decide +kernel
theorem dX7_feed_6 : decode cX7_feed 6 = .ok (.iadd, 1) := by decide +kernel
theorem dX7_feed_7 : decode cX7_feed 7 = .ok (.sipush 2400, 3) := by decide +kernel
theorem dX7_feed_10 : decode cX7_feed 10 = .ok (.if_icmp .le 5, 3) := by decide +kernel
theorem dX7_feed_15 : decode cX7_feed 15 = .ok (.aload_n 0, 1) := by decide +kernel
theorem dX7_feed_16 : decode cX7_feed 16 = .ok (.iload_n 1, 1) := by decide +kernel
theorem dX7_feed_17 : decode cX7_feed 17 = .ok (.invokevirtual 58, 3) := by decide +kernel
theorem dX7_feed_20 : decode cX7_feed 20 = .ok (.aload_n 0, 1) := by decide +kernel
theorem dX7_feed_21 : decode cX7_feed 21 = .ok (.iload_n 2, 1) := by decide +kernel
theorem dX7_feed_22 : decode cX7_feed 22 = .ok (.invokevirtual 58, 3) := by decide +kernel
theorem dX7_feed_25 : decode cX7_feed 25 = .ok (.aload_n 0, 1) := by decide +kernel
theorem dX7_feed_26 : decode cX7_feed 26 = .ok (.iload_n 3, 1) := by decide +kernel
theorem dX7_feed_27 : decode cX7_feed 27 = .ok (.invokevirtual 58, 3) := by decide +kernel
theorem dX7_feed_30 : decode cX7_feed 30 = .ok (.aload_n 0, 1) := by decide +kernel
theorem dX7_feed_31 : decode cX7_feed 31 = .ok (.iload 4, 2) := by decide +kernel
theorem dX7_feed_33 : decode cX7_feed 33 = .ok (.invokevirtual 58, 3) := by decide +kernel
theorem dX7_feed_36 : decode cX7_feed 36 = .ok (.aload_n 0, 1) := by decide +kernel
theorem dX7_feed_37 : decode cX7_feed 37 = .ok (.iload 5, 2) := by decide +kernel
theorem dX7_feed_39 : decode cX7_feed 39 = .ok (.invokevirtual 58, 3) := by decide +kernel
theorem dX7_feed_42 : decode cX7_feed 42 = .ok (.aload_n 0, 1) := by decide +kernel
theorem dX7_feed_43 : decode cX7_feed 43 = .ok (.getfield 55, 3) := by decide +kernel
theorem dX7_feed_46 : decode cX7_feed 46 = .ok (.ireturn, 1) := by decide +kernel
theorem dX8_feed_0 : decode cX8_feed 0 = .ok (.aload_n 0, 1) := by decide +kernel
theorem dX8_feed_1 : decode cX8_feed 1 = .ok (.getfield 114, 3) := by decide +kernel
theorem dX8_feed_4 : decode cX8_feed 4 = .ok (.bipush 20, 2) := by decide +kernel
theorem dX8_feed_6 : decode cX8_feed 6 = .ok (.iadd, 1) := by decide +kernel
theorem dX8_feed_7 : decode cX8_feed 7 = .ok (.sipush 2400, 3) := by decide +kernel
theorem dX8_feed_10 : decode cX8_feed 10 = .ok (.if_icmp .le 5, 3) := by decide +kernel
theorem dX8_feed_15 : decode cX8_feed 15 = .ok (.aload_n 0, 1) := by decide +kernel
theorem dX8_feed_16 : decode cX8_feed 16 = .ok (.getfield 24, 3) := by decide +kernel
theorem dX8_feed_19 : decode cX8_feed 19 = .ok (.iconst 0, 1) := by decide +kernel
theorem dX8_feed_20 : decode cX8_feed 20 = .ok (.iload_n 1, 1) := by decide +kernel
theorem dX8_feed_21 : decode cX8_feed 21 = .ok (.iastore, 1) := by decide +kernel
theorem dX8_feed_22 : decode cX8_feed 22 = .ok (.aload_n 0, 1) := by decide +kernel
theorem dX8_feed_23 : decode cX8_feed 23 = .ok (.getfield 24, 3) := by decide +kernel
theorem dX8_feed_26 : decode cX8_feed 26 = .ok (.iconst 1, 1) := by decide +kernel
theorem dX8_feed_27 : decode cX8_feed 27 = .ok (.iload_n 2, 1) := by decide +kernel
theorem dX8_feed_28 : decode cX8_feed 28 = .ok (.iastore, 1) := by decide +kernel
theorem dX8_feed_29 : decode cX8_feed 29 = .ok (.aload_n 0, 1) := by decide +kernel
theorem dX8_feed_30 : decode cX8_feed 30 = .ok (.getfield 24, 3) := by decide +kernel
theorem dX8_feed_33 : decode cX8_feed 33 = .ok (.iconst 2, 1) := by decide +kernel
theorem dX8_feed_34 : decode cX8_feed 34 = .ok (.iload_n 3, 1) := by decide +kernel
theorem dX8_feed_35 : decode cX8_feed 35 = .ok (.iastore, 1) := by decide +kernel
theorem dX8_feed_36 : decode cX8_feed 36 = .ok (.aload_n 0, 1) := by decide +kernel
theorem dX8_feed_37 : decode cX8_feed 37 = .ok (.getfield 24, 3) := by decide +kernel
theorem dX8_feed_40 : decode cX8_feed 40 = .ok (.iconst 3, 1) := by decide +kernel
theorem dX8_feed_41 : decode cX8_feed 41 = .ok (.iload 4, 2) := by decide +kernel
theorem dX8_feed_43 : decode cX8_feed 43 = .ok (.iastore, 1) := by decide +kernel
theorem dX8_feed_44 : decode cX8_feed 44 = .ok (.aload_n 0, 1) := by decide +kernel
theorem dX8_feed_45 : decode cX8_feed 45 = .ok (.getfield 24, 3) := by decide +kernel
theorem dX8_feed_48 : decode cX8_feed 48 = .ok (.iconst 4, 1) := by decide +kernel
theorem dX8_feed_49 : decode cX8_feed 49 = .ok (.iload 5, 2) := by decide +kernel
theorem dX8_feed_51 : decode cX8_feed 51 = .ok (.iastore, 1) := by decide +kernel
theorem dX8_feed_52 : decode cX8_feed 52 = .ok (.iconst 0, 1) := by decide +kernel
theorem dX8_feed_53 : decode cX8_feed 53 = .ok (.istore 6, 2) := by decide +kernel
theorem dX8_feed_55 : decode cX8_feed 55 = .ok (.iload 6, 2) := by decide +kernel
theorem dX8_feed_57 : decode cX8_feed 57 = .ok (.bipush 20, 2) := by decide +kernel
theorem dX8_feed_59 : decode cX8_feed 59 = .ok (.if_icmp .ge 42, 3) := by decide +kernel
theorem dX8_feed_62 : decode cX8_feed 62 = .ok (.aload_n 0, 1) := by decide +kernel
theorem dX8_feed_63 : decode cX8_feed 63 = .ok (.getfield 20, 3) := by decide +kernel
theorem dX8_feed_66 : decode cX8_feed 66 = .ok (.aload_n 0, 1) := by decide +kernel
theorem dX8_feed_67 : decode cX8_feed 67 = .ok (.getfield 114, 3) := by decide +kernel
theorem dX8_feed_70 : decode cX8_feed 70 = .ok (.iload 6, 2) := by decide +kernel
theorem dX8_feed_72 : decode cX8_feed 72 = .ok (.iadd, 1) := by decide +kernel
theorem dX8_feed_73 : decode cX8_feed 73 = .ok (.aload_n 0, 1) := by decide +kernel
theorem dX8_feed_74 : decode cX8_feed 74 = .ok (.getfield 24, 3) := by decide +kernel
theorem dX8_feed_77 : decode cX8_feed 77 = .ok (.iload 6, 2) := by decide +kernel
theorem dX8_feed_79 : decode cX8_feed 79 = .ok (.iconst 4, 1) := by decide +kernel
theorem dX8_feed_80 : decode cX8_feed 80 = .ok (.idiv, 1) := by decide +kernel
theorem dX8_feed_81 : decode cX8_feed 81 = .ok (.iaload, 1) := by decide +kernel
theorem dX8_feed_82 : decode cX8_feed 82 = .ok (.bipush 24, 2) := by decide +kernel
theorem dX8_feed_84 : decode cX8_feed 84 = .ok (.bipush 8, 2) := by decide +kernel
theorem dX8_feed_86 : decode cX8_feed 86 = .ok (.iload 6, 2) := by decide +kernel
theorem dX8_feed_88 : decode cX8_feed 88 = .ok (.iconst 4, 1) := by decide +kernel
theorem dX8_feed_89 : decode cX8_feed 89 = .ok (.irem, 1) := by decide +kernel
theorem dX8_feed_90 : decode cX8_feed 90 = .ok (.imul, 1) := by decide +kernel
theorem dX8_feed_91 : decode cX8_feed 91 = .ok (.isub, 1) := by decide +kernel
theorem dX8_feed_92 : decode cX8_feed 92 = .ok (.ishr, 1) := by decide +kernel
theorem dX8_feed_93 : decode cX8_feed 93 = .ok (.i2b, 1) := by decide +kernel
theorem dX8_feed_94 : decode cX8_feed 94 = .ok (.bastore, 1) := by decide +kernel
theorem dX8_feed_95 : decode cX8_feed 95 = .ok (.iinc 6 1, 3) := by decide +kernel
theorem dX8_feed_98 : decode cX8_feed 98 = .ok (.goto (-43), 3) := by decide +kernel
theorem dX8_feed_101 : decode cX8_feed 101 = .ok (.aload_n 0, 1) := by decide +kernel
theorem dX8_feed_102 : decode cX8_feed 102 = .ok (.dup, 1) := by decide +kernel
theorem dX8_feed_103 : decode cX8_feed 103 = .ok (.getfield 114, 3) := by decide +kernel
theorem dX8_feed_106 : decode cX8_feed 106 = .ok (.bipush 20, 2) := by decide +kernel
theorem dX8_feed_108 : decode cX8_feed 108 = .ok (.iadd, 1) := by decide +kernel
theorem dX8_feed_109 : decode cX8_feed 109 = .ok (.putfield 114, 3) := by decide +kernel
theorem dX8_feed_112 : decode cX8_feed 112 = .ok (.aload_n 0, 1) := by decide +kernel
theorem dX8_feed_113 : decode cX8_feed 113 = .ok (.getfield 114, 3) := by decide +kernel
theorem dX8_feed_116 : decode cX8_feed 116 = .ok (.ireturn, 1) := by decide +kernel
theorem cs1 (x : Int32) : ¬ x = 0 ∨ x = 0 := by
  by_cases h : x = 0
  · exact Or.inr h
  · exact Or.inl h
theorem nz_out {x : Int32} (h : ¬ x = 0) : ¬ (0 ≤ x.toInt ∧ x.toInt ≤ 0) := fun q => h (of_int (by rw [z32]; omega))
theorem nz_le {x : Int32} (h : ¬ x = 0) (h1 : ¬ x < 0) : ¬ x ≤ 0 := by
  rw [lt32, z32] at h1
  rw [le32, z32]
  exact fun q => h (of_int (by rw [z32]; omega))
theorem lt_nI {B i : Nat} {c : Int32} (hc : c = nI B) (hB : B < 2 ^ 31) (hi : i ≤ B) (h : ¬ c ≤ nI i) : i < B := by
  rcases Nat.lt_or_ge i B with q | q
  · exact q
  · exact absurd (by rw [hc]; exact nI_le q (Nat.lt_of_le_of_lt hi hB)) h

def v_m_X_end : List Cond := .code yX7_end cX7_end 2 (some .int) :: ([.fieldLink RX7 55 "UnseenClock" "tapeLength" "I"] ++ (wsX70))
theorem in_m_X_end_X7 : ∀ w ∈ u_ws RX7 TX7 14, w ∈ v_m_X_end := fun w h => List.mem_cons_of_mem _ (List.mem_append_right _ (h))
set_option maxHeartbeats 2000000 in
set_option maxRecDepth 100000 in
theorem m_X_end (l : Launch) (D : va_G) (E : Nat → ClassId) (sz : Nat) (h0 : Nat) (u : Nat → Nat) (a1 : Int32) : Met l yX7_end v_m_X_end ({ frames := 0, cells := 0, slots := 0, locals := 0 }) (va_Pc [.ref h0, .int a1] (pre D E (wX E h0 u) sz)) (qI (S := Unit) (fun r _ => r = if a1 = 0 then 0 else -1) (fun _ => []) D (va_A (wX E h0 u) sz)) 0 0 (va_A (wX E h0 u) sz) := by
  refine c_int (cc := cX7_end) (maxL := 2) (ret := (some .int)) (by decide) rfl (Nat.le_of_ble_eq_true rfl) ?_
  intro p e s m below meth c ls A ⟨hx, hb, hr, hts, hown, hlocks, hin, hml⟩ hP hK hD hN hA hS hl
  have hown : s.vm.findClass RX7 = some m.cls := hown
  have hl : lv_has ls 2 [(0, .ref h0), (1, .int a1)] := hl
  have hP := hP.sub (ws' := [(h0, .inr (7, [.ref (u 1), .int 0, .ref (u 2), .int 0, .int (-1), .ref (u 0), .ref (u 3), .ref (u 6), .ref (u 98), .int 0, .ref (u 7), .null, .int 0, .ref (u 15)]))]) [0] rfl
  have hD := hD.sub (ws' := [(h0, .inr (7, [.ref (u 1), .int 0, .ref (u 2), .int 0, .int (-1), .ref (u 0), .ref (u 3), .ref (u 6), .ref (u 98), .int 0, .ref (u 7), .null, .int 0, .ref (u 15)]))]) [0] (by decide) rfl
  rcases cs1 a1 with h_1 | rfl
  · refine lv_iload_n hx hb dX7_end_0 rfl (lv_at hl 1 rfl) ?_
    refine lv_if_lt (tgt := 12) hx hb dX7_end_1 (by decide) (fun h_2 => ?_) (fun h_2 => ?_)
    · refine lv_iconst (v := (-1)) hx hb dX7_end_12 (by decide) ?_
      exact e_i (v := (-1)) hx hb hr rfl (()) (if_neg h_1).symm p_nil d_nil hS hlocks dX7_end_13
    · refine lv_iload_n hx hb dX7_end_4 rfl (lv_at hl 1 rfl) ?_
      refine lv_aload_n hx hb dX7_end_5 rfl (lv_at hl 0 rfl) ?_
      refine va_get (ci := 7) (v := .int 0) (C := RX7) (T := TX7) (N := 14) hx hb hts in_m_X_end_X7 hown hK hP 0 rfl rfl 1 (by decide) (hts (.fieldLink RX7 55 "UnseenClock" "tapeLength" "I") (List.mem_of_getElem? (i := 1) rfl)) (fun _ h9 => h9) rfl dX7_end_6 ?_
      refine lv_icmp_le (tgt := 14) hx hb dX7_end_9 (by decide) (fun h9 => absurd h9 (nz_le h_1 h_2)) (fun _ => ?_)
      refine lv_iconst (v := (-1)) hx hb dX7_end_12 (by decide) ?_
      exact e_i (v := (-1)) hx hb hr rfl (()) (if_neg h_1).symm p_nil d_nil hS hlocks dX7_end_13
  · refine lv_iload_n hx hb dX7_end_0 rfl (lv_at hl 1 rfl) ?_
    refine lv_if_lt (tgt := 12) hx hb dX7_end_1 (by decide) (fun h9 => absurd h9 (by decide)) (fun _ => ?_)
    refine lv_iload_n hx hb dX7_end_4 rfl (lv_at hl 1 rfl) ?_
    refine lv_aload_n hx hb dX7_end_5 rfl (lv_at hl 0 rfl) ?_
    refine va_get (ci := 7) (v := .int 0) (C := RX7) (T := TX7) (N := 14) hx hb hts in_m_X_end_X7 hown hK hP 0 rfl rfl 1 (by decide) (hts (.fieldLink RX7 55 "UnseenClock" "tapeLength" "I") (List.mem_of_getElem? (i := 1) rfl)) (fun _ h9 => h9) rfl dX7_end_6 ?_
    refine lv_icmp_le (tgt := 14) hx hb dX7_end_9 (by decide) (fun _ => ?_) (fun h9 => absurd (by decide) h9)
    refine lv_aload_n hx hb dX7_end_14 rfl (lv_at hl 0 rfl) ?_
    refine lv_iload_n hx hb dX7_end_15 rfl (lv_at hl 1 rfl) ?_
    refine va_put (ci := 7) (v := .int 0) (ty := .int) (C := RX7) (T := TX7) (N := 14) hx hb hts in_m_X_end_X7 tyX7 tyX7_ok nmX7 hown hK hP hD hS 0 rfl rfl 1 (by decide) (hts (.fieldLink RX7 55 "UnseenClock" "tapeLength" "I") (List.mem_of_getElem? (i := 1) rfl)) (fun _ h9 => h9) rfl (by decide +kernel) rfl rfl (Nat.le_of_ble_eq_true rfl) dX7_end_16 (fun H locs hP hD hS => ?_)
    have hP : va_P D vwCl [(h0, .inr (7, [.ref (u 1), .int 0, .ref (u 2), .int 0, .int (-1), .ref (u 0), .ref (u 3), .ref (u 6), .ref (u 98), .int 0, .ref (u 7), .null, .int 0, .ref (u 15)]))] H := hP
    have hD : va_D A [(h0, .inr (7, [.ref (u 1), .int 0, .ref (u 2), .int 0, .int (-1), .ref (u 0), .ref (u 3), .ref (u 6), .ref (u 98), .int 0, .ref (u 7), .null, .int 0, .ref (u 15)]))] := hD
    refine lv_iload_n hx hb dX7_end_19 rfl (lv_at hl 1 rfl) ?_
    exact e_i (v := 0) hx hb hr rfl (()) (by decide) p_nil d_nil hS hlocks dX7_end_20

def v_m_M_end : List Cond := .code yX8_end cX8_end 2 (some .int) :: ([.fieldLink RX8 114 "UnseenClockModel" "taped" "I", .code yX8_in cX8_in 6 (some .boolean), .methodLink RX8 104 yX8_in, .static yX8_in, .initialized RX8] ++ (wsX80))
theorem in_m_M_end_X8 : ∀ w ∈ u_ws RX8 TX8 41, w ∈ v_m_M_end := fun w h => List.mem_cons_of_mem _ (List.mem_append_right _ (h))
set_option maxRecDepth 20000 in
theorem g_m_M_end_r_M_in : GoodIn v_m_M_end (va_wsS RX8 104 yX8_in v_r_M_in) := g_rows _ [3, 4, 5, 2] rfl (by decide +kernel)
set_option maxHeartbeats 2000000 in
set_option maxRecDepth 100000 in
theorem m_M_end (l : Launch) (D : va_G) (E : Nat → ClassId) (sz : Nat) (h0 : Nat) (u : Nat → Nat) (a1 : Int32) : Met l yX8_end v_m_M_end ({ frames := 1, cells := 0, slots := 0, locals := 25 }) (va_Pc [.ref h0, .int a1] (pre D E (wM E h0 u) sz)) (qI (S := Unit) (fun r _ => r = if a1 = 0 then 0 else -1) (fun _ => []) D (va_A (wM E h0 u) sz)) 0 0 (va_A (wM E h0 u) sz) := by
  refine c_int (cc := cX8_end) (maxL := 2) (ret := (some .int)) (by decide) rfl (Nat.le_of_ble_eq_true rfl) ?_
  intro p e s m below meth c ls A ⟨hx, hb, hr, hts, hown, hlocks, hin, hml⟩ hP hK hD hN hA hS hl
  have hown : s.vm.findClass RX8 = some m.cls := hown
  have hl : lv_has ls 2 [(0, .ref h0), (1, .int a1)] := hl
  rcases cs1 a1 with h_1 | rfl
  · refine lv_iload_n hx hb dX8_end_0 rfl (lv_at hl 1 rfl) ?_
    refine lv_i2l (v := Int32.toInt64 a1) hx hb dX8_end_1 rfl ?_
    refine lv_lconst (v := 0) hx hb dX8_end_2 (by decide) ?_
    refine lv_aload_n hx hb dX8_end_3 rfl (lv_at hl 0 rfl) ?_
    refine va_get (ci := 8) (v := .int 0) (C := RX8) (T := TX8) (N := 41) hx hb hts in_m_M_end_X8 hown hK hP 0 rfl rfl 5 (by decide) (hts (.fieldLink RX8 114 "UnseenClockModel" "taped" "I") (List.mem_of_getElem? (i := 1) rfl)) (fun _ h9 => h9) rfl dX8_end_4 ?_
    refine lv_i2l (v := 0) hx hb dX8_end_7 (by decide) ?_
    refine vp_callSi (W.runS (As := [.long (Int32.toInt64 a1), .long 0, .long 0]) (rest := []) ⟨hx, hb, hml, hown, hts⟩ (r_M_in l D E s.heap.size h0 u (Int32.toInt64 a1) 0 0) (va_cwS 3 hts g_m_M_end_r_M_in rfl rfl rfl (by decide +kernel) ⟨Nat.le_of_ble_eq_true rfl, Nat.le_of_ble_eq_true rfl⟩) ⟨pre_blind, pre_at hP hK hD hN⟩ rfl rfl hl.1 rfl (lv_room (Nat.le_of_ble_eq_true rfl)) dX8_end_8 ⟨Nat.le_of_ble_eq_true rfl, Nat.le_of_ble_eq_true rfl⟩) (fun r_2 er_2 => ?_)
    subst er_2
    refine lv_toc (y := 0) (in_out (n := 0) (by decide) (nz_out h_1)) ?_
    refine lv_if_ne (tgt := 16) hx hb dX8_end_11 (by decide) (fun h9 => absurd (by decide) h9) (fun _ => ?_)
    refine lv_iconst (v := (-1)) hx hb dX8_end_14 (by decide) ?_
    exact e_i (v := (-1)) hx hb hr rfl (()) (if_neg h_1).symm p_nil d_nil hS hlocks dX8_end_15
  · refine lv_iload_n hx hb dX8_end_0 rfl (lv_at hl 1 rfl) ?_
    refine lv_i2l (v := 0) hx hb dX8_end_1 (by decide) ?_
    refine lv_lconst (v := 0) hx hb dX8_end_2 (by decide) ?_
    refine lv_aload_n hx hb dX8_end_3 rfl (lv_at hl 0 rfl) ?_
    refine va_get (ci := 8) (v := .int 0) (C := RX8) (T := TX8) (N := 41) hx hb hts in_m_M_end_X8 hown hK hP 0 rfl rfl 5 (by decide) (hts (.fieldLink RX8 114 "UnseenClockModel" "taped" "I") (List.mem_of_getElem? (i := 1) rfl)) (fun _ h9 => h9) rfl dX8_end_4 ?_
    refine lv_i2l (v := 0) hx hb dX8_end_7 (by decide) ?_
    refine vp_callSi (W.runS (As := [.long 0, .long 0, .long 0]) (rest := []) ⟨hx, hb, hml, hown, hts⟩ (r_M_in l D E s.heap.size h0 u 0 0 0) (va_cwS 3 hts g_m_M_end_r_M_in rfl rfl rfl (by decide +kernel) ⟨Nat.le_of_ble_eq_true rfl, Nat.le_of_ble_eq_true rfl⟩) ⟨pre_blind, pre_at hP hK hD hN⟩ rfl rfl hl.1 rfl (lv_room (Nat.le_of_ble_eq_true rfl)) dX8_end_8 ⟨Nat.le_of_ble_eq_true rfl, Nat.le_of_ble_eq_true rfl⟩) (fun r_4 er_4 => ?_)
    subst er_4
    refine lv_toc (y := 1) (by decide) ?_
    refine lv_if_ne (tgt := 16) hx hb dX8_end_11 (by decide) (fun _ => ?_) (fun h9 => absurd h9 (by decide))
    refine lv_aload_n hx hb dX8_end_16 rfl (lv_at hl 0 rfl) ?_
    refine lv_iload_n hx hb dX8_end_17 rfl (lv_at hl 1 rfl) ?_
    refine va_put (ci := 8) (v := .int 0) (ty := .int) (C := RX8) (T := TX8) (N := 41) hx hb hts in_m_M_end_X8 tyX8 tyX8_ok nmX8 hown hK hP hD hS 0 rfl rfl 5 (by decide) (hts (.fieldLink RX8 114 "UnseenClockModel" "taped" "I") (List.mem_of_getElem? (i := 1) rfl)) (fun _ h9 => h9) rfl (by decide +kernel) rfl rfl (Nat.le_of_ble_eq_true rfl) dX8_end_18 (fun H locs hP hD hS => ?_)
    have hP : va_P D vwCl [(h0, .inr (8, [.int 0, .ref (u 0), .ref (u 1), .ref (u 2), .ref (u 3), .int 0, .ref (u 4), .int 0, .int 0, .int 0, .int 0, .int 0, .int 0, .int (-1), .ref (u 5), .ref (u 9), .ref (u 10), .ref (u 11), .ref (u 12), .ref (u 13), .ref (u 14), .ref (u 15), .int 0, .ref (u 16), .int 0, .ref (u 17), .ref (u 18), .ref (u 19), .int 0, .long 0, .ref (u 20), .ref (u 21), .ref (u 22), .ref (u 23), .int 0, .ref (u 24), .ref (u 25), .ref (u 6), .ref (u 7), .ref (u 8), .ref (u 26)])), (u 0, .inl (E 0, 320, .inl (fun _ => 0))), (u 1, .inl (E 0, 960, .inl (fun _ => 0))), (u 2, .inl (E 3, 3, .inl (fun _ => 0))), (u 3, .inl (E 1, 2400, .inl (fun _ => 0))), (u 4, .inl (E 0, 5, .inl (fun _ => 0))), (u 5, .inl (E 0, 320, .inl (fun _ => 0))), (u 6, .inl (E 0, 4, .inl (upd (upd (upd (upd (fun _ => 0) 0 (-1)) 1 (-1)) 2 (-1)) 3 (-1)))), (u 7, .inl (E 0, 4, .inl (fun _ => 0))), (u 8, .inl (E 2, 240, .inr (.inl (fun _ => 0))))] H := hP
    have hD : va_D A [(h0, .inr (8, [.int 0, .ref (u 0), .ref (u 1), .ref (u 2), .ref (u 3), .int 0, .ref (u 4), .int 0, .int 0, .int 0, .int 0, .int 0, .int 0, .int (-1), .ref (u 5), .ref (u 9), .ref (u 10), .ref (u 11), .ref (u 12), .ref (u 13), .ref (u 14), .ref (u 15), .int 0, .ref (u 16), .int 0, .ref (u 17), .ref (u 18), .ref (u 19), .int 0, .long 0, .ref (u 20), .ref (u 21), .ref (u 22), .ref (u 23), .int 0, .ref (u 24), .ref (u 25), .ref (u 6), .ref (u 7), .ref (u 8), .ref (u 26)])), (u 0, .inl (E 0, 320, .inl (fun _ => 0))), (u 1, .inl (E 0, 960, .inl (fun _ => 0))), (u 2, .inl (E 3, 3, .inl (fun _ => 0))), (u 3, .inl (E 1, 2400, .inl (fun _ => 0))), (u 4, .inl (E 0, 5, .inl (fun _ => 0))), (u 5, .inl (E 0, 320, .inl (fun _ => 0))), (u 6, .inl (E 0, 4, .inl (upd (upd (upd (upd (fun _ => 0) 0 (-1)) 1 (-1)) 2 (-1)) 3 (-1)))), (u 7, .inl (E 0, 4, .inl (fun _ => 0))), (u 8, .inl (E 2, 240, .inr (.inl (fun _ => 0))))] := hD
    refine lv_iload_n hx hb dX8_end_21 rfl (lv_at hl 1 rfl) ?_
    exact e_i (v := 0) hx hb hr rfl (()) (by decide) p_nil d_nil hS hlocks dX8_end_22

def v_m_X_append0 : List Cond := .code yX7_appendNumber cX7_appendNumber 3 none :: ([.fieldLink RX7 55 "UnseenClock" "tapeLength" "I", .fieldLink RX7 9 "UnseenClock" "tape" "[B"] ++ (wsX70))
theorem in_m_X_append0_X7 : ∀ w ∈ u_ws RX7 TX7 14, w ∈ v_m_X_append0 := fun w h => List.mem_cons_of_mem _ (List.mem_append_right _ (h))
set_option maxHeartbeats 2000000 in
set_option maxRecDepth 100000 in
theorem m_X_append0 (l : Launch) (D : va_G) (E : Nat → ClassId) (sz : Nat) (h0 : Nat) (u : Nat → Nat) (f : Nat → Int32) (a1 : Int32) : Met l yX7_appendNumber v_m_X_append0 ({ frames := 0, cells := 0, slots := 0, locals := 0 }) (va_Pc [.ref h0, .int a1] (pre D E ([(h0, .inr (7, [.ref (u 1), .int 0, .ref (u 2), .int 0, .int (-1), .ref (u 0), .ref (u 3), .ref (u 6), .ref (u 98), .int 0, .ref (u 7), .null, .int 0, .ref (u 15)])), (u 1, .inl (E 1, 2400, .inl f))]) sz)) (qV (S := Nat → Int32) (fun _ => True) (fun f => [(h0, .inr (7, [.ref (u 1), .int 4, .ref (u 2), .int 0, .int (-1), .ref (u 0), .ref (u 3), .ref (u 6), .ref (u 98), .int 0, .ref (u 7), .null, .int 0, .ref (u 15)])), (u 1, .inl (E 1, 2400, .inl f))]) D (va_A ([(h0, .inr (7, [.ref (u 1), .int 0, .ref (u 2), .int 0, .int (-1), .ref (u 0), .ref (u 3), .ref (u 6), .ref (u 98), .int 0, .ref (u 7), .null, .int 0, .ref (u 15)])), (u 1, .inl (E 1, 2400, .inl f))]) sz)) 0 0 (va_A ([(h0, .inr (7, [.ref (u 1), .int 0, .ref (u 2), .int 0, .int (-1), .ref (u 0), .ref (u 3), .ref (u 6), .ref (u 98), .int 0, .ref (u 7), .null, .int 0, .ref (u 15)])), (u 1, .inl (E 1, 2400, .inl f))]) sz) := by
  refine c_void (cc := cX7_appendNumber) (maxL := 3) (ret := none) (by decide) rfl (Nat.le_of_ble_eq_true rfl) ?_
  intro p e s m below meth c ls A ⟨hx, hb, hr, hts, hown, hlocks, hin, hml⟩ hP hK hD hN hA hS hl
  have hown : s.vm.findClass RX7 = some m.cls := hown
  have hl : lv_has ls 3 [(0, .ref h0), (1, .int a1)] := hl
  refine lv_bipush (v := 24) hx hb dX7_appendNumber_0 (by decide) ?_
  refine lv_istore_n (lv' := [(2, .int 24), (0, .ref h0), (1, .int a1)]) hx hb dX7_appendNumber_2 rfl hl (by decide) rfl (fun ls hl => ?_)
  refine lv_iload_n hx hb dX7_appendNumber_3 rfl (lv_at hl 0 rfl) ?_
  refine lv_if_lt (tgt := 46) hx hb dX7_appendNumber_4 (by decide) (fun h9 => absurd h9 (by decide)) (fun _ => ?_)
  refine lv_aload_n hx hb dX7_appendNumber_7 rfl (lv_at hl 1 rfl) ?_
  refine va_get (ci := 7) (v := .int 0) (C := RX7) (T := TX7) (N := 14) hx hb hts in_m_X_append0_X7 hown hK hP 0 rfl rfl 1 (by decide) (hts (.fieldLink RX7 55 "UnseenClock" "tapeLength" "I") (List.mem_of_getElem? (i := 1) rfl)) (fun _ h9 => h9) rfl dX7_appendNumber_8 ?_
  refine lv_sipush (v := 2400) hx hb dX7_appendNumber_11 (by decide) ?_
  refine lv_icmp_ge (tgt := 46) hx hb dX7_appendNumber_14 (by decide) (fun h9 => absurd h9 (by decide)) (fun _ => ?_)
  refine lv_aload_n hx hb dX7_appendNumber_17 rfl (lv_at hl 1 rfl) ?_
  refine va_get (ci := 7) (v := .ref (u 1)) (C := RX7) (T := TX7) (N := 14) hx hb hts in_m_X_append0_X7 hown hK hP 0 rfl rfl 0 (by decide) (hts (.fieldLink RX7 9 "UnseenClock" "tape" "[B") (List.mem_of_getElem? (i := 2) rfl)) (fun _ h9 => h9) rfl dX7_appendNumber_18 ?_
  refine lv_aload_n hx hb dX7_appendNumber_21 rfl (lv_at hl 1 rfl) ?_
  refine va_get (ci := 7) (v := .int 0) (C := RX7) (T := TX7) (N := 14) hx hb hts in_m_X_append0_X7 hown hK hP 0 rfl rfl 1 (by decide) (hts (.fieldLink RX7 55 "UnseenClock" "tapeLength" "I") (List.mem_of_getElem? (i := 1) rfl)) (fun _ h9 => h9) rfl dX7_appendNumber_22 ?_
  refine lv_iload_n hx hb dX7_appendNumber_25 rfl (lv_at hl 2 rfl) ?_
  refine lv_iload_n hx hb dX7_appendNumber_26 rfl (lv_at hl 0 rfl) ?_
  obtain ⟨x_3, ex_3⟩ : ∃ y : Int32, (Int32.toUInt32 a1 >>> (Int32.toUInt32 24 &&& Int32.toUInt32 31)).toInt32 = y := ⟨_, rfl⟩
  refine lv_iushr (v := x_3) hx hb dX7_appendNumber_27 ex_3 ?_
  obtain ⟨x_4, ex_4⟩ : ∃ y : Int32, (Int32.toInt8 x_3).toInt32 = y := ⟨_, rfl⟩
  refine lv_i2b (v := x_4) hx hb dX7_appendNumber_28 ex_4 ?_
  refine va_bast hx hb hK hP hD hS 1 1 rfl rfl (by unfold vp_in; decide) dX7_appendNumber_29 (fun H locs hP hD hS => ?_)
  have hP : va_P D vwCl [(h0, .inr (7, [.ref (u 1), .int 0, .ref (u 2), .int 0, .int (-1), .ref (u 0), .ref (u 3), .ref (u 6), .ref (u 98), .int 0, .ref (u 7), .null, .int 0, .ref (u 15)])), (u 1, .inl (E 1, 2400, .inl (upd f 0 (vp_nar .byte x_4))))] H := hP
  have hD : va_D A [(h0, .inr (7, [.ref (u 1), .int 0, .ref (u 2), .int 0, .int (-1), .ref (u 0), .ref (u 3), .ref (u 6), .ref (u 98), .int 0, .ref (u 7), .null, .int 0, .ref (u 15)])), (u 1, .inl (E 1, 2400, .inl (upd f 0 (vp_nar .byte x_4))))] := hD
  refine lv_aload_n hx hb dX7_appendNumber_30 rfl (lv_at hl 1 rfl) ?_
  refine lv_dup hx hb dX7_appendNumber_31 rfl ?_
  refine va_get (ci := 7) (v := .int 0) (C := RX7) (T := TX7) (N := 14) hx hb hts in_m_X_append0_X7 hown hK hP 0 rfl rfl 1 (by decide) (hts (.fieldLink RX7 55 "UnseenClock" "tapeLength" "I") (List.mem_of_getElem? (i := 1) rfl)) (fun _ h9 => h9) rfl dX7_appendNumber_32 ?_
  refine lv_iconst (v := 1) hx hb dX7_appendNumber_35 (by decide) ?_
  refine lv_iadd hx hb dX7_appendNumber_36 ?_
  refine lv_toc (y := 1) (by decide) ?_
  refine va_put (ci := 7) (v := .int 1) (ty := .int) (C := RX7) (T := TX7) (N := 14) hx hb hts in_m_X_append0_X7 tyX7 tyX7_ok nmX7 hown hK hP hD hS 0 rfl rfl 1 (by decide) (hts (.fieldLink RX7 55 "UnseenClock" "tapeLength" "I") (List.mem_of_getElem? (i := 1) rfl)) (fun _ h9 => h9) rfl (by decide +kernel) rfl rfl (Nat.le_of_ble_eq_true rfl) dX7_appendNumber_37 (fun H locs hP hD hS => ?_)
  have hP : va_P D vwCl [(h0, .inr (7, [.ref (u 1), .int 1, .ref (u 2), .int 0, .int (-1), .ref (u 0), .ref (u 3), .ref (u 6), .ref (u 98), .int 0, .ref (u 7), .null, .int 0, .ref (u 15)])), (u 1, .inl (E 1, 2400, .inl (upd f 0 (vp_nar .byte x_4))))] H := hP
  have hD : va_D A [(h0, .inr (7, [.ref (u 1), .int 1, .ref (u 2), .int 0, .int (-1), .ref (u 0), .ref (u 3), .ref (u 6), .ref (u 98), .int 0, .ref (u 7), .null, .int 0, .ref (u 15)])), (u 1, .inl (E 1, 2400, .inl (upd f 0 (vp_nar .byte x_4))))] := hD
  refine lv_iinc (v := 16) (lv' := [(2, .int 16), (0, .ref h0), (1, .int a1)]) hx hb dX7_appendNumber_40 hl (k := 0) rfl (by decide) (by decide) rfl (fun ls hl => ?_)
  refine lv_goto (tgt := 3) hx hb dX7_appendNumber_43 (by decide) ?_
  refine lv_iload_n hx hb dX7_appendNumber_3 rfl (lv_at hl 0 rfl) ?_
  refine lv_if_lt (tgt := 46) hx hb dX7_appendNumber_4 (by decide) (fun h9 => absurd h9 (by decide)) (fun _ => ?_)
  refine lv_aload_n hx hb dX7_appendNumber_7 rfl (lv_at hl 1 rfl) ?_
  refine va_get (ci := 7) (v := .int 1) (C := RX7) (T := TX7) (N := 14) hx hb hts in_m_X_append0_X7 hown hK hP 0 rfl rfl 1 (by decide) (hts (.fieldLink RX7 55 "UnseenClock" "tapeLength" "I") (List.mem_of_getElem? (i := 1) rfl)) (fun _ h9 => h9) rfl dX7_appendNumber_8 ?_
  refine lv_sipush (v := 2400) hx hb dX7_appendNumber_11 (by decide) ?_
  refine lv_icmp_ge (tgt := 46) hx hb dX7_appendNumber_14 (by decide) (fun h9 => absurd h9 (by decide)) (fun _ => ?_)
  refine lv_aload_n hx hb dX7_appendNumber_17 rfl (lv_at hl 1 rfl) ?_
  refine va_get (ci := 7) (v := .ref (u 1)) (C := RX7) (T := TX7) (N := 14) hx hb hts in_m_X_append0_X7 hown hK hP 0 rfl rfl 0 (by decide) (hts (.fieldLink RX7 9 "UnseenClock" "tape" "[B") (List.mem_of_getElem? (i := 2) rfl)) (fun _ h9 => h9) rfl dX7_appendNumber_18 ?_
  refine lv_aload_n hx hb dX7_appendNumber_21 rfl (lv_at hl 1 rfl) ?_
  refine va_get (ci := 7) (v := .int 1) (C := RX7) (T := TX7) (N := 14) hx hb hts in_m_X_append0_X7 hown hK hP 0 rfl rfl 1 (by decide) (hts (.fieldLink RX7 55 "UnseenClock" "tapeLength" "I") (List.mem_of_getElem? (i := 1) rfl)) (fun _ h9 => h9) rfl dX7_appendNumber_22 ?_
  refine lv_iload_n hx hb dX7_appendNumber_25 rfl (lv_at hl 2 rfl) ?_
  refine lv_iload_n hx hb dX7_appendNumber_26 rfl (lv_at hl 0 rfl) ?_
  obtain ⟨x_7, ex_7⟩ : ∃ y : Int32, (Int32.toUInt32 a1 >>> (Int32.toUInt32 16 &&& Int32.toUInt32 31)).toInt32 = y := ⟨_, rfl⟩
  refine lv_iushr (v := x_7) hx hb dX7_appendNumber_27 ex_7 ?_
  obtain ⟨x_8, ex_8⟩ : ∃ y : Int32, (Int32.toInt8 x_7).toInt32 = y := ⟨_, rfl⟩
  refine lv_i2b (v := x_8) hx hb dX7_appendNumber_28 ex_8 ?_
  refine va_bast hx hb hK hP hD hS 1 1 rfl rfl (by unfold vp_in; decide) dX7_appendNumber_29 (fun H locs hP hD hS => ?_)
  have hP : va_P D vwCl [(h0, .inr (7, [.ref (u 1), .int 1, .ref (u 2), .int 0, .int (-1), .ref (u 0), .ref (u 3), .ref (u 6), .ref (u 98), .int 0, .ref (u 7), .null, .int 0, .ref (u 15)])), (u 1, .inl (E 1, 2400, .inl (upd (upd f 0 (vp_nar .byte x_4)) 1 (vp_nar .byte x_8))))] H := hP
  have hD : va_D A [(h0, .inr (7, [.ref (u 1), .int 1, .ref (u 2), .int 0, .int (-1), .ref (u 0), .ref (u 3), .ref (u 6), .ref (u 98), .int 0, .ref (u 7), .null, .int 0, .ref (u 15)])), (u 1, .inl (E 1, 2400, .inl (upd (upd f 0 (vp_nar .byte x_4)) 1 (vp_nar .byte x_8))))] := hD
  refine lv_aload_n hx hb dX7_appendNumber_30 rfl (lv_at hl 1 rfl) ?_
  refine lv_dup hx hb dX7_appendNumber_31 rfl ?_
  refine va_get (ci := 7) (v := .int 1) (C := RX7) (T := TX7) (N := 14) hx hb hts in_m_X_append0_X7 hown hK hP 0 rfl rfl 1 (by decide) (hts (.fieldLink RX7 55 "UnseenClock" "tapeLength" "I") (List.mem_of_getElem? (i := 1) rfl)) (fun _ h9 => h9) rfl dX7_appendNumber_32 ?_
  refine lv_iconst (v := 1) hx hb dX7_appendNumber_35 (by decide) ?_
  refine lv_iadd hx hb dX7_appendNumber_36 ?_
  refine lv_toc (y := 2) (by decide) ?_
  refine va_put (ci := 7) (v := .int 2) (ty := .int) (C := RX7) (T := TX7) (N := 14) hx hb hts in_m_X_append0_X7 tyX7 tyX7_ok nmX7 hown hK hP hD hS 0 rfl rfl 1 (by decide) (hts (.fieldLink RX7 55 "UnseenClock" "tapeLength" "I") (List.mem_of_getElem? (i := 1) rfl)) (fun _ h9 => h9) rfl (by decide +kernel) rfl rfl (Nat.le_of_ble_eq_true rfl) dX7_appendNumber_37 (fun H locs hP hD hS => ?_)
  have hP : va_P D vwCl [(h0, .inr (7, [.ref (u 1), .int 2, .ref (u 2), .int 0, .int (-1), .ref (u 0), .ref (u 3), .ref (u 6), .ref (u 98), .int 0, .ref (u 7), .null, .int 0, .ref (u 15)])), (u 1, .inl (E 1, 2400, .inl (upd (upd f 0 (vp_nar .byte x_4)) 1 (vp_nar .byte x_8))))] H := hP
  have hD : va_D A [(h0, .inr (7, [.ref (u 1), .int 2, .ref (u 2), .int 0, .int (-1), .ref (u 0), .ref (u 3), .ref (u 6), .ref (u 98), .int 0, .ref (u 7), .null, .int 0, .ref (u 15)])), (u 1, .inl (E 1, 2400, .inl (upd (upd f 0 (vp_nar .byte x_4)) 1 (vp_nar .byte x_8))))] := hD
  refine lv_iinc (v := 8) (lv' := [(2, .int 8), (0, .ref h0), (1, .int a1)]) hx hb dX7_appendNumber_40 hl (k := 0) rfl (by decide) (by decide) rfl (fun ls hl => ?_)
  refine lv_goto (tgt := 3) hx hb dX7_appendNumber_43 (by decide) ?_
  refine lv_iload_n hx hb dX7_appendNumber_3 rfl (lv_at hl 0 rfl) ?_
  refine lv_if_lt (tgt := 46) hx hb dX7_appendNumber_4 (by decide) (fun h9 => absurd h9 (by decide)) (fun _ => ?_)
  refine lv_aload_n hx hb dX7_appendNumber_7 rfl (lv_at hl 1 rfl) ?_
  refine va_get (ci := 7) (v := .int 2) (C := RX7) (T := TX7) (N := 14) hx hb hts in_m_X_append0_X7 hown hK hP 0 rfl rfl 1 (by decide) (hts (.fieldLink RX7 55 "UnseenClock" "tapeLength" "I") (List.mem_of_getElem? (i := 1) rfl)) (fun _ h9 => h9) rfl dX7_appendNumber_8 ?_
  refine lv_sipush (v := 2400) hx hb dX7_appendNumber_11 (by decide) ?_
  refine lv_icmp_ge (tgt := 46) hx hb dX7_appendNumber_14 (by decide) (fun h9 => absurd h9 (by decide)) (fun _ => ?_)
  refine lv_aload_n hx hb dX7_appendNumber_17 rfl (lv_at hl 1 rfl) ?_
  refine va_get (ci := 7) (v := .ref (u 1)) (C := RX7) (T := TX7) (N := 14) hx hb hts in_m_X_append0_X7 hown hK hP 0 rfl rfl 0 (by decide) (hts (.fieldLink RX7 9 "UnseenClock" "tape" "[B") (List.mem_of_getElem? (i := 2) rfl)) (fun _ h9 => h9) rfl dX7_appendNumber_18 ?_
  refine lv_aload_n hx hb dX7_appendNumber_21 rfl (lv_at hl 1 rfl) ?_
  refine va_get (ci := 7) (v := .int 2) (C := RX7) (T := TX7) (N := 14) hx hb hts in_m_X_append0_X7 hown hK hP 0 rfl rfl 1 (by decide) (hts (.fieldLink RX7 55 "UnseenClock" "tapeLength" "I") (List.mem_of_getElem? (i := 1) rfl)) (fun _ h9 => h9) rfl dX7_appendNumber_22 ?_
  refine lv_iload_n hx hb dX7_appendNumber_25 rfl (lv_at hl 2 rfl) ?_
  refine lv_iload_n hx hb dX7_appendNumber_26 rfl (lv_at hl 0 rfl) ?_
  obtain ⟨x_11, ex_11⟩ : ∃ y : Int32, (Int32.toUInt32 a1 >>> (Int32.toUInt32 8 &&& Int32.toUInt32 31)).toInt32 = y := ⟨_, rfl⟩
  refine lv_iushr (v := x_11) hx hb dX7_appendNumber_27 ex_11 ?_
  obtain ⟨x_12, ex_12⟩ : ∃ y : Int32, (Int32.toInt8 x_11).toInt32 = y := ⟨_, rfl⟩
  refine lv_i2b (v := x_12) hx hb dX7_appendNumber_28 ex_12 ?_
  refine va_bast hx hb hK hP hD hS 1 1 rfl rfl (by unfold vp_in; decide) dX7_appendNumber_29 (fun H locs hP hD hS => ?_)
  have hP : va_P D vwCl [(h0, .inr (7, [.ref (u 1), .int 2, .ref (u 2), .int 0, .int (-1), .ref (u 0), .ref (u 3), .ref (u 6), .ref (u 98), .int 0, .ref (u 7), .null, .int 0, .ref (u 15)])), (u 1, .inl (E 1, 2400, .inl (upd (upd (upd f 0 (vp_nar .byte x_4)) 1 (vp_nar .byte x_8)) 2 (vp_nar .byte x_12))))] H := hP
  have hD : va_D A [(h0, .inr (7, [.ref (u 1), .int 2, .ref (u 2), .int 0, .int (-1), .ref (u 0), .ref (u 3), .ref (u 6), .ref (u 98), .int 0, .ref (u 7), .null, .int 0, .ref (u 15)])), (u 1, .inl (E 1, 2400, .inl (upd (upd (upd f 0 (vp_nar .byte x_4)) 1 (vp_nar .byte x_8)) 2 (vp_nar .byte x_12))))] := hD
  refine lv_aload_n hx hb dX7_appendNumber_30 rfl (lv_at hl 1 rfl) ?_
  refine lv_dup hx hb dX7_appendNumber_31 rfl ?_
  refine va_get (ci := 7) (v := .int 2) (C := RX7) (T := TX7) (N := 14) hx hb hts in_m_X_append0_X7 hown hK hP 0 rfl rfl 1 (by decide) (hts (.fieldLink RX7 55 "UnseenClock" "tapeLength" "I") (List.mem_of_getElem? (i := 1) rfl)) (fun _ h9 => h9) rfl dX7_appendNumber_32 ?_
  refine lv_iconst (v := 1) hx hb dX7_appendNumber_35 (by decide) ?_
  refine lv_iadd hx hb dX7_appendNumber_36 ?_
  refine lv_toc (y := 3) (by decide) ?_
  refine va_put (ci := 7) (v := .int 3) (ty := .int) (C := RX7) (T := TX7) (N := 14) hx hb hts in_m_X_append0_X7 tyX7 tyX7_ok nmX7 hown hK hP hD hS 0 rfl rfl 1 (by decide) (hts (.fieldLink RX7 55 "UnseenClock" "tapeLength" "I") (List.mem_of_getElem? (i := 1) rfl)) (fun _ h9 => h9) rfl (by decide +kernel) rfl rfl (Nat.le_of_ble_eq_true rfl) dX7_appendNumber_37 (fun H locs hP hD hS => ?_)
  have hP : va_P D vwCl [(h0, .inr (7, [.ref (u 1), .int 3, .ref (u 2), .int 0, .int (-1), .ref (u 0), .ref (u 3), .ref (u 6), .ref (u 98), .int 0, .ref (u 7), .null, .int 0, .ref (u 15)])), (u 1, .inl (E 1, 2400, .inl (upd (upd (upd f 0 (vp_nar .byte x_4)) 1 (vp_nar .byte x_8)) 2 (vp_nar .byte x_12))))] H := hP
  have hD : va_D A [(h0, .inr (7, [.ref (u 1), .int 3, .ref (u 2), .int 0, .int (-1), .ref (u 0), .ref (u 3), .ref (u 6), .ref (u 98), .int 0, .ref (u 7), .null, .int 0, .ref (u 15)])), (u 1, .inl (E 1, 2400, .inl (upd (upd (upd f 0 (vp_nar .byte x_4)) 1 (vp_nar .byte x_8)) 2 (vp_nar .byte x_12))))] := hD
  refine lv_iinc (v := 0) (lv' := [(2, .int 0), (0, .ref h0), (1, .int a1)]) hx hb dX7_appendNumber_40 hl (k := 0) rfl (by decide) (by decide) rfl (fun ls hl => ?_)
  refine lv_goto (tgt := 3) hx hb dX7_appendNumber_43 (by decide) ?_
  refine lv_iload_n hx hb dX7_appendNumber_3 rfl (lv_at hl 0 rfl) ?_
  refine lv_if_lt (tgt := 46) hx hb dX7_appendNumber_4 (by decide) (fun h9 => absurd h9 (by decide)) (fun _ => ?_)
  refine lv_aload_n hx hb dX7_appendNumber_7 rfl (lv_at hl 1 rfl) ?_
  refine va_get (ci := 7) (v := .int 3) (C := RX7) (T := TX7) (N := 14) hx hb hts in_m_X_append0_X7 hown hK hP 0 rfl rfl 1 (by decide) (hts (.fieldLink RX7 55 "UnseenClock" "tapeLength" "I") (List.mem_of_getElem? (i := 1) rfl)) (fun _ h9 => h9) rfl dX7_appendNumber_8 ?_
  refine lv_sipush (v := 2400) hx hb dX7_appendNumber_11 (by decide) ?_
  refine lv_icmp_ge (tgt := 46) hx hb dX7_appendNumber_14 (by decide) (fun h9 => absurd h9 (by decide)) (fun _ => ?_)
  refine lv_aload_n hx hb dX7_appendNumber_17 rfl (lv_at hl 1 rfl) ?_
  refine va_get (ci := 7) (v := .ref (u 1)) (C := RX7) (T := TX7) (N := 14) hx hb hts in_m_X_append0_X7 hown hK hP 0 rfl rfl 0 (by decide) (hts (.fieldLink RX7 9 "UnseenClock" "tape" "[B") (List.mem_of_getElem? (i := 2) rfl)) (fun _ h9 => h9) rfl dX7_appendNumber_18 ?_
  refine lv_aload_n hx hb dX7_appendNumber_21 rfl (lv_at hl 1 rfl) ?_
  refine va_get (ci := 7) (v := .int 3) (C := RX7) (T := TX7) (N := 14) hx hb hts in_m_X_append0_X7 hown hK hP 0 rfl rfl 1 (by decide) (hts (.fieldLink RX7 55 "UnseenClock" "tapeLength" "I") (List.mem_of_getElem? (i := 1) rfl)) (fun _ h9 => h9) rfl dX7_appendNumber_22 ?_
  refine lv_iload_n hx hb dX7_appendNumber_25 rfl (lv_at hl 2 rfl) ?_
  refine lv_iload_n hx hb dX7_appendNumber_26 rfl (lv_at hl 0 rfl) ?_
  obtain ⟨x_15, ex_15⟩ : ∃ y : Int32, (Int32.toUInt32 a1 >>> (Int32.toUInt32 0 &&& Int32.toUInt32 31)).toInt32 = y := ⟨_, rfl⟩
  refine lv_iushr (v := x_15) hx hb dX7_appendNumber_27 ex_15 ?_
  obtain ⟨x_16, ex_16⟩ : ∃ y : Int32, (Int32.toInt8 x_15).toInt32 = y := ⟨_, rfl⟩
  refine lv_i2b (v := x_16) hx hb dX7_appendNumber_28 ex_16 ?_
  refine va_bast hx hb hK hP hD hS 1 1 rfl rfl (by unfold vp_in; decide) dX7_appendNumber_29 (fun H locs hP hD hS => ?_)
  have hP : va_P D vwCl [(h0, .inr (7, [.ref (u 1), .int 3, .ref (u 2), .int 0, .int (-1), .ref (u 0), .ref (u 3), .ref (u 6), .ref (u 98), .int 0, .ref (u 7), .null, .int 0, .ref (u 15)])), (u 1, .inl (E 1, 2400, .inl (upd (upd (upd (upd f 0 (vp_nar .byte x_4)) 1 (vp_nar .byte x_8)) 2 (vp_nar .byte x_12)) 3 (vp_nar .byte x_16))))] H := hP
  have hD : va_D A [(h0, .inr (7, [.ref (u 1), .int 3, .ref (u 2), .int 0, .int (-1), .ref (u 0), .ref (u 3), .ref (u 6), .ref (u 98), .int 0, .ref (u 7), .null, .int 0, .ref (u 15)])), (u 1, .inl (E 1, 2400, .inl (upd (upd (upd (upd f 0 (vp_nar .byte x_4)) 1 (vp_nar .byte x_8)) 2 (vp_nar .byte x_12)) 3 (vp_nar .byte x_16))))] := hD
  refine lv_aload_n hx hb dX7_appendNumber_30 rfl (lv_at hl 1 rfl) ?_
  refine lv_dup hx hb dX7_appendNumber_31 rfl ?_
  refine va_get (ci := 7) (v := .int 3) (C := RX7) (T := TX7) (N := 14) hx hb hts in_m_X_append0_X7 hown hK hP 0 rfl rfl 1 (by decide) (hts (.fieldLink RX7 55 "UnseenClock" "tapeLength" "I") (List.mem_of_getElem? (i := 1) rfl)) (fun _ h9 => h9) rfl dX7_appendNumber_32 ?_
  refine lv_iconst (v := 1) hx hb dX7_appendNumber_35 (by decide) ?_
  refine lv_iadd hx hb dX7_appendNumber_36 ?_
  refine lv_toc (y := 4) (by decide) ?_
  refine va_put (ci := 7) (v := .int 4) (ty := .int) (C := RX7) (T := TX7) (N := 14) hx hb hts in_m_X_append0_X7 tyX7 tyX7_ok nmX7 hown hK hP hD hS 0 rfl rfl 1 (by decide) (hts (.fieldLink RX7 55 "UnseenClock" "tapeLength" "I") (List.mem_of_getElem? (i := 1) rfl)) (fun _ h9 => h9) rfl (by decide +kernel) rfl rfl (Nat.le_of_ble_eq_true rfl) dX7_appendNumber_37 (fun H locs hP hD hS => ?_)
  have hP : va_P D vwCl [(h0, .inr (7, [.ref (u 1), .int 4, .ref (u 2), .int 0, .int (-1), .ref (u 0), .ref (u 3), .ref (u 6), .ref (u 98), .int 0, .ref (u 7), .null, .int 0, .ref (u 15)])), (u 1, .inl (E 1, 2400, .inl (upd (upd (upd (upd f 0 (vp_nar .byte x_4)) 1 (vp_nar .byte x_8)) 2 (vp_nar .byte x_12)) 3 (vp_nar .byte x_16))))] H := hP
  have hD : va_D A [(h0, .inr (7, [.ref (u 1), .int 4, .ref (u 2), .int 0, .int (-1), .ref (u 0), .ref (u 3), .ref (u 6), .ref (u 98), .int 0, .ref (u 7), .null, .int 0, .ref (u 15)])), (u 1, .inl (E 1, 2400, .inl (upd (upd (upd (upd f 0 (vp_nar .byte x_4)) 1 (vp_nar .byte x_8)) 2 (vp_nar .byte x_12)) 3 (vp_nar .byte x_16))))] := hD
  refine lv_iinc (v := (-8)) (lv' := [(2, .int (-8)), (0, .ref h0), (1, .int a1)]) hx hb dX7_appendNumber_40 hl (k := 0) rfl (by decide) (by decide) rfl (fun ls hl => ?_)
  refine lv_goto (tgt := 3) hx hb dX7_appendNumber_43 (by decide) ?_
  refine lv_iload_n hx hb dX7_appendNumber_3 rfl (lv_at hl 0 rfl) ?_
  refine lv_if_lt (tgt := 46) hx hb dX7_appendNumber_4 (by decide) (fun _ => ?_) (fun h9 => absurd (by decide) h9)
  exact e_v hx hb hr (upd (upd (upd (upd f 0 (vp_nar .byte x_4)) 1 (vp_nar .byte x_8)) 2 (vp_nar .byte x_12)) 3 (vp_nar .byte x_16)) trivial hP hD hS hlocks dX7_appendNumber_46

def v_m_X_append4 : List Cond := .code yX7_appendNumber cX7_appendNumber 3 none :: ([.fieldLink RX7 55 "UnseenClock" "tapeLength" "I", .fieldLink RX7 9 "UnseenClock" "tape" "[B"] ++ (wsX70))
theorem in_m_X_append4_X7 : ∀ w ∈ u_ws RX7 TX7 14, w ∈ v_m_X_append4 := fun w h => List.mem_cons_of_mem _ (List.mem_append_right _ (h))
set_option maxHeartbeats 2000000 in
set_option maxRecDepth 100000 in
theorem m_X_append4 (l : Launch) (D : va_G) (E : Nat → ClassId) (sz : Nat) (h0 : Nat) (u : Nat → Nat) (f : Nat → Int32) (a1 : Int32) : Met l yX7_appendNumber v_m_X_append4 ({ frames := 0, cells := 0, slots := 0, locals := 0 }) (va_Pc [.ref h0, .int a1] (pre D E ([(h0, .inr (7, [.ref (u 1), .int 4, .ref (u 2), .int 0, .int (-1), .ref (u 0), .ref (u 3), .ref (u 6), .ref (u 98), .int 0, .ref (u 7), .null, .int 0, .ref (u 15)])), (u 1, .inl (E 1, 2400, .inl f))]) sz)) (qV (S := Nat → Int32) (fun _ => True) (fun f => [(h0, .inr (7, [.ref (u 1), .int 8, .ref (u 2), .int 0, .int (-1), .ref (u 0), .ref (u 3), .ref (u 6), .ref (u 98), .int 0, .ref (u 7), .null, .int 0, .ref (u 15)])), (u 1, .inl (E 1, 2400, .inl f))]) D (va_A ([(h0, .inr (7, [.ref (u 1), .int 4, .ref (u 2), .int 0, .int (-1), .ref (u 0), .ref (u 3), .ref (u 6), .ref (u 98), .int 0, .ref (u 7), .null, .int 0, .ref (u 15)])), (u 1, .inl (E 1, 2400, .inl f))]) sz)) 0 0 (va_A ([(h0, .inr (7, [.ref (u 1), .int 4, .ref (u 2), .int 0, .int (-1), .ref (u 0), .ref (u 3), .ref (u 6), .ref (u 98), .int 0, .ref (u 7), .null, .int 0, .ref (u 15)])), (u 1, .inl (E 1, 2400, .inl f))]) sz) := by
  refine c_void (cc := cX7_appendNumber) (maxL := 3) (ret := none) (by decide) rfl (Nat.le_of_ble_eq_true rfl) ?_
  intro p e s m below meth c ls A ⟨hx, hb, hr, hts, hown, hlocks, hin, hml⟩ hP hK hD hN hA hS hl
  have hown : s.vm.findClass RX7 = some m.cls := hown
  have hl : lv_has ls 3 [(0, .ref h0), (1, .int a1)] := hl
  refine lv_bipush (v := 24) hx hb dX7_appendNumber_0 (by decide) ?_
  refine lv_istore_n (lv' := [(2, .int 24), (0, .ref h0), (1, .int a1)]) hx hb dX7_appendNumber_2 rfl hl (by decide) rfl (fun ls hl => ?_)
  refine lv_iload_n hx hb dX7_appendNumber_3 rfl (lv_at hl 0 rfl) ?_
  refine lv_if_lt (tgt := 46) hx hb dX7_appendNumber_4 (by decide) (fun h9 => absurd h9 (by decide)) (fun _ => ?_)
  refine lv_aload_n hx hb dX7_appendNumber_7 rfl (lv_at hl 1 rfl) ?_
  refine va_get (ci := 7) (v := .int 4) (C := RX7) (T := TX7) (N := 14) hx hb hts in_m_X_append4_X7 hown hK hP 0 rfl rfl 1 (by decide) (hts (.fieldLink RX7 55 "UnseenClock" "tapeLength" "I") (List.mem_of_getElem? (i := 1) rfl)) (fun _ h9 => h9) rfl dX7_appendNumber_8 ?_
  refine lv_sipush (v := 2400) hx hb dX7_appendNumber_11 (by decide) ?_
  refine lv_icmp_ge (tgt := 46) hx hb dX7_appendNumber_14 (by decide) (fun h9 => absurd h9 (by decide)) (fun _ => ?_)
  refine lv_aload_n hx hb dX7_appendNumber_17 rfl (lv_at hl 1 rfl) ?_
  refine va_get (ci := 7) (v := .ref (u 1)) (C := RX7) (T := TX7) (N := 14) hx hb hts in_m_X_append4_X7 hown hK hP 0 rfl rfl 0 (by decide) (hts (.fieldLink RX7 9 "UnseenClock" "tape" "[B") (List.mem_of_getElem? (i := 2) rfl)) (fun _ h9 => h9) rfl dX7_appendNumber_18 ?_
  refine lv_aload_n hx hb dX7_appendNumber_21 rfl (lv_at hl 1 rfl) ?_
  refine va_get (ci := 7) (v := .int 4) (C := RX7) (T := TX7) (N := 14) hx hb hts in_m_X_append4_X7 hown hK hP 0 rfl rfl 1 (by decide) (hts (.fieldLink RX7 55 "UnseenClock" "tapeLength" "I") (List.mem_of_getElem? (i := 1) rfl)) (fun _ h9 => h9) rfl dX7_appendNumber_22 ?_
  refine lv_iload_n hx hb dX7_appendNumber_25 rfl (lv_at hl 2 rfl) ?_
  refine lv_iload_n hx hb dX7_appendNumber_26 rfl (lv_at hl 0 rfl) ?_
  obtain ⟨x_3, ex_3⟩ : ∃ y : Int32, (Int32.toUInt32 a1 >>> (Int32.toUInt32 24 &&& Int32.toUInt32 31)).toInt32 = y := ⟨_, rfl⟩
  refine lv_iushr (v := x_3) hx hb dX7_appendNumber_27 ex_3 ?_
  obtain ⟨x_4, ex_4⟩ : ∃ y : Int32, (Int32.toInt8 x_3).toInt32 = y := ⟨_, rfl⟩
  refine lv_i2b (v := x_4) hx hb dX7_appendNumber_28 ex_4 ?_
  refine va_bast hx hb hK hP hD hS 1 1 rfl rfl (by unfold vp_in; decide) dX7_appendNumber_29 (fun H locs hP hD hS => ?_)
  have hP : va_P D vwCl [(h0, .inr (7, [.ref (u 1), .int 4, .ref (u 2), .int 0, .int (-1), .ref (u 0), .ref (u 3), .ref (u 6), .ref (u 98), .int 0, .ref (u 7), .null, .int 0, .ref (u 15)])), (u 1, .inl (E 1, 2400, .inl (upd f 4 (vp_nar .byte x_4))))] H := hP
  have hD : va_D A [(h0, .inr (7, [.ref (u 1), .int 4, .ref (u 2), .int 0, .int (-1), .ref (u 0), .ref (u 3), .ref (u 6), .ref (u 98), .int 0, .ref (u 7), .null, .int 0, .ref (u 15)])), (u 1, .inl (E 1, 2400, .inl (upd f 4 (vp_nar .byte x_4))))] := hD
  refine lv_aload_n hx hb dX7_appendNumber_30 rfl (lv_at hl 1 rfl) ?_
  refine lv_dup hx hb dX7_appendNumber_31 rfl ?_
  refine va_get (ci := 7) (v := .int 4) (C := RX7) (T := TX7) (N := 14) hx hb hts in_m_X_append4_X7 hown hK hP 0 rfl rfl 1 (by decide) (hts (.fieldLink RX7 55 "UnseenClock" "tapeLength" "I") (List.mem_of_getElem? (i := 1) rfl)) (fun _ h9 => h9) rfl dX7_appendNumber_32 ?_
  refine lv_iconst (v := 1) hx hb dX7_appendNumber_35 (by decide) ?_
  refine lv_iadd hx hb dX7_appendNumber_36 ?_
  refine lv_toc (y := 5) (by decide) ?_
  refine va_put (ci := 7) (v := .int 5) (ty := .int) (C := RX7) (T := TX7) (N := 14) hx hb hts in_m_X_append4_X7 tyX7 tyX7_ok nmX7 hown hK hP hD hS 0 rfl rfl 1 (by decide) (hts (.fieldLink RX7 55 "UnseenClock" "tapeLength" "I") (List.mem_of_getElem? (i := 1) rfl)) (fun _ h9 => h9) rfl (by decide +kernel) rfl rfl (Nat.le_of_ble_eq_true rfl) dX7_appendNumber_37 (fun H locs hP hD hS => ?_)
  have hP : va_P D vwCl [(h0, .inr (7, [.ref (u 1), .int 5, .ref (u 2), .int 0, .int (-1), .ref (u 0), .ref (u 3), .ref (u 6), .ref (u 98), .int 0, .ref (u 7), .null, .int 0, .ref (u 15)])), (u 1, .inl (E 1, 2400, .inl (upd f 4 (vp_nar .byte x_4))))] H := hP
  have hD : va_D A [(h0, .inr (7, [.ref (u 1), .int 5, .ref (u 2), .int 0, .int (-1), .ref (u 0), .ref (u 3), .ref (u 6), .ref (u 98), .int 0, .ref (u 7), .null, .int 0, .ref (u 15)])), (u 1, .inl (E 1, 2400, .inl (upd f 4 (vp_nar .byte x_4))))] := hD
  refine lv_iinc (v := 16) (lv' := [(2, .int 16), (0, .ref h0), (1, .int a1)]) hx hb dX7_appendNumber_40 hl (k := 0) rfl (by decide) (by decide) rfl (fun ls hl => ?_)
  refine lv_goto (tgt := 3) hx hb dX7_appendNumber_43 (by decide) ?_
  refine lv_iload_n hx hb dX7_appendNumber_3 rfl (lv_at hl 0 rfl) ?_
  refine lv_if_lt (tgt := 46) hx hb dX7_appendNumber_4 (by decide) (fun h9 => absurd h9 (by decide)) (fun _ => ?_)
  refine lv_aload_n hx hb dX7_appendNumber_7 rfl (lv_at hl 1 rfl) ?_
  refine va_get (ci := 7) (v := .int 5) (C := RX7) (T := TX7) (N := 14) hx hb hts in_m_X_append4_X7 hown hK hP 0 rfl rfl 1 (by decide) (hts (.fieldLink RX7 55 "UnseenClock" "tapeLength" "I") (List.mem_of_getElem? (i := 1) rfl)) (fun _ h9 => h9) rfl dX7_appendNumber_8 ?_
  refine lv_sipush (v := 2400) hx hb dX7_appendNumber_11 (by decide) ?_
  refine lv_icmp_ge (tgt := 46) hx hb dX7_appendNumber_14 (by decide) (fun h9 => absurd h9 (by decide)) (fun _ => ?_)
  refine lv_aload_n hx hb dX7_appendNumber_17 rfl (lv_at hl 1 rfl) ?_
  refine va_get (ci := 7) (v := .ref (u 1)) (C := RX7) (T := TX7) (N := 14) hx hb hts in_m_X_append4_X7 hown hK hP 0 rfl rfl 0 (by decide) (hts (.fieldLink RX7 9 "UnseenClock" "tape" "[B") (List.mem_of_getElem? (i := 2) rfl)) (fun _ h9 => h9) rfl dX7_appendNumber_18 ?_
  refine lv_aload_n hx hb dX7_appendNumber_21 rfl (lv_at hl 1 rfl) ?_
  refine va_get (ci := 7) (v := .int 5) (C := RX7) (T := TX7) (N := 14) hx hb hts in_m_X_append4_X7 hown hK hP 0 rfl rfl 1 (by decide) (hts (.fieldLink RX7 55 "UnseenClock" "tapeLength" "I") (List.mem_of_getElem? (i := 1) rfl)) (fun _ h9 => h9) rfl dX7_appendNumber_22 ?_
  refine lv_iload_n hx hb dX7_appendNumber_25 rfl (lv_at hl 2 rfl) ?_
  refine lv_iload_n hx hb dX7_appendNumber_26 rfl (lv_at hl 0 rfl) ?_
  obtain ⟨x_7, ex_7⟩ : ∃ y : Int32, (Int32.toUInt32 a1 >>> (Int32.toUInt32 16 &&& Int32.toUInt32 31)).toInt32 = y := ⟨_, rfl⟩
  refine lv_iushr (v := x_7) hx hb dX7_appendNumber_27 ex_7 ?_
  obtain ⟨x_8, ex_8⟩ : ∃ y : Int32, (Int32.toInt8 x_7).toInt32 = y := ⟨_, rfl⟩
  refine lv_i2b (v := x_8) hx hb dX7_appendNumber_28 ex_8 ?_
  refine va_bast hx hb hK hP hD hS 1 1 rfl rfl (by unfold vp_in; decide) dX7_appendNumber_29 (fun H locs hP hD hS => ?_)
  have hP : va_P D vwCl [(h0, .inr (7, [.ref (u 1), .int 5, .ref (u 2), .int 0, .int (-1), .ref (u 0), .ref (u 3), .ref (u 6), .ref (u 98), .int 0, .ref (u 7), .null, .int 0, .ref (u 15)])), (u 1, .inl (E 1, 2400, .inl (upd (upd f 4 (vp_nar .byte x_4)) 5 (vp_nar .byte x_8))))] H := hP
  have hD : va_D A [(h0, .inr (7, [.ref (u 1), .int 5, .ref (u 2), .int 0, .int (-1), .ref (u 0), .ref (u 3), .ref (u 6), .ref (u 98), .int 0, .ref (u 7), .null, .int 0, .ref (u 15)])), (u 1, .inl (E 1, 2400, .inl (upd (upd f 4 (vp_nar .byte x_4)) 5 (vp_nar .byte x_8))))] := hD
  refine lv_aload_n hx hb dX7_appendNumber_30 rfl (lv_at hl 1 rfl) ?_
  refine lv_dup hx hb dX7_appendNumber_31 rfl ?_
  refine va_get (ci := 7) (v := .int 5) (C := RX7) (T := TX7) (N := 14) hx hb hts in_m_X_append4_X7 hown hK hP 0 rfl rfl 1 (by decide) (hts (.fieldLink RX7 55 "UnseenClock" "tapeLength" "I") (List.mem_of_getElem? (i := 1) rfl)) (fun _ h9 => h9) rfl dX7_appendNumber_32 ?_
  refine lv_iconst (v := 1) hx hb dX7_appendNumber_35 (by decide) ?_
  refine lv_iadd hx hb dX7_appendNumber_36 ?_
  refine lv_toc (y := 6) (by decide) ?_
  refine va_put (ci := 7) (v := .int 6) (ty := .int) (C := RX7) (T := TX7) (N := 14) hx hb hts in_m_X_append4_X7 tyX7 tyX7_ok nmX7 hown hK hP hD hS 0 rfl rfl 1 (by decide) (hts (.fieldLink RX7 55 "UnseenClock" "tapeLength" "I") (List.mem_of_getElem? (i := 1) rfl)) (fun _ h9 => h9) rfl (by decide +kernel) rfl rfl (Nat.le_of_ble_eq_true rfl) dX7_appendNumber_37 (fun H locs hP hD hS => ?_)
  have hP : va_P D vwCl [(h0, .inr (7, [.ref (u 1), .int 6, .ref (u 2), .int 0, .int (-1), .ref (u 0), .ref (u 3), .ref (u 6), .ref (u 98), .int 0, .ref (u 7), .null, .int 0, .ref (u 15)])), (u 1, .inl (E 1, 2400, .inl (upd (upd f 4 (vp_nar .byte x_4)) 5 (vp_nar .byte x_8))))] H := hP
  have hD : va_D A [(h0, .inr (7, [.ref (u 1), .int 6, .ref (u 2), .int 0, .int (-1), .ref (u 0), .ref (u 3), .ref (u 6), .ref (u 98), .int 0, .ref (u 7), .null, .int 0, .ref (u 15)])), (u 1, .inl (E 1, 2400, .inl (upd (upd f 4 (vp_nar .byte x_4)) 5 (vp_nar .byte x_8))))] := hD
  refine lv_iinc (v := 8) (lv' := [(2, .int 8), (0, .ref h0), (1, .int a1)]) hx hb dX7_appendNumber_40 hl (k := 0) rfl (by decide) (by decide) rfl (fun ls hl => ?_)
  refine lv_goto (tgt := 3) hx hb dX7_appendNumber_43 (by decide) ?_
  refine lv_iload_n hx hb dX7_appendNumber_3 rfl (lv_at hl 0 rfl) ?_
  refine lv_if_lt (tgt := 46) hx hb dX7_appendNumber_4 (by decide) (fun h9 => absurd h9 (by decide)) (fun _ => ?_)
  refine lv_aload_n hx hb dX7_appendNumber_7 rfl (lv_at hl 1 rfl) ?_
  refine va_get (ci := 7) (v := .int 6) (C := RX7) (T := TX7) (N := 14) hx hb hts in_m_X_append4_X7 hown hK hP 0 rfl rfl 1 (by decide) (hts (.fieldLink RX7 55 "UnseenClock" "tapeLength" "I") (List.mem_of_getElem? (i := 1) rfl)) (fun _ h9 => h9) rfl dX7_appendNumber_8 ?_
  refine lv_sipush (v := 2400) hx hb dX7_appendNumber_11 (by decide) ?_
  refine lv_icmp_ge (tgt := 46) hx hb dX7_appendNumber_14 (by decide) (fun h9 => absurd h9 (by decide)) (fun _ => ?_)
  refine lv_aload_n hx hb dX7_appendNumber_17 rfl (lv_at hl 1 rfl) ?_
  refine va_get (ci := 7) (v := .ref (u 1)) (C := RX7) (T := TX7) (N := 14) hx hb hts in_m_X_append4_X7 hown hK hP 0 rfl rfl 0 (by decide) (hts (.fieldLink RX7 9 "UnseenClock" "tape" "[B") (List.mem_of_getElem? (i := 2) rfl)) (fun _ h9 => h9) rfl dX7_appendNumber_18 ?_
  refine lv_aload_n hx hb dX7_appendNumber_21 rfl (lv_at hl 1 rfl) ?_
  refine va_get (ci := 7) (v := .int 6) (C := RX7) (T := TX7) (N := 14) hx hb hts in_m_X_append4_X7 hown hK hP 0 rfl rfl 1 (by decide) (hts (.fieldLink RX7 55 "UnseenClock" "tapeLength" "I") (List.mem_of_getElem? (i := 1) rfl)) (fun _ h9 => h9) rfl dX7_appendNumber_22 ?_
  refine lv_iload_n hx hb dX7_appendNumber_25 rfl (lv_at hl 2 rfl) ?_
  refine lv_iload_n hx hb dX7_appendNumber_26 rfl (lv_at hl 0 rfl) ?_
  obtain ⟨x_11, ex_11⟩ : ∃ y : Int32, (Int32.toUInt32 a1 >>> (Int32.toUInt32 8 &&& Int32.toUInt32 31)).toInt32 = y := ⟨_, rfl⟩
  refine lv_iushr (v := x_11) hx hb dX7_appendNumber_27 ex_11 ?_
  obtain ⟨x_12, ex_12⟩ : ∃ y : Int32, (Int32.toInt8 x_11).toInt32 = y := ⟨_, rfl⟩
  refine lv_i2b (v := x_12) hx hb dX7_appendNumber_28 ex_12 ?_
  refine va_bast hx hb hK hP hD hS 1 1 rfl rfl (by unfold vp_in; decide) dX7_appendNumber_29 (fun H locs hP hD hS => ?_)
  have hP : va_P D vwCl [(h0, .inr (7, [.ref (u 1), .int 6, .ref (u 2), .int 0, .int (-1), .ref (u 0), .ref (u 3), .ref (u 6), .ref (u 98), .int 0, .ref (u 7), .null, .int 0, .ref (u 15)])), (u 1, .inl (E 1, 2400, .inl (upd (upd (upd f 4 (vp_nar .byte x_4)) 5 (vp_nar .byte x_8)) 6 (vp_nar .byte x_12))))] H := hP
  have hD : va_D A [(h0, .inr (7, [.ref (u 1), .int 6, .ref (u 2), .int 0, .int (-1), .ref (u 0), .ref (u 3), .ref (u 6), .ref (u 98), .int 0, .ref (u 7), .null, .int 0, .ref (u 15)])), (u 1, .inl (E 1, 2400, .inl (upd (upd (upd f 4 (vp_nar .byte x_4)) 5 (vp_nar .byte x_8)) 6 (vp_nar .byte x_12))))] := hD
  refine lv_aload_n hx hb dX7_appendNumber_30 rfl (lv_at hl 1 rfl) ?_
  refine lv_dup hx hb dX7_appendNumber_31 rfl ?_
  refine va_get (ci := 7) (v := .int 6) (C := RX7) (T := TX7) (N := 14) hx hb hts in_m_X_append4_X7 hown hK hP 0 rfl rfl 1 (by decide) (hts (.fieldLink RX7 55 "UnseenClock" "tapeLength" "I") (List.mem_of_getElem? (i := 1) rfl)) (fun _ h9 => h9) rfl dX7_appendNumber_32 ?_
  refine lv_iconst (v := 1) hx hb dX7_appendNumber_35 (by decide) ?_
  refine lv_iadd hx hb dX7_appendNumber_36 ?_
  refine lv_toc (y := 7) (by decide) ?_
  refine va_put (ci := 7) (v := .int 7) (ty := .int) (C := RX7) (T := TX7) (N := 14) hx hb hts in_m_X_append4_X7 tyX7 tyX7_ok nmX7 hown hK hP hD hS 0 rfl rfl 1 (by decide) (hts (.fieldLink RX7 55 "UnseenClock" "tapeLength" "I") (List.mem_of_getElem? (i := 1) rfl)) (fun _ h9 => h9) rfl (by decide +kernel) rfl rfl (Nat.le_of_ble_eq_true rfl) dX7_appendNumber_37 (fun H locs hP hD hS => ?_)
  have hP : va_P D vwCl [(h0, .inr (7, [.ref (u 1), .int 7, .ref (u 2), .int 0, .int (-1), .ref (u 0), .ref (u 3), .ref (u 6), .ref (u 98), .int 0, .ref (u 7), .null, .int 0, .ref (u 15)])), (u 1, .inl (E 1, 2400, .inl (upd (upd (upd f 4 (vp_nar .byte x_4)) 5 (vp_nar .byte x_8)) 6 (vp_nar .byte x_12))))] H := hP
  have hD : va_D A [(h0, .inr (7, [.ref (u 1), .int 7, .ref (u 2), .int 0, .int (-1), .ref (u 0), .ref (u 3), .ref (u 6), .ref (u 98), .int 0, .ref (u 7), .null, .int 0, .ref (u 15)])), (u 1, .inl (E 1, 2400, .inl (upd (upd (upd f 4 (vp_nar .byte x_4)) 5 (vp_nar .byte x_8)) 6 (vp_nar .byte x_12))))] := hD
  refine lv_iinc (v := 0) (lv' := [(2, .int 0), (0, .ref h0), (1, .int a1)]) hx hb dX7_appendNumber_40 hl (k := 0) rfl (by decide) (by decide) rfl (fun ls hl => ?_)
  refine lv_goto (tgt := 3) hx hb dX7_appendNumber_43 (by decide) ?_
  refine lv_iload_n hx hb dX7_appendNumber_3 rfl (lv_at hl 0 rfl) ?_
  refine lv_if_lt (tgt := 46) hx hb dX7_appendNumber_4 (by decide) (fun h9 => absurd h9 (by decide)) (fun _ => ?_)
  refine lv_aload_n hx hb dX7_appendNumber_7 rfl (lv_at hl 1 rfl) ?_
  refine va_get (ci := 7) (v := .int 7) (C := RX7) (T := TX7) (N := 14) hx hb hts in_m_X_append4_X7 hown hK hP 0 rfl rfl 1 (by decide) (hts (.fieldLink RX7 55 "UnseenClock" "tapeLength" "I") (List.mem_of_getElem? (i := 1) rfl)) (fun _ h9 => h9) rfl dX7_appendNumber_8 ?_
  refine lv_sipush (v := 2400) hx hb dX7_appendNumber_11 (by decide) ?_
  refine lv_icmp_ge (tgt := 46) hx hb dX7_appendNumber_14 (by decide) (fun h9 => absurd h9 (by decide)) (fun _ => ?_)
  refine lv_aload_n hx hb dX7_appendNumber_17 rfl (lv_at hl 1 rfl) ?_
  refine va_get (ci := 7) (v := .ref (u 1)) (C := RX7) (T := TX7) (N := 14) hx hb hts in_m_X_append4_X7 hown hK hP 0 rfl rfl 0 (by decide) (hts (.fieldLink RX7 9 "UnseenClock" "tape" "[B") (List.mem_of_getElem? (i := 2) rfl)) (fun _ h9 => h9) rfl dX7_appendNumber_18 ?_
  refine lv_aload_n hx hb dX7_appendNumber_21 rfl (lv_at hl 1 rfl) ?_
  refine va_get (ci := 7) (v := .int 7) (C := RX7) (T := TX7) (N := 14) hx hb hts in_m_X_append4_X7 hown hK hP 0 rfl rfl 1 (by decide) (hts (.fieldLink RX7 55 "UnseenClock" "tapeLength" "I") (List.mem_of_getElem? (i := 1) rfl)) (fun _ h9 => h9) rfl dX7_appendNumber_22 ?_
  refine lv_iload_n hx hb dX7_appendNumber_25 rfl (lv_at hl 2 rfl) ?_
  refine lv_iload_n hx hb dX7_appendNumber_26 rfl (lv_at hl 0 rfl) ?_
  obtain ⟨x_15, ex_15⟩ : ∃ y : Int32, (Int32.toUInt32 a1 >>> (Int32.toUInt32 0 &&& Int32.toUInt32 31)).toInt32 = y := ⟨_, rfl⟩
  refine lv_iushr (v := x_15) hx hb dX7_appendNumber_27 ex_15 ?_
  obtain ⟨x_16, ex_16⟩ : ∃ y : Int32, (Int32.toInt8 x_15).toInt32 = y := ⟨_, rfl⟩
  refine lv_i2b (v := x_16) hx hb dX7_appendNumber_28 ex_16 ?_
  refine va_bast hx hb hK hP hD hS 1 1 rfl rfl (by unfold vp_in; decide) dX7_appendNumber_29 (fun H locs hP hD hS => ?_)
  have hP : va_P D vwCl [(h0, .inr (7, [.ref (u 1), .int 7, .ref (u 2), .int 0, .int (-1), .ref (u 0), .ref (u 3), .ref (u 6), .ref (u 98), .int 0, .ref (u 7), .null, .int 0, .ref (u 15)])), (u 1, .inl (E 1, 2400, .inl (upd (upd (upd (upd f 4 (vp_nar .byte x_4)) 5 (vp_nar .byte x_8)) 6 (vp_nar .byte x_12)) 7 (vp_nar .byte x_16))))] H := hP
  have hD : va_D A [(h0, .inr (7, [.ref (u 1), .int 7, .ref (u 2), .int 0, .int (-1), .ref (u 0), .ref (u 3), .ref (u 6), .ref (u 98), .int 0, .ref (u 7), .null, .int 0, .ref (u 15)])), (u 1, .inl (E 1, 2400, .inl (upd (upd (upd (upd f 4 (vp_nar .byte x_4)) 5 (vp_nar .byte x_8)) 6 (vp_nar .byte x_12)) 7 (vp_nar .byte x_16))))] := hD
  refine lv_aload_n hx hb dX7_appendNumber_30 rfl (lv_at hl 1 rfl) ?_
  refine lv_dup hx hb dX7_appendNumber_31 rfl ?_
  refine va_get (ci := 7) (v := .int 7) (C := RX7) (T := TX7) (N := 14) hx hb hts in_m_X_append4_X7 hown hK hP 0 rfl rfl 1 (by decide) (hts (.fieldLink RX7 55 "UnseenClock" "tapeLength" "I") (List.mem_of_getElem? (i := 1) rfl)) (fun _ h9 => h9) rfl dX7_appendNumber_32 ?_
  refine lv_iconst (v := 1) hx hb dX7_appendNumber_35 (by decide) ?_
  refine lv_iadd hx hb dX7_appendNumber_36 ?_
  refine lv_toc (y := 8) (by decide) ?_
  refine va_put (ci := 7) (v := .int 8) (ty := .int) (C := RX7) (T := TX7) (N := 14) hx hb hts in_m_X_append4_X7 tyX7 tyX7_ok nmX7 hown hK hP hD hS 0 rfl rfl 1 (by decide) (hts (.fieldLink RX7 55 "UnseenClock" "tapeLength" "I") (List.mem_of_getElem? (i := 1) rfl)) (fun _ h9 => h9) rfl (by decide +kernel) rfl rfl (Nat.le_of_ble_eq_true rfl) dX7_appendNumber_37 (fun H locs hP hD hS => ?_)
  have hP : va_P D vwCl [(h0, .inr (7, [.ref (u 1), .int 8, .ref (u 2), .int 0, .int (-1), .ref (u 0), .ref (u 3), .ref (u 6), .ref (u 98), .int 0, .ref (u 7), .null, .int 0, .ref (u 15)])), (u 1, .inl (E 1, 2400, .inl (upd (upd (upd (upd f 4 (vp_nar .byte x_4)) 5 (vp_nar .byte x_8)) 6 (vp_nar .byte x_12)) 7 (vp_nar .byte x_16))))] H := hP
  have hD : va_D A [(h0, .inr (7, [.ref (u 1), .int 8, .ref (u 2), .int 0, .int (-1), .ref (u 0), .ref (u 3), .ref (u 6), .ref (u 98), .int 0, .ref (u 7), .null, .int 0, .ref (u 15)])), (u 1, .inl (E 1, 2400, .inl (upd (upd (upd (upd f 4 (vp_nar .byte x_4)) 5 (vp_nar .byte x_8)) 6 (vp_nar .byte x_12)) 7 (vp_nar .byte x_16))))] := hD
  refine lv_iinc (v := (-8)) (lv' := [(2, .int (-8)), (0, .ref h0), (1, .int a1)]) hx hb dX7_appendNumber_40 hl (k := 0) rfl (by decide) (by decide) rfl (fun ls hl => ?_)
  refine lv_goto (tgt := 3) hx hb dX7_appendNumber_43 (by decide) ?_
  refine lv_iload_n hx hb dX7_appendNumber_3 rfl (lv_at hl 0 rfl) ?_
  refine lv_if_lt (tgt := 46) hx hb dX7_appendNumber_4 (by decide) (fun _ => ?_) (fun h9 => absurd (by decide) h9)
  exact e_v hx hb hr (upd (upd (upd (upd f 4 (vp_nar .byte x_4)) 5 (vp_nar .byte x_8)) 6 (vp_nar .byte x_12)) 7 (vp_nar .byte x_16)) trivial hP hD hS hlocks dX7_appendNumber_46

def v_m_X_append8 : List Cond := .code yX7_appendNumber cX7_appendNumber 3 none :: ([.fieldLink RX7 55 "UnseenClock" "tapeLength" "I", .fieldLink RX7 9 "UnseenClock" "tape" "[B"] ++ (wsX70))
theorem in_m_X_append8_X7 : ∀ w ∈ u_ws RX7 TX7 14, w ∈ v_m_X_append8 := fun w h => List.mem_cons_of_mem _ (List.mem_append_right _ (h))
set_option maxHeartbeats 2000000 in
set_option maxRecDepth 100000 in
theorem m_X_append8 (l : Launch) (D : va_G) (E : Nat → ClassId) (sz : Nat) (h0 : Nat) (u : Nat → Nat) (f : Nat → Int32) (a1 : Int32) : Met l yX7_appendNumber v_m_X_append8 ({ frames := 0, cells := 0, slots := 0, locals := 0 }) (va_Pc [.ref h0, .int a1] (pre D E ([(h0, .inr (7, [.ref (u 1), .int 8, .ref (u 2), .int 0, .int (-1), .ref (u 0), .ref (u 3), .ref (u 6), .ref (u 98), .int 0, .ref (u 7), .null, .int 0, .ref (u 15)])), (u 1, .inl (E 1, 2400, .inl f))]) sz)) (qV (S := Nat → Int32) (fun _ => True) (fun f => [(h0, .inr (7, [.ref (u 1), .int 12, .ref (u 2), .int 0, .int (-1), .ref (u 0), .ref (u 3), .ref (u 6), .ref (u 98), .int 0, .ref (u 7), .null, .int 0, .ref (u 15)])), (u 1, .inl (E 1, 2400, .inl f))]) D (va_A ([(h0, .inr (7, [.ref (u 1), .int 8, .ref (u 2), .int 0, .int (-1), .ref (u 0), .ref (u 3), .ref (u 6), .ref (u 98), .int 0, .ref (u 7), .null, .int 0, .ref (u 15)])), (u 1, .inl (E 1, 2400, .inl f))]) sz)) 0 0 (va_A ([(h0, .inr (7, [.ref (u 1), .int 8, .ref (u 2), .int 0, .int (-1), .ref (u 0), .ref (u 3), .ref (u 6), .ref (u 98), .int 0, .ref (u 7), .null, .int 0, .ref (u 15)])), (u 1, .inl (E 1, 2400, .inl f))]) sz) := by
  refine c_void (cc := cX7_appendNumber) (maxL := 3) (ret := none) (by decide) rfl (Nat.le_of_ble_eq_true rfl) ?_
  intro p e s m below meth c ls A ⟨hx, hb, hr, hts, hown, hlocks, hin, hml⟩ hP hK hD hN hA hS hl
  have hown : s.vm.findClass RX7 = some m.cls := hown
  have hl : lv_has ls 3 [(0, .ref h0), (1, .int a1)] := hl
  refine lv_bipush (v := 24) hx hb dX7_appendNumber_0 (by decide) ?_
  refine lv_istore_n (lv' := [(2, .int 24), (0, .ref h0), (1, .int a1)]) hx hb dX7_appendNumber_2 rfl hl (by decide) rfl (fun ls hl => ?_)
  refine lv_iload_n hx hb dX7_appendNumber_3 rfl (lv_at hl 0 rfl) ?_
  refine lv_if_lt (tgt := 46) hx hb dX7_appendNumber_4 (by decide) (fun h9 => absurd h9 (by decide)) (fun _ => ?_)
  refine lv_aload_n hx hb dX7_appendNumber_7 rfl (lv_at hl 1 rfl) ?_
  refine va_get (ci := 7) (v := .int 8) (C := RX7) (T := TX7) (N := 14) hx hb hts in_m_X_append8_X7 hown hK hP 0 rfl rfl 1 (by decide) (hts (.fieldLink RX7 55 "UnseenClock" "tapeLength" "I") (List.mem_of_getElem? (i := 1) rfl)) (fun _ h9 => h9) rfl dX7_appendNumber_8 ?_
  refine lv_sipush (v := 2400) hx hb dX7_appendNumber_11 (by decide) ?_
  refine lv_icmp_ge (tgt := 46) hx hb dX7_appendNumber_14 (by decide) (fun h9 => absurd h9 (by decide)) (fun _ => ?_)
  refine lv_aload_n hx hb dX7_appendNumber_17 rfl (lv_at hl 1 rfl) ?_
  refine va_get (ci := 7) (v := .ref (u 1)) (C := RX7) (T := TX7) (N := 14) hx hb hts in_m_X_append8_X7 hown hK hP 0 rfl rfl 0 (by decide) (hts (.fieldLink RX7 9 "UnseenClock" "tape" "[B") (List.mem_of_getElem? (i := 2) rfl)) (fun _ h9 => h9) rfl dX7_appendNumber_18 ?_
  refine lv_aload_n hx hb dX7_appendNumber_21 rfl (lv_at hl 1 rfl) ?_
  refine va_get (ci := 7) (v := .int 8) (C := RX7) (T := TX7) (N := 14) hx hb hts in_m_X_append8_X7 hown hK hP 0 rfl rfl 1 (by decide) (hts (.fieldLink RX7 55 "UnseenClock" "tapeLength" "I") (List.mem_of_getElem? (i := 1) rfl)) (fun _ h9 => h9) rfl dX7_appendNumber_22 ?_
  refine lv_iload_n hx hb dX7_appendNumber_25 rfl (lv_at hl 2 rfl) ?_
  refine lv_iload_n hx hb dX7_appendNumber_26 rfl (lv_at hl 0 rfl) ?_
  obtain ⟨x_3, ex_3⟩ : ∃ y : Int32, (Int32.toUInt32 a1 >>> (Int32.toUInt32 24 &&& Int32.toUInt32 31)).toInt32 = y := ⟨_, rfl⟩
  refine lv_iushr (v := x_3) hx hb dX7_appendNumber_27 ex_3 ?_
  obtain ⟨x_4, ex_4⟩ : ∃ y : Int32, (Int32.toInt8 x_3).toInt32 = y := ⟨_, rfl⟩
  refine lv_i2b (v := x_4) hx hb dX7_appendNumber_28 ex_4 ?_
  refine va_bast hx hb hK hP hD hS 1 1 rfl rfl (by unfold vp_in; decide) dX7_appendNumber_29 (fun H locs hP hD hS => ?_)
  have hP : va_P D vwCl [(h0, .inr (7, [.ref (u 1), .int 8, .ref (u 2), .int 0, .int (-1), .ref (u 0), .ref (u 3), .ref (u 6), .ref (u 98), .int 0, .ref (u 7), .null, .int 0, .ref (u 15)])), (u 1, .inl (E 1, 2400, .inl (upd f 8 (vp_nar .byte x_4))))] H := hP
  have hD : va_D A [(h0, .inr (7, [.ref (u 1), .int 8, .ref (u 2), .int 0, .int (-1), .ref (u 0), .ref (u 3), .ref (u 6), .ref (u 98), .int 0, .ref (u 7), .null, .int 0, .ref (u 15)])), (u 1, .inl (E 1, 2400, .inl (upd f 8 (vp_nar .byte x_4))))] := hD
  refine lv_aload_n hx hb dX7_appendNumber_30 rfl (lv_at hl 1 rfl) ?_
  refine lv_dup hx hb dX7_appendNumber_31 rfl ?_
  refine va_get (ci := 7) (v := .int 8) (C := RX7) (T := TX7) (N := 14) hx hb hts in_m_X_append8_X7 hown hK hP 0 rfl rfl 1 (by decide) (hts (.fieldLink RX7 55 "UnseenClock" "tapeLength" "I") (List.mem_of_getElem? (i := 1) rfl)) (fun _ h9 => h9) rfl dX7_appendNumber_32 ?_
  refine lv_iconst (v := 1) hx hb dX7_appendNumber_35 (by decide) ?_
  refine lv_iadd hx hb dX7_appendNumber_36 ?_
  refine lv_toc (y := 9) (by decide) ?_
  refine va_put (ci := 7) (v := .int 9) (ty := .int) (C := RX7) (T := TX7) (N := 14) hx hb hts in_m_X_append8_X7 tyX7 tyX7_ok nmX7 hown hK hP hD hS 0 rfl rfl 1 (by decide) (hts (.fieldLink RX7 55 "UnseenClock" "tapeLength" "I") (List.mem_of_getElem? (i := 1) rfl)) (fun _ h9 => h9) rfl (by decide +kernel) rfl rfl (Nat.le_of_ble_eq_true rfl) dX7_appendNumber_37 (fun H locs hP hD hS => ?_)
  have hP : va_P D vwCl [(h0, .inr (7, [.ref (u 1), .int 9, .ref (u 2), .int 0, .int (-1), .ref (u 0), .ref (u 3), .ref (u 6), .ref (u 98), .int 0, .ref (u 7), .null, .int 0, .ref (u 15)])), (u 1, .inl (E 1, 2400, .inl (upd f 8 (vp_nar .byte x_4))))] H := hP
  have hD : va_D A [(h0, .inr (7, [.ref (u 1), .int 9, .ref (u 2), .int 0, .int (-1), .ref (u 0), .ref (u 3), .ref (u 6), .ref (u 98), .int 0, .ref (u 7), .null, .int 0, .ref (u 15)])), (u 1, .inl (E 1, 2400, .inl (upd f 8 (vp_nar .byte x_4))))] := hD
  refine lv_iinc (v := 16) (lv' := [(2, .int 16), (0, .ref h0), (1, .int a1)]) hx hb dX7_appendNumber_40 hl (k := 0) rfl (by decide) (by decide) rfl (fun ls hl => ?_)
  refine lv_goto (tgt := 3) hx hb dX7_appendNumber_43 (by decide) ?_
  refine lv_iload_n hx hb dX7_appendNumber_3 rfl (lv_at hl 0 rfl) ?_
  refine lv_if_lt (tgt := 46) hx hb dX7_appendNumber_4 (by decide) (fun h9 => absurd h9 (by decide)) (fun _ => ?_)
  refine lv_aload_n hx hb dX7_appendNumber_7 rfl (lv_at hl 1 rfl) ?_
  refine va_get (ci := 7) (v := .int 9) (C := RX7) (T := TX7) (N := 14) hx hb hts in_m_X_append8_X7 hown hK hP 0 rfl rfl 1 (by decide) (hts (.fieldLink RX7 55 "UnseenClock" "tapeLength" "I") (List.mem_of_getElem? (i := 1) rfl)) (fun _ h9 => h9) rfl dX7_appendNumber_8 ?_
  refine lv_sipush (v := 2400) hx hb dX7_appendNumber_11 (by decide) ?_
  refine lv_icmp_ge (tgt := 46) hx hb dX7_appendNumber_14 (by decide) (fun h9 => absurd h9 (by decide)) (fun _ => ?_)
  refine lv_aload_n hx hb dX7_appendNumber_17 rfl (lv_at hl 1 rfl) ?_
  refine va_get (ci := 7) (v := .ref (u 1)) (C := RX7) (T := TX7) (N := 14) hx hb hts in_m_X_append8_X7 hown hK hP 0 rfl rfl 0 (by decide) (hts (.fieldLink RX7 9 "UnseenClock" "tape" "[B") (List.mem_of_getElem? (i := 2) rfl)) (fun _ h9 => h9) rfl dX7_appendNumber_18 ?_
  refine lv_aload_n hx hb dX7_appendNumber_21 rfl (lv_at hl 1 rfl) ?_
  refine va_get (ci := 7) (v := .int 9) (C := RX7) (T := TX7) (N := 14) hx hb hts in_m_X_append8_X7 hown hK hP 0 rfl rfl 1 (by decide) (hts (.fieldLink RX7 55 "UnseenClock" "tapeLength" "I") (List.mem_of_getElem? (i := 1) rfl)) (fun _ h9 => h9) rfl dX7_appendNumber_22 ?_
  refine lv_iload_n hx hb dX7_appendNumber_25 rfl (lv_at hl 2 rfl) ?_
  refine lv_iload_n hx hb dX7_appendNumber_26 rfl (lv_at hl 0 rfl) ?_
  obtain ⟨x_7, ex_7⟩ : ∃ y : Int32, (Int32.toUInt32 a1 >>> (Int32.toUInt32 16 &&& Int32.toUInt32 31)).toInt32 = y := ⟨_, rfl⟩
  refine lv_iushr (v := x_7) hx hb dX7_appendNumber_27 ex_7 ?_
  obtain ⟨x_8, ex_8⟩ : ∃ y : Int32, (Int32.toInt8 x_7).toInt32 = y := ⟨_, rfl⟩
  refine lv_i2b (v := x_8) hx hb dX7_appendNumber_28 ex_8 ?_
  refine va_bast hx hb hK hP hD hS 1 1 rfl rfl (by unfold vp_in; decide) dX7_appendNumber_29 (fun H locs hP hD hS => ?_)
  have hP : va_P D vwCl [(h0, .inr (7, [.ref (u 1), .int 9, .ref (u 2), .int 0, .int (-1), .ref (u 0), .ref (u 3), .ref (u 6), .ref (u 98), .int 0, .ref (u 7), .null, .int 0, .ref (u 15)])), (u 1, .inl (E 1, 2400, .inl (upd (upd f 8 (vp_nar .byte x_4)) 9 (vp_nar .byte x_8))))] H := hP
  have hD : va_D A [(h0, .inr (7, [.ref (u 1), .int 9, .ref (u 2), .int 0, .int (-1), .ref (u 0), .ref (u 3), .ref (u 6), .ref (u 98), .int 0, .ref (u 7), .null, .int 0, .ref (u 15)])), (u 1, .inl (E 1, 2400, .inl (upd (upd f 8 (vp_nar .byte x_4)) 9 (vp_nar .byte x_8))))] := hD
  refine lv_aload_n hx hb dX7_appendNumber_30 rfl (lv_at hl 1 rfl) ?_
  refine lv_dup hx hb dX7_appendNumber_31 rfl ?_
  refine va_get (ci := 7) (v := .int 9) (C := RX7) (T := TX7) (N := 14) hx hb hts in_m_X_append8_X7 hown hK hP 0 rfl rfl 1 (by decide) (hts (.fieldLink RX7 55 "UnseenClock" "tapeLength" "I") (List.mem_of_getElem? (i := 1) rfl)) (fun _ h9 => h9) rfl dX7_appendNumber_32 ?_
  refine lv_iconst (v := 1) hx hb dX7_appendNumber_35 (by decide) ?_
  refine lv_iadd hx hb dX7_appendNumber_36 ?_
  refine lv_toc (y := 10) (by decide) ?_
  refine va_put (ci := 7) (v := .int 10) (ty := .int) (C := RX7) (T := TX7) (N := 14) hx hb hts in_m_X_append8_X7 tyX7 tyX7_ok nmX7 hown hK hP hD hS 0 rfl rfl 1 (by decide) (hts (.fieldLink RX7 55 "UnseenClock" "tapeLength" "I") (List.mem_of_getElem? (i := 1) rfl)) (fun _ h9 => h9) rfl (by decide +kernel) rfl rfl (Nat.le_of_ble_eq_true rfl) dX7_appendNumber_37 (fun H locs hP hD hS => ?_)
  have hP : va_P D vwCl [(h0, .inr (7, [.ref (u 1), .int 10, .ref (u 2), .int 0, .int (-1), .ref (u 0), .ref (u 3), .ref (u 6), .ref (u 98), .int 0, .ref (u 7), .null, .int 0, .ref (u 15)])), (u 1, .inl (E 1, 2400, .inl (upd (upd f 8 (vp_nar .byte x_4)) 9 (vp_nar .byte x_8))))] H := hP
  have hD : va_D A [(h0, .inr (7, [.ref (u 1), .int 10, .ref (u 2), .int 0, .int (-1), .ref (u 0), .ref (u 3), .ref (u 6), .ref (u 98), .int 0, .ref (u 7), .null, .int 0, .ref (u 15)])), (u 1, .inl (E 1, 2400, .inl (upd (upd f 8 (vp_nar .byte x_4)) 9 (vp_nar .byte x_8))))] := hD
  refine lv_iinc (v := 8) (lv' := [(2, .int 8), (0, .ref h0), (1, .int a1)]) hx hb dX7_appendNumber_40 hl (k := 0) rfl (by decide) (by decide) rfl (fun ls hl => ?_)
  refine lv_goto (tgt := 3) hx hb dX7_appendNumber_43 (by decide) ?_
  refine lv_iload_n hx hb dX7_appendNumber_3 rfl (lv_at hl 0 rfl) ?_
  refine lv_if_lt (tgt := 46) hx hb dX7_appendNumber_4 (by decide) (fun h9 => absurd h9 (by decide)) (fun _ => ?_)
  refine lv_aload_n hx hb dX7_appendNumber_7 rfl (lv_at hl 1 rfl) ?_
  refine va_get (ci := 7) (v := .int 10) (C := RX7) (T := TX7) (N := 14) hx hb hts in_m_X_append8_X7 hown hK hP 0 rfl rfl 1 (by decide) (hts (.fieldLink RX7 55 "UnseenClock" "tapeLength" "I") (List.mem_of_getElem? (i := 1) rfl)) (fun _ h9 => h9) rfl dX7_appendNumber_8 ?_
  refine lv_sipush (v := 2400) hx hb dX7_appendNumber_11 (by decide) ?_
  refine lv_icmp_ge (tgt := 46) hx hb dX7_appendNumber_14 (by decide) (fun h9 => absurd h9 (by decide)) (fun _ => ?_)
  refine lv_aload_n hx hb dX7_appendNumber_17 rfl (lv_at hl 1 rfl) ?_
  refine va_get (ci := 7) (v := .ref (u 1)) (C := RX7) (T := TX7) (N := 14) hx hb hts in_m_X_append8_X7 hown hK hP 0 rfl rfl 0 (by decide) (hts (.fieldLink RX7 9 "UnseenClock" "tape" "[B") (List.mem_of_getElem? (i := 2) rfl)) (fun _ h9 => h9) rfl dX7_appendNumber_18 ?_
  refine lv_aload_n hx hb dX7_appendNumber_21 rfl (lv_at hl 1 rfl) ?_
  refine va_get (ci := 7) (v := .int 10) (C := RX7) (T := TX7) (N := 14) hx hb hts in_m_X_append8_X7 hown hK hP 0 rfl rfl 1 (by decide) (hts (.fieldLink RX7 55 "UnseenClock" "tapeLength" "I") (List.mem_of_getElem? (i := 1) rfl)) (fun _ h9 => h9) rfl dX7_appendNumber_22 ?_
  refine lv_iload_n hx hb dX7_appendNumber_25 rfl (lv_at hl 2 rfl) ?_
  refine lv_iload_n hx hb dX7_appendNumber_26 rfl (lv_at hl 0 rfl) ?_
  obtain ⟨x_11, ex_11⟩ : ∃ y : Int32, (Int32.toUInt32 a1 >>> (Int32.toUInt32 8 &&& Int32.toUInt32 31)).toInt32 = y := ⟨_, rfl⟩
  refine lv_iushr (v := x_11) hx hb dX7_appendNumber_27 ex_11 ?_
  obtain ⟨x_12, ex_12⟩ : ∃ y : Int32, (Int32.toInt8 x_11).toInt32 = y := ⟨_, rfl⟩
  refine lv_i2b (v := x_12) hx hb dX7_appendNumber_28 ex_12 ?_
  refine va_bast hx hb hK hP hD hS 1 1 rfl rfl (by unfold vp_in; decide) dX7_appendNumber_29 (fun H locs hP hD hS => ?_)
  have hP : va_P D vwCl [(h0, .inr (7, [.ref (u 1), .int 10, .ref (u 2), .int 0, .int (-1), .ref (u 0), .ref (u 3), .ref (u 6), .ref (u 98), .int 0, .ref (u 7), .null, .int 0, .ref (u 15)])), (u 1, .inl (E 1, 2400, .inl (upd (upd (upd f 8 (vp_nar .byte x_4)) 9 (vp_nar .byte x_8)) 10 (vp_nar .byte x_12))))] H := hP
  have hD : va_D A [(h0, .inr (7, [.ref (u 1), .int 10, .ref (u 2), .int 0, .int (-1), .ref (u 0), .ref (u 3), .ref (u 6), .ref (u 98), .int 0, .ref (u 7), .null, .int 0, .ref (u 15)])), (u 1, .inl (E 1, 2400, .inl (upd (upd (upd f 8 (vp_nar .byte x_4)) 9 (vp_nar .byte x_8)) 10 (vp_nar .byte x_12))))] := hD
  refine lv_aload_n hx hb dX7_appendNumber_30 rfl (lv_at hl 1 rfl) ?_
  refine lv_dup hx hb dX7_appendNumber_31 rfl ?_
  refine va_get (ci := 7) (v := .int 10) (C := RX7) (T := TX7) (N := 14) hx hb hts in_m_X_append8_X7 hown hK hP 0 rfl rfl 1 (by decide) (hts (.fieldLink RX7 55 "UnseenClock" "tapeLength" "I") (List.mem_of_getElem? (i := 1) rfl)) (fun _ h9 => h9) rfl dX7_appendNumber_32 ?_
  refine lv_iconst (v := 1) hx hb dX7_appendNumber_35 (by decide) ?_
  refine lv_iadd hx hb dX7_appendNumber_36 ?_
  refine lv_toc (y := 11) (by decide) ?_
  refine va_put (ci := 7) (v := .int 11) (ty := .int) (C := RX7) (T := TX7) (N := 14) hx hb hts in_m_X_append8_X7 tyX7 tyX7_ok nmX7 hown hK hP hD hS 0 rfl rfl 1 (by decide) (hts (.fieldLink RX7 55 "UnseenClock" "tapeLength" "I") (List.mem_of_getElem? (i := 1) rfl)) (fun _ h9 => h9) rfl (by decide +kernel) rfl rfl (Nat.le_of_ble_eq_true rfl) dX7_appendNumber_37 (fun H locs hP hD hS => ?_)
  have hP : va_P D vwCl [(h0, .inr (7, [.ref (u 1), .int 11, .ref (u 2), .int 0, .int (-1), .ref (u 0), .ref (u 3), .ref (u 6), .ref (u 98), .int 0, .ref (u 7), .null, .int 0, .ref (u 15)])), (u 1, .inl (E 1, 2400, .inl (upd (upd (upd f 8 (vp_nar .byte x_4)) 9 (vp_nar .byte x_8)) 10 (vp_nar .byte x_12))))] H := hP
  have hD : va_D A [(h0, .inr (7, [.ref (u 1), .int 11, .ref (u 2), .int 0, .int (-1), .ref (u 0), .ref (u 3), .ref (u 6), .ref (u 98), .int 0, .ref (u 7), .null, .int 0, .ref (u 15)])), (u 1, .inl (E 1, 2400, .inl (upd (upd (upd f 8 (vp_nar .byte x_4)) 9 (vp_nar .byte x_8)) 10 (vp_nar .byte x_12))))] := hD
  refine lv_iinc (v := 0) (lv' := [(2, .int 0), (0, .ref h0), (1, .int a1)]) hx hb dX7_appendNumber_40 hl (k := 0) rfl (by decide) (by decide) rfl (fun ls hl => ?_)
  refine lv_goto (tgt := 3) hx hb dX7_appendNumber_43 (by decide) ?_
  refine lv_iload_n hx hb dX7_appendNumber_3 rfl (lv_at hl 0 rfl) ?_
  refine lv_if_lt (tgt := 46) hx hb dX7_appendNumber_4 (by decide) (fun h9 => absurd h9 (by decide)) (fun _ => ?_)
  refine lv_aload_n hx hb dX7_appendNumber_7 rfl (lv_at hl 1 rfl) ?_
  refine va_get (ci := 7) (v := .int 11) (C := RX7) (T := TX7) (N := 14) hx hb hts in_m_X_append8_X7 hown hK hP 0 rfl rfl 1 (by decide) (hts (.fieldLink RX7 55 "UnseenClock" "tapeLength" "I") (List.mem_of_getElem? (i := 1) rfl)) (fun _ h9 => h9) rfl dX7_appendNumber_8 ?_
  refine lv_sipush (v := 2400) hx hb dX7_appendNumber_11 (by decide) ?_
  refine lv_icmp_ge (tgt := 46) hx hb dX7_appendNumber_14 (by decide) (fun h9 => absurd h9 (by decide)) (fun _ => ?_)
  refine lv_aload_n hx hb dX7_appendNumber_17 rfl (lv_at hl 1 rfl) ?_
  refine va_get (ci := 7) (v := .ref (u 1)) (C := RX7) (T := TX7) (N := 14) hx hb hts in_m_X_append8_X7 hown hK hP 0 rfl rfl 0 (by decide) (hts (.fieldLink RX7 9 "UnseenClock" "tape" "[B") (List.mem_of_getElem? (i := 2) rfl)) (fun _ h9 => h9) rfl dX7_appendNumber_18 ?_
  refine lv_aload_n hx hb dX7_appendNumber_21 rfl (lv_at hl 1 rfl) ?_
  refine va_get (ci := 7) (v := .int 11) (C := RX7) (T := TX7) (N := 14) hx hb hts in_m_X_append8_X7 hown hK hP 0 rfl rfl 1 (by decide) (hts (.fieldLink RX7 55 "UnseenClock" "tapeLength" "I") (List.mem_of_getElem? (i := 1) rfl)) (fun _ h9 => h9) rfl dX7_appendNumber_22 ?_
  refine lv_iload_n hx hb dX7_appendNumber_25 rfl (lv_at hl 2 rfl) ?_
  refine lv_iload_n hx hb dX7_appendNumber_26 rfl (lv_at hl 0 rfl) ?_
  obtain ⟨x_15, ex_15⟩ : ∃ y : Int32, (Int32.toUInt32 a1 >>> (Int32.toUInt32 0 &&& Int32.toUInt32 31)).toInt32 = y := ⟨_, rfl⟩
  refine lv_iushr (v := x_15) hx hb dX7_appendNumber_27 ex_15 ?_
  obtain ⟨x_16, ex_16⟩ : ∃ y : Int32, (Int32.toInt8 x_15).toInt32 = y := ⟨_, rfl⟩
  refine lv_i2b (v := x_16) hx hb dX7_appendNumber_28 ex_16 ?_
  refine va_bast hx hb hK hP hD hS 1 1 rfl rfl (by unfold vp_in; decide) dX7_appendNumber_29 (fun H locs hP hD hS => ?_)
  have hP : va_P D vwCl [(h0, .inr (7, [.ref (u 1), .int 11, .ref (u 2), .int 0, .int (-1), .ref (u 0), .ref (u 3), .ref (u 6), .ref (u 98), .int 0, .ref (u 7), .null, .int 0, .ref (u 15)])), (u 1, .inl (E 1, 2400, .inl (upd (upd (upd (upd f 8 (vp_nar .byte x_4)) 9 (vp_nar .byte x_8)) 10 (vp_nar .byte x_12)) 11 (vp_nar .byte x_16))))] H := hP
  have hD : va_D A [(h0, .inr (7, [.ref (u 1), .int 11, .ref (u 2), .int 0, .int (-1), .ref (u 0), .ref (u 3), .ref (u 6), .ref (u 98), .int 0, .ref (u 7), .null, .int 0, .ref (u 15)])), (u 1, .inl (E 1, 2400, .inl (upd (upd (upd (upd f 8 (vp_nar .byte x_4)) 9 (vp_nar .byte x_8)) 10 (vp_nar .byte x_12)) 11 (vp_nar .byte x_16))))] := hD
  refine lv_aload_n hx hb dX7_appendNumber_30 rfl (lv_at hl 1 rfl) ?_
  refine lv_dup hx hb dX7_appendNumber_31 rfl ?_
  refine va_get (ci := 7) (v := .int 11) (C := RX7) (T := TX7) (N := 14) hx hb hts in_m_X_append8_X7 hown hK hP 0 rfl rfl 1 (by decide) (hts (.fieldLink RX7 55 "UnseenClock" "tapeLength" "I") (List.mem_of_getElem? (i := 1) rfl)) (fun _ h9 => h9) rfl dX7_appendNumber_32 ?_
  refine lv_iconst (v := 1) hx hb dX7_appendNumber_35 (by decide) ?_
  refine lv_iadd hx hb dX7_appendNumber_36 ?_
  refine lv_toc (y := 12) (by decide) ?_
  refine va_put (ci := 7) (v := .int 12) (ty := .int) (C := RX7) (T := TX7) (N := 14) hx hb hts in_m_X_append8_X7 tyX7 tyX7_ok nmX7 hown hK hP hD hS 0 rfl rfl 1 (by decide) (hts (.fieldLink RX7 55 "UnseenClock" "tapeLength" "I") (List.mem_of_getElem? (i := 1) rfl)) (fun _ h9 => h9) rfl (by decide +kernel) rfl rfl (Nat.le_of_ble_eq_true rfl) dX7_appendNumber_37 (fun H locs hP hD hS => ?_)
  have hP : va_P D vwCl [(h0, .inr (7, [.ref (u 1), .int 12, .ref (u 2), .int 0, .int (-1), .ref (u 0), .ref (u 3), .ref (u 6), .ref (u 98), .int 0, .ref (u 7), .null, .int 0, .ref (u 15)])), (u 1, .inl (E 1, 2400, .inl (upd (upd (upd (upd f 8 (vp_nar .byte x_4)) 9 (vp_nar .byte x_8)) 10 (vp_nar .byte x_12)) 11 (vp_nar .byte x_16))))] H := hP
  have hD : va_D A [(h0, .inr (7, [.ref (u 1), .int 12, .ref (u 2), .int 0, .int (-1), .ref (u 0), .ref (u 3), .ref (u 6), .ref (u 98), .int 0, .ref (u 7), .null, .int 0, .ref (u 15)])), (u 1, .inl (E 1, 2400, .inl (upd (upd (upd (upd f 8 (vp_nar .byte x_4)) 9 (vp_nar .byte x_8)) 10 (vp_nar .byte x_12)) 11 (vp_nar .byte x_16))))] := hD
  refine lv_iinc (v := (-8)) (lv' := [(2, .int (-8)), (0, .ref h0), (1, .int a1)]) hx hb dX7_appendNumber_40 hl (k := 0) rfl (by decide) (by decide) rfl (fun ls hl => ?_)
  refine lv_goto (tgt := 3) hx hb dX7_appendNumber_43 (by decide) ?_
  refine lv_iload_n hx hb dX7_appendNumber_3 rfl (lv_at hl 0 rfl) ?_
  refine lv_if_lt (tgt := 46) hx hb dX7_appendNumber_4 (by decide) (fun _ => ?_) (fun h9 => absurd (by decide) h9)
  exact e_v hx hb hr (upd (upd (upd (upd f 8 (vp_nar .byte x_4)) 9 (vp_nar .byte x_8)) 10 (vp_nar .byte x_12)) 11 (vp_nar .byte x_16)) trivial hP hD hS hlocks dX7_appendNumber_46

def v_m_X_append12 : List Cond := .code yX7_appendNumber cX7_appendNumber 3 none :: ([.fieldLink RX7 55 "UnseenClock" "tapeLength" "I", .fieldLink RX7 9 "UnseenClock" "tape" "[B"] ++ (wsX70))
theorem in_m_X_append12_X7 : ∀ w ∈ u_ws RX7 TX7 14, w ∈ v_m_X_append12 := fun w h => List.mem_cons_of_mem _ (List.mem_append_right _ (h))
set_option maxHeartbeats 2000000 in
set_option maxRecDepth 100000 in
theorem m_X_append12 (l : Launch) (D : va_G) (E : Nat → ClassId) (sz : Nat) (h0 : Nat) (u : Nat → Nat) (f : Nat → Int32) (a1 : Int32) : Met l yX7_appendNumber v_m_X_append12 ({ frames := 0, cells := 0, slots := 0, locals := 0 }) (va_Pc [.ref h0, .int a1] (pre D E ([(h0, .inr (7, [.ref (u 1), .int 12, .ref (u 2), .int 0, .int (-1), .ref (u 0), .ref (u 3), .ref (u 6), .ref (u 98), .int 0, .ref (u 7), .null, .int 0, .ref (u 15)])), (u 1, .inl (E 1, 2400, .inl f))]) sz)) (qV (S := Nat → Int32) (fun _ => True) (fun f => [(h0, .inr (7, [.ref (u 1), .int 16, .ref (u 2), .int 0, .int (-1), .ref (u 0), .ref (u 3), .ref (u 6), .ref (u 98), .int 0, .ref (u 7), .null, .int 0, .ref (u 15)])), (u 1, .inl (E 1, 2400, .inl f))]) D (va_A ([(h0, .inr (7, [.ref (u 1), .int 12, .ref (u 2), .int 0, .int (-1), .ref (u 0), .ref (u 3), .ref (u 6), .ref (u 98), .int 0, .ref (u 7), .null, .int 0, .ref (u 15)])), (u 1, .inl (E 1, 2400, .inl f))]) sz)) 0 0 (va_A ([(h0, .inr (7, [.ref (u 1), .int 12, .ref (u 2), .int 0, .int (-1), .ref (u 0), .ref (u 3), .ref (u 6), .ref (u 98), .int 0, .ref (u 7), .null, .int 0, .ref (u 15)])), (u 1, .inl (E 1, 2400, .inl f))]) sz) := by
  refine c_void (cc := cX7_appendNumber) (maxL := 3) (ret := none) (by decide) rfl (Nat.le_of_ble_eq_true rfl) ?_
  intro p e s m below meth c ls A ⟨hx, hb, hr, hts, hown, hlocks, hin, hml⟩ hP hK hD hN hA hS hl
  have hown : s.vm.findClass RX7 = some m.cls := hown
  have hl : lv_has ls 3 [(0, .ref h0), (1, .int a1)] := hl
  refine lv_bipush (v := 24) hx hb dX7_appendNumber_0 (by decide) ?_
  refine lv_istore_n (lv' := [(2, .int 24), (0, .ref h0), (1, .int a1)]) hx hb dX7_appendNumber_2 rfl hl (by decide) rfl (fun ls hl => ?_)
  refine lv_iload_n hx hb dX7_appendNumber_3 rfl (lv_at hl 0 rfl) ?_
  refine lv_if_lt (tgt := 46) hx hb dX7_appendNumber_4 (by decide) (fun h9 => absurd h9 (by decide)) (fun _ => ?_)
  refine lv_aload_n hx hb dX7_appendNumber_7 rfl (lv_at hl 1 rfl) ?_
  refine va_get (ci := 7) (v := .int 12) (C := RX7) (T := TX7) (N := 14) hx hb hts in_m_X_append12_X7 hown hK hP 0 rfl rfl 1 (by decide) (hts (.fieldLink RX7 55 "UnseenClock" "tapeLength" "I") (List.mem_of_getElem? (i := 1) rfl)) (fun _ h9 => h9) rfl dX7_appendNumber_8 ?_
  refine lv_sipush (v := 2400) hx hb dX7_appendNumber_11 (by decide) ?_
  refine lv_icmp_ge (tgt := 46) hx hb dX7_appendNumber_14 (by decide) (fun h9 => absurd h9 (by decide)) (fun _ => ?_)
  refine lv_aload_n hx hb dX7_appendNumber_17 rfl (lv_at hl 1 rfl) ?_
  refine va_get (ci := 7) (v := .ref (u 1)) (C := RX7) (T := TX7) (N := 14) hx hb hts in_m_X_append12_X7 hown hK hP 0 rfl rfl 0 (by decide) (hts (.fieldLink RX7 9 "UnseenClock" "tape" "[B") (List.mem_of_getElem? (i := 2) rfl)) (fun _ h9 => h9) rfl dX7_appendNumber_18 ?_
  refine lv_aload_n hx hb dX7_appendNumber_21 rfl (lv_at hl 1 rfl) ?_
  refine va_get (ci := 7) (v := .int 12) (C := RX7) (T := TX7) (N := 14) hx hb hts in_m_X_append12_X7 hown hK hP 0 rfl rfl 1 (by decide) (hts (.fieldLink RX7 55 "UnseenClock" "tapeLength" "I") (List.mem_of_getElem? (i := 1) rfl)) (fun _ h9 => h9) rfl dX7_appendNumber_22 ?_
  refine lv_iload_n hx hb dX7_appendNumber_25 rfl (lv_at hl 2 rfl) ?_
  refine lv_iload_n hx hb dX7_appendNumber_26 rfl (lv_at hl 0 rfl) ?_
  obtain ⟨x_3, ex_3⟩ : ∃ y : Int32, (Int32.toUInt32 a1 >>> (Int32.toUInt32 24 &&& Int32.toUInt32 31)).toInt32 = y := ⟨_, rfl⟩
  refine lv_iushr (v := x_3) hx hb dX7_appendNumber_27 ex_3 ?_
  obtain ⟨x_4, ex_4⟩ : ∃ y : Int32, (Int32.toInt8 x_3).toInt32 = y := ⟨_, rfl⟩
  refine lv_i2b (v := x_4) hx hb dX7_appendNumber_28 ex_4 ?_
  refine va_bast hx hb hK hP hD hS 1 1 rfl rfl (by unfold vp_in; decide) dX7_appendNumber_29 (fun H locs hP hD hS => ?_)
  have hP : va_P D vwCl [(h0, .inr (7, [.ref (u 1), .int 12, .ref (u 2), .int 0, .int (-1), .ref (u 0), .ref (u 3), .ref (u 6), .ref (u 98), .int 0, .ref (u 7), .null, .int 0, .ref (u 15)])), (u 1, .inl (E 1, 2400, .inl (upd f 12 (vp_nar .byte x_4))))] H := hP
  have hD : va_D A [(h0, .inr (7, [.ref (u 1), .int 12, .ref (u 2), .int 0, .int (-1), .ref (u 0), .ref (u 3), .ref (u 6), .ref (u 98), .int 0, .ref (u 7), .null, .int 0, .ref (u 15)])), (u 1, .inl (E 1, 2400, .inl (upd f 12 (vp_nar .byte x_4))))] := hD
  refine lv_aload_n hx hb dX7_appendNumber_30 rfl (lv_at hl 1 rfl) ?_
  refine lv_dup hx hb dX7_appendNumber_31 rfl ?_
  refine va_get (ci := 7) (v := .int 12) (C := RX7) (T := TX7) (N := 14) hx hb hts in_m_X_append12_X7 hown hK hP 0 rfl rfl 1 (by decide) (hts (.fieldLink RX7 55 "UnseenClock" "tapeLength" "I") (List.mem_of_getElem? (i := 1) rfl)) (fun _ h9 => h9) rfl dX7_appendNumber_32 ?_
  refine lv_iconst (v := 1) hx hb dX7_appendNumber_35 (by decide) ?_
  refine lv_iadd hx hb dX7_appendNumber_36 ?_
  refine lv_toc (y := 13) (by decide) ?_
  refine va_put (ci := 7) (v := .int 13) (ty := .int) (C := RX7) (T := TX7) (N := 14) hx hb hts in_m_X_append12_X7 tyX7 tyX7_ok nmX7 hown hK hP hD hS 0 rfl rfl 1 (by decide) (hts (.fieldLink RX7 55 "UnseenClock" "tapeLength" "I") (List.mem_of_getElem? (i := 1) rfl)) (fun _ h9 => h9) rfl (by decide +kernel) rfl rfl (Nat.le_of_ble_eq_true rfl) dX7_appendNumber_37 (fun H locs hP hD hS => ?_)
  have hP : va_P D vwCl [(h0, .inr (7, [.ref (u 1), .int 13, .ref (u 2), .int 0, .int (-1), .ref (u 0), .ref (u 3), .ref (u 6), .ref (u 98), .int 0, .ref (u 7), .null, .int 0, .ref (u 15)])), (u 1, .inl (E 1, 2400, .inl (upd f 12 (vp_nar .byte x_4))))] H := hP
  have hD : va_D A [(h0, .inr (7, [.ref (u 1), .int 13, .ref (u 2), .int 0, .int (-1), .ref (u 0), .ref (u 3), .ref (u 6), .ref (u 98), .int 0, .ref (u 7), .null, .int 0, .ref (u 15)])), (u 1, .inl (E 1, 2400, .inl (upd f 12 (vp_nar .byte x_4))))] := hD
  refine lv_iinc (v := 16) (lv' := [(2, .int 16), (0, .ref h0), (1, .int a1)]) hx hb dX7_appendNumber_40 hl (k := 0) rfl (by decide) (by decide) rfl (fun ls hl => ?_)
  refine lv_goto (tgt := 3) hx hb dX7_appendNumber_43 (by decide) ?_
  refine lv_iload_n hx hb dX7_appendNumber_3 rfl (lv_at hl 0 rfl) ?_
  refine lv_if_lt (tgt := 46) hx hb dX7_appendNumber_4 (by decide) (fun h9 => absurd h9 (by decide)) (fun _ => ?_)
  refine lv_aload_n hx hb dX7_appendNumber_7 rfl (lv_at hl 1 rfl) ?_
  refine va_get (ci := 7) (v := .int 13) (C := RX7) (T := TX7) (N := 14) hx hb hts in_m_X_append12_X7 hown hK hP 0 rfl rfl 1 (by decide) (hts (.fieldLink RX7 55 "UnseenClock" "tapeLength" "I") (List.mem_of_getElem? (i := 1) rfl)) (fun _ h9 => h9) rfl dX7_appendNumber_8 ?_
  refine lv_sipush (v := 2400) hx hb dX7_appendNumber_11 (by decide) ?_
  refine lv_icmp_ge (tgt := 46) hx hb dX7_appendNumber_14 (by decide) (fun h9 => absurd h9 (by decide)) (fun _ => ?_)
  refine lv_aload_n hx hb dX7_appendNumber_17 rfl (lv_at hl 1 rfl) ?_
  refine va_get (ci := 7) (v := .ref (u 1)) (C := RX7) (T := TX7) (N := 14) hx hb hts in_m_X_append12_X7 hown hK hP 0 rfl rfl 0 (by decide) (hts (.fieldLink RX7 9 "UnseenClock" "tape" "[B") (List.mem_of_getElem? (i := 2) rfl)) (fun _ h9 => h9) rfl dX7_appendNumber_18 ?_
  refine lv_aload_n hx hb dX7_appendNumber_21 rfl (lv_at hl 1 rfl) ?_
  refine va_get (ci := 7) (v := .int 13) (C := RX7) (T := TX7) (N := 14) hx hb hts in_m_X_append12_X7 hown hK hP 0 rfl rfl 1 (by decide) (hts (.fieldLink RX7 55 "UnseenClock" "tapeLength" "I") (List.mem_of_getElem? (i := 1) rfl)) (fun _ h9 => h9) rfl dX7_appendNumber_22 ?_
  refine lv_iload_n hx hb dX7_appendNumber_25 rfl (lv_at hl 2 rfl) ?_
  refine lv_iload_n hx hb dX7_appendNumber_26 rfl (lv_at hl 0 rfl) ?_
  obtain ⟨x_7, ex_7⟩ : ∃ y : Int32, (Int32.toUInt32 a1 >>> (Int32.toUInt32 16 &&& Int32.toUInt32 31)).toInt32 = y := ⟨_, rfl⟩
  refine lv_iushr (v := x_7) hx hb dX7_appendNumber_27 ex_7 ?_
  obtain ⟨x_8, ex_8⟩ : ∃ y : Int32, (Int32.toInt8 x_7).toInt32 = y := ⟨_, rfl⟩
  refine lv_i2b (v := x_8) hx hb dX7_appendNumber_28 ex_8 ?_
  refine va_bast hx hb hK hP hD hS 1 1 rfl rfl (by unfold vp_in; decide) dX7_appendNumber_29 (fun H locs hP hD hS => ?_)
  have hP : va_P D vwCl [(h0, .inr (7, [.ref (u 1), .int 13, .ref (u 2), .int 0, .int (-1), .ref (u 0), .ref (u 3), .ref (u 6), .ref (u 98), .int 0, .ref (u 7), .null, .int 0, .ref (u 15)])), (u 1, .inl (E 1, 2400, .inl (upd (upd f 12 (vp_nar .byte x_4)) 13 (vp_nar .byte x_8))))] H := hP
  have hD : va_D A [(h0, .inr (7, [.ref (u 1), .int 13, .ref (u 2), .int 0, .int (-1), .ref (u 0), .ref (u 3), .ref (u 6), .ref (u 98), .int 0, .ref (u 7), .null, .int 0, .ref (u 15)])), (u 1, .inl (E 1, 2400, .inl (upd (upd f 12 (vp_nar .byte x_4)) 13 (vp_nar .byte x_8))))] := hD
  refine lv_aload_n hx hb dX7_appendNumber_30 rfl (lv_at hl 1 rfl) ?_
  refine lv_dup hx hb dX7_appendNumber_31 rfl ?_
  refine va_get (ci := 7) (v := .int 13) (C := RX7) (T := TX7) (N := 14) hx hb hts in_m_X_append12_X7 hown hK hP 0 rfl rfl 1 (by decide) (hts (.fieldLink RX7 55 "UnseenClock" "tapeLength" "I") (List.mem_of_getElem? (i := 1) rfl)) (fun _ h9 => h9) rfl dX7_appendNumber_32 ?_
  refine lv_iconst (v := 1) hx hb dX7_appendNumber_35 (by decide) ?_
  refine lv_iadd hx hb dX7_appendNumber_36 ?_
  refine lv_toc (y := 14) (by decide) ?_
  refine va_put (ci := 7) (v := .int 14) (ty := .int) (C := RX7) (T := TX7) (N := 14) hx hb hts in_m_X_append12_X7 tyX7 tyX7_ok nmX7 hown hK hP hD hS 0 rfl rfl 1 (by decide) (hts (.fieldLink RX7 55 "UnseenClock" "tapeLength" "I") (List.mem_of_getElem? (i := 1) rfl)) (fun _ h9 => h9) rfl (by decide +kernel) rfl rfl (Nat.le_of_ble_eq_true rfl) dX7_appendNumber_37 (fun H locs hP hD hS => ?_)
  have hP : va_P D vwCl [(h0, .inr (7, [.ref (u 1), .int 14, .ref (u 2), .int 0, .int (-1), .ref (u 0), .ref (u 3), .ref (u 6), .ref (u 98), .int 0, .ref (u 7), .null, .int 0, .ref (u 15)])), (u 1, .inl (E 1, 2400, .inl (upd (upd f 12 (vp_nar .byte x_4)) 13 (vp_nar .byte x_8))))] H := hP
  have hD : va_D A [(h0, .inr (7, [.ref (u 1), .int 14, .ref (u 2), .int 0, .int (-1), .ref (u 0), .ref (u 3), .ref (u 6), .ref (u 98), .int 0, .ref (u 7), .null, .int 0, .ref (u 15)])), (u 1, .inl (E 1, 2400, .inl (upd (upd f 12 (vp_nar .byte x_4)) 13 (vp_nar .byte x_8))))] := hD
  refine lv_iinc (v := 8) (lv' := [(2, .int 8), (0, .ref h0), (1, .int a1)]) hx hb dX7_appendNumber_40 hl (k := 0) rfl (by decide) (by decide) rfl (fun ls hl => ?_)
  refine lv_goto (tgt := 3) hx hb dX7_appendNumber_43 (by decide) ?_
  refine lv_iload_n hx hb dX7_appendNumber_3 rfl (lv_at hl 0 rfl) ?_
  refine lv_if_lt (tgt := 46) hx hb dX7_appendNumber_4 (by decide) (fun h9 => absurd h9 (by decide)) (fun _ => ?_)
  refine lv_aload_n hx hb dX7_appendNumber_7 rfl (lv_at hl 1 rfl) ?_
  refine va_get (ci := 7) (v := .int 14) (C := RX7) (T := TX7) (N := 14) hx hb hts in_m_X_append12_X7 hown hK hP 0 rfl rfl 1 (by decide) (hts (.fieldLink RX7 55 "UnseenClock" "tapeLength" "I") (List.mem_of_getElem? (i := 1) rfl)) (fun _ h9 => h9) rfl dX7_appendNumber_8 ?_
  refine lv_sipush (v := 2400) hx hb dX7_appendNumber_11 (by decide) ?_
  refine lv_icmp_ge (tgt := 46) hx hb dX7_appendNumber_14 (by decide) (fun h9 => absurd h9 (by decide)) (fun _ => ?_)
  refine lv_aload_n hx hb dX7_appendNumber_17 rfl (lv_at hl 1 rfl) ?_
  refine va_get (ci := 7) (v := .ref (u 1)) (C := RX7) (T := TX7) (N := 14) hx hb hts in_m_X_append12_X7 hown hK hP 0 rfl rfl 0 (by decide) (hts (.fieldLink RX7 9 "UnseenClock" "tape" "[B") (List.mem_of_getElem? (i := 2) rfl)) (fun _ h9 => h9) rfl dX7_appendNumber_18 ?_
  refine lv_aload_n hx hb dX7_appendNumber_21 rfl (lv_at hl 1 rfl) ?_
  refine va_get (ci := 7) (v := .int 14) (C := RX7) (T := TX7) (N := 14) hx hb hts in_m_X_append12_X7 hown hK hP 0 rfl rfl 1 (by decide) (hts (.fieldLink RX7 55 "UnseenClock" "tapeLength" "I") (List.mem_of_getElem? (i := 1) rfl)) (fun _ h9 => h9) rfl dX7_appendNumber_22 ?_
  refine lv_iload_n hx hb dX7_appendNumber_25 rfl (lv_at hl 2 rfl) ?_
  refine lv_iload_n hx hb dX7_appendNumber_26 rfl (lv_at hl 0 rfl) ?_
  obtain ⟨x_11, ex_11⟩ : ∃ y : Int32, (Int32.toUInt32 a1 >>> (Int32.toUInt32 8 &&& Int32.toUInt32 31)).toInt32 = y := ⟨_, rfl⟩
  refine lv_iushr (v := x_11) hx hb dX7_appendNumber_27 ex_11 ?_
  obtain ⟨x_12, ex_12⟩ : ∃ y : Int32, (Int32.toInt8 x_11).toInt32 = y := ⟨_, rfl⟩
  refine lv_i2b (v := x_12) hx hb dX7_appendNumber_28 ex_12 ?_
  refine va_bast hx hb hK hP hD hS 1 1 rfl rfl (by unfold vp_in; decide) dX7_appendNumber_29 (fun H locs hP hD hS => ?_)
  have hP : va_P D vwCl [(h0, .inr (7, [.ref (u 1), .int 14, .ref (u 2), .int 0, .int (-1), .ref (u 0), .ref (u 3), .ref (u 6), .ref (u 98), .int 0, .ref (u 7), .null, .int 0, .ref (u 15)])), (u 1, .inl (E 1, 2400, .inl (upd (upd (upd f 12 (vp_nar .byte x_4)) 13 (vp_nar .byte x_8)) 14 (vp_nar .byte x_12))))] H := hP
  have hD : va_D A [(h0, .inr (7, [.ref (u 1), .int 14, .ref (u 2), .int 0, .int (-1), .ref (u 0), .ref (u 3), .ref (u 6), .ref (u 98), .int 0, .ref (u 7), .null, .int 0, .ref (u 15)])), (u 1, .inl (E 1, 2400, .inl (upd (upd (upd f 12 (vp_nar .byte x_4)) 13 (vp_nar .byte x_8)) 14 (vp_nar .byte x_12))))] := hD
  refine lv_aload_n hx hb dX7_appendNumber_30 rfl (lv_at hl 1 rfl) ?_
  refine lv_dup hx hb dX7_appendNumber_31 rfl ?_
  refine va_get (ci := 7) (v := .int 14) (C := RX7) (T := TX7) (N := 14) hx hb hts in_m_X_append12_X7 hown hK hP 0 rfl rfl 1 (by decide) (hts (.fieldLink RX7 55 "UnseenClock" "tapeLength" "I") (List.mem_of_getElem? (i := 1) rfl)) (fun _ h9 => h9) rfl dX7_appendNumber_32 ?_
  refine lv_iconst (v := 1) hx hb dX7_appendNumber_35 (by decide) ?_
  refine lv_iadd hx hb dX7_appendNumber_36 ?_
  refine lv_toc (y := 15) (by decide) ?_
  refine va_put (ci := 7) (v := .int 15) (ty := .int) (C := RX7) (T := TX7) (N := 14) hx hb hts in_m_X_append12_X7 tyX7 tyX7_ok nmX7 hown hK hP hD hS 0 rfl rfl 1 (by decide) (hts (.fieldLink RX7 55 "UnseenClock" "tapeLength" "I") (List.mem_of_getElem? (i := 1) rfl)) (fun _ h9 => h9) rfl (by decide +kernel) rfl rfl (Nat.le_of_ble_eq_true rfl) dX7_appendNumber_37 (fun H locs hP hD hS => ?_)
  have hP : va_P D vwCl [(h0, .inr (7, [.ref (u 1), .int 15, .ref (u 2), .int 0, .int (-1), .ref (u 0), .ref (u 3), .ref (u 6), .ref (u 98), .int 0, .ref (u 7), .null, .int 0, .ref (u 15)])), (u 1, .inl (E 1, 2400, .inl (upd (upd (upd f 12 (vp_nar .byte x_4)) 13 (vp_nar .byte x_8)) 14 (vp_nar .byte x_12))))] H := hP
  have hD : va_D A [(h0, .inr (7, [.ref (u 1), .int 15, .ref (u 2), .int 0, .int (-1), .ref (u 0), .ref (u 3), .ref (u 6), .ref (u 98), .int 0, .ref (u 7), .null, .int 0, .ref (u 15)])), (u 1, .inl (E 1, 2400, .inl (upd (upd (upd f 12 (vp_nar .byte x_4)) 13 (vp_nar .byte x_8)) 14 (vp_nar .byte x_12))))] := hD
  refine lv_iinc (v := 0) (lv' := [(2, .int 0), (0, .ref h0), (1, .int a1)]) hx hb dX7_appendNumber_40 hl (k := 0) rfl (by decide) (by decide) rfl (fun ls hl => ?_)
  refine lv_goto (tgt := 3) hx hb dX7_appendNumber_43 (by decide) ?_
  refine lv_iload_n hx hb dX7_appendNumber_3 rfl (lv_at hl 0 rfl) ?_
  refine lv_if_lt (tgt := 46) hx hb dX7_appendNumber_4 (by decide) (fun h9 => absurd h9 (by decide)) (fun _ => ?_)
  refine lv_aload_n hx hb dX7_appendNumber_7 rfl (lv_at hl 1 rfl) ?_
  refine va_get (ci := 7) (v := .int 15) (C := RX7) (T := TX7) (N := 14) hx hb hts in_m_X_append12_X7 hown hK hP 0 rfl rfl 1 (by decide) (hts (.fieldLink RX7 55 "UnseenClock" "tapeLength" "I") (List.mem_of_getElem? (i := 1) rfl)) (fun _ h9 => h9) rfl dX7_appendNumber_8 ?_
  refine lv_sipush (v := 2400) hx hb dX7_appendNumber_11 (by decide) ?_
  refine lv_icmp_ge (tgt := 46) hx hb dX7_appendNumber_14 (by decide) (fun h9 => absurd h9 (by decide)) (fun _ => ?_)
  refine lv_aload_n hx hb dX7_appendNumber_17 rfl (lv_at hl 1 rfl) ?_
  refine va_get (ci := 7) (v := .ref (u 1)) (C := RX7) (T := TX7) (N := 14) hx hb hts in_m_X_append12_X7 hown hK hP 0 rfl rfl 0 (by decide) (hts (.fieldLink RX7 9 "UnseenClock" "tape" "[B") (List.mem_of_getElem? (i := 2) rfl)) (fun _ h9 => h9) rfl dX7_appendNumber_18 ?_
  refine lv_aload_n hx hb dX7_appendNumber_21 rfl (lv_at hl 1 rfl) ?_
  refine va_get (ci := 7) (v := .int 15) (C := RX7) (T := TX7) (N := 14) hx hb hts in_m_X_append12_X7 hown hK hP 0 rfl rfl 1 (by decide) (hts (.fieldLink RX7 55 "UnseenClock" "tapeLength" "I") (List.mem_of_getElem? (i := 1) rfl)) (fun _ h9 => h9) rfl dX7_appendNumber_22 ?_
  refine lv_iload_n hx hb dX7_appendNumber_25 rfl (lv_at hl 2 rfl) ?_
  refine lv_iload_n hx hb dX7_appendNumber_26 rfl (lv_at hl 0 rfl) ?_
  obtain ⟨x_15, ex_15⟩ : ∃ y : Int32, (Int32.toUInt32 a1 >>> (Int32.toUInt32 0 &&& Int32.toUInt32 31)).toInt32 = y := ⟨_, rfl⟩
  refine lv_iushr (v := x_15) hx hb dX7_appendNumber_27 ex_15 ?_
  obtain ⟨x_16, ex_16⟩ : ∃ y : Int32, (Int32.toInt8 x_15).toInt32 = y := ⟨_, rfl⟩
  refine lv_i2b (v := x_16) hx hb dX7_appendNumber_28 ex_16 ?_
  refine va_bast hx hb hK hP hD hS 1 1 rfl rfl (by unfold vp_in; decide) dX7_appendNumber_29 (fun H locs hP hD hS => ?_)
  have hP : va_P D vwCl [(h0, .inr (7, [.ref (u 1), .int 15, .ref (u 2), .int 0, .int (-1), .ref (u 0), .ref (u 3), .ref (u 6), .ref (u 98), .int 0, .ref (u 7), .null, .int 0, .ref (u 15)])), (u 1, .inl (E 1, 2400, .inl (upd (upd (upd (upd f 12 (vp_nar .byte x_4)) 13 (vp_nar .byte x_8)) 14 (vp_nar .byte x_12)) 15 (vp_nar .byte x_16))))] H := hP
  have hD : va_D A [(h0, .inr (7, [.ref (u 1), .int 15, .ref (u 2), .int 0, .int (-1), .ref (u 0), .ref (u 3), .ref (u 6), .ref (u 98), .int 0, .ref (u 7), .null, .int 0, .ref (u 15)])), (u 1, .inl (E 1, 2400, .inl (upd (upd (upd (upd f 12 (vp_nar .byte x_4)) 13 (vp_nar .byte x_8)) 14 (vp_nar .byte x_12)) 15 (vp_nar .byte x_16))))] := hD
  refine lv_aload_n hx hb dX7_appendNumber_30 rfl (lv_at hl 1 rfl) ?_
  refine lv_dup hx hb dX7_appendNumber_31 rfl ?_
  refine va_get (ci := 7) (v := .int 15) (C := RX7) (T := TX7) (N := 14) hx hb hts in_m_X_append12_X7 hown hK hP 0 rfl rfl 1 (by decide) (hts (.fieldLink RX7 55 "UnseenClock" "tapeLength" "I") (List.mem_of_getElem? (i := 1) rfl)) (fun _ h9 => h9) rfl dX7_appendNumber_32 ?_
  refine lv_iconst (v := 1) hx hb dX7_appendNumber_35 (by decide) ?_
  refine lv_iadd hx hb dX7_appendNumber_36 ?_
  refine lv_toc (y := 16) (by decide) ?_
  refine va_put (ci := 7) (v := .int 16) (ty := .int) (C := RX7) (T := TX7) (N := 14) hx hb hts in_m_X_append12_X7 tyX7 tyX7_ok nmX7 hown hK hP hD hS 0 rfl rfl 1 (by decide) (hts (.fieldLink RX7 55 "UnseenClock" "tapeLength" "I") (List.mem_of_getElem? (i := 1) rfl)) (fun _ h9 => h9) rfl (by decide +kernel) rfl rfl (Nat.le_of_ble_eq_true rfl) dX7_appendNumber_37 (fun H locs hP hD hS => ?_)
  have hP : va_P D vwCl [(h0, .inr (7, [.ref (u 1), .int 16, .ref (u 2), .int 0, .int (-1), .ref (u 0), .ref (u 3), .ref (u 6), .ref (u 98), .int 0, .ref (u 7), .null, .int 0, .ref (u 15)])), (u 1, .inl (E 1, 2400, .inl (upd (upd (upd (upd f 12 (vp_nar .byte x_4)) 13 (vp_nar .byte x_8)) 14 (vp_nar .byte x_12)) 15 (vp_nar .byte x_16))))] H := hP
  have hD : va_D A [(h0, .inr (7, [.ref (u 1), .int 16, .ref (u 2), .int 0, .int (-1), .ref (u 0), .ref (u 3), .ref (u 6), .ref (u 98), .int 0, .ref (u 7), .null, .int 0, .ref (u 15)])), (u 1, .inl (E 1, 2400, .inl (upd (upd (upd (upd f 12 (vp_nar .byte x_4)) 13 (vp_nar .byte x_8)) 14 (vp_nar .byte x_12)) 15 (vp_nar .byte x_16))))] := hD
  refine lv_iinc (v := (-8)) (lv' := [(2, .int (-8)), (0, .ref h0), (1, .int a1)]) hx hb dX7_appendNumber_40 hl (k := 0) rfl (by decide) (by decide) rfl (fun ls hl => ?_)
  refine lv_goto (tgt := 3) hx hb dX7_appendNumber_43 (by decide) ?_
  refine lv_iload_n hx hb dX7_appendNumber_3 rfl (lv_at hl 0 rfl) ?_
  refine lv_if_lt (tgt := 46) hx hb dX7_appendNumber_4 (by decide) (fun _ => ?_) (fun h9 => absurd (by decide) h9)
  exact e_v hx hb hr (upd (upd (upd (upd f 12 (vp_nar .byte x_4)) 13 (vp_nar .byte x_8)) 14 (vp_nar .byte x_12)) 15 (vp_nar .byte x_16)) trivial hP hD hS hlocks dX7_appendNumber_46

def v_m_X_append16 : List Cond := .code yX7_appendNumber cX7_appendNumber 3 none :: ([.fieldLink RX7 55 "UnseenClock" "tapeLength" "I", .fieldLink RX7 9 "UnseenClock" "tape" "[B"] ++ (wsX70))
theorem in_m_X_append16_X7 : ∀ w ∈ u_ws RX7 TX7 14, w ∈ v_m_X_append16 := fun w h => List.mem_cons_of_mem _ (List.mem_append_right _ (h))
set_option maxHeartbeats 2000000 in
set_option maxRecDepth 100000 in
theorem m_X_append16 (l : Launch) (D : va_G) (E : Nat → ClassId) (sz : Nat) (h0 : Nat) (u : Nat → Nat) (f : Nat → Int32) (a1 : Int32) : Met l yX7_appendNumber v_m_X_append16 ({ frames := 0, cells := 0, slots := 0, locals := 0 }) (va_Pc [.ref h0, .int a1] (pre D E ([(h0, .inr (7, [.ref (u 1), .int 16, .ref (u 2), .int 0, .int (-1), .ref (u 0), .ref (u 3), .ref (u 6), .ref (u 98), .int 0, .ref (u 7), .null, .int 0, .ref (u 15)])), (u 1, .inl (E 1, 2400, .inl f))]) sz)) (qV (S := Nat → Int32) (fun _ => True) (fun f => [(h0, .inr (7, [.ref (u 1), .int 20, .ref (u 2), .int 0, .int (-1), .ref (u 0), .ref (u 3), .ref (u 6), .ref (u 98), .int 0, .ref (u 7), .null, .int 0, .ref (u 15)])), (u 1, .inl (E 1, 2400, .inl f))]) D (va_A ([(h0, .inr (7, [.ref (u 1), .int 16, .ref (u 2), .int 0, .int (-1), .ref (u 0), .ref (u 3), .ref (u 6), .ref (u 98), .int 0, .ref (u 7), .null, .int 0, .ref (u 15)])), (u 1, .inl (E 1, 2400, .inl f))]) sz)) 0 0 (va_A ([(h0, .inr (7, [.ref (u 1), .int 16, .ref (u 2), .int 0, .int (-1), .ref (u 0), .ref (u 3), .ref (u 6), .ref (u 98), .int 0, .ref (u 7), .null, .int 0, .ref (u 15)])), (u 1, .inl (E 1, 2400, .inl f))]) sz) := by
  refine c_void (cc := cX7_appendNumber) (maxL := 3) (ret := none) (by decide) rfl (Nat.le_of_ble_eq_true rfl) ?_
  intro p e s m below meth c ls A ⟨hx, hb, hr, hts, hown, hlocks, hin, hml⟩ hP hK hD hN hA hS hl
  have hown : s.vm.findClass RX7 = some m.cls := hown
  have hl : lv_has ls 3 [(0, .ref h0), (1, .int a1)] := hl
  refine lv_bipush (v := 24) hx hb dX7_appendNumber_0 (by decide) ?_
  refine lv_istore_n (lv' := [(2, .int 24), (0, .ref h0), (1, .int a1)]) hx hb dX7_appendNumber_2 rfl hl (by decide) rfl (fun ls hl => ?_)
  refine lv_iload_n hx hb dX7_appendNumber_3 rfl (lv_at hl 0 rfl) ?_
  refine lv_if_lt (tgt := 46) hx hb dX7_appendNumber_4 (by decide) (fun h9 => absurd h9 (by decide)) (fun _ => ?_)
  refine lv_aload_n hx hb dX7_appendNumber_7 rfl (lv_at hl 1 rfl) ?_
  refine va_get (ci := 7) (v := .int 16) (C := RX7) (T := TX7) (N := 14) hx hb hts in_m_X_append16_X7 hown hK hP 0 rfl rfl 1 (by decide) (hts (.fieldLink RX7 55 "UnseenClock" "tapeLength" "I") (List.mem_of_getElem? (i := 1) rfl)) (fun _ h9 => h9) rfl dX7_appendNumber_8 ?_
  refine lv_sipush (v := 2400) hx hb dX7_appendNumber_11 (by decide) ?_
  refine lv_icmp_ge (tgt := 46) hx hb dX7_appendNumber_14 (by decide) (fun h9 => absurd h9 (by decide)) (fun _ => ?_)
  refine lv_aload_n hx hb dX7_appendNumber_17 rfl (lv_at hl 1 rfl) ?_
  refine va_get (ci := 7) (v := .ref (u 1)) (C := RX7) (T := TX7) (N := 14) hx hb hts in_m_X_append16_X7 hown hK hP 0 rfl rfl 0 (by decide) (hts (.fieldLink RX7 9 "UnseenClock" "tape" "[B") (List.mem_of_getElem? (i := 2) rfl)) (fun _ h9 => h9) rfl dX7_appendNumber_18 ?_
  refine lv_aload_n hx hb dX7_appendNumber_21 rfl (lv_at hl 1 rfl) ?_
  refine va_get (ci := 7) (v := .int 16) (C := RX7) (T := TX7) (N := 14) hx hb hts in_m_X_append16_X7 hown hK hP 0 rfl rfl 1 (by decide) (hts (.fieldLink RX7 55 "UnseenClock" "tapeLength" "I") (List.mem_of_getElem? (i := 1) rfl)) (fun _ h9 => h9) rfl dX7_appendNumber_22 ?_
  refine lv_iload_n hx hb dX7_appendNumber_25 rfl (lv_at hl 2 rfl) ?_
  refine lv_iload_n hx hb dX7_appendNumber_26 rfl (lv_at hl 0 rfl) ?_
  obtain ⟨x_3, ex_3⟩ : ∃ y : Int32, (Int32.toUInt32 a1 >>> (Int32.toUInt32 24 &&& Int32.toUInt32 31)).toInt32 = y := ⟨_, rfl⟩
  refine lv_iushr (v := x_3) hx hb dX7_appendNumber_27 ex_3 ?_
  obtain ⟨x_4, ex_4⟩ : ∃ y : Int32, (Int32.toInt8 x_3).toInt32 = y := ⟨_, rfl⟩
  refine lv_i2b (v := x_4) hx hb dX7_appendNumber_28 ex_4 ?_
  refine va_bast hx hb hK hP hD hS 1 1 rfl rfl (by unfold vp_in; decide) dX7_appendNumber_29 (fun H locs hP hD hS => ?_)
  have hP : va_P D vwCl [(h0, .inr (7, [.ref (u 1), .int 16, .ref (u 2), .int 0, .int (-1), .ref (u 0), .ref (u 3), .ref (u 6), .ref (u 98), .int 0, .ref (u 7), .null, .int 0, .ref (u 15)])), (u 1, .inl (E 1, 2400, .inl (upd f 16 (vp_nar .byte x_4))))] H := hP
  have hD : va_D A [(h0, .inr (7, [.ref (u 1), .int 16, .ref (u 2), .int 0, .int (-1), .ref (u 0), .ref (u 3), .ref (u 6), .ref (u 98), .int 0, .ref (u 7), .null, .int 0, .ref (u 15)])), (u 1, .inl (E 1, 2400, .inl (upd f 16 (vp_nar .byte x_4))))] := hD
  refine lv_aload_n hx hb dX7_appendNumber_30 rfl (lv_at hl 1 rfl) ?_
  refine lv_dup hx hb dX7_appendNumber_31 rfl ?_
  refine va_get (ci := 7) (v := .int 16) (C := RX7) (T := TX7) (N := 14) hx hb hts in_m_X_append16_X7 hown hK hP 0 rfl rfl 1 (by decide) (hts (.fieldLink RX7 55 "UnseenClock" "tapeLength" "I") (List.mem_of_getElem? (i := 1) rfl)) (fun _ h9 => h9) rfl dX7_appendNumber_32 ?_
  refine lv_iconst (v := 1) hx hb dX7_appendNumber_35 (by decide) ?_
  refine lv_iadd hx hb dX7_appendNumber_36 ?_
  refine lv_toc (y := 17) (by decide) ?_
  refine va_put (ci := 7) (v := .int 17) (ty := .int) (C := RX7) (T := TX7) (N := 14) hx hb hts in_m_X_append16_X7 tyX7 tyX7_ok nmX7 hown hK hP hD hS 0 rfl rfl 1 (by decide) (hts (.fieldLink RX7 55 "UnseenClock" "tapeLength" "I") (List.mem_of_getElem? (i := 1) rfl)) (fun _ h9 => h9) rfl (by decide +kernel) rfl rfl (Nat.le_of_ble_eq_true rfl) dX7_appendNumber_37 (fun H locs hP hD hS => ?_)
  have hP : va_P D vwCl [(h0, .inr (7, [.ref (u 1), .int 17, .ref (u 2), .int 0, .int (-1), .ref (u 0), .ref (u 3), .ref (u 6), .ref (u 98), .int 0, .ref (u 7), .null, .int 0, .ref (u 15)])), (u 1, .inl (E 1, 2400, .inl (upd f 16 (vp_nar .byte x_4))))] H := hP
  have hD : va_D A [(h0, .inr (7, [.ref (u 1), .int 17, .ref (u 2), .int 0, .int (-1), .ref (u 0), .ref (u 3), .ref (u 6), .ref (u 98), .int 0, .ref (u 7), .null, .int 0, .ref (u 15)])), (u 1, .inl (E 1, 2400, .inl (upd f 16 (vp_nar .byte x_4))))] := hD
  refine lv_iinc (v := 16) (lv' := [(2, .int 16), (0, .ref h0), (1, .int a1)]) hx hb dX7_appendNumber_40 hl (k := 0) rfl (by decide) (by decide) rfl (fun ls hl => ?_)
  refine lv_goto (tgt := 3) hx hb dX7_appendNumber_43 (by decide) ?_
  refine lv_iload_n hx hb dX7_appendNumber_3 rfl (lv_at hl 0 rfl) ?_
  refine lv_if_lt (tgt := 46) hx hb dX7_appendNumber_4 (by decide) (fun h9 => absurd h9 (by decide)) (fun _ => ?_)
  refine lv_aload_n hx hb dX7_appendNumber_7 rfl (lv_at hl 1 rfl) ?_
  refine va_get (ci := 7) (v := .int 17) (C := RX7) (T := TX7) (N := 14) hx hb hts in_m_X_append16_X7 hown hK hP 0 rfl rfl 1 (by decide) (hts (.fieldLink RX7 55 "UnseenClock" "tapeLength" "I") (List.mem_of_getElem? (i := 1) rfl)) (fun _ h9 => h9) rfl dX7_appendNumber_8 ?_
  refine lv_sipush (v := 2400) hx hb dX7_appendNumber_11 (by decide) ?_
  refine lv_icmp_ge (tgt := 46) hx hb dX7_appendNumber_14 (by decide) (fun h9 => absurd h9 (by decide)) (fun _ => ?_)
  refine lv_aload_n hx hb dX7_appendNumber_17 rfl (lv_at hl 1 rfl) ?_
  refine va_get (ci := 7) (v := .ref (u 1)) (C := RX7) (T := TX7) (N := 14) hx hb hts in_m_X_append16_X7 hown hK hP 0 rfl rfl 0 (by decide) (hts (.fieldLink RX7 9 "UnseenClock" "tape" "[B") (List.mem_of_getElem? (i := 2) rfl)) (fun _ h9 => h9) rfl dX7_appendNumber_18 ?_
  refine lv_aload_n hx hb dX7_appendNumber_21 rfl (lv_at hl 1 rfl) ?_
  refine va_get (ci := 7) (v := .int 17) (C := RX7) (T := TX7) (N := 14) hx hb hts in_m_X_append16_X7 hown hK hP 0 rfl rfl 1 (by decide) (hts (.fieldLink RX7 55 "UnseenClock" "tapeLength" "I") (List.mem_of_getElem? (i := 1) rfl)) (fun _ h9 => h9) rfl dX7_appendNumber_22 ?_
  refine lv_iload_n hx hb dX7_appendNumber_25 rfl (lv_at hl 2 rfl) ?_
  refine lv_iload_n hx hb dX7_appendNumber_26 rfl (lv_at hl 0 rfl) ?_
  obtain ⟨x_7, ex_7⟩ : ∃ y : Int32, (Int32.toUInt32 a1 >>> (Int32.toUInt32 16 &&& Int32.toUInt32 31)).toInt32 = y := ⟨_, rfl⟩
  refine lv_iushr (v := x_7) hx hb dX7_appendNumber_27 ex_7 ?_
  obtain ⟨x_8, ex_8⟩ : ∃ y : Int32, (Int32.toInt8 x_7).toInt32 = y := ⟨_, rfl⟩
  refine lv_i2b (v := x_8) hx hb dX7_appendNumber_28 ex_8 ?_
  refine va_bast hx hb hK hP hD hS 1 1 rfl rfl (by unfold vp_in; decide) dX7_appendNumber_29 (fun H locs hP hD hS => ?_)
  have hP : va_P D vwCl [(h0, .inr (7, [.ref (u 1), .int 17, .ref (u 2), .int 0, .int (-1), .ref (u 0), .ref (u 3), .ref (u 6), .ref (u 98), .int 0, .ref (u 7), .null, .int 0, .ref (u 15)])), (u 1, .inl (E 1, 2400, .inl (upd (upd f 16 (vp_nar .byte x_4)) 17 (vp_nar .byte x_8))))] H := hP
  have hD : va_D A [(h0, .inr (7, [.ref (u 1), .int 17, .ref (u 2), .int 0, .int (-1), .ref (u 0), .ref (u 3), .ref (u 6), .ref (u 98), .int 0, .ref (u 7), .null, .int 0, .ref (u 15)])), (u 1, .inl (E 1, 2400, .inl (upd (upd f 16 (vp_nar .byte x_4)) 17 (vp_nar .byte x_8))))] := hD
  refine lv_aload_n hx hb dX7_appendNumber_30 rfl (lv_at hl 1 rfl) ?_
  refine lv_dup hx hb dX7_appendNumber_31 rfl ?_
  refine va_get (ci := 7) (v := .int 17) (C := RX7) (T := TX7) (N := 14) hx hb hts in_m_X_append16_X7 hown hK hP 0 rfl rfl 1 (by decide) (hts (.fieldLink RX7 55 "UnseenClock" "tapeLength" "I") (List.mem_of_getElem? (i := 1) rfl)) (fun _ h9 => h9) rfl dX7_appendNumber_32 ?_
  refine lv_iconst (v := 1) hx hb dX7_appendNumber_35 (by decide) ?_
  refine lv_iadd hx hb dX7_appendNumber_36 ?_
  refine lv_toc (y := 18) (by decide) ?_
  refine va_put (ci := 7) (v := .int 18) (ty := .int) (C := RX7) (T := TX7) (N := 14) hx hb hts in_m_X_append16_X7 tyX7 tyX7_ok nmX7 hown hK hP hD hS 0 rfl rfl 1 (by decide) (hts (.fieldLink RX7 55 "UnseenClock" "tapeLength" "I") (List.mem_of_getElem? (i := 1) rfl)) (fun _ h9 => h9) rfl (by decide +kernel) rfl rfl (Nat.le_of_ble_eq_true rfl) dX7_appendNumber_37 (fun H locs hP hD hS => ?_)
  have hP : va_P D vwCl [(h0, .inr (7, [.ref (u 1), .int 18, .ref (u 2), .int 0, .int (-1), .ref (u 0), .ref (u 3), .ref (u 6), .ref (u 98), .int 0, .ref (u 7), .null, .int 0, .ref (u 15)])), (u 1, .inl (E 1, 2400, .inl (upd (upd f 16 (vp_nar .byte x_4)) 17 (vp_nar .byte x_8))))] H := hP
  have hD : va_D A [(h0, .inr (7, [.ref (u 1), .int 18, .ref (u 2), .int 0, .int (-1), .ref (u 0), .ref (u 3), .ref (u 6), .ref (u 98), .int 0, .ref (u 7), .null, .int 0, .ref (u 15)])), (u 1, .inl (E 1, 2400, .inl (upd (upd f 16 (vp_nar .byte x_4)) 17 (vp_nar .byte x_8))))] := hD
  refine lv_iinc (v := 8) (lv' := [(2, .int 8), (0, .ref h0), (1, .int a1)]) hx hb dX7_appendNumber_40 hl (k := 0) rfl (by decide) (by decide) rfl (fun ls hl => ?_)
  refine lv_goto (tgt := 3) hx hb dX7_appendNumber_43 (by decide) ?_
  refine lv_iload_n hx hb dX7_appendNumber_3 rfl (lv_at hl 0 rfl) ?_
  refine lv_if_lt (tgt := 46) hx hb dX7_appendNumber_4 (by decide) (fun h9 => absurd h9 (by decide)) (fun _ => ?_)
  refine lv_aload_n hx hb dX7_appendNumber_7 rfl (lv_at hl 1 rfl) ?_
  refine va_get (ci := 7) (v := .int 18) (C := RX7) (T := TX7) (N := 14) hx hb hts in_m_X_append16_X7 hown hK hP 0 rfl rfl 1 (by decide) (hts (.fieldLink RX7 55 "UnseenClock" "tapeLength" "I") (List.mem_of_getElem? (i := 1) rfl)) (fun _ h9 => h9) rfl dX7_appendNumber_8 ?_
  refine lv_sipush (v := 2400) hx hb dX7_appendNumber_11 (by decide) ?_
  refine lv_icmp_ge (tgt := 46) hx hb dX7_appendNumber_14 (by decide) (fun h9 => absurd h9 (by decide)) (fun _ => ?_)
  refine lv_aload_n hx hb dX7_appendNumber_17 rfl (lv_at hl 1 rfl) ?_
  refine va_get (ci := 7) (v := .ref (u 1)) (C := RX7) (T := TX7) (N := 14) hx hb hts in_m_X_append16_X7 hown hK hP 0 rfl rfl 0 (by decide) (hts (.fieldLink RX7 9 "UnseenClock" "tape" "[B") (List.mem_of_getElem? (i := 2) rfl)) (fun _ h9 => h9) rfl dX7_appendNumber_18 ?_
  refine lv_aload_n hx hb dX7_appendNumber_21 rfl (lv_at hl 1 rfl) ?_
  refine va_get (ci := 7) (v := .int 18) (C := RX7) (T := TX7) (N := 14) hx hb hts in_m_X_append16_X7 hown hK hP 0 rfl rfl 1 (by decide) (hts (.fieldLink RX7 55 "UnseenClock" "tapeLength" "I") (List.mem_of_getElem? (i := 1) rfl)) (fun _ h9 => h9) rfl dX7_appendNumber_22 ?_
  refine lv_iload_n hx hb dX7_appendNumber_25 rfl (lv_at hl 2 rfl) ?_
  refine lv_iload_n hx hb dX7_appendNumber_26 rfl (lv_at hl 0 rfl) ?_
  obtain ⟨x_11, ex_11⟩ : ∃ y : Int32, (Int32.toUInt32 a1 >>> (Int32.toUInt32 8 &&& Int32.toUInt32 31)).toInt32 = y := ⟨_, rfl⟩
  refine lv_iushr (v := x_11) hx hb dX7_appendNumber_27 ex_11 ?_
  obtain ⟨x_12, ex_12⟩ : ∃ y : Int32, (Int32.toInt8 x_11).toInt32 = y := ⟨_, rfl⟩
  refine lv_i2b (v := x_12) hx hb dX7_appendNumber_28 ex_12 ?_
  refine va_bast hx hb hK hP hD hS 1 1 rfl rfl (by unfold vp_in; decide) dX7_appendNumber_29 (fun H locs hP hD hS => ?_)
  have hP : va_P D vwCl [(h0, .inr (7, [.ref (u 1), .int 18, .ref (u 2), .int 0, .int (-1), .ref (u 0), .ref (u 3), .ref (u 6), .ref (u 98), .int 0, .ref (u 7), .null, .int 0, .ref (u 15)])), (u 1, .inl (E 1, 2400, .inl (upd (upd (upd f 16 (vp_nar .byte x_4)) 17 (vp_nar .byte x_8)) 18 (vp_nar .byte x_12))))] H := hP
  have hD : va_D A [(h0, .inr (7, [.ref (u 1), .int 18, .ref (u 2), .int 0, .int (-1), .ref (u 0), .ref (u 3), .ref (u 6), .ref (u 98), .int 0, .ref (u 7), .null, .int 0, .ref (u 15)])), (u 1, .inl (E 1, 2400, .inl (upd (upd (upd f 16 (vp_nar .byte x_4)) 17 (vp_nar .byte x_8)) 18 (vp_nar .byte x_12))))] := hD
  refine lv_aload_n hx hb dX7_appendNumber_30 rfl (lv_at hl 1 rfl) ?_
  refine lv_dup hx hb dX7_appendNumber_31 rfl ?_
  refine va_get (ci := 7) (v := .int 18) (C := RX7) (T := TX7) (N := 14) hx hb hts in_m_X_append16_X7 hown hK hP 0 rfl rfl 1 (by decide) (hts (.fieldLink RX7 55 "UnseenClock" "tapeLength" "I") (List.mem_of_getElem? (i := 1) rfl)) (fun _ h9 => h9) rfl dX7_appendNumber_32 ?_
  refine lv_iconst (v := 1) hx hb dX7_appendNumber_35 (by decide) ?_
  refine lv_iadd hx hb dX7_appendNumber_36 ?_
  refine lv_toc (y := 19) (by decide) ?_
  refine va_put (ci := 7) (v := .int 19) (ty := .int) (C := RX7) (T := TX7) (N := 14) hx hb hts in_m_X_append16_X7 tyX7 tyX7_ok nmX7 hown hK hP hD hS 0 rfl rfl 1 (by decide) (hts (.fieldLink RX7 55 "UnseenClock" "tapeLength" "I") (List.mem_of_getElem? (i := 1) rfl)) (fun _ h9 => h9) rfl (by decide +kernel) rfl rfl (Nat.le_of_ble_eq_true rfl) dX7_appendNumber_37 (fun H locs hP hD hS => ?_)
  have hP : va_P D vwCl [(h0, .inr (7, [.ref (u 1), .int 19, .ref (u 2), .int 0, .int (-1), .ref (u 0), .ref (u 3), .ref (u 6), .ref (u 98), .int 0, .ref (u 7), .null, .int 0, .ref (u 15)])), (u 1, .inl (E 1, 2400, .inl (upd (upd (upd f 16 (vp_nar .byte x_4)) 17 (vp_nar .byte x_8)) 18 (vp_nar .byte x_12))))] H := hP
  have hD : va_D A [(h0, .inr (7, [.ref (u 1), .int 19, .ref (u 2), .int 0, .int (-1), .ref (u 0), .ref (u 3), .ref (u 6), .ref (u 98), .int 0, .ref (u 7), .null, .int 0, .ref (u 15)])), (u 1, .inl (E 1, 2400, .inl (upd (upd (upd f 16 (vp_nar .byte x_4)) 17 (vp_nar .byte x_8)) 18 (vp_nar .byte x_12))))] := hD
  refine lv_iinc (v := 0) (lv' := [(2, .int 0), (0, .ref h0), (1, .int a1)]) hx hb dX7_appendNumber_40 hl (k := 0) rfl (by decide) (by decide) rfl (fun ls hl => ?_)
  refine lv_goto (tgt := 3) hx hb dX7_appendNumber_43 (by decide) ?_
  refine lv_iload_n hx hb dX7_appendNumber_3 rfl (lv_at hl 0 rfl) ?_
  refine lv_if_lt (tgt := 46) hx hb dX7_appendNumber_4 (by decide) (fun h9 => absurd h9 (by decide)) (fun _ => ?_)
  refine lv_aload_n hx hb dX7_appendNumber_7 rfl (lv_at hl 1 rfl) ?_
  refine va_get (ci := 7) (v := .int 19) (C := RX7) (T := TX7) (N := 14) hx hb hts in_m_X_append16_X7 hown hK hP 0 rfl rfl 1 (by decide) (hts (.fieldLink RX7 55 "UnseenClock" "tapeLength" "I") (List.mem_of_getElem? (i := 1) rfl)) (fun _ h9 => h9) rfl dX7_appendNumber_8 ?_
  refine lv_sipush (v := 2400) hx hb dX7_appendNumber_11 (by decide) ?_
  refine lv_icmp_ge (tgt := 46) hx hb dX7_appendNumber_14 (by decide) (fun h9 => absurd h9 (by decide)) (fun _ => ?_)
  refine lv_aload_n hx hb dX7_appendNumber_17 rfl (lv_at hl 1 rfl) ?_
  refine va_get (ci := 7) (v := .ref (u 1)) (C := RX7) (T := TX7) (N := 14) hx hb hts in_m_X_append16_X7 hown hK hP 0 rfl rfl 0 (by decide) (hts (.fieldLink RX7 9 "UnseenClock" "tape" "[B") (List.mem_of_getElem? (i := 2) rfl)) (fun _ h9 => h9) rfl dX7_appendNumber_18 ?_
  refine lv_aload_n hx hb dX7_appendNumber_21 rfl (lv_at hl 1 rfl) ?_
  refine va_get (ci := 7) (v := .int 19) (C := RX7) (T := TX7) (N := 14) hx hb hts in_m_X_append16_X7 hown hK hP 0 rfl rfl 1 (by decide) (hts (.fieldLink RX7 55 "UnseenClock" "tapeLength" "I") (List.mem_of_getElem? (i := 1) rfl)) (fun _ h9 => h9) rfl dX7_appendNumber_22 ?_
  refine lv_iload_n hx hb dX7_appendNumber_25 rfl (lv_at hl 2 rfl) ?_
  refine lv_iload_n hx hb dX7_appendNumber_26 rfl (lv_at hl 0 rfl) ?_
  obtain ⟨x_15, ex_15⟩ : ∃ y : Int32, (Int32.toUInt32 a1 >>> (Int32.toUInt32 0 &&& Int32.toUInt32 31)).toInt32 = y := ⟨_, rfl⟩
  refine lv_iushr (v := x_15) hx hb dX7_appendNumber_27 ex_15 ?_
  obtain ⟨x_16, ex_16⟩ : ∃ y : Int32, (Int32.toInt8 x_15).toInt32 = y := ⟨_, rfl⟩
  refine lv_i2b (v := x_16) hx hb dX7_appendNumber_28 ex_16 ?_
  refine va_bast hx hb hK hP hD hS 1 1 rfl rfl (by unfold vp_in; decide) dX7_appendNumber_29 (fun H locs hP hD hS => ?_)
  have hP : va_P D vwCl [(h0, .inr (7, [.ref (u 1), .int 19, .ref (u 2), .int 0, .int (-1), .ref (u 0), .ref (u 3), .ref (u 6), .ref (u 98), .int 0, .ref (u 7), .null, .int 0, .ref (u 15)])), (u 1, .inl (E 1, 2400, .inl (upd (upd (upd (upd f 16 (vp_nar .byte x_4)) 17 (vp_nar .byte x_8)) 18 (vp_nar .byte x_12)) 19 (vp_nar .byte x_16))))] H := hP
  have hD : va_D A [(h0, .inr (7, [.ref (u 1), .int 19, .ref (u 2), .int 0, .int (-1), .ref (u 0), .ref (u 3), .ref (u 6), .ref (u 98), .int 0, .ref (u 7), .null, .int 0, .ref (u 15)])), (u 1, .inl (E 1, 2400, .inl (upd (upd (upd (upd f 16 (vp_nar .byte x_4)) 17 (vp_nar .byte x_8)) 18 (vp_nar .byte x_12)) 19 (vp_nar .byte x_16))))] := hD
  refine lv_aload_n hx hb dX7_appendNumber_30 rfl (lv_at hl 1 rfl) ?_
  refine lv_dup hx hb dX7_appendNumber_31 rfl ?_
  refine va_get (ci := 7) (v := .int 19) (C := RX7) (T := TX7) (N := 14) hx hb hts in_m_X_append16_X7 hown hK hP 0 rfl rfl 1 (by decide) (hts (.fieldLink RX7 55 "UnseenClock" "tapeLength" "I") (List.mem_of_getElem? (i := 1) rfl)) (fun _ h9 => h9) rfl dX7_appendNumber_32 ?_
  refine lv_iconst (v := 1) hx hb dX7_appendNumber_35 (by decide) ?_
  refine lv_iadd hx hb dX7_appendNumber_36 ?_
  refine lv_toc (y := 20) (by decide) ?_
  refine va_put (ci := 7) (v := .int 20) (ty := .int) (C := RX7) (T := TX7) (N := 14) hx hb hts in_m_X_append16_X7 tyX7 tyX7_ok nmX7 hown hK hP hD hS 0 rfl rfl 1 (by decide) (hts (.fieldLink RX7 55 "UnseenClock" "tapeLength" "I") (List.mem_of_getElem? (i := 1) rfl)) (fun _ h9 => h9) rfl (by decide +kernel) rfl rfl (Nat.le_of_ble_eq_true rfl) dX7_appendNumber_37 (fun H locs hP hD hS => ?_)
  have hP : va_P D vwCl [(h0, .inr (7, [.ref (u 1), .int 20, .ref (u 2), .int 0, .int (-1), .ref (u 0), .ref (u 3), .ref (u 6), .ref (u 98), .int 0, .ref (u 7), .null, .int 0, .ref (u 15)])), (u 1, .inl (E 1, 2400, .inl (upd (upd (upd (upd f 16 (vp_nar .byte x_4)) 17 (vp_nar .byte x_8)) 18 (vp_nar .byte x_12)) 19 (vp_nar .byte x_16))))] H := hP
  have hD : va_D A [(h0, .inr (7, [.ref (u 1), .int 20, .ref (u 2), .int 0, .int (-1), .ref (u 0), .ref (u 3), .ref (u 6), .ref (u 98), .int 0, .ref (u 7), .null, .int 0, .ref (u 15)])), (u 1, .inl (E 1, 2400, .inl (upd (upd (upd (upd f 16 (vp_nar .byte x_4)) 17 (vp_nar .byte x_8)) 18 (vp_nar .byte x_12)) 19 (vp_nar .byte x_16))))] := hD
  refine lv_iinc (v := (-8)) (lv' := [(2, .int (-8)), (0, .ref h0), (1, .int a1)]) hx hb dX7_appendNumber_40 hl (k := 0) rfl (by decide) (by decide) rfl (fun ls hl => ?_)
  refine lv_goto (tgt := 3) hx hb dX7_appendNumber_43 (by decide) ?_
  refine lv_iload_n hx hb dX7_appendNumber_3 rfl (lv_at hl 0 rfl) ?_
  refine lv_if_lt (tgt := 46) hx hb dX7_appendNumber_4 (by decide) (fun _ => ?_) (fun h9 => absurd (by decide) h9)
  exact e_v hx hb hr (upd (upd (upd (upd f 16 (vp_nar .byte x_4)) 17 (vp_nar .byte x_8)) 18 (vp_nar .byte x_12)) 19 (vp_nar .byte x_16)) trivial hP hD hS hlocks dX7_appendNumber_46

def v_m_X_feed : List Cond := .code yX7_feed cX7_feed 6 (some .int) :: ([.fieldLink RX7 55 "UnseenClock" "tapeLength" "I", .fieldLink RX7 9 "UnseenClock" "tape" "[B", .code yX7_appendNumber cX7_appendNumber 3 none, .methodLink RX7 58 yX7_appendNumber, .instanceMethod yX7_appendNumber, .selects RX7 yX7_appendNumber yX7_appendNumber, .initialized RX7] ++ (wsX70))
theorem in_m_X_feed_X7 : ∀ w ∈ u_ws RX7 TX7 14, w ∈ v_m_X_feed := fun w h => List.mem_cons_of_mem _ (List.mem_append_right _ (h))
set_option maxRecDepth 20000 in
theorem g_m_X_feed_m_X_append0 : GoodIn v_m_X_feed (wsV RX7 58 RX7 yX7_appendNumber v_m_X_append0) := g_rows _ [4, 5, 6, 7, 3, 1, 2, 8, 9, 10, 11, 12, 13, 14, 15, 16, 17, 18, 19, 20, 21] rfl (by decide +kernel)
set_option maxRecDepth 20000 in
theorem g_m_X_feed_m_X_append4 : GoodIn v_m_X_feed (wsV RX7 58 RX7 yX7_appendNumber v_m_X_append4) := g_rows _ [4, 5, 6, 7, 3, 1, 2, 8, 9, 10, 11, 12, 13, 14, 15, 16, 17, 18, 19, 20, 21] rfl (by decide +kernel)
set_option maxRecDepth 20000 in
theorem g_m_X_feed_m_X_append8 : GoodIn v_m_X_feed (wsV RX7 58 RX7 yX7_appendNumber v_m_X_append8) := g_rows _ [4, 5, 6, 7, 3, 1, 2, 8, 9, 10, 11, 12, 13, 14, 15, 16, 17, 18, 19, 20, 21] rfl (by decide +kernel)
set_option maxRecDepth 20000 in
theorem g_m_X_feed_m_X_append12 : GoodIn v_m_X_feed (wsV RX7 58 RX7 yX7_appendNumber v_m_X_append12) := g_rows _ [4, 5, 6, 7, 3, 1, 2, 8, 9, 10, 11, 12, 13, 14, 15, 16, 17, 18, 19, 20, 21] rfl (by decide +kernel)
set_option maxRecDepth 20000 in
theorem g_m_X_feed_m_X_append16 : GoodIn v_m_X_feed (wsV RX7 58 RX7 yX7_appendNumber v_m_X_append16) := g_rows _ [4, 5, 6, 7, 3, 1, 2, 8, 9, 10, 11, 12, 13, 14, 15, 16, 17, 18, 19, 20, 21] rfl (by decide +kernel)
set_option maxHeartbeats 2000000 in
set_option maxRecDepth 100000 in
theorem m_X_feed (l : Launch) (D : va_G) (E : Nat → ClassId) (sz : Nat) (h0 : Nat) (u : Nat → Nat) (a1 : Int32) (a2 : Int32) (a3 : Int32) (a4 : Int32) (a5 : Int32) : Met l yX7_feed v_m_X_feed ({ frames := 1, cells := 0, slots := 0, locals := 22 }) (va_Pc [.ref h0, .int a1, .int a2, .int a3, .int a4, .int a5] (pre D E (wX E h0 u) sz)) (qI (S := Unit) (fun r _ => r = 20) (fun _ => []) D (va_A (wX E h0 u) sz)) 0 0 (va_A (wX E h0 u) sz) := by
  refine c_int (cc := cX7_feed) (maxL := 6) (ret := (some .int)) (by decide) rfl (Nat.le_of_ble_eq_true rfl) ?_
  intro p e s m below meth c ls A ⟨hx, hb, hr, hts, hown, hlocks, hin, hml⟩ hP hK hD hN hA hS hl
  have hown : s.vm.findClass RX7 = some m.cls := hown
  have hl : lv_has ls 6 [(0, .ref h0), (1, .int a1), (2, .int a2), (3, .int a3), (4, .int a4), (5, .int a5)] := hl
  have hP := hP.sub (ws' := [(h0, .inr (7, [.ref (u 1), .int 0, .ref (u 2), .int 0, .int (-1), .ref (u 0), .ref (u 3), .ref (u 6), .ref (u 98), .int 0, .ref (u 7), .null, .int 0, .ref (u 15)])), (u 1, .inl (E 1, 2400, .inl (fun _ => 0)))]) [0, 2] rfl
  have hD := hD.sub (ws' := [(h0, .inr (7, [.ref (u 1), .int 0, .ref (u 2), .int 0, .int (-1), .ref (u 0), .ref (u 3), .ref (u 6), .ref (u 98), .int 0, .ref (u 7), .null, .int 0, .ref (u 15)])), (u 1, .inl (E 1, 2400, .inl (fun _ => 0)))]) [0, 2] (by decide) rfl
  refine lv_aload_n hx hb dX7_feed_0 rfl (lv_at hl 0 rfl) ?_
  refine va_get (ci := 7) (v := .int 0) (C := RX7) (T := TX7) (N := 14) hx hb hts in_m_X_feed_X7 hown hK hP 0 rfl rfl 1 (by decide) (hts (.fieldLink RX7 55 "UnseenClock" "tapeLength" "I") (List.mem_of_getElem? (i := 1) rfl)) (fun _ h9 => h9) rfl dX7_feed_1 ?_
  refine lv_bipush (v := 20) hx hb dX7_feed_4 (by decide) ?_
  refine lv_iadd hx hb dX7_feed_6 ?_
  refine lv_toc (y := 20) (by decide) ?_
  refine lv_sipush (v := 2400) hx hb dX7_feed_7 (by decide) ?_
  refine lv_icmp_le (tgt := 15) hx hb dX7_feed_10 (by decide) (fun _ => ?_) (fun h9 => absurd (by decide) h9)
  refine lv_aload_n hx hb dX7_feed_15 rfl (lv_at hl 0 rfl) ?_
  refine lv_iload_n hx hb dX7_feed_16 rfl (lv_at hl 1 rfl) ?_
  have hPc := hP.sub (ws' := [(h0, .inr (7, [.ref (u 1), .int 0, .ref (u 2), .int 0, .int (-1), .ref (u 0), .ref (u 3), .ref (u 6), .ref (u 98), .int 0, .ref (u 7), .null, .int 0, .ref (u 15)])), (u 1, .inl (E 1, 2400, .inl (fun _ => 0)))]) [0, 1] rfl
  have hDc := hD.sub (ws' := [(h0, .inr (7, [.ref (u 1), .int 0, .ref (u 2), .int 0, .int (-1), .ref (u 0), .ref (u 3), .ref (u 6), .ref (u 98), .int 0, .ref (u 7), .null, .int 0, .ref (u 15)])), (u 1, .inl (E 1, 2400, .inl (fun _ => 0)))]) [0, 1] (by decide) rfl
  refine k_v (wr := []) (va_runV (As := [.int a1]) (rest := []) ⟨hx, hb, hml, hown, hts⟩ (m_X_append0 l D E s.heap.size h0 u (fun _ => 0) a1) (cwV 1 hts g_m_X_feed_m_X_append0 rfl rfl rfl (by decide +kernel) ⟨Nat.le_of_ble_eq_true rfl, Nat.le_of_ble_eq_true rfl⟩) ⟨pre_blind, va_recv hK hPc (ci := 7) (q0 := 0) rfl rfl, pre_at hPc hK hDc hN⟩ rfl rfl hl.1 rfl (lv_room (Nat.le_of_ble_eq_true rfl)) dX7_feed_17 ⟨Nat.le_of_ble_eq_true rfl, Nat.le_of_ble_eq_true rfl⟩) hP hD hS hA [0, 1] [] rfl rfl (by decide +kernel) (by decide +kernel) (fun u_2 H locs hw hP hD hS => ?_)
  have hP : va_P D vwCl [(h0, .inr (7, [.ref (u 1), .int 4, .ref (u 2), .int 0, .int (-1), .ref (u 0), .ref (u 3), .ref (u 6), .ref (u 98), .int 0, .ref (u 7), .null, .int 0, .ref (u 15)])), (u 1, .inl (E 1, 2400, .inl u_2))] H := hP
  have hD : va_D A [(h0, .inr (7, [.ref (u 1), .int 4, .ref (u 2), .int 0, .int (-1), .ref (u 0), .ref (u 3), .ref (u 6), .ref (u 98), .int 0, .ref (u 7), .null, .int 0, .ref (u 15)])), (u 1, .inl (E 1, 2400, .inl u_2))] := hD
  refine lv_aload_n hx hb dX7_feed_20 rfl (lv_at hl 0 rfl) ?_
  refine lv_iload_n hx hb dX7_feed_21 rfl (lv_at hl 2 rfl) ?_
  have hPc := hP.sub (ws' := [(h0, .inr (7, [.ref (u 1), .int 4, .ref (u 2), .int 0, .int (-1), .ref (u 0), .ref (u 3), .ref (u 6), .ref (u 98), .int 0, .ref (u 7), .null, .int 0, .ref (u 15)])), (u 1, .inl (E 1, 2400, .inl u_2))]) [0, 1] rfl
  have hDc := hD.sub (ws' := [(h0, .inr (7, [.ref (u 1), .int 4, .ref (u 2), .int 0, .int (-1), .ref (u 0), .ref (u 3), .ref (u 6), .ref (u 98), .int 0, .ref (u 7), .null, .int 0, .ref (u 15)])), (u 1, .inl (E 1, 2400, .inl u_2))]) [0, 1] (by decide) rfl
  refine k_v (wr := []) (va_runV (As := [.int a2]) (rest := []) ⟨hx, hb, hml, hown, hts⟩ (m_X_append4 l D E H.size h0 u (u_2) a2) (cwV 1 hts g_m_X_feed_m_X_append4 rfl rfl rfl (by decide +kernel) ⟨Nat.le_of_ble_eq_true rfl, Nat.le_of_ble_eq_true rfl⟩) ⟨pre_blind, va_recv hK hPc (ci := 7) (q0 := 0) rfl rfl, pre_at hPc hK hDc hN⟩ rfl rfl hl.1 rfl (lv_room (Nat.le_of_ble_eq_true rfl)) dX7_feed_22 ⟨Nat.le_of_ble_eq_true rfl, Nat.le_of_ble_eq_true rfl⟩) hP hD hS hA [0, 1] [] rfl rfl (by decide +kernel) (by decide +kernel) (fun u_4 H locs hw hP hD hS => ?_)
  have hP : va_P D vwCl [(h0, .inr (7, [.ref (u 1), .int 8, .ref (u 2), .int 0, .int (-1), .ref (u 0), .ref (u 3), .ref (u 6), .ref (u 98), .int 0, .ref (u 7), .null, .int 0, .ref (u 15)])), (u 1, .inl (E 1, 2400, .inl u_4))] H := hP
  have hD : va_D A [(h0, .inr (7, [.ref (u 1), .int 8, .ref (u 2), .int 0, .int (-1), .ref (u 0), .ref (u 3), .ref (u 6), .ref (u 98), .int 0, .ref (u 7), .null, .int 0, .ref (u 15)])), (u 1, .inl (E 1, 2400, .inl u_4))] := hD
  refine lv_aload_n hx hb dX7_feed_25 rfl (lv_at hl 0 rfl) ?_
  refine lv_iload_n hx hb dX7_feed_26 rfl (lv_at hl 3 rfl) ?_
  have hPc := hP.sub (ws' := [(h0, .inr (7, [.ref (u 1), .int 8, .ref (u 2), .int 0, .int (-1), .ref (u 0), .ref (u 3), .ref (u 6), .ref (u 98), .int 0, .ref (u 7), .null, .int 0, .ref (u 15)])), (u 1, .inl (E 1, 2400, .inl u_4))]) [0, 1] rfl
  have hDc := hD.sub (ws' := [(h0, .inr (7, [.ref (u 1), .int 8, .ref (u 2), .int 0, .int (-1), .ref (u 0), .ref (u 3), .ref (u 6), .ref (u 98), .int 0, .ref (u 7), .null, .int 0, .ref (u 15)])), (u 1, .inl (E 1, 2400, .inl u_4))]) [0, 1] (by decide) rfl
  refine k_v (wr := []) (va_runV (As := [.int a3]) (rest := []) ⟨hx, hb, hml, hown, hts⟩ (m_X_append8 l D E H.size h0 u (u_4) a3) (cwV 1 hts g_m_X_feed_m_X_append8 rfl rfl rfl (by decide +kernel) ⟨Nat.le_of_ble_eq_true rfl, Nat.le_of_ble_eq_true rfl⟩) ⟨pre_blind, va_recv hK hPc (ci := 7) (q0 := 0) rfl rfl, pre_at hPc hK hDc hN⟩ rfl rfl hl.1 rfl (lv_room (Nat.le_of_ble_eq_true rfl)) dX7_feed_27 ⟨Nat.le_of_ble_eq_true rfl, Nat.le_of_ble_eq_true rfl⟩) hP hD hS hA [0, 1] [] rfl rfl (by decide +kernel) (by decide +kernel) (fun u_6 H locs hw hP hD hS => ?_)
  have hP : va_P D vwCl [(h0, .inr (7, [.ref (u 1), .int 12, .ref (u 2), .int 0, .int (-1), .ref (u 0), .ref (u 3), .ref (u 6), .ref (u 98), .int 0, .ref (u 7), .null, .int 0, .ref (u 15)])), (u 1, .inl (E 1, 2400, .inl u_6))] H := hP
  have hD : va_D A [(h0, .inr (7, [.ref (u 1), .int 12, .ref (u 2), .int 0, .int (-1), .ref (u 0), .ref (u 3), .ref (u 6), .ref (u 98), .int 0, .ref (u 7), .null, .int 0, .ref (u 15)])), (u 1, .inl (E 1, 2400, .inl u_6))] := hD
  refine lv_aload_n hx hb dX7_feed_30 rfl (lv_at hl 0 rfl) ?_
  refine lv_iload hx hb dX7_feed_31 (lv_at hl 4 rfl) ?_
  have hPc := hP.sub (ws' := [(h0, .inr (7, [.ref (u 1), .int 12, .ref (u 2), .int 0, .int (-1), .ref (u 0), .ref (u 3), .ref (u 6), .ref (u 98), .int 0, .ref (u 7), .null, .int 0, .ref (u 15)])), (u 1, .inl (E 1, 2400, .inl u_6))]) [0, 1] rfl
  have hDc := hD.sub (ws' := [(h0, .inr (7, [.ref (u 1), .int 12, .ref (u 2), .int 0, .int (-1), .ref (u 0), .ref (u 3), .ref (u 6), .ref (u 98), .int 0, .ref (u 7), .null, .int 0, .ref (u 15)])), (u 1, .inl (E 1, 2400, .inl u_6))]) [0, 1] (by decide) rfl
  refine k_v (wr := []) (va_runV (As := [.int a4]) (rest := []) ⟨hx, hb, hml, hown, hts⟩ (m_X_append12 l D E H.size h0 u (u_6) a4) (cwV 1 hts g_m_X_feed_m_X_append12 rfl rfl rfl (by decide +kernel) ⟨Nat.le_of_ble_eq_true rfl, Nat.le_of_ble_eq_true rfl⟩) ⟨pre_blind, va_recv hK hPc (ci := 7) (q0 := 0) rfl rfl, pre_at hPc hK hDc hN⟩ rfl rfl hl.1 rfl (lv_room (Nat.le_of_ble_eq_true rfl)) dX7_feed_33 ⟨Nat.le_of_ble_eq_true rfl, Nat.le_of_ble_eq_true rfl⟩) hP hD hS hA [0, 1] [] rfl rfl (by decide +kernel) (by decide +kernel) (fun u_8 H locs hw hP hD hS => ?_)
  have hP : va_P D vwCl [(h0, .inr (7, [.ref (u 1), .int 16, .ref (u 2), .int 0, .int (-1), .ref (u 0), .ref (u 3), .ref (u 6), .ref (u 98), .int 0, .ref (u 7), .null, .int 0, .ref (u 15)])), (u 1, .inl (E 1, 2400, .inl u_8))] H := hP
  have hD : va_D A [(h0, .inr (7, [.ref (u 1), .int 16, .ref (u 2), .int 0, .int (-1), .ref (u 0), .ref (u 3), .ref (u 6), .ref (u 98), .int 0, .ref (u 7), .null, .int 0, .ref (u 15)])), (u 1, .inl (E 1, 2400, .inl u_8))] := hD
  refine lv_aload_n hx hb dX7_feed_36 rfl (lv_at hl 0 rfl) ?_
  refine lv_iload hx hb dX7_feed_37 (lv_at hl 5 rfl) ?_
  have hPc := hP.sub (ws' := [(h0, .inr (7, [.ref (u 1), .int 16, .ref (u 2), .int 0, .int (-1), .ref (u 0), .ref (u 3), .ref (u 6), .ref (u 98), .int 0, .ref (u 7), .null, .int 0, .ref (u 15)])), (u 1, .inl (E 1, 2400, .inl u_8))]) [0, 1] rfl
  have hDc := hD.sub (ws' := [(h0, .inr (7, [.ref (u 1), .int 16, .ref (u 2), .int 0, .int (-1), .ref (u 0), .ref (u 3), .ref (u 6), .ref (u 98), .int 0, .ref (u 7), .null, .int 0, .ref (u 15)])), (u 1, .inl (E 1, 2400, .inl u_8))]) [0, 1] (by decide) rfl
  refine k_v (wr := []) (va_runV (As := [.int a5]) (rest := []) ⟨hx, hb, hml, hown, hts⟩ (m_X_append16 l D E H.size h0 u (u_8) a5) (cwV 1 hts g_m_X_feed_m_X_append16 rfl rfl rfl (by decide +kernel) ⟨Nat.le_of_ble_eq_true rfl, Nat.le_of_ble_eq_true rfl⟩) ⟨pre_blind, va_recv hK hPc (ci := 7) (q0 := 0) rfl rfl, pre_at hPc hK hDc hN⟩ rfl rfl hl.1 rfl (lv_room (Nat.le_of_ble_eq_true rfl)) dX7_feed_39 ⟨Nat.le_of_ble_eq_true rfl, Nat.le_of_ble_eq_true rfl⟩) hP hD hS hA [0, 1] [] rfl rfl (by decide +kernel) (by decide +kernel) (fun u_10 H locs hw hP hD hS => ?_)
  have hP : va_P D vwCl [(h0, .inr (7, [.ref (u 1), .int 20, .ref (u 2), .int 0, .int (-1), .ref (u 0), .ref (u 3), .ref (u 6), .ref (u 98), .int 0, .ref (u 7), .null, .int 0, .ref (u 15)])), (u 1, .inl (E 1, 2400, .inl u_10))] H := hP
  have hD : va_D A [(h0, .inr (7, [.ref (u 1), .int 20, .ref (u 2), .int 0, .int (-1), .ref (u 0), .ref (u 3), .ref (u 6), .ref (u 98), .int 0, .ref (u 7), .null, .int 0, .ref (u 15)])), (u 1, .inl (E 1, 2400, .inl u_10))] := hD
  refine lv_aload_n hx hb dX7_feed_42 rfl (lv_at hl 0 rfl) ?_
  refine va_get (ci := 7) (v := .int 20) (C := RX7) (T := TX7) (N := 14) hx hb hts in_m_X_feed_X7 hown hK hP 0 rfl rfl 1 (by decide) (hts (.fieldLink RX7 55 "UnseenClock" "tapeLength" "I") (List.mem_of_getElem? (i := 1) rfl)) (fun _ h9 => h9) rfl dX7_feed_43 ?_
  exact e_i (v := 20) hx hb hr rfl (()) rfl p_nil d_nil hS hlocks dX7_feed_46

def v_m_M_feed : List Cond := .code yX8_feed cX8_feed 7 (some .int) :: ([.fieldLink RX8 114 "UnseenClockModel" "taped" "I", .fieldLink RX8 24 "UnseenClockModel" "five" "[I", .fieldLink RX8 20 "UnseenClockModel" "tape" "[B"] ++ (wsX80))
theorem in_m_M_feed_X8 : ∀ w ∈ u_ws RX8 TX8 41, w ∈ v_m_M_feed := fun w h => List.mem_cons_of_mem _ (List.mem_append_right _ (h))
set_option maxHeartbeats 2000000 in
set_option maxRecDepth 100000 in
theorem m_M_feed (l : Launch) (D : va_G) (E : Nat → ClassId) (sz : Nat) (h0 : Nat) (u : Nat → Nat) (a1 : Int32) (a2 : Int32) (a3 : Int32) (a4 : Int32) (a5 : Int32) : Met l yX8_feed v_m_M_feed ({ frames := 0, cells := 0, slots := 0, locals := 0 }) (va_Pc [.ref h0, .int a1, .int a2, .int a3, .int a4, .int a5] (pre D E (wM E h0 u) sz)) (qI (S := Unit) (fun r _ => r = 20) (fun _ => []) D (va_A (wM E h0 u) sz)) 0 0 (va_A (wM E h0 u) sz) := by
  refine c_int (cc := cX8_feed) (maxL := 7) (ret := (some .int)) (by decide) rfl (Nat.le_of_ble_eq_true rfl) ?_
  intro p e s m below meth c ls A ⟨hx, hb, hr, hts, hown, hlocks, hin, hml⟩ hP hK hD hN hA hS hl
  have hown : s.vm.findClass RX8 = some m.cls := hown
  have hl : lv_has ls 7 [(0, .ref h0), (1, .int a1), (2, .int a2), (3, .int a3), (4, .int a4), (5, .int a5)] := hl
  have hP := hP.sub (ws' := [(h0, .inr (8, [.int 0, .ref (u 0), .ref (u 1), .ref (u 2), .ref (u 3), .int 0, .ref (u 4), .int 0, .int 0, .int 0, .int 0, .int 0, .int 0, .int (-1), .ref (u 5), .ref (u 9), .ref (u 10), .ref (u 11), .ref (u 12), .ref (u 13), .ref (u 14), .ref (u 15), .int 0, .ref (u 16), .int 0, .ref (u 17), .ref (u 18), .ref (u 19), .int 0, .long 0, .ref (u 20), .ref (u 21), .ref (u 22), .ref (u 23), .int 0, .ref (u 24), .ref (u 25), .ref (u 6), .ref (u 7), .ref (u 8), .ref (u 26)])), (u 3, .inl (E 1, 2400, .inl (fun _ => 0))), (u 4, .inl (E 0, 5, .inl (fun _ => 0)))]) [0, 4, 5] rfl
  have hD := hD.sub (ws' := [(h0, .inr (8, [.int 0, .ref (u 0), .ref (u 1), .ref (u 2), .ref (u 3), .int 0, .ref (u 4), .int 0, .int 0, .int 0, .int 0, .int 0, .int 0, .int (-1), .ref (u 5), .ref (u 9), .ref (u 10), .ref (u 11), .ref (u 12), .ref (u 13), .ref (u 14), .ref (u 15), .int 0, .ref (u 16), .int 0, .ref (u 17), .ref (u 18), .ref (u 19), .int 0, .long 0, .ref (u 20), .ref (u 21), .ref (u 22), .ref (u 23), .int 0, .ref (u 24), .ref (u 25), .ref (u 6), .ref (u 7), .ref (u 8), .ref (u 26)])), (u 3, .inl (E 1, 2400, .inl (fun _ => 0))), (u 4, .inl (E 0, 5, .inl (fun _ => 0)))]) [0, 4, 5] (by decide) rfl
  refine lv_aload_n hx hb dX8_feed_0 rfl (lv_at hl 0 rfl) ?_
  refine va_get (ci := 8) (v := .int 0) (C := RX8) (T := TX8) (N := 41) hx hb hts in_m_M_feed_X8 hown hK hP 0 rfl rfl 5 (by decide) (hts (.fieldLink RX8 114 "UnseenClockModel" "taped" "I") (List.mem_of_getElem? (i := 1) rfl)) (fun _ h9 => h9) rfl dX8_feed_1 ?_
  refine lv_bipush (v := 20) hx hb dX8_feed_4 (by decide) ?_
  refine lv_iadd hx hb dX8_feed_6 ?_
  refine lv_toc (y := 20) (by decide) ?_
  refine lv_sipush (v := 2400) hx hb dX8_feed_7 (by decide) ?_
  refine lv_icmp_le (tgt := 15) hx hb dX8_feed_10 (by decide) (fun _ => ?_) (fun h9 => absurd (by decide) h9)
  refine lv_aload_n hx hb dX8_feed_15 rfl (lv_at hl 0 rfl) ?_
  refine va_get (ci := 8) (v := .ref (u 4)) (C := RX8) (T := TX8) (N := 41) hx hb hts in_m_M_feed_X8 hown hK hP 0 rfl rfl 6 (by decide) (hts (.fieldLink RX8 24 "UnseenClockModel" "five" "[I") (List.mem_of_getElem? (i := 2) rfl)) (fun _ h9 => h9) rfl dX8_feed_16 ?_
  refine lv_iconst (v := 0) hx hb dX8_feed_19 (by decide) ?_
  refine lv_iload_n hx hb dX8_feed_20 rfl (lv_at hl 1 rfl) ?_
  refine va_iast hx hb hK hP hD hS 2 0 rfl rfl (by unfold vp_in; decide) dX8_feed_21 (fun H locs hP hD hS => ?_)
  have hP : va_P D vwCl [(h0, .inr (8, [.int 0, .ref (u 0), .ref (u 1), .ref (u 2), .ref (u 3), .int 0, .ref (u 4), .int 0, .int 0, .int 0, .int 0, .int 0, .int 0, .int (-1), .ref (u 5), .ref (u 9), .ref (u 10), .ref (u 11), .ref (u 12), .ref (u 13), .ref (u 14), .ref (u 15), .int 0, .ref (u 16), .int 0, .ref (u 17), .ref (u 18), .ref (u 19), .int 0, .long 0, .ref (u 20), .ref (u 21), .ref (u 22), .ref (u 23), .int 0, .ref (u 24), .ref (u 25), .ref (u 6), .ref (u 7), .ref (u 8), .ref (u 26)])), (u 3, .inl (E 1, 2400, .inl (fun _ => 0))), (u 4, .inl (E 0, 5, .inl (upd (fun _ => 0) 0 a1)))] H := hP
  have hD : va_D A [(h0, .inr (8, [.int 0, .ref (u 0), .ref (u 1), .ref (u 2), .ref (u 3), .int 0, .ref (u 4), .int 0, .int 0, .int 0, .int 0, .int 0, .int 0, .int (-1), .ref (u 5), .ref (u 9), .ref (u 10), .ref (u 11), .ref (u 12), .ref (u 13), .ref (u 14), .ref (u 15), .int 0, .ref (u 16), .int 0, .ref (u 17), .ref (u 18), .ref (u 19), .int 0, .long 0, .ref (u 20), .ref (u 21), .ref (u 22), .ref (u 23), .int 0, .ref (u 24), .ref (u 25), .ref (u 6), .ref (u 7), .ref (u 8), .ref (u 26)])), (u 3, .inl (E 1, 2400, .inl (fun _ => 0))), (u 4, .inl (E 0, 5, .inl (upd (fun _ => 0) 0 a1)))] := hD
  refine lv_aload_n hx hb dX8_feed_22 rfl (lv_at hl 0 rfl) ?_
  refine va_get (ci := 8) (v := .ref (u 4)) (C := RX8) (T := TX8) (N := 41) hx hb hts in_m_M_feed_X8 hown hK hP 0 rfl rfl 6 (by decide) (hts (.fieldLink RX8 24 "UnseenClockModel" "five" "[I") (List.mem_of_getElem? (i := 2) rfl)) (fun _ h9 => h9) rfl dX8_feed_23 ?_
  refine lv_iconst (v := 1) hx hb dX8_feed_26 (by decide) ?_
  refine lv_iload_n hx hb dX8_feed_27 rfl (lv_at hl 2 rfl) ?_
  refine va_iast hx hb hK hP hD hS 2 0 rfl rfl (by unfold vp_in; decide) dX8_feed_28 (fun H locs hP hD hS => ?_)
  have hP : va_P D vwCl [(h0, .inr (8, [.int 0, .ref (u 0), .ref (u 1), .ref (u 2), .ref (u 3), .int 0, .ref (u 4), .int 0, .int 0, .int 0, .int 0, .int 0, .int 0, .int (-1), .ref (u 5), .ref (u 9), .ref (u 10), .ref (u 11), .ref (u 12), .ref (u 13), .ref (u 14), .ref (u 15), .int 0, .ref (u 16), .int 0, .ref (u 17), .ref (u 18), .ref (u 19), .int 0, .long 0, .ref (u 20), .ref (u 21), .ref (u 22), .ref (u 23), .int 0, .ref (u 24), .ref (u 25), .ref (u 6), .ref (u 7), .ref (u 8), .ref (u 26)])), (u 3, .inl (E 1, 2400, .inl (fun _ => 0))), (u 4, .inl (E 0, 5, .inl (upd (upd (fun _ => 0) 0 a1) 1 a2)))] H := hP
  have hD : va_D A [(h0, .inr (8, [.int 0, .ref (u 0), .ref (u 1), .ref (u 2), .ref (u 3), .int 0, .ref (u 4), .int 0, .int 0, .int 0, .int 0, .int 0, .int 0, .int (-1), .ref (u 5), .ref (u 9), .ref (u 10), .ref (u 11), .ref (u 12), .ref (u 13), .ref (u 14), .ref (u 15), .int 0, .ref (u 16), .int 0, .ref (u 17), .ref (u 18), .ref (u 19), .int 0, .long 0, .ref (u 20), .ref (u 21), .ref (u 22), .ref (u 23), .int 0, .ref (u 24), .ref (u 25), .ref (u 6), .ref (u 7), .ref (u 8), .ref (u 26)])), (u 3, .inl (E 1, 2400, .inl (fun _ => 0))), (u 4, .inl (E 0, 5, .inl (upd (upd (fun _ => 0) 0 a1) 1 a2)))] := hD
  refine lv_aload_n hx hb dX8_feed_29 rfl (lv_at hl 0 rfl) ?_
  refine va_get (ci := 8) (v := .ref (u 4)) (C := RX8) (T := TX8) (N := 41) hx hb hts in_m_M_feed_X8 hown hK hP 0 rfl rfl 6 (by decide) (hts (.fieldLink RX8 24 "UnseenClockModel" "five" "[I") (List.mem_of_getElem? (i := 2) rfl)) (fun _ h9 => h9) rfl dX8_feed_30 ?_
  refine lv_iconst (v := 2) hx hb dX8_feed_33 (by decide) ?_
  refine lv_iload_n hx hb dX8_feed_34 rfl (lv_at hl 3 rfl) ?_
  refine va_iast hx hb hK hP hD hS 2 0 rfl rfl (by unfold vp_in; decide) dX8_feed_35 (fun H locs hP hD hS => ?_)
  have hP : va_P D vwCl [(h0, .inr (8, [.int 0, .ref (u 0), .ref (u 1), .ref (u 2), .ref (u 3), .int 0, .ref (u 4), .int 0, .int 0, .int 0, .int 0, .int 0, .int 0, .int (-1), .ref (u 5), .ref (u 9), .ref (u 10), .ref (u 11), .ref (u 12), .ref (u 13), .ref (u 14), .ref (u 15), .int 0, .ref (u 16), .int 0, .ref (u 17), .ref (u 18), .ref (u 19), .int 0, .long 0, .ref (u 20), .ref (u 21), .ref (u 22), .ref (u 23), .int 0, .ref (u 24), .ref (u 25), .ref (u 6), .ref (u 7), .ref (u 8), .ref (u 26)])), (u 3, .inl (E 1, 2400, .inl (fun _ => 0))), (u 4, .inl (E 0, 5, .inl (upd (upd (upd (fun _ => 0) 0 a1) 1 a2) 2 a3)))] H := hP
  have hD : va_D A [(h0, .inr (8, [.int 0, .ref (u 0), .ref (u 1), .ref (u 2), .ref (u 3), .int 0, .ref (u 4), .int 0, .int 0, .int 0, .int 0, .int 0, .int 0, .int (-1), .ref (u 5), .ref (u 9), .ref (u 10), .ref (u 11), .ref (u 12), .ref (u 13), .ref (u 14), .ref (u 15), .int 0, .ref (u 16), .int 0, .ref (u 17), .ref (u 18), .ref (u 19), .int 0, .long 0, .ref (u 20), .ref (u 21), .ref (u 22), .ref (u 23), .int 0, .ref (u 24), .ref (u 25), .ref (u 6), .ref (u 7), .ref (u 8), .ref (u 26)])), (u 3, .inl (E 1, 2400, .inl (fun _ => 0))), (u 4, .inl (E 0, 5, .inl (upd (upd (upd (fun _ => 0) 0 a1) 1 a2) 2 a3)))] := hD
  refine lv_aload_n hx hb dX8_feed_36 rfl (lv_at hl 0 rfl) ?_
  refine va_get (ci := 8) (v := .ref (u 4)) (C := RX8) (T := TX8) (N := 41) hx hb hts in_m_M_feed_X8 hown hK hP 0 rfl rfl 6 (by decide) (hts (.fieldLink RX8 24 "UnseenClockModel" "five" "[I") (List.mem_of_getElem? (i := 2) rfl)) (fun _ h9 => h9) rfl dX8_feed_37 ?_
  refine lv_iconst (v := 3) hx hb dX8_feed_40 (by decide) ?_
  refine lv_iload hx hb dX8_feed_41 (lv_at hl 4 rfl) ?_
  refine va_iast hx hb hK hP hD hS 2 0 rfl rfl (by unfold vp_in; decide) dX8_feed_43 (fun H locs hP hD hS => ?_)
  have hP : va_P D vwCl [(h0, .inr (8, [.int 0, .ref (u 0), .ref (u 1), .ref (u 2), .ref (u 3), .int 0, .ref (u 4), .int 0, .int 0, .int 0, .int 0, .int 0, .int 0, .int (-1), .ref (u 5), .ref (u 9), .ref (u 10), .ref (u 11), .ref (u 12), .ref (u 13), .ref (u 14), .ref (u 15), .int 0, .ref (u 16), .int 0, .ref (u 17), .ref (u 18), .ref (u 19), .int 0, .long 0, .ref (u 20), .ref (u 21), .ref (u 22), .ref (u 23), .int 0, .ref (u 24), .ref (u 25), .ref (u 6), .ref (u 7), .ref (u 8), .ref (u 26)])), (u 3, .inl (E 1, 2400, .inl (fun _ => 0))), (u 4, .inl (E 0, 5, .inl (upd (upd (upd (upd (fun _ => 0) 0 a1) 1 a2) 2 a3) 3 a4)))] H := hP
  have hD : va_D A [(h0, .inr (8, [.int 0, .ref (u 0), .ref (u 1), .ref (u 2), .ref (u 3), .int 0, .ref (u 4), .int 0, .int 0, .int 0, .int 0, .int 0, .int 0, .int (-1), .ref (u 5), .ref (u 9), .ref (u 10), .ref (u 11), .ref (u 12), .ref (u 13), .ref (u 14), .ref (u 15), .int 0, .ref (u 16), .int 0, .ref (u 17), .ref (u 18), .ref (u 19), .int 0, .long 0, .ref (u 20), .ref (u 21), .ref (u 22), .ref (u 23), .int 0, .ref (u 24), .ref (u 25), .ref (u 6), .ref (u 7), .ref (u 8), .ref (u 26)])), (u 3, .inl (E 1, 2400, .inl (fun _ => 0))), (u 4, .inl (E 0, 5, .inl (upd (upd (upd (upd (fun _ => 0) 0 a1) 1 a2) 2 a3) 3 a4)))] := hD
  refine lv_aload_n hx hb dX8_feed_44 rfl (lv_at hl 0 rfl) ?_
  refine va_get (ci := 8) (v := .ref (u 4)) (C := RX8) (T := TX8) (N := 41) hx hb hts in_m_M_feed_X8 hown hK hP 0 rfl rfl 6 (by decide) (hts (.fieldLink RX8 24 "UnseenClockModel" "five" "[I") (List.mem_of_getElem? (i := 2) rfl)) (fun _ h9 => h9) rfl dX8_feed_45 ?_
  refine lv_iconst (v := 4) hx hb dX8_feed_48 (by decide) ?_
  refine lv_iload hx hb dX8_feed_49 (lv_at hl 5 rfl) ?_
  refine va_iast hx hb hK hP hD hS 2 0 rfl rfl (by unfold vp_in; decide) dX8_feed_51 (fun H locs hP hD hS => ?_)
  have hP : va_P D vwCl [(h0, .inr (8, [.int 0, .ref (u 0), .ref (u 1), .ref (u 2), .ref (u 3), .int 0, .ref (u 4), .int 0, .int 0, .int 0, .int 0, .int 0, .int 0, .int (-1), .ref (u 5), .ref (u 9), .ref (u 10), .ref (u 11), .ref (u 12), .ref (u 13), .ref (u 14), .ref (u 15), .int 0, .ref (u 16), .int 0, .ref (u 17), .ref (u 18), .ref (u 19), .int 0, .long 0, .ref (u 20), .ref (u 21), .ref (u 22), .ref (u 23), .int 0, .ref (u 24), .ref (u 25), .ref (u 6), .ref (u 7), .ref (u 8), .ref (u 26)])), (u 3, .inl (E 1, 2400, .inl (fun _ => 0))), (u 4, .inl (E 0, 5, .inl (upd (upd (upd (upd (upd (fun _ => 0) 0 a1) 1 a2) 2 a3) 3 a4) 4 a5)))] H := hP
  have hD : va_D A [(h0, .inr (8, [.int 0, .ref (u 0), .ref (u 1), .ref (u 2), .ref (u 3), .int 0, .ref (u 4), .int 0, .int 0, .int 0, .int 0, .int 0, .int 0, .int (-1), .ref (u 5), .ref (u 9), .ref (u 10), .ref (u 11), .ref (u 12), .ref (u 13), .ref (u 14), .ref (u 15), .int 0, .ref (u 16), .int 0, .ref (u 17), .ref (u 18), .ref (u 19), .int 0, .long 0, .ref (u 20), .ref (u 21), .ref (u 22), .ref (u 23), .int 0, .ref (u 24), .ref (u 25), .ref (u 6), .ref (u 7), .ref (u 8), .ref (u 26)])), (u 3, .inl (E 1, 2400, .inl (fun _ => 0))), (u 4, .inl (E 0, 5, .inl (upd (upd (upd (upd (upd (fun _ => 0) 0 a1) 1 a2) 2 a3) 3 a4) 4 a5)))] := hD
  refine lv_iconst (v := 0) hx hb dX8_feed_52 (by decide) ?_
  refine lv_istore (lv' := [(6, .int 0), (0, .ref h0), (1, .int a1), (2, .int a2), (3, .int a3), (4, .int a4), (5, .int a5)]) hx hb dX8_feed_53 hl (by decide) rfl (fun ls hl => ?_)
  refine lv_iload hx hb dX8_feed_55 (lv_at hl 0 rfl) ?_
  refine lv_bipush (v := 20) hx hb dX8_feed_57 (by decide) ?_
  refine lv_icmp_ge (tgt := 101) hx hb dX8_feed_59 (by decide) (fun h9 => absurd h9 (by decide)) (fun _ => ?_)
  refine lv_aload_n hx hb dX8_feed_62 rfl (lv_at hl 1 rfl) ?_
  refine va_get (ci := 8) (v := .ref (u 3)) (C := RX8) (T := TX8) (N := 41) hx hb hts in_m_M_feed_X8 hown hK hP 0 rfl rfl 4 (by decide) (hts (.fieldLink RX8 20 "UnseenClockModel" "tape" "[B") (List.mem_of_getElem? (i := 3) rfl)) (fun _ h9 => h9) rfl dX8_feed_63 ?_
  refine lv_aload_n hx hb dX8_feed_66 rfl (lv_at hl 1 rfl) ?_
  refine va_get (ci := 8) (v := .int 0) (C := RX8) (T := TX8) (N := 41) hx hb hts in_m_M_feed_X8 hown hK hP 0 rfl rfl 5 (by decide) (hts (.fieldLink RX8 114 "UnseenClockModel" "taped" "I") (List.mem_of_getElem? (i := 1) rfl)) (fun _ h9 => h9) rfl dX8_feed_67 ?_
  refine lv_iload hx hb dX8_feed_70 (lv_at hl 0 rfl) ?_
  refine lv_iadd hx hb dX8_feed_72 ?_
  refine lv_toc (y := 0) (by decide) ?_
  refine lv_aload_n hx hb dX8_feed_73 rfl (lv_at hl 1 rfl) ?_
  refine va_get (ci := 8) (v := .ref (u 4)) (C := RX8) (T := TX8) (N := 41) hx hb hts in_m_M_feed_X8 hown hK hP 0 rfl rfl 6 (by decide) (hts (.fieldLink RX8 24 "UnseenClockModel" "five" "[I") (List.mem_of_getElem? (i := 2) rfl)) (fun _ h9 => h9) rfl dX8_feed_74 ?_
  refine lv_iload hx hb dX8_feed_77 (lv_at hl 0 rfl) ?_
  refine lv_iconst (v := 4) hx hb dX8_feed_79 (by decide) ?_
  refine lv_idiv hx hb dX8_feed_80 (by decide) ?_
  refine lv_toc (y := 0) (by decide) ?_
  refine va_iald hx hb hK hP 2 0 rfl rfl (by unfold vp_in; decide) dX8_feed_81 ?_
  refine lv_toc (y := a1) rfl ?_
  refine lv_bipush (v := 24) hx hb dX8_feed_82 (by decide) ?_
  refine lv_bipush (v := 8) hx hb dX8_feed_84 (by decide) ?_
  refine lv_iload hx hb dX8_feed_86 (lv_at hl 0 rfl) ?_
  refine lv_iconst (v := 4) hx hb dX8_feed_88 (by decide) ?_
  refine lv_irem hx hb dX8_feed_89 (by decide) ?_
  refine lv_toc (y := 0) (by decide) ?_
  refine lv_imul hx hb dX8_feed_90 ?_
  refine lv_toc (y := 0) (by decide) ?_
  refine lv_isub hx hb dX8_feed_91 ?_
  refine lv_toc (y := 24) (by decide) ?_
  refine lv_ishr hx hb dX8_feed_92 ?_
  refine lv_topi (fun x_3 ex_3 => ?_)
  obtain ⟨x_4, ex_4⟩ : ∃ y : Int32, (Int32.toInt8 x_3).toInt32 = y := ⟨_, rfl⟩
  refine lv_i2b (v := x_4) hx hb dX8_feed_93 ex_4 ?_
  refine va_bast hx hb hK hP hD hS 1 1 rfl rfl (by unfold vp_in; decide) dX8_feed_94 (fun H locs hP hD hS => ?_)
  have hP : va_P D vwCl [(h0, .inr (8, [.int 0, .ref (u 0), .ref (u 1), .ref (u 2), .ref (u 3), .int 0, .ref (u 4), .int 0, .int 0, .int 0, .int 0, .int 0, .int 0, .int (-1), .ref (u 5), .ref (u 9), .ref (u 10), .ref (u 11), .ref (u 12), .ref (u 13), .ref (u 14), .ref (u 15), .int 0, .ref (u 16), .int 0, .ref (u 17), .ref (u 18), .ref (u 19), .int 0, .long 0, .ref (u 20), .ref (u 21), .ref (u 22), .ref (u 23), .int 0, .ref (u 24), .ref (u 25), .ref (u 6), .ref (u 7), .ref (u 8), .ref (u 26)])), (u 3, .inl (E 1, 2400, .inl (upd (fun _ => 0) 0 (vp_nar .byte x_4)))), (u 4, .inl (E 0, 5, .inl (upd (upd (upd (upd (upd (fun _ => 0) 0 a1) 1 a2) 2 a3) 3 a4) 4 a5)))] H := hP
  have hD : va_D A [(h0, .inr (8, [.int 0, .ref (u 0), .ref (u 1), .ref (u 2), .ref (u 3), .int 0, .ref (u 4), .int 0, .int 0, .int 0, .int 0, .int 0, .int 0, .int (-1), .ref (u 5), .ref (u 9), .ref (u 10), .ref (u 11), .ref (u 12), .ref (u 13), .ref (u 14), .ref (u 15), .int 0, .ref (u 16), .int 0, .ref (u 17), .ref (u 18), .ref (u 19), .int 0, .long 0, .ref (u 20), .ref (u 21), .ref (u 22), .ref (u 23), .int 0, .ref (u 24), .ref (u 25), .ref (u 6), .ref (u 7), .ref (u 8), .ref (u 26)])), (u 3, .inl (E 1, 2400, .inl (upd (fun _ => 0) 0 (vp_nar .byte x_4)))), (u 4, .inl (E 0, 5, .inl (upd (upd (upd (upd (upd (fun _ => 0) 0 a1) 1 a2) 2 a3) 3 a4) 4 a5)))] := hD
  refine lv_iinc (v := 1) (lv' := [(6, .int 1), (0, .ref h0), (1, .int a1), (2, .int a2), (3, .int a3), (4, .int a4), (5, .int a5)]) hx hb dX8_feed_95 hl (k := 0) rfl (by decide) (by decide) rfl (fun ls hl => ?_)
  refine lv_goto (tgt := 55) hx hb dX8_feed_98 (by decide) ?_
  refine lv_iload hx hb dX8_feed_55 (lv_at hl 0 rfl) ?_
  refine lv_bipush (v := 20) hx hb dX8_feed_57 (by decide) ?_
  refine lv_icmp_ge (tgt := 101) hx hb dX8_feed_59 (by decide) (fun h9 => absurd h9 (by decide)) (fun _ => ?_)
  refine lv_aload_n hx hb dX8_feed_62 rfl (lv_at hl 1 rfl) ?_
  refine va_get (ci := 8) (v := .ref (u 3)) (C := RX8) (T := TX8) (N := 41) hx hb hts in_m_M_feed_X8 hown hK hP 0 rfl rfl 4 (by decide) (hts (.fieldLink RX8 20 "UnseenClockModel" "tape" "[B") (List.mem_of_getElem? (i := 3) rfl)) (fun _ h9 => h9) rfl dX8_feed_63 ?_
  refine lv_aload_n hx hb dX8_feed_66 rfl (lv_at hl 1 rfl) ?_
  refine va_get (ci := 8) (v := .int 0) (C := RX8) (T := TX8) (N := 41) hx hb hts in_m_M_feed_X8 hown hK hP 0 rfl rfl 5 (by decide) (hts (.fieldLink RX8 114 "UnseenClockModel" "taped" "I") (List.mem_of_getElem? (i := 1) rfl)) (fun _ h9 => h9) rfl dX8_feed_67 ?_
  refine lv_iload hx hb dX8_feed_70 (lv_at hl 0 rfl) ?_
  refine lv_iadd hx hb dX8_feed_72 ?_
  refine lv_toc (y := 1) (by decide) ?_
  refine lv_aload_n hx hb dX8_feed_73 rfl (lv_at hl 1 rfl) ?_
  refine va_get (ci := 8) (v := .ref (u 4)) (C := RX8) (T := TX8) (N := 41) hx hb hts in_m_M_feed_X8 hown hK hP 0 rfl rfl 6 (by decide) (hts (.fieldLink RX8 24 "UnseenClockModel" "five" "[I") (List.mem_of_getElem? (i := 2) rfl)) (fun _ h9 => h9) rfl dX8_feed_74 ?_
  refine lv_iload hx hb dX8_feed_77 (lv_at hl 0 rfl) ?_
  refine lv_iconst (v := 4) hx hb dX8_feed_79 (by decide) ?_
  refine lv_idiv hx hb dX8_feed_80 (by decide) ?_
  refine lv_toc (y := 0) (by decide) ?_
  refine va_iald hx hb hK hP 2 0 rfl rfl (by unfold vp_in; decide) dX8_feed_81 ?_
  refine lv_toc (y := a1) rfl ?_
  refine lv_bipush (v := 24) hx hb dX8_feed_82 (by decide) ?_
  refine lv_bipush (v := 8) hx hb dX8_feed_84 (by decide) ?_
  refine lv_iload hx hb dX8_feed_86 (lv_at hl 0 rfl) ?_
  refine lv_iconst (v := 4) hx hb dX8_feed_88 (by decide) ?_
  refine lv_irem hx hb dX8_feed_89 (by decide) ?_
  refine lv_toc (y := 1) (by decide) ?_
  refine lv_imul hx hb dX8_feed_90 ?_
  refine lv_toc (y := 8) (by decide) ?_
  refine lv_isub hx hb dX8_feed_91 ?_
  refine lv_toc (y := 16) (by decide) ?_
  refine lv_ishr hx hb dX8_feed_92 ?_
  refine lv_topi (fun x_6 ex_6 => ?_)
  obtain ⟨x_7, ex_7⟩ : ∃ y : Int32, (Int32.toInt8 x_6).toInt32 = y := ⟨_, rfl⟩
  refine lv_i2b (v := x_7) hx hb dX8_feed_93 ex_7 ?_
  refine va_bast hx hb hK hP hD hS 1 1 rfl rfl (by unfold vp_in; decide) dX8_feed_94 (fun H locs hP hD hS => ?_)
  have hP : va_P D vwCl [(h0, .inr (8, [.int 0, .ref (u 0), .ref (u 1), .ref (u 2), .ref (u 3), .int 0, .ref (u 4), .int 0, .int 0, .int 0, .int 0, .int 0, .int 0, .int (-1), .ref (u 5), .ref (u 9), .ref (u 10), .ref (u 11), .ref (u 12), .ref (u 13), .ref (u 14), .ref (u 15), .int 0, .ref (u 16), .int 0, .ref (u 17), .ref (u 18), .ref (u 19), .int 0, .long 0, .ref (u 20), .ref (u 21), .ref (u 22), .ref (u 23), .int 0, .ref (u 24), .ref (u 25), .ref (u 6), .ref (u 7), .ref (u 8), .ref (u 26)])), (u 3, .inl (E 1, 2400, .inl (upd (upd (fun _ => 0) 0 (vp_nar .byte x_4)) 1 (vp_nar .byte x_7)))), (u 4, .inl (E 0, 5, .inl (upd (upd (upd (upd (upd (fun _ => 0) 0 a1) 1 a2) 2 a3) 3 a4) 4 a5)))] H := hP
  have hD : va_D A [(h0, .inr (8, [.int 0, .ref (u 0), .ref (u 1), .ref (u 2), .ref (u 3), .int 0, .ref (u 4), .int 0, .int 0, .int 0, .int 0, .int 0, .int 0, .int (-1), .ref (u 5), .ref (u 9), .ref (u 10), .ref (u 11), .ref (u 12), .ref (u 13), .ref (u 14), .ref (u 15), .int 0, .ref (u 16), .int 0, .ref (u 17), .ref (u 18), .ref (u 19), .int 0, .long 0, .ref (u 20), .ref (u 21), .ref (u 22), .ref (u 23), .int 0, .ref (u 24), .ref (u 25), .ref (u 6), .ref (u 7), .ref (u 8), .ref (u 26)])), (u 3, .inl (E 1, 2400, .inl (upd (upd (fun _ => 0) 0 (vp_nar .byte x_4)) 1 (vp_nar .byte x_7)))), (u 4, .inl (E 0, 5, .inl (upd (upd (upd (upd (upd (fun _ => 0) 0 a1) 1 a2) 2 a3) 3 a4) 4 a5)))] := hD
  refine lv_iinc (v := 2) (lv' := [(6, .int 2), (0, .ref h0), (1, .int a1), (2, .int a2), (3, .int a3), (4, .int a4), (5, .int a5)]) hx hb dX8_feed_95 hl (k := 0) rfl (by decide) (by decide) rfl (fun ls hl => ?_)
  refine lv_goto (tgt := 55) hx hb dX8_feed_98 (by decide) ?_
  refine lv_iload hx hb dX8_feed_55 (lv_at hl 0 rfl) ?_
  refine lv_bipush (v := 20) hx hb dX8_feed_57 (by decide) ?_
  refine lv_icmp_ge (tgt := 101) hx hb dX8_feed_59 (by decide) (fun h9 => absurd h9 (by decide)) (fun _ => ?_)
  refine lv_aload_n hx hb dX8_feed_62 rfl (lv_at hl 1 rfl) ?_
  refine va_get (ci := 8) (v := .ref (u 3)) (C := RX8) (T := TX8) (N := 41) hx hb hts in_m_M_feed_X8 hown hK hP 0 rfl rfl 4 (by decide) (hts (.fieldLink RX8 20 "UnseenClockModel" "tape" "[B") (List.mem_of_getElem? (i := 3) rfl)) (fun _ h9 => h9) rfl dX8_feed_63 ?_
  refine lv_aload_n hx hb dX8_feed_66 rfl (lv_at hl 1 rfl) ?_
  refine va_get (ci := 8) (v := .int 0) (C := RX8) (T := TX8) (N := 41) hx hb hts in_m_M_feed_X8 hown hK hP 0 rfl rfl 5 (by decide) (hts (.fieldLink RX8 114 "UnseenClockModel" "taped" "I") (List.mem_of_getElem? (i := 1) rfl)) (fun _ h9 => h9) rfl dX8_feed_67 ?_
  refine lv_iload hx hb dX8_feed_70 (lv_at hl 0 rfl) ?_
  refine lv_iadd hx hb dX8_feed_72 ?_
  refine lv_toc (y := 2) (by decide) ?_
  refine lv_aload_n hx hb dX8_feed_73 rfl (lv_at hl 1 rfl) ?_
  refine va_get (ci := 8) (v := .ref (u 4)) (C := RX8) (T := TX8) (N := 41) hx hb hts in_m_M_feed_X8 hown hK hP 0 rfl rfl 6 (by decide) (hts (.fieldLink RX8 24 "UnseenClockModel" "five" "[I") (List.mem_of_getElem? (i := 2) rfl)) (fun _ h9 => h9) rfl dX8_feed_74 ?_
  refine lv_iload hx hb dX8_feed_77 (lv_at hl 0 rfl) ?_
  refine lv_iconst (v := 4) hx hb dX8_feed_79 (by decide) ?_
  refine lv_idiv hx hb dX8_feed_80 (by decide) ?_
  refine lv_toc (y := 0) (by decide) ?_
  refine va_iald hx hb hK hP 2 0 rfl rfl (by unfold vp_in; decide) dX8_feed_81 ?_
  refine lv_toc (y := a1) rfl ?_
  refine lv_bipush (v := 24) hx hb dX8_feed_82 (by decide) ?_
  refine lv_bipush (v := 8) hx hb dX8_feed_84 (by decide) ?_
  refine lv_iload hx hb dX8_feed_86 (lv_at hl 0 rfl) ?_
  refine lv_iconst (v := 4) hx hb dX8_feed_88 (by decide) ?_
  refine lv_irem hx hb dX8_feed_89 (by decide) ?_
  refine lv_toc (y := 2) (by decide) ?_
  refine lv_imul hx hb dX8_feed_90 ?_
  refine lv_toc (y := 16) (by decide) ?_
  refine lv_isub hx hb dX8_feed_91 ?_
  refine lv_toc (y := 8) (by decide) ?_
  refine lv_ishr hx hb dX8_feed_92 ?_
  refine lv_topi (fun x_9 ex_9 => ?_)
  obtain ⟨x_10, ex_10⟩ : ∃ y : Int32, (Int32.toInt8 x_9).toInt32 = y := ⟨_, rfl⟩
  refine lv_i2b (v := x_10) hx hb dX8_feed_93 ex_10 ?_
  refine va_bast hx hb hK hP hD hS 1 1 rfl rfl (by unfold vp_in; decide) dX8_feed_94 (fun H locs hP hD hS => ?_)
  have hP : va_P D vwCl [(h0, .inr (8, [.int 0, .ref (u 0), .ref (u 1), .ref (u 2), .ref (u 3), .int 0, .ref (u 4), .int 0, .int 0, .int 0, .int 0, .int 0, .int 0, .int (-1), .ref (u 5), .ref (u 9), .ref (u 10), .ref (u 11), .ref (u 12), .ref (u 13), .ref (u 14), .ref (u 15), .int 0, .ref (u 16), .int 0, .ref (u 17), .ref (u 18), .ref (u 19), .int 0, .long 0, .ref (u 20), .ref (u 21), .ref (u 22), .ref (u 23), .int 0, .ref (u 24), .ref (u 25), .ref (u 6), .ref (u 7), .ref (u 8), .ref (u 26)])), (u 3, .inl (E 1, 2400, .inl (upd (upd (upd (fun _ => 0) 0 (vp_nar .byte x_4)) 1 (vp_nar .byte x_7)) 2 (vp_nar .byte x_10)))), (u 4, .inl (E 0, 5, .inl (upd (upd (upd (upd (upd (fun _ => 0) 0 a1) 1 a2) 2 a3) 3 a4) 4 a5)))] H := hP
  have hD : va_D A [(h0, .inr (8, [.int 0, .ref (u 0), .ref (u 1), .ref (u 2), .ref (u 3), .int 0, .ref (u 4), .int 0, .int 0, .int 0, .int 0, .int 0, .int 0, .int (-1), .ref (u 5), .ref (u 9), .ref (u 10), .ref (u 11), .ref (u 12), .ref (u 13), .ref (u 14), .ref (u 15), .int 0, .ref (u 16), .int 0, .ref (u 17), .ref (u 18), .ref (u 19), .int 0, .long 0, .ref (u 20), .ref (u 21), .ref (u 22), .ref (u 23), .int 0, .ref (u 24), .ref (u 25), .ref (u 6), .ref (u 7), .ref (u 8), .ref (u 26)])), (u 3, .inl (E 1, 2400, .inl (upd (upd (upd (fun _ => 0) 0 (vp_nar .byte x_4)) 1 (vp_nar .byte x_7)) 2 (vp_nar .byte x_10)))), (u 4, .inl (E 0, 5, .inl (upd (upd (upd (upd (upd (fun _ => 0) 0 a1) 1 a2) 2 a3) 3 a4) 4 a5)))] := hD
  refine lv_iinc (v := 3) (lv' := [(6, .int 3), (0, .ref h0), (1, .int a1), (2, .int a2), (3, .int a3), (4, .int a4), (5, .int a5)]) hx hb dX8_feed_95 hl (k := 0) rfl (by decide) (by decide) rfl (fun ls hl => ?_)
  refine lv_goto (tgt := 55) hx hb dX8_feed_98 (by decide) ?_
  refine lv_iload hx hb dX8_feed_55 (lv_at hl 0 rfl) ?_
  refine lv_bipush (v := 20) hx hb dX8_feed_57 (by decide) ?_
  refine lv_icmp_ge (tgt := 101) hx hb dX8_feed_59 (by decide) (fun h9 => absurd h9 (by decide)) (fun _ => ?_)
  refine lv_aload_n hx hb dX8_feed_62 rfl (lv_at hl 1 rfl) ?_
  refine va_get (ci := 8) (v := .ref (u 3)) (C := RX8) (T := TX8) (N := 41) hx hb hts in_m_M_feed_X8 hown hK hP 0 rfl rfl 4 (by decide) (hts (.fieldLink RX8 20 "UnseenClockModel" "tape" "[B") (List.mem_of_getElem? (i := 3) rfl)) (fun _ h9 => h9) rfl dX8_feed_63 ?_
  refine lv_aload_n hx hb dX8_feed_66 rfl (lv_at hl 1 rfl) ?_
  refine va_get (ci := 8) (v := .int 0) (C := RX8) (T := TX8) (N := 41) hx hb hts in_m_M_feed_X8 hown hK hP 0 rfl rfl 5 (by decide) (hts (.fieldLink RX8 114 "UnseenClockModel" "taped" "I") (List.mem_of_getElem? (i := 1) rfl)) (fun _ h9 => h9) rfl dX8_feed_67 ?_
  refine lv_iload hx hb dX8_feed_70 (lv_at hl 0 rfl) ?_
  refine lv_iadd hx hb dX8_feed_72 ?_
  refine lv_toc (y := 3) (by decide) ?_
  refine lv_aload_n hx hb dX8_feed_73 rfl (lv_at hl 1 rfl) ?_
  refine va_get (ci := 8) (v := .ref (u 4)) (C := RX8) (T := TX8) (N := 41) hx hb hts in_m_M_feed_X8 hown hK hP 0 rfl rfl 6 (by decide) (hts (.fieldLink RX8 24 "UnseenClockModel" "five" "[I") (List.mem_of_getElem? (i := 2) rfl)) (fun _ h9 => h9) rfl dX8_feed_74 ?_
  refine lv_iload hx hb dX8_feed_77 (lv_at hl 0 rfl) ?_
  refine lv_iconst (v := 4) hx hb dX8_feed_79 (by decide) ?_
  refine lv_idiv hx hb dX8_feed_80 (by decide) ?_
  refine lv_toc (y := 0) (by decide) ?_
  refine va_iald hx hb hK hP 2 0 rfl rfl (by unfold vp_in; decide) dX8_feed_81 ?_
  refine lv_toc (y := a1) rfl ?_
  refine lv_bipush (v := 24) hx hb dX8_feed_82 (by decide) ?_
  refine lv_bipush (v := 8) hx hb dX8_feed_84 (by decide) ?_
  refine lv_iload hx hb dX8_feed_86 (lv_at hl 0 rfl) ?_
  refine lv_iconst (v := 4) hx hb dX8_feed_88 (by decide) ?_
  refine lv_irem hx hb dX8_feed_89 (by decide) ?_
  refine lv_toc (y := 3) (by decide) ?_
  refine lv_imul hx hb dX8_feed_90 ?_
  refine lv_toc (y := 24) (by decide) ?_
  refine lv_isub hx hb dX8_feed_91 ?_
  refine lv_toc (y := 0) (by decide) ?_
  refine lv_ishr hx hb dX8_feed_92 ?_
  refine lv_topi (fun x_12 ex_12 => ?_)
  obtain ⟨x_13, ex_13⟩ : ∃ y : Int32, (Int32.toInt8 x_12).toInt32 = y := ⟨_, rfl⟩
  refine lv_i2b (v := x_13) hx hb dX8_feed_93 ex_13 ?_
  refine va_bast hx hb hK hP hD hS 1 1 rfl rfl (by unfold vp_in; decide) dX8_feed_94 (fun H locs hP hD hS => ?_)
  have hP : va_P D vwCl [(h0, .inr (8, [.int 0, .ref (u 0), .ref (u 1), .ref (u 2), .ref (u 3), .int 0, .ref (u 4), .int 0, .int 0, .int 0, .int 0, .int 0, .int 0, .int (-1), .ref (u 5), .ref (u 9), .ref (u 10), .ref (u 11), .ref (u 12), .ref (u 13), .ref (u 14), .ref (u 15), .int 0, .ref (u 16), .int 0, .ref (u 17), .ref (u 18), .ref (u 19), .int 0, .long 0, .ref (u 20), .ref (u 21), .ref (u 22), .ref (u 23), .int 0, .ref (u 24), .ref (u 25), .ref (u 6), .ref (u 7), .ref (u 8), .ref (u 26)])), (u 3, .inl (E 1, 2400, .inl (upd (upd (upd (upd (fun _ => 0) 0 (vp_nar .byte x_4)) 1 (vp_nar .byte x_7)) 2 (vp_nar .byte x_10)) 3 (vp_nar .byte x_13)))), (u 4, .inl (E 0, 5, .inl (upd (upd (upd (upd (upd (fun _ => 0) 0 a1) 1 a2) 2 a3) 3 a4) 4 a5)))] H := hP
  have hD : va_D A [(h0, .inr (8, [.int 0, .ref (u 0), .ref (u 1), .ref (u 2), .ref (u 3), .int 0, .ref (u 4), .int 0, .int 0, .int 0, .int 0, .int 0, .int 0, .int (-1), .ref (u 5), .ref (u 9), .ref (u 10), .ref (u 11), .ref (u 12), .ref (u 13), .ref (u 14), .ref (u 15), .int 0, .ref (u 16), .int 0, .ref (u 17), .ref (u 18), .ref (u 19), .int 0, .long 0, .ref (u 20), .ref (u 21), .ref (u 22), .ref (u 23), .int 0, .ref (u 24), .ref (u 25), .ref (u 6), .ref (u 7), .ref (u 8), .ref (u 26)])), (u 3, .inl (E 1, 2400, .inl (upd (upd (upd (upd (fun _ => 0) 0 (vp_nar .byte x_4)) 1 (vp_nar .byte x_7)) 2 (vp_nar .byte x_10)) 3 (vp_nar .byte x_13)))), (u 4, .inl (E 0, 5, .inl (upd (upd (upd (upd (upd (fun _ => 0) 0 a1) 1 a2) 2 a3) 3 a4) 4 a5)))] := hD
  refine lv_iinc (v := 4) (lv' := [(6, .int 4), (0, .ref h0), (1, .int a1), (2, .int a2), (3, .int a3), (4, .int a4), (5, .int a5)]) hx hb dX8_feed_95 hl (k := 0) rfl (by decide) (by decide) rfl (fun ls hl => ?_)
  refine lv_goto (tgt := 55) hx hb dX8_feed_98 (by decide) ?_
  refine lv_iload hx hb dX8_feed_55 (lv_at hl 0 rfl) ?_
  refine lv_bipush (v := 20) hx hb dX8_feed_57 (by decide) ?_
  refine lv_icmp_ge (tgt := 101) hx hb dX8_feed_59 (by decide) (fun h9 => absurd h9 (by decide)) (fun _ => ?_)
  refine lv_aload_n hx hb dX8_feed_62 rfl (lv_at hl 1 rfl) ?_
  refine va_get (ci := 8) (v := .ref (u 3)) (C := RX8) (T := TX8) (N := 41) hx hb hts in_m_M_feed_X8 hown hK hP 0 rfl rfl 4 (by decide) (hts (.fieldLink RX8 20 "UnseenClockModel" "tape" "[B") (List.mem_of_getElem? (i := 3) rfl)) (fun _ h9 => h9) rfl dX8_feed_63 ?_
  refine lv_aload_n hx hb dX8_feed_66 rfl (lv_at hl 1 rfl) ?_
  refine va_get (ci := 8) (v := .int 0) (C := RX8) (T := TX8) (N := 41) hx hb hts in_m_M_feed_X8 hown hK hP 0 rfl rfl 5 (by decide) (hts (.fieldLink RX8 114 "UnseenClockModel" "taped" "I") (List.mem_of_getElem? (i := 1) rfl)) (fun _ h9 => h9) rfl dX8_feed_67 ?_
  refine lv_iload hx hb dX8_feed_70 (lv_at hl 0 rfl) ?_
  refine lv_iadd hx hb dX8_feed_72 ?_
  refine lv_toc (y := 4) (by decide) ?_
  refine lv_aload_n hx hb dX8_feed_73 rfl (lv_at hl 1 rfl) ?_
  refine va_get (ci := 8) (v := .ref (u 4)) (C := RX8) (T := TX8) (N := 41) hx hb hts in_m_M_feed_X8 hown hK hP 0 rfl rfl 6 (by decide) (hts (.fieldLink RX8 24 "UnseenClockModel" "five" "[I") (List.mem_of_getElem? (i := 2) rfl)) (fun _ h9 => h9) rfl dX8_feed_74 ?_
  refine lv_iload hx hb dX8_feed_77 (lv_at hl 0 rfl) ?_
  refine lv_iconst (v := 4) hx hb dX8_feed_79 (by decide) ?_
  refine lv_idiv hx hb dX8_feed_80 (by decide) ?_
  refine lv_toc (y := 1) (by decide) ?_
  refine va_iald hx hb hK hP 2 0 rfl rfl (by unfold vp_in; decide) dX8_feed_81 ?_
  refine lv_toc (y := a2) rfl ?_
  refine lv_bipush (v := 24) hx hb dX8_feed_82 (by decide) ?_
  refine lv_bipush (v := 8) hx hb dX8_feed_84 (by decide) ?_
  refine lv_iload hx hb dX8_feed_86 (lv_at hl 0 rfl) ?_
  refine lv_iconst (v := 4) hx hb dX8_feed_88 (by decide) ?_
  refine lv_irem hx hb dX8_feed_89 (by decide) ?_
  refine lv_toc (y := 0) (by decide) ?_
  refine lv_imul hx hb dX8_feed_90 ?_
  refine lv_toc (y := 0) (by decide) ?_
  refine lv_isub hx hb dX8_feed_91 ?_
  refine lv_toc (y := 24) (by decide) ?_
  refine lv_ishr hx hb dX8_feed_92 ?_
  refine lv_topi (fun x_15 ex_15 => ?_)
  obtain ⟨x_16, ex_16⟩ : ∃ y : Int32, (Int32.toInt8 x_15).toInt32 = y := ⟨_, rfl⟩
  refine lv_i2b (v := x_16) hx hb dX8_feed_93 ex_16 ?_
  refine va_bast hx hb hK hP hD hS 1 1 rfl rfl (by unfold vp_in; decide) dX8_feed_94 (fun H locs hP hD hS => ?_)
  have hP : va_P D vwCl [(h0, .inr (8, [.int 0, .ref (u 0), .ref (u 1), .ref (u 2), .ref (u 3), .int 0, .ref (u 4), .int 0, .int 0, .int 0, .int 0, .int 0, .int 0, .int (-1), .ref (u 5), .ref (u 9), .ref (u 10), .ref (u 11), .ref (u 12), .ref (u 13), .ref (u 14), .ref (u 15), .int 0, .ref (u 16), .int 0, .ref (u 17), .ref (u 18), .ref (u 19), .int 0, .long 0, .ref (u 20), .ref (u 21), .ref (u 22), .ref (u 23), .int 0, .ref (u 24), .ref (u 25), .ref (u 6), .ref (u 7), .ref (u 8), .ref (u 26)])), (u 3, .inl (E 1, 2400, .inl (upd (upd (upd (upd (upd (fun _ => 0) 0 (vp_nar .byte x_4)) 1 (vp_nar .byte x_7)) 2 (vp_nar .byte x_10)) 3 (vp_nar .byte x_13)) 4 (vp_nar .byte x_16)))), (u 4, .inl (E 0, 5, .inl (upd (upd (upd (upd (upd (fun _ => 0) 0 a1) 1 a2) 2 a3) 3 a4) 4 a5)))] H := hP
  have hD : va_D A [(h0, .inr (8, [.int 0, .ref (u 0), .ref (u 1), .ref (u 2), .ref (u 3), .int 0, .ref (u 4), .int 0, .int 0, .int 0, .int 0, .int 0, .int 0, .int (-1), .ref (u 5), .ref (u 9), .ref (u 10), .ref (u 11), .ref (u 12), .ref (u 13), .ref (u 14), .ref (u 15), .int 0, .ref (u 16), .int 0, .ref (u 17), .ref (u 18), .ref (u 19), .int 0, .long 0, .ref (u 20), .ref (u 21), .ref (u 22), .ref (u 23), .int 0, .ref (u 24), .ref (u 25), .ref (u 6), .ref (u 7), .ref (u 8), .ref (u 26)])), (u 3, .inl (E 1, 2400, .inl (upd (upd (upd (upd (upd (fun _ => 0) 0 (vp_nar .byte x_4)) 1 (vp_nar .byte x_7)) 2 (vp_nar .byte x_10)) 3 (vp_nar .byte x_13)) 4 (vp_nar .byte x_16)))), (u 4, .inl (E 0, 5, .inl (upd (upd (upd (upd (upd (fun _ => 0) 0 a1) 1 a2) 2 a3) 3 a4) 4 a5)))] := hD
  refine lv_iinc (v := 5) (lv' := [(6, .int 5), (0, .ref h0), (1, .int a1), (2, .int a2), (3, .int a3), (4, .int a4), (5, .int a5)]) hx hb dX8_feed_95 hl (k := 0) rfl (by decide) (by decide) rfl (fun ls hl => ?_)
  refine lv_goto (tgt := 55) hx hb dX8_feed_98 (by decide) ?_
  refine lv_iload hx hb dX8_feed_55 (lv_at hl 0 rfl) ?_
  refine lv_bipush (v := 20) hx hb dX8_feed_57 (by decide) ?_
  refine lv_icmp_ge (tgt := 101) hx hb dX8_feed_59 (by decide) (fun h9 => absurd h9 (by decide)) (fun _ => ?_)
  refine lv_aload_n hx hb dX8_feed_62 rfl (lv_at hl 1 rfl) ?_
  refine va_get (ci := 8) (v := .ref (u 3)) (C := RX8) (T := TX8) (N := 41) hx hb hts in_m_M_feed_X8 hown hK hP 0 rfl rfl 4 (by decide) (hts (.fieldLink RX8 20 "UnseenClockModel" "tape" "[B") (List.mem_of_getElem? (i := 3) rfl)) (fun _ h9 => h9) rfl dX8_feed_63 ?_
  refine lv_aload_n hx hb dX8_feed_66 rfl (lv_at hl 1 rfl) ?_
  refine va_get (ci := 8) (v := .int 0) (C := RX8) (T := TX8) (N := 41) hx hb hts in_m_M_feed_X8 hown hK hP 0 rfl rfl 5 (by decide) (hts (.fieldLink RX8 114 "UnseenClockModel" "taped" "I") (List.mem_of_getElem? (i := 1) rfl)) (fun _ h9 => h9) rfl dX8_feed_67 ?_
  refine lv_iload hx hb dX8_feed_70 (lv_at hl 0 rfl) ?_
  refine lv_iadd hx hb dX8_feed_72 ?_
  refine lv_toc (y := 5) (by decide) ?_
  refine lv_aload_n hx hb dX8_feed_73 rfl (lv_at hl 1 rfl) ?_
  refine va_get (ci := 8) (v := .ref (u 4)) (C := RX8) (T := TX8) (N := 41) hx hb hts in_m_M_feed_X8 hown hK hP 0 rfl rfl 6 (by decide) (hts (.fieldLink RX8 24 "UnseenClockModel" "five" "[I") (List.mem_of_getElem? (i := 2) rfl)) (fun _ h9 => h9) rfl dX8_feed_74 ?_
  refine lv_iload hx hb dX8_feed_77 (lv_at hl 0 rfl) ?_
  refine lv_iconst (v := 4) hx hb dX8_feed_79 (by decide) ?_
  refine lv_idiv hx hb dX8_feed_80 (by decide) ?_
  refine lv_toc (y := 1) (by decide) ?_
  refine va_iald hx hb hK hP 2 0 rfl rfl (by unfold vp_in; decide) dX8_feed_81 ?_
  refine lv_toc (y := a2) rfl ?_
  refine lv_bipush (v := 24) hx hb dX8_feed_82 (by decide) ?_
  refine lv_bipush (v := 8) hx hb dX8_feed_84 (by decide) ?_
  refine lv_iload hx hb dX8_feed_86 (lv_at hl 0 rfl) ?_
  refine lv_iconst (v := 4) hx hb dX8_feed_88 (by decide) ?_
  refine lv_irem hx hb dX8_feed_89 (by decide) ?_
  refine lv_toc (y := 1) (by decide) ?_
  refine lv_imul hx hb dX8_feed_90 ?_
  refine lv_toc (y := 8) (by decide) ?_
  refine lv_isub hx hb dX8_feed_91 ?_
  refine lv_toc (y := 16) (by decide) ?_
  refine lv_ishr hx hb dX8_feed_92 ?_
  refine lv_topi (fun x_18 ex_18 => ?_)
  obtain ⟨x_19, ex_19⟩ : ∃ y : Int32, (Int32.toInt8 x_18).toInt32 = y := ⟨_, rfl⟩
  refine lv_i2b (v := x_19) hx hb dX8_feed_93 ex_19 ?_
  refine va_bast hx hb hK hP hD hS 1 1 rfl rfl (by unfold vp_in; decide) dX8_feed_94 (fun H locs hP hD hS => ?_)
  have hP : va_P D vwCl [(h0, .inr (8, [.int 0, .ref (u 0), .ref (u 1), .ref (u 2), .ref (u 3), .int 0, .ref (u 4), .int 0, .int 0, .int 0, .int 0, .int 0, .int 0, .int (-1), .ref (u 5), .ref (u 9), .ref (u 10), .ref (u 11), .ref (u 12), .ref (u 13), .ref (u 14), .ref (u 15), .int 0, .ref (u 16), .int 0, .ref (u 17), .ref (u 18), .ref (u 19), .int 0, .long 0, .ref (u 20), .ref (u 21), .ref (u 22), .ref (u 23), .int 0, .ref (u 24), .ref (u 25), .ref (u 6), .ref (u 7), .ref (u 8), .ref (u 26)])), (u 3, .inl (E 1, 2400, .inl (upd (upd (upd (upd (upd (upd (fun _ => 0) 0 (vp_nar .byte x_4)) 1 (vp_nar .byte x_7)) 2 (vp_nar .byte x_10)) 3 (vp_nar .byte x_13)) 4 (vp_nar .byte x_16)) 5 (vp_nar .byte x_19)))), (u 4, .inl (E 0, 5, .inl (upd (upd (upd (upd (upd (fun _ => 0) 0 a1) 1 a2) 2 a3) 3 a4) 4 a5)))] H := hP
  have hD : va_D A [(h0, .inr (8, [.int 0, .ref (u 0), .ref (u 1), .ref (u 2), .ref (u 3), .int 0, .ref (u 4), .int 0, .int 0, .int 0, .int 0, .int 0, .int 0, .int (-1), .ref (u 5), .ref (u 9), .ref (u 10), .ref (u 11), .ref (u 12), .ref (u 13), .ref (u 14), .ref (u 15), .int 0, .ref (u 16), .int 0, .ref (u 17), .ref (u 18), .ref (u 19), .int 0, .long 0, .ref (u 20), .ref (u 21), .ref (u 22), .ref (u 23), .int 0, .ref (u 24), .ref (u 25), .ref (u 6), .ref (u 7), .ref (u 8), .ref (u 26)])), (u 3, .inl (E 1, 2400, .inl (upd (upd (upd (upd (upd (upd (fun _ => 0) 0 (vp_nar .byte x_4)) 1 (vp_nar .byte x_7)) 2 (vp_nar .byte x_10)) 3 (vp_nar .byte x_13)) 4 (vp_nar .byte x_16)) 5 (vp_nar .byte x_19)))), (u 4, .inl (E 0, 5, .inl (upd (upd (upd (upd (upd (fun _ => 0) 0 a1) 1 a2) 2 a3) 3 a4) 4 a5)))] := hD
  refine lv_iinc (v := 6) (lv' := [(6, .int 6), (0, .ref h0), (1, .int a1), (2, .int a2), (3, .int a3), (4, .int a4), (5, .int a5)]) hx hb dX8_feed_95 hl (k := 0) rfl (by decide) (by decide) rfl (fun ls hl => ?_)
  refine lv_goto (tgt := 55) hx hb dX8_feed_98 (by decide) ?_
  refine lv_iload hx hb dX8_feed_55 (lv_at hl 0 rfl) ?_
  refine lv_bipush (v := 20) hx hb dX8_feed_57 (by decide) ?_
  refine lv_icmp_ge (tgt := 101) hx hb dX8_feed_59 (by decide) (fun h9 => absurd h9 (by decide)) (fun _ => ?_)
  refine lv_aload_n hx hb dX8_feed_62 rfl (lv_at hl 1 rfl) ?_
  refine va_get (ci := 8) (v := .ref (u 3)) (C := RX8) (T := TX8) (N := 41) hx hb hts in_m_M_feed_X8 hown hK hP 0 rfl rfl 4 (by decide) (hts (.fieldLink RX8 20 "UnseenClockModel" "tape" "[B") (List.mem_of_getElem? (i := 3) rfl)) (fun _ h9 => h9) rfl dX8_feed_63 ?_
  refine lv_aload_n hx hb dX8_feed_66 rfl (lv_at hl 1 rfl) ?_
  refine va_get (ci := 8) (v := .int 0) (C := RX8) (T := TX8) (N := 41) hx hb hts in_m_M_feed_X8 hown hK hP 0 rfl rfl 5 (by decide) (hts (.fieldLink RX8 114 "UnseenClockModel" "taped" "I") (List.mem_of_getElem? (i := 1) rfl)) (fun _ h9 => h9) rfl dX8_feed_67 ?_
  refine lv_iload hx hb dX8_feed_70 (lv_at hl 0 rfl) ?_
  refine lv_iadd hx hb dX8_feed_72 ?_
  refine lv_toc (y := 6) (by decide) ?_
  refine lv_aload_n hx hb dX8_feed_73 rfl (lv_at hl 1 rfl) ?_
  refine va_get (ci := 8) (v := .ref (u 4)) (C := RX8) (T := TX8) (N := 41) hx hb hts in_m_M_feed_X8 hown hK hP 0 rfl rfl 6 (by decide) (hts (.fieldLink RX8 24 "UnseenClockModel" "five" "[I") (List.mem_of_getElem? (i := 2) rfl)) (fun _ h9 => h9) rfl dX8_feed_74 ?_
  refine lv_iload hx hb dX8_feed_77 (lv_at hl 0 rfl) ?_
  refine lv_iconst (v := 4) hx hb dX8_feed_79 (by decide) ?_
  refine lv_idiv hx hb dX8_feed_80 (by decide) ?_
  refine lv_toc (y := 1) (by decide) ?_
  refine va_iald hx hb hK hP 2 0 rfl rfl (by unfold vp_in; decide) dX8_feed_81 ?_
  refine lv_toc (y := a2) rfl ?_
  refine lv_bipush (v := 24) hx hb dX8_feed_82 (by decide) ?_
  refine lv_bipush (v := 8) hx hb dX8_feed_84 (by decide) ?_
  refine lv_iload hx hb dX8_feed_86 (lv_at hl 0 rfl) ?_
  refine lv_iconst (v := 4) hx hb dX8_feed_88 (by decide) ?_
  refine lv_irem hx hb dX8_feed_89 (by decide) ?_
  refine lv_toc (y := 2) (by decide) ?_
  refine lv_imul hx hb dX8_feed_90 ?_
  refine lv_toc (y := 16) (by decide) ?_
  refine lv_isub hx hb dX8_feed_91 ?_
  refine lv_toc (y := 8) (by decide) ?_
  refine lv_ishr hx hb dX8_feed_92 ?_
  refine lv_topi (fun x_21 ex_21 => ?_)
  obtain ⟨x_22, ex_22⟩ : ∃ y : Int32, (Int32.toInt8 x_21).toInt32 = y := ⟨_, rfl⟩
  refine lv_i2b (v := x_22) hx hb dX8_feed_93 ex_22 ?_
  refine va_bast hx hb hK hP hD hS 1 1 rfl rfl (by unfold vp_in; decide) dX8_feed_94 (fun H locs hP hD hS => ?_)
  have hP : va_P D vwCl [(h0, .inr (8, [.int 0, .ref (u 0), .ref (u 1), .ref (u 2), .ref (u 3), .int 0, .ref (u 4), .int 0, .int 0, .int 0, .int 0, .int 0, .int 0, .int (-1), .ref (u 5), .ref (u 9), .ref (u 10), .ref (u 11), .ref (u 12), .ref (u 13), .ref (u 14), .ref (u 15), .int 0, .ref (u 16), .int 0, .ref (u 17), .ref (u 18), .ref (u 19), .int 0, .long 0, .ref (u 20), .ref (u 21), .ref (u 22), .ref (u 23), .int 0, .ref (u 24), .ref (u 25), .ref (u 6), .ref (u 7), .ref (u 8), .ref (u 26)])), (u 3, .inl (E 1, 2400, .inl (upd (upd (upd (upd (upd (upd (upd (fun _ => 0) 0 (vp_nar .byte x_4)) 1 (vp_nar .byte x_7)) 2 (vp_nar .byte x_10)) 3 (vp_nar .byte x_13)) 4 (vp_nar .byte x_16)) 5 (vp_nar .byte x_19)) 6 (vp_nar .byte x_22)))), (u 4, .inl (E 0, 5, .inl (upd (upd (upd (upd (upd (fun _ => 0) 0 a1) 1 a2) 2 a3) 3 a4) 4 a5)))] H := hP
  have hD : va_D A [(h0, .inr (8, [.int 0, .ref (u 0), .ref (u 1), .ref (u 2), .ref (u 3), .int 0, .ref (u 4), .int 0, .int 0, .int 0, .int 0, .int 0, .int 0, .int (-1), .ref (u 5), .ref (u 9), .ref (u 10), .ref (u 11), .ref (u 12), .ref (u 13), .ref (u 14), .ref (u 15), .int 0, .ref (u 16), .int 0, .ref (u 17), .ref (u 18), .ref (u 19), .int 0, .long 0, .ref (u 20), .ref (u 21), .ref (u 22), .ref (u 23), .int 0, .ref (u 24), .ref (u 25), .ref (u 6), .ref (u 7), .ref (u 8), .ref (u 26)])), (u 3, .inl (E 1, 2400, .inl (upd (upd (upd (upd (upd (upd (upd (fun _ => 0) 0 (vp_nar .byte x_4)) 1 (vp_nar .byte x_7)) 2 (vp_nar .byte x_10)) 3 (vp_nar .byte x_13)) 4 (vp_nar .byte x_16)) 5 (vp_nar .byte x_19)) 6 (vp_nar .byte x_22)))), (u 4, .inl (E 0, 5, .inl (upd (upd (upd (upd (upd (fun _ => 0) 0 a1) 1 a2) 2 a3) 3 a4) 4 a5)))] := hD
  refine lv_iinc (v := 7) (lv' := [(6, .int 7), (0, .ref h0), (1, .int a1), (2, .int a2), (3, .int a3), (4, .int a4), (5, .int a5)]) hx hb dX8_feed_95 hl (k := 0) rfl (by decide) (by decide) rfl (fun ls hl => ?_)
  refine lv_goto (tgt := 55) hx hb dX8_feed_98 (by decide) ?_
  refine lv_iload hx hb dX8_feed_55 (lv_at hl 0 rfl) ?_
  refine lv_bipush (v := 20) hx hb dX8_feed_57 (by decide) ?_
  refine lv_icmp_ge (tgt := 101) hx hb dX8_feed_59 (by decide) (fun h9 => absurd h9 (by decide)) (fun _ => ?_)
  refine lv_aload_n hx hb dX8_feed_62 rfl (lv_at hl 1 rfl) ?_
  refine va_get (ci := 8) (v := .ref (u 3)) (C := RX8) (T := TX8) (N := 41) hx hb hts in_m_M_feed_X8 hown hK hP 0 rfl rfl 4 (by decide) (hts (.fieldLink RX8 20 "UnseenClockModel" "tape" "[B") (List.mem_of_getElem? (i := 3) rfl)) (fun _ h9 => h9) rfl dX8_feed_63 ?_
  refine lv_aload_n hx hb dX8_feed_66 rfl (lv_at hl 1 rfl) ?_
  refine va_get (ci := 8) (v := .int 0) (C := RX8) (T := TX8) (N := 41) hx hb hts in_m_M_feed_X8 hown hK hP 0 rfl rfl 5 (by decide) (hts (.fieldLink RX8 114 "UnseenClockModel" "taped" "I") (List.mem_of_getElem? (i := 1) rfl)) (fun _ h9 => h9) rfl dX8_feed_67 ?_
  refine lv_iload hx hb dX8_feed_70 (lv_at hl 0 rfl) ?_
  refine lv_iadd hx hb dX8_feed_72 ?_
  refine lv_toc (y := 7) (by decide) ?_
  refine lv_aload_n hx hb dX8_feed_73 rfl (lv_at hl 1 rfl) ?_
  refine va_get (ci := 8) (v := .ref (u 4)) (C := RX8) (T := TX8) (N := 41) hx hb hts in_m_M_feed_X8 hown hK hP 0 rfl rfl 6 (by decide) (hts (.fieldLink RX8 24 "UnseenClockModel" "five" "[I") (List.mem_of_getElem? (i := 2) rfl)) (fun _ h9 => h9) rfl dX8_feed_74 ?_
  refine lv_iload hx hb dX8_feed_77 (lv_at hl 0 rfl) ?_
  refine lv_iconst (v := 4) hx hb dX8_feed_79 (by decide) ?_
  refine lv_idiv hx hb dX8_feed_80 (by decide) ?_
  refine lv_toc (y := 1) (by decide) ?_
  refine va_iald hx hb hK hP 2 0 rfl rfl (by unfold vp_in; decide) dX8_feed_81 ?_
  refine lv_toc (y := a2) rfl ?_
  refine lv_bipush (v := 24) hx hb dX8_feed_82 (by decide) ?_
  refine lv_bipush (v := 8) hx hb dX8_feed_84 (by decide) ?_
  refine lv_iload hx hb dX8_feed_86 (lv_at hl 0 rfl) ?_
  refine lv_iconst (v := 4) hx hb dX8_feed_88 (by decide) ?_
  refine lv_irem hx hb dX8_feed_89 (by decide) ?_
  refine lv_toc (y := 3) (by decide) ?_
  refine lv_imul hx hb dX8_feed_90 ?_
  refine lv_toc (y := 24) (by decide) ?_
  refine lv_isub hx hb dX8_feed_91 ?_
  refine lv_toc (y := 0) (by decide) ?_
  refine lv_ishr hx hb dX8_feed_92 ?_
  refine lv_topi (fun x_24 ex_24 => ?_)
  obtain ⟨x_25, ex_25⟩ : ∃ y : Int32, (Int32.toInt8 x_24).toInt32 = y := ⟨_, rfl⟩
  refine lv_i2b (v := x_25) hx hb dX8_feed_93 ex_25 ?_
  refine va_bast hx hb hK hP hD hS 1 1 rfl rfl (by unfold vp_in; decide) dX8_feed_94 (fun H locs hP hD hS => ?_)
  have hP : va_P D vwCl [(h0, .inr (8, [.int 0, .ref (u 0), .ref (u 1), .ref (u 2), .ref (u 3), .int 0, .ref (u 4), .int 0, .int 0, .int 0, .int 0, .int 0, .int 0, .int (-1), .ref (u 5), .ref (u 9), .ref (u 10), .ref (u 11), .ref (u 12), .ref (u 13), .ref (u 14), .ref (u 15), .int 0, .ref (u 16), .int 0, .ref (u 17), .ref (u 18), .ref (u 19), .int 0, .long 0, .ref (u 20), .ref (u 21), .ref (u 22), .ref (u 23), .int 0, .ref (u 24), .ref (u 25), .ref (u 6), .ref (u 7), .ref (u 8), .ref (u 26)])), (u 3, .inl (E 1, 2400, .inl (upd (upd (upd (upd (upd (upd (upd (upd (fun _ => 0) 0 (vp_nar .byte x_4)) 1 (vp_nar .byte x_7)) 2 (vp_nar .byte x_10)) 3 (vp_nar .byte x_13)) 4 (vp_nar .byte x_16)) 5 (vp_nar .byte x_19)) 6 (vp_nar .byte x_22)) 7 (vp_nar .byte x_25)))), (u 4, .inl (E 0, 5, .inl (upd (upd (upd (upd (upd (fun _ => 0) 0 a1) 1 a2) 2 a3) 3 a4) 4 a5)))] H := hP
  have hD : va_D A [(h0, .inr (8, [.int 0, .ref (u 0), .ref (u 1), .ref (u 2), .ref (u 3), .int 0, .ref (u 4), .int 0, .int 0, .int 0, .int 0, .int 0, .int 0, .int (-1), .ref (u 5), .ref (u 9), .ref (u 10), .ref (u 11), .ref (u 12), .ref (u 13), .ref (u 14), .ref (u 15), .int 0, .ref (u 16), .int 0, .ref (u 17), .ref (u 18), .ref (u 19), .int 0, .long 0, .ref (u 20), .ref (u 21), .ref (u 22), .ref (u 23), .int 0, .ref (u 24), .ref (u 25), .ref (u 6), .ref (u 7), .ref (u 8), .ref (u 26)])), (u 3, .inl (E 1, 2400, .inl (upd (upd (upd (upd (upd (upd (upd (upd (fun _ => 0) 0 (vp_nar .byte x_4)) 1 (vp_nar .byte x_7)) 2 (vp_nar .byte x_10)) 3 (vp_nar .byte x_13)) 4 (vp_nar .byte x_16)) 5 (vp_nar .byte x_19)) 6 (vp_nar .byte x_22)) 7 (vp_nar .byte x_25)))), (u 4, .inl (E 0, 5, .inl (upd (upd (upd (upd (upd (fun _ => 0) 0 a1) 1 a2) 2 a3) 3 a4) 4 a5)))] := hD
  refine lv_iinc (v := 8) (lv' := [(6, .int 8), (0, .ref h0), (1, .int a1), (2, .int a2), (3, .int a3), (4, .int a4), (5, .int a5)]) hx hb dX8_feed_95 hl (k := 0) rfl (by decide) (by decide) rfl (fun ls hl => ?_)
  refine lv_goto (tgt := 55) hx hb dX8_feed_98 (by decide) ?_
  refine lv_iload hx hb dX8_feed_55 (lv_at hl 0 rfl) ?_
  refine lv_bipush (v := 20) hx hb dX8_feed_57 (by decide) ?_
  refine lv_icmp_ge (tgt := 101) hx hb dX8_feed_59 (by decide) (fun h9 => absurd h9 (by decide)) (fun _ => ?_)
  refine lv_aload_n hx hb dX8_feed_62 rfl (lv_at hl 1 rfl) ?_
  refine va_get (ci := 8) (v := .ref (u 3)) (C := RX8) (T := TX8) (N := 41) hx hb hts in_m_M_feed_X8 hown hK hP 0 rfl rfl 4 (by decide) (hts (.fieldLink RX8 20 "UnseenClockModel" "tape" "[B") (List.mem_of_getElem? (i := 3) rfl)) (fun _ h9 => h9) rfl dX8_feed_63 ?_
  refine lv_aload_n hx hb dX8_feed_66 rfl (lv_at hl 1 rfl) ?_
  refine va_get (ci := 8) (v := .int 0) (C := RX8) (T := TX8) (N := 41) hx hb hts in_m_M_feed_X8 hown hK hP 0 rfl rfl 5 (by decide) (hts (.fieldLink RX8 114 "UnseenClockModel" "taped" "I") (List.mem_of_getElem? (i := 1) rfl)) (fun _ h9 => h9) rfl dX8_feed_67 ?_
  refine lv_iload hx hb dX8_feed_70 (lv_at hl 0 rfl) ?_
  refine lv_iadd hx hb dX8_feed_72 ?_
  refine lv_toc (y := 8) (by decide) ?_
  refine lv_aload_n hx hb dX8_feed_73 rfl (lv_at hl 1 rfl) ?_
  refine va_get (ci := 8) (v := .ref (u 4)) (C := RX8) (T := TX8) (N := 41) hx hb hts in_m_M_feed_X8 hown hK hP 0 rfl rfl 6 (by decide) (hts (.fieldLink RX8 24 "UnseenClockModel" "five" "[I") (List.mem_of_getElem? (i := 2) rfl)) (fun _ h9 => h9) rfl dX8_feed_74 ?_
  refine lv_iload hx hb dX8_feed_77 (lv_at hl 0 rfl) ?_
  refine lv_iconst (v := 4) hx hb dX8_feed_79 (by decide) ?_
  refine lv_idiv hx hb dX8_feed_80 (by decide) ?_
  refine lv_toc (y := 2) (by decide) ?_
  refine va_iald hx hb hK hP 2 0 rfl rfl (by unfold vp_in; decide) dX8_feed_81 ?_
  refine lv_toc (y := a3) rfl ?_
  refine lv_bipush (v := 24) hx hb dX8_feed_82 (by decide) ?_
  refine lv_bipush (v := 8) hx hb dX8_feed_84 (by decide) ?_
  refine lv_iload hx hb dX8_feed_86 (lv_at hl 0 rfl) ?_
  refine lv_iconst (v := 4) hx hb dX8_feed_88 (by decide) ?_
  refine lv_irem hx hb dX8_feed_89 (by decide) ?_
  refine lv_toc (y := 0) (by decide) ?_
  refine lv_imul hx hb dX8_feed_90 ?_
  refine lv_toc (y := 0) (by decide) ?_
  refine lv_isub hx hb dX8_feed_91 ?_
  refine lv_toc (y := 24) (by decide) ?_
  refine lv_ishr hx hb dX8_feed_92 ?_
  refine lv_topi (fun x_27 ex_27 => ?_)
  obtain ⟨x_28, ex_28⟩ : ∃ y : Int32, (Int32.toInt8 x_27).toInt32 = y := ⟨_, rfl⟩
  refine lv_i2b (v := x_28) hx hb dX8_feed_93 ex_28 ?_
  refine va_bast hx hb hK hP hD hS 1 1 rfl rfl (by unfold vp_in; decide) dX8_feed_94 (fun H locs hP hD hS => ?_)
  have hP : va_P D vwCl [(h0, .inr (8, [.int 0, .ref (u 0), .ref (u 1), .ref (u 2), .ref (u 3), .int 0, .ref (u 4), .int 0, .int 0, .int 0, .int 0, .int 0, .int 0, .int (-1), .ref (u 5), .ref (u 9), .ref (u 10), .ref (u 11), .ref (u 12), .ref (u 13), .ref (u 14), .ref (u 15), .int 0, .ref (u 16), .int 0, .ref (u 17), .ref (u 18), .ref (u 19), .int 0, .long 0, .ref (u 20), .ref (u 21), .ref (u 22), .ref (u 23), .int 0, .ref (u 24), .ref (u 25), .ref (u 6), .ref (u 7), .ref (u 8), .ref (u 26)])), (u 3, .inl (E 1, 2400, .inl (upd (upd (upd (upd (upd (upd (upd (upd (upd (fun _ => 0) 0 (vp_nar .byte x_4)) 1 (vp_nar .byte x_7)) 2 (vp_nar .byte x_10)) 3 (vp_nar .byte x_13)) 4 (vp_nar .byte x_16)) 5 (vp_nar .byte x_19)) 6 (vp_nar .byte x_22)) 7 (vp_nar .byte x_25)) 8 (vp_nar .byte x_28)))), (u 4, .inl (E 0, 5, .inl (upd (upd (upd (upd (upd (fun _ => 0) 0 a1) 1 a2) 2 a3) 3 a4) 4 a5)))] H := hP
  have hD : va_D A [(h0, .inr (8, [.int 0, .ref (u 0), .ref (u 1), .ref (u 2), .ref (u 3), .int 0, .ref (u 4), .int 0, .int 0, .int 0, .int 0, .int 0, .int 0, .int (-1), .ref (u 5), .ref (u 9), .ref (u 10), .ref (u 11), .ref (u 12), .ref (u 13), .ref (u 14), .ref (u 15), .int 0, .ref (u 16), .int 0, .ref (u 17), .ref (u 18), .ref (u 19), .int 0, .long 0, .ref (u 20), .ref (u 21), .ref (u 22), .ref (u 23), .int 0, .ref (u 24), .ref (u 25), .ref (u 6), .ref (u 7), .ref (u 8), .ref (u 26)])), (u 3, .inl (E 1, 2400, .inl (upd (upd (upd (upd (upd (upd (upd (upd (upd (fun _ => 0) 0 (vp_nar .byte x_4)) 1 (vp_nar .byte x_7)) 2 (vp_nar .byte x_10)) 3 (vp_nar .byte x_13)) 4 (vp_nar .byte x_16)) 5 (vp_nar .byte x_19)) 6 (vp_nar .byte x_22)) 7 (vp_nar .byte x_25)) 8 (vp_nar .byte x_28)))), (u 4, .inl (E 0, 5, .inl (upd (upd (upd (upd (upd (fun _ => 0) 0 a1) 1 a2) 2 a3) 3 a4) 4 a5)))] := hD
  refine lv_iinc (v := 9) (lv' := [(6, .int 9), (0, .ref h0), (1, .int a1), (2, .int a2), (3, .int a3), (4, .int a4), (5, .int a5)]) hx hb dX8_feed_95 hl (k := 0) rfl (by decide) (by decide) rfl (fun ls hl => ?_)
  refine lv_goto (tgt := 55) hx hb dX8_feed_98 (by decide) ?_
  refine lv_iload hx hb dX8_feed_55 (lv_at hl 0 rfl) ?_
  refine lv_bipush (v := 20) hx hb dX8_feed_57 (by decide) ?_
  refine lv_icmp_ge (tgt := 101) hx hb dX8_feed_59 (by decide) (fun h9 => absurd h9 (by decide)) (fun _ => ?_)
  refine lv_aload_n hx hb dX8_feed_62 rfl (lv_at hl 1 rfl) ?_
  refine va_get (ci := 8) (v := .ref (u 3)) (C := RX8) (T := TX8) (N := 41) hx hb hts in_m_M_feed_X8 hown hK hP 0 rfl rfl 4 (by decide) (hts (.fieldLink RX8 20 "UnseenClockModel" "tape" "[B") (List.mem_of_getElem? (i := 3) rfl)) (fun _ h9 => h9) rfl dX8_feed_63 ?_
  refine lv_aload_n hx hb dX8_feed_66 rfl (lv_at hl 1 rfl) ?_
  refine va_get (ci := 8) (v := .int 0) (C := RX8) (T := TX8) (N := 41) hx hb hts in_m_M_feed_X8 hown hK hP 0 rfl rfl 5 (by decide) (hts (.fieldLink RX8 114 "UnseenClockModel" "taped" "I") (List.mem_of_getElem? (i := 1) rfl)) (fun _ h9 => h9) rfl dX8_feed_67 ?_
  refine lv_iload hx hb dX8_feed_70 (lv_at hl 0 rfl) ?_
  refine lv_iadd hx hb dX8_feed_72 ?_
  refine lv_toc (y := 9) (by decide) ?_
  refine lv_aload_n hx hb dX8_feed_73 rfl (lv_at hl 1 rfl) ?_
  refine va_get (ci := 8) (v := .ref (u 4)) (C := RX8) (T := TX8) (N := 41) hx hb hts in_m_M_feed_X8 hown hK hP 0 rfl rfl 6 (by decide) (hts (.fieldLink RX8 24 "UnseenClockModel" "five" "[I") (List.mem_of_getElem? (i := 2) rfl)) (fun _ h9 => h9) rfl dX8_feed_74 ?_
  refine lv_iload hx hb dX8_feed_77 (lv_at hl 0 rfl) ?_
  refine lv_iconst (v := 4) hx hb dX8_feed_79 (by decide) ?_
  refine lv_idiv hx hb dX8_feed_80 (by decide) ?_
  refine lv_toc (y := 2) (by decide) ?_
  refine va_iald hx hb hK hP 2 0 rfl rfl (by unfold vp_in; decide) dX8_feed_81 ?_
  refine lv_toc (y := a3) rfl ?_
  refine lv_bipush (v := 24) hx hb dX8_feed_82 (by decide) ?_
  refine lv_bipush (v := 8) hx hb dX8_feed_84 (by decide) ?_
  refine lv_iload hx hb dX8_feed_86 (lv_at hl 0 rfl) ?_
  refine lv_iconst (v := 4) hx hb dX8_feed_88 (by decide) ?_
  refine lv_irem hx hb dX8_feed_89 (by decide) ?_
  refine lv_toc (y := 1) (by decide) ?_
  refine lv_imul hx hb dX8_feed_90 ?_
  refine lv_toc (y := 8) (by decide) ?_
  refine lv_isub hx hb dX8_feed_91 ?_
  refine lv_toc (y := 16) (by decide) ?_
  refine lv_ishr hx hb dX8_feed_92 ?_
  refine lv_topi (fun x_30 ex_30 => ?_)
  obtain ⟨x_31, ex_31⟩ : ∃ y : Int32, (Int32.toInt8 x_30).toInt32 = y := ⟨_, rfl⟩
  refine lv_i2b (v := x_31) hx hb dX8_feed_93 ex_31 ?_
  refine va_bast hx hb hK hP hD hS 1 1 rfl rfl (by unfold vp_in; decide) dX8_feed_94 (fun H locs hP hD hS => ?_)
  have hP : va_P D vwCl [(h0, .inr (8, [.int 0, .ref (u 0), .ref (u 1), .ref (u 2), .ref (u 3), .int 0, .ref (u 4), .int 0, .int 0, .int 0, .int 0, .int 0, .int 0, .int (-1), .ref (u 5), .ref (u 9), .ref (u 10), .ref (u 11), .ref (u 12), .ref (u 13), .ref (u 14), .ref (u 15), .int 0, .ref (u 16), .int 0, .ref (u 17), .ref (u 18), .ref (u 19), .int 0, .long 0, .ref (u 20), .ref (u 21), .ref (u 22), .ref (u 23), .int 0, .ref (u 24), .ref (u 25), .ref (u 6), .ref (u 7), .ref (u 8), .ref (u 26)])), (u 3, .inl (E 1, 2400, .inl (upd (upd (upd (upd (upd (upd (upd (upd (upd (upd (fun _ => 0) 0 (vp_nar .byte x_4)) 1 (vp_nar .byte x_7)) 2 (vp_nar .byte x_10)) 3 (vp_nar .byte x_13)) 4 (vp_nar .byte x_16)) 5 (vp_nar .byte x_19)) 6 (vp_nar .byte x_22)) 7 (vp_nar .byte x_25)) 8 (vp_nar .byte x_28)) 9 (vp_nar .byte x_31)))), (u 4, .inl (E 0, 5, .inl (upd (upd (upd (upd (upd (fun _ => 0) 0 a1) 1 a2) 2 a3) 3 a4) 4 a5)))] H := hP
  have hD : va_D A [(h0, .inr (8, [.int 0, .ref (u 0), .ref (u 1), .ref (u 2), .ref (u 3), .int 0, .ref (u 4), .int 0, .int 0, .int 0, .int 0, .int 0, .int 0, .int (-1), .ref (u 5), .ref (u 9), .ref (u 10), .ref (u 11), .ref (u 12), .ref (u 13), .ref (u 14), .ref (u 15), .int 0, .ref (u 16), .int 0, .ref (u 17), .ref (u 18), .ref (u 19), .int 0, .long 0, .ref (u 20), .ref (u 21), .ref (u 22), .ref (u 23), .int 0, .ref (u 24), .ref (u 25), .ref (u 6), .ref (u 7), .ref (u 8), .ref (u 26)])), (u 3, .inl (E 1, 2400, .inl (upd (upd (upd (upd (upd (upd (upd (upd (upd (upd (fun _ => 0) 0 (vp_nar .byte x_4)) 1 (vp_nar .byte x_7)) 2 (vp_nar .byte x_10)) 3 (vp_nar .byte x_13)) 4 (vp_nar .byte x_16)) 5 (vp_nar .byte x_19)) 6 (vp_nar .byte x_22)) 7 (vp_nar .byte x_25)) 8 (vp_nar .byte x_28)) 9 (vp_nar .byte x_31)))), (u 4, .inl (E 0, 5, .inl (upd (upd (upd (upd (upd (fun _ => 0) 0 a1) 1 a2) 2 a3) 3 a4) 4 a5)))] := hD
  refine lv_iinc (v := 10) (lv' := [(6, .int 10), (0, .ref h0), (1, .int a1), (2, .int a2), (3, .int a3), (4, .int a4), (5, .int a5)]) hx hb dX8_feed_95 hl (k := 0) rfl (by decide) (by decide) rfl (fun ls hl => ?_)
  refine lv_goto (tgt := 55) hx hb dX8_feed_98 (by decide) ?_
  refine lv_iload hx hb dX8_feed_55 (lv_at hl 0 rfl) ?_
  refine lv_bipush (v := 20) hx hb dX8_feed_57 (by decide) ?_
  refine lv_icmp_ge (tgt := 101) hx hb dX8_feed_59 (by decide) (fun h9 => absurd h9 (by decide)) (fun _ => ?_)
  refine lv_aload_n hx hb dX8_feed_62 rfl (lv_at hl 1 rfl) ?_
  refine va_get (ci := 8) (v := .ref (u 3)) (C := RX8) (T := TX8) (N := 41) hx hb hts in_m_M_feed_X8 hown hK hP 0 rfl rfl 4 (by decide) (hts (.fieldLink RX8 20 "UnseenClockModel" "tape" "[B") (List.mem_of_getElem? (i := 3) rfl)) (fun _ h9 => h9) rfl dX8_feed_63 ?_
  refine lv_aload_n hx hb dX8_feed_66 rfl (lv_at hl 1 rfl) ?_
  refine va_get (ci := 8) (v := .int 0) (C := RX8) (T := TX8) (N := 41) hx hb hts in_m_M_feed_X8 hown hK hP 0 rfl rfl 5 (by decide) (hts (.fieldLink RX8 114 "UnseenClockModel" "taped" "I") (List.mem_of_getElem? (i := 1) rfl)) (fun _ h9 => h9) rfl dX8_feed_67 ?_
  refine lv_iload hx hb dX8_feed_70 (lv_at hl 0 rfl) ?_
  refine lv_iadd hx hb dX8_feed_72 ?_
  refine lv_toc (y := 10) (by decide) ?_
  refine lv_aload_n hx hb dX8_feed_73 rfl (lv_at hl 1 rfl) ?_
  refine va_get (ci := 8) (v := .ref (u 4)) (C := RX8) (T := TX8) (N := 41) hx hb hts in_m_M_feed_X8 hown hK hP 0 rfl rfl 6 (by decide) (hts (.fieldLink RX8 24 "UnseenClockModel" "five" "[I") (List.mem_of_getElem? (i := 2) rfl)) (fun _ h9 => h9) rfl dX8_feed_74 ?_
  refine lv_iload hx hb dX8_feed_77 (lv_at hl 0 rfl) ?_
  refine lv_iconst (v := 4) hx hb dX8_feed_79 (by decide) ?_
  refine lv_idiv hx hb dX8_feed_80 (by decide) ?_
  refine lv_toc (y := 2) (by decide) ?_
  refine va_iald hx hb hK hP 2 0 rfl rfl (by unfold vp_in; decide) dX8_feed_81 ?_
  refine lv_toc (y := a3) rfl ?_
  refine lv_bipush (v := 24) hx hb dX8_feed_82 (by decide) ?_
  refine lv_bipush (v := 8) hx hb dX8_feed_84 (by decide) ?_
  refine lv_iload hx hb dX8_feed_86 (lv_at hl 0 rfl) ?_
  refine lv_iconst (v := 4) hx hb dX8_feed_88 (by decide) ?_
  refine lv_irem hx hb dX8_feed_89 (by decide) ?_
  refine lv_toc (y := 2) (by decide) ?_
  refine lv_imul hx hb dX8_feed_90 ?_
  refine lv_toc (y := 16) (by decide) ?_
  refine lv_isub hx hb dX8_feed_91 ?_
  refine lv_toc (y := 8) (by decide) ?_
  refine lv_ishr hx hb dX8_feed_92 ?_
  refine lv_topi (fun x_33 ex_33 => ?_)
  obtain ⟨x_34, ex_34⟩ : ∃ y : Int32, (Int32.toInt8 x_33).toInt32 = y := ⟨_, rfl⟩
  refine lv_i2b (v := x_34) hx hb dX8_feed_93 ex_34 ?_
  refine va_bast hx hb hK hP hD hS 1 1 rfl rfl (by unfold vp_in; decide) dX8_feed_94 (fun H locs hP hD hS => ?_)
  have hP : va_P D vwCl [(h0, .inr (8, [.int 0, .ref (u 0), .ref (u 1), .ref (u 2), .ref (u 3), .int 0, .ref (u 4), .int 0, .int 0, .int 0, .int 0, .int 0, .int 0, .int (-1), .ref (u 5), .ref (u 9), .ref (u 10), .ref (u 11), .ref (u 12), .ref (u 13), .ref (u 14), .ref (u 15), .int 0, .ref (u 16), .int 0, .ref (u 17), .ref (u 18), .ref (u 19), .int 0, .long 0, .ref (u 20), .ref (u 21), .ref (u 22), .ref (u 23), .int 0, .ref (u 24), .ref (u 25), .ref (u 6), .ref (u 7), .ref (u 8), .ref (u 26)])), (u 3, .inl (E 1, 2400, .inl (upd (upd (upd (upd (upd (upd (upd (upd (upd (upd (upd (fun _ => 0) 0 (vp_nar .byte x_4)) 1 (vp_nar .byte x_7)) 2 (vp_nar .byte x_10)) 3 (vp_nar .byte x_13)) 4 (vp_nar .byte x_16)) 5 (vp_nar .byte x_19)) 6 (vp_nar .byte x_22)) 7 (vp_nar .byte x_25)) 8 (vp_nar .byte x_28)) 9 (vp_nar .byte x_31)) 10 (vp_nar .byte x_34)))), (u 4, .inl (E 0, 5, .inl (upd (upd (upd (upd (upd (fun _ => 0) 0 a1) 1 a2) 2 a3) 3 a4) 4 a5)))] H := hP
  have hD : va_D A [(h0, .inr (8, [.int 0, .ref (u 0), .ref (u 1), .ref (u 2), .ref (u 3), .int 0, .ref (u 4), .int 0, .int 0, .int 0, .int 0, .int 0, .int 0, .int (-1), .ref (u 5), .ref (u 9), .ref (u 10), .ref (u 11), .ref (u 12), .ref (u 13), .ref (u 14), .ref (u 15), .int 0, .ref (u 16), .int 0, .ref (u 17), .ref (u 18), .ref (u 19), .int 0, .long 0, .ref (u 20), .ref (u 21), .ref (u 22), .ref (u 23), .int 0, .ref (u 24), .ref (u 25), .ref (u 6), .ref (u 7), .ref (u 8), .ref (u 26)])), (u 3, .inl (E 1, 2400, .inl (upd (upd (upd (upd (upd (upd (upd (upd (upd (upd (upd (fun _ => 0) 0 (vp_nar .byte x_4)) 1 (vp_nar .byte x_7)) 2 (vp_nar .byte x_10)) 3 (vp_nar .byte x_13)) 4 (vp_nar .byte x_16)) 5 (vp_nar .byte x_19)) 6 (vp_nar .byte x_22)) 7 (vp_nar .byte x_25)) 8 (vp_nar .byte x_28)) 9 (vp_nar .byte x_31)) 10 (vp_nar .byte x_34)))), (u 4, .inl (E 0, 5, .inl (upd (upd (upd (upd (upd (fun _ => 0) 0 a1) 1 a2) 2 a3) 3 a4) 4 a5)))] := hD
  refine lv_iinc (v := 11) (lv' := [(6, .int 11), (0, .ref h0), (1, .int a1), (2, .int a2), (3, .int a3), (4, .int a4), (5, .int a5)]) hx hb dX8_feed_95 hl (k := 0) rfl (by decide) (by decide) rfl (fun ls hl => ?_)
  refine lv_goto (tgt := 55) hx hb dX8_feed_98 (by decide) ?_
  refine lv_iload hx hb dX8_feed_55 (lv_at hl 0 rfl) ?_
  refine lv_bipush (v := 20) hx hb dX8_feed_57 (by decide) ?_
  refine lv_icmp_ge (tgt := 101) hx hb dX8_feed_59 (by decide) (fun h9 => absurd h9 (by decide)) (fun _ => ?_)
  refine lv_aload_n hx hb dX8_feed_62 rfl (lv_at hl 1 rfl) ?_
  refine va_get (ci := 8) (v := .ref (u 3)) (C := RX8) (T := TX8) (N := 41) hx hb hts in_m_M_feed_X8 hown hK hP 0 rfl rfl 4 (by decide) (hts (.fieldLink RX8 20 "UnseenClockModel" "tape" "[B") (List.mem_of_getElem? (i := 3) rfl)) (fun _ h9 => h9) rfl dX8_feed_63 ?_
  refine lv_aload_n hx hb dX8_feed_66 rfl (lv_at hl 1 rfl) ?_
  refine va_get (ci := 8) (v := .int 0) (C := RX8) (T := TX8) (N := 41) hx hb hts in_m_M_feed_X8 hown hK hP 0 rfl rfl 5 (by decide) (hts (.fieldLink RX8 114 "UnseenClockModel" "taped" "I") (List.mem_of_getElem? (i := 1) rfl)) (fun _ h9 => h9) rfl dX8_feed_67 ?_
  refine lv_iload hx hb dX8_feed_70 (lv_at hl 0 rfl) ?_
  refine lv_iadd hx hb dX8_feed_72 ?_
  refine lv_toc (y := 11) (by decide) ?_
  refine lv_aload_n hx hb dX8_feed_73 rfl (lv_at hl 1 rfl) ?_
  refine va_get (ci := 8) (v := .ref (u 4)) (C := RX8) (T := TX8) (N := 41) hx hb hts in_m_M_feed_X8 hown hK hP 0 rfl rfl 6 (by decide) (hts (.fieldLink RX8 24 "UnseenClockModel" "five" "[I") (List.mem_of_getElem? (i := 2) rfl)) (fun _ h9 => h9) rfl dX8_feed_74 ?_
  refine lv_iload hx hb dX8_feed_77 (lv_at hl 0 rfl) ?_
  refine lv_iconst (v := 4) hx hb dX8_feed_79 (by decide) ?_
  refine lv_idiv hx hb dX8_feed_80 (by decide) ?_
  refine lv_toc (y := 2) (by decide) ?_
  refine va_iald hx hb hK hP 2 0 rfl rfl (by unfold vp_in; decide) dX8_feed_81 ?_
  refine lv_toc (y := a3) rfl ?_
  refine lv_bipush (v := 24) hx hb dX8_feed_82 (by decide) ?_
  refine lv_bipush (v := 8) hx hb dX8_feed_84 (by decide) ?_
  refine lv_iload hx hb dX8_feed_86 (lv_at hl 0 rfl) ?_
  refine lv_iconst (v := 4) hx hb dX8_feed_88 (by decide) ?_
  refine lv_irem hx hb dX8_feed_89 (by decide) ?_
  refine lv_toc (y := 3) (by decide) ?_
  refine lv_imul hx hb dX8_feed_90 ?_
  refine lv_toc (y := 24) (by decide) ?_
  refine lv_isub hx hb dX8_feed_91 ?_
  refine lv_toc (y := 0) (by decide) ?_
  refine lv_ishr hx hb dX8_feed_92 ?_
  refine lv_topi (fun x_36 ex_36 => ?_)
  obtain ⟨x_37, ex_37⟩ : ∃ y : Int32, (Int32.toInt8 x_36).toInt32 = y := ⟨_, rfl⟩
  refine lv_i2b (v := x_37) hx hb dX8_feed_93 ex_37 ?_
  refine va_bast hx hb hK hP hD hS 1 1 rfl rfl (by unfold vp_in; decide) dX8_feed_94 (fun H locs hP hD hS => ?_)
  have hP : va_P D vwCl [(h0, .inr (8, [.int 0, .ref (u 0), .ref (u 1), .ref (u 2), .ref (u 3), .int 0, .ref (u 4), .int 0, .int 0, .int 0, .int 0, .int 0, .int 0, .int (-1), .ref (u 5), .ref (u 9), .ref (u 10), .ref (u 11), .ref (u 12), .ref (u 13), .ref (u 14), .ref (u 15), .int 0, .ref (u 16), .int 0, .ref (u 17), .ref (u 18), .ref (u 19), .int 0, .long 0, .ref (u 20), .ref (u 21), .ref (u 22), .ref (u 23), .int 0, .ref (u 24), .ref (u 25), .ref (u 6), .ref (u 7), .ref (u 8), .ref (u 26)])), (u 3, .inl (E 1, 2400, .inl (upd (upd (upd (upd (upd (upd (upd (upd (upd (upd (upd (upd (fun _ => 0) 0 (vp_nar .byte x_4)) 1 (vp_nar .byte x_7)) 2 (vp_nar .byte x_10)) 3 (vp_nar .byte x_13)) 4 (vp_nar .byte x_16)) 5 (vp_nar .byte x_19)) 6 (vp_nar .byte x_22)) 7 (vp_nar .byte x_25)) 8 (vp_nar .byte x_28)) 9 (vp_nar .byte x_31)) 10 (vp_nar .byte x_34)) 11 (vp_nar .byte x_37)))), (u 4, .inl (E 0, 5, .inl (upd (upd (upd (upd (upd (fun _ => 0) 0 a1) 1 a2) 2 a3) 3 a4) 4 a5)))] H := hP
  have hD : va_D A [(h0, .inr (8, [.int 0, .ref (u 0), .ref (u 1), .ref (u 2), .ref (u 3), .int 0, .ref (u 4), .int 0, .int 0, .int 0, .int 0, .int 0, .int 0, .int (-1), .ref (u 5), .ref (u 9), .ref (u 10), .ref (u 11), .ref (u 12), .ref (u 13), .ref (u 14), .ref (u 15), .int 0, .ref (u 16), .int 0, .ref (u 17), .ref (u 18), .ref (u 19), .int 0, .long 0, .ref (u 20), .ref (u 21), .ref (u 22), .ref (u 23), .int 0, .ref (u 24), .ref (u 25), .ref (u 6), .ref (u 7), .ref (u 8), .ref (u 26)])), (u 3, .inl (E 1, 2400, .inl (upd (upd (upd (upd (upd (upd (upd (upd (upd (upd (upd (upd (fun _ => 0) 0 (vp_nar .byte x_4)) 1 (vp_nar .byte x_7)) 2 (vp_nar .byte x_10)) 3 (vp_nar .byte x_13)) 4 (vp_nar .byte x_16)) 5 (vp_nar .byte x_19)) 6 (vp_nar .byte x_22)) 7 (vp_nar .byte x_25)) 8 (vp_nar .byte x_28)) 9 (vp_nar .byte x_31)) 10 (vp_nar .byte x_34)) 11 (vp_nar .byte x_37)))), (u 4, .inl (E 0, 5, .inl (upd (upd (upd (upd (upd (fun _ => 0) 0 a1) 1 a2) 2 a3) 3 a4) 4 a5)))] := hD
  refine lv_iinc (v := 12) (lv' := [(6, .int 12), (0, .ref h0), (1, .int a1), (2, .int a2), (3, .int a3), (4, .int a4), (5, .int a5)]) hx hb dX8_feed_95 hl (k := 0) rfl (by decide) (by decide) rfl (fun ls hl => ?_)
  refine lv_goto (tgt := 55) hx hb dX8_feed_98 (by decide) ?_
  refine lv_iload hx hb dX8_feed_55 (lv_at hl 0 rfl) ?_
  refine lv_bipush (v := 20) hx hb dX8_feed_57 (by decide) ?_
  refine lv_icmp_ge (tgt := 101) hx hb dX8_feed_59 (by decide) (fun h9 => absurd h9 (by decide)) (fun _ => ?_)
  refine lv_aload_n hx hb dX8_feed_62 rfl (lv_at hl 1 rfl) ?_
  refine va_get (ci := 8) (v := .ref (u 3)) (C := RX8) (T := TX8) (N := 41) hx hb hts in_m_M_feed_X8 hown hK hP 0 rfl rfl 4 (by decide) (hts (.fieldLink RX8 20 "UnseenClockModel" "tape" "[B") (List.mem_of_getElem? (i := 3) rfl)) (fun _ h9 => h9) rfl dX8_feed_63 ?_
  refine lv_aload_n hx hb dX8_feed_66 rfl (lv_at hl 1 rfl) ?_
  refine va_get (ci := 8) (v := .int 0) (C := RX8) (T := TX8) (N := 41) hx hb hts in_m_M_feed_X8 hown hK hP 0 rfl rfl 5 (by decide) (hts (.fieldLink RX8 114 "UnseenClockModel" "taped" "I") (List.mem_of_getElem? (i := 1) rfl)) (fun _ h9 => h9) rfl dX8_feed_67 ?_
  refine lv_iload hx hb dX8_feed_70 (lv_at hl 0 rfl) ?_
  refine lv_iadd hx hb dX8_feed_72 ?_
  refine lv_toc (y := 12) (by decide) ?_
  refine lv_aload_n hx hb dX8_feed_73 rfl (lv_at hl 1 rfl) ?_
  refine va_get (ci := 8) (v := .ref (u 4)) (C := RX8) (T := TX8) (N := 41) hx hb hts in_m_M_feed_X8 hown hK hP 0 rfl rfl 6 (by decide) (hts (.fieldLink RX8 24 "UnseenClockModel" "five" "[I") (List.mem_of_getElem? (i := 2) rfl)) (fun _ h9 => h9) rfl dX8_feed_74 ?_
  refine lv_iload hx hb dX8_feed_77 (lv_at hl 0 rfl) ?_
  refine lv_iconst (v := 4) hx hb dX8_feed_79 (by decide) ?_
  refine lv_idiv hx hb dX8_feed_80 (by decide) ?_
  refine lv_toc (y := 3) (by decide) ?_
  refine va_iald hx hb hK hP 2 0 rfl rfl (by unfold vp_in; decide) dX8_feed_81 ?_
  refine lv_toc (y := a4) rfl ?_
  refine lv_bipush (v := 24) hx hb dX8_feed_82 (by decide) ?_
  refine lv_bipush (v := 8) hx hb dX8_feed_84 (by decide) ?_
  refine lv_iload hx hb dX8_feed_86 (lv_at hl 0 rfl) ?_
  refine lv_iconst (v := 4) hx hb dX8_feed_88 (by decide) ?_
  refine lv_irem hx hb dX8_feed_89 (by decide) ?_
  refine lv_toc (y := 0) (by decide) ?_
  refine lv_imul hx hb dX8_feed_90 ?_
  refine lv_toc (y := 0) (by decide) ?_
  refine lv_isub hx hb dX8_feed_91 ?_
  refine lv_toc (y := 24) (by decide) ?_
  refine lv_ishr hx hb dX8_feed_92 ?_
  refine lv_topi (fun x_39 ex_39 => ?_)
  obtain ⟨x_40, ex_40⟩ : ∃ y : Int32, (Int32.toInt8 x_39).toInt32 = y := ⟨_, rfl⟩
  refine lv_i2b (v := x_40) hx hb dX8_feed_93 ex_40 ?_
  refine va_bast hx hb hK hP hD hS 1 1 rfl rfl (by unfold vp_in; decide) dX8_feed_94 (fun H locs hP hD hS => ?_)
  have hP : va_P D vwCl [(h0, .inr (8, [.int 0, .ref (u 0), .ref (u 1), .ref (u 2), .ref (u 3), .int 0, .ref (u 4), .int 0, .int 0, .int 0, .int 0, .int 0, .int 0, .int (-1), .ref (u 5), .ref (u 9), .ref (u 10), .ref (u 11), .ref (u 12), .ref (u 13), .ref (u 14), .ref (u 15), .int 0, .ref (u 16), .int 0, .ref (u 17), .ref (u 18), .ref (u 19), .int 0, .long 0, .ref (u 20), .ref (u 21), .ref (u 22), .ref (u 23), .int 0, .ref (u 24), .ref (u 25), .ref (u 6), .ref (u 7), .ref (u 8), .ref (u 26)])), (u 3, .inl (E 1, 2400, .inl (upd (upd (upd (upd (upd (upd (upd (upd (upd (upd (upd (upd (upd (fun _ => 0) 0 (vp_nar .byte x_4)) 1 (vp_nar .byte x_7)) 2 (vp_nar .byte x_10)) 3 (vp_nar .byte x_13)) 4 (vp_nar .byte x_16)) 5 (vp_nar .byte x_19)) 6 (vp_nar .byte x_22)) 7 (vp_nar .byte x_25)) 8 (vp_nar .byte x_28)) 9 (vp_nar .byte x_31)) 10 (vp_nar .byte x_34)) 11 (vp_nar .byte x_37)) 12 (vp_nar .byte x_40)))), (u 4, .inl (E 0, 5, .inl (upd (upd (upd (upd (upd (fun _ => 0) 0 a1) 1 a2) 2 a3) 3 a4) 4 a5)))] H := hP
  have hD : va_D A [(h0, .inr (8, [.int 0, .ref (u 0), .ref (u 1), .ref (u 2), .ref (u 3), .int 0, .ref (u 4), .int 0, .int 0, .int 0, .int 0, .int 0, .int 0, .int (-1), .ref (u 5), .ref (u 9), .ref (u 10), .ref (u 11), .ref (u 12), .ref (u 13), .ref (u 14), .ref (u 15), .int 0, .ref (u 16), .int 0, .ref (u 17), .ref (u 18), .ref (u 19), .int 0, .long 0, .ref (u 20), .ref (u 21), .ref (u 22), .ref (u 23), .int 0, .ref (u 24), .ref (u 25), .ref (u 6), .ref (u 7), .ref (u 8), .ref (u 26)])), (u 3, .inl (E 1, 2400, .inl (upd (upd (upd (upd (upd (upd (upd (upd (upd (upd (upd (upd (upd (fun _ => 0) 0 (vp_nar .byte x_4)) 1 (vp_nar .byte x_7)) 2 (vp_nar .byte x_10)) 3 (vp_nar .byte x_13)) 4 (vp_nar .byte x_16)) 5 (vp_nar .byte x_19)) 6 (vp_nar .byte x_22)) 7 (vp_nar .byte x_25)) 8 (vp_nar .byte x_28)) 9 (vp_nar .byte x_31)) 10 (vp_nar .byte x_34)) 11 (vp_nar .byte x_37)) 12 (vp_nar .byte x_40)))), (u 4, .inl (E 0, 5, .inl (upd (upd (upd (upd (upd (fun _ => 0) 0 a1) 1 a2) 2 a3) 3 a4) 4 a5)))] := hD
  refine lv_iinc (v := 13) (lv' := [(6, .int 13), (0, .ref h0), (1, .int a1), (2, .int a2), (3, .int a3), (4, .int a4), (5, .int a5)]) hx hb dX8_feed_95 hl (k := 0) rfl (by decide) (by decide) rfl (fun ls hl => ?_)
  refine lv_goto (tgt := 55) hx hb dX8_feed_98 (by decide) ?_
  refine lv_iload hx hb dX8_feed_55 (lv_at hl 0 rfl) ?_
  refine lv_bipush (v := 20) hx hb dX8_feed_57 (by decide) ?_
  refine lv_icmp_ge (tgt := 101) hx hb dX8_feed_59 (by decide) (fun h9 => absurd h9 (by decide)) (fun _ => ?_)
  refine lv_aload_n hx hb dX8_feed_62 rfl (lv_at hl 1 rfl) ?_
  refine va_get (ci := 8) (v := .ref (u 3)) (C := RX8) (T := TX8) (N := 41) hx hb hts in_m_M_feed_X8 hown hK hP 0 rfl rfl 4 (by decide) (hts (.fieldLink RX8 20 "UnseenClockModel" "tape" "[B") (List.mem_of_getElem? (i := 3) rfl)) (fun _ h9 => h9) rfl dX8_feed_63 ?_
  refine lv_aload_n hx hb dX8_feed_66 rfl (lv_at hl 1 rfl) ?_
  refine va_get (ci := 8) (v := .int 0) (C := RX8) (T := TX8) (N := 41) hx hb hts in_m_M_feed_X8 hown hK hP 0 rfl rfl 5 (by decide) (hts (.fieldLink RX8 114 "UnseenClockModel" "taped" "I") (List.mem_of_getElem? (i := 1) rfl)) (fun _ h9 => h9) rfl dX8_feed_67 ?_
  refine lv_iload hx hb dX8_feed_70 (lv_at hl 0 rfl) ?_
  refine lv_iadd hx hb dX8_feed_72 ?_
  refine lv_toc (y := 13) (by decide) ?_
  refine lv_aload_n hx hb dX8_feed_73 rfl (lv_at hl 1 rfl) ?_
  refine va_get (ci := 8) (v := .ref (u 4)) (C := RX8) (T := TX8) (N := 41) hx hb hts in_m_M_feed_X8 hown hK hP 0 rfl rfl 6 (by decide) (hts (.fieldLink RX8 24 "UnseenClockModel" "five" "[I") (List.mem_of_getElem? (i := 2) rfl)) (fun _ h9 => h9) rfl dX8_feed_74 ?_
  refine lv_iload hx hb dX8_feed_77 (lv_at hl 0 rfl) ?_
  refine lv_iconst (v := 4) hx hb dX8_feed_79 (by decide) ?_
  refine lv_idiv hx hb dX8_feed_80 (by decide) ?_
  refine lv_toc (y := 3) (by decide) ?_
  refine va_iald hx hb hK hP 2 0 rfl rfl (by unfold vp_in; decide) dX8_feed_81 ?_
  refine lv_toc (y := a4) rfl ?_
  refine lv_bipush (v := 24) hx hb dX8_feed_82 (by decide) ?_
  refine lv_bipush (v := 8) hx hb dX8_feed_84 (by decide) ?_
  refine lv_iload hx hb dX8_feed_86 (lv_at hl 0 rfl) ?_
  refine lv_iconst (v := 4) hx hb dX8_feed_88 (by decide) ?_
  refine lv_irem hx hb dX8_feed_89 (by decide) ?_
  refine lv_toc (y := 1) (by decide) ?_
  refine lv_imul hx hb dX8_feed_90 ?_
  refine lv_toc (y := 8) (by decide) ?_
  refine lv_isub hx hb dX8_feed_91 ?_
  refine lv_toc (y := 16) (by decide) ?_
  refine lv_ishr hx hb dX8_feed_92 ?_
  refine lv_topi (fun x_42 ex_42 => ?_)
  obtain ⟨x_43, ex_43⟩ : ∃ y : Int32, (Int32.toInt8 x_42).toInt32 = y := ⟨_, rfl⟩
  refine lv_i2b (v := x_43) hx hb dX8_feed_93 ex_43 ?_
  refine va_bast hx hb hK hP hD hS 1 1 rfl rfl (by unfold vp_in; decide) dX8_feed_94 (fun H locs hP hD hS => ?_)
  have hP : va_P D vwCl [(h0, .inr (8, [.int 0, .ref (u 0), .ref (u 1), .ref (u 2), .ref (u 3), .int 0, .ref (u 4), .int 0, .int 0, .int 0, .int 0, .int 0, .int 0, .int (-1), .ref (u 5), .ref (u 9), .ref (u 10), .ref (u 11), .ref (u 12), .ref (u 13), .ref (u 14), .ref (u 15), .int 0, .ref (u 16), .int 0, .ref (u 17), .ref (u 18), .ref (u 19), .int 0, .long 0, .ref (u 20), .ref (u 21), .ref (u 22), .ref (u 23), .int 0, .ref (u 24), .ref (u 25), .ref (u 6), .ref (u 7), .ref (u 8), .ref (u 26)])), (u 3, .inl (E 1, 2400, .inl (upd (upd (upd (upd (upd (upd (upd (upd (upd (upd (upd (upd (upd (upd (fun _ => 0) 0 (vp_nar .byte x_4)) 1 (vp_nar .byte x_7)) 2 (vp_nar .byte x_10)) 3 (vp_nar .byte x_13)) 4 (vp_nar .byte x_16)) 5 (vp_nar .byte x_19)) 6 (vp_nar .byte x_22)) 7 (vp_nar .byte x_25)) 8 (vp_nar .byte x_28)) 9 (vp_nar .byte x_31)) 10 (vp_nar .byte x_34)) 11 (vp_nar .byte x_37)) 12 (vp_nar .byte x_40)) 13 (vp_nar .byte x_43)))), (u 4, .inl (E 0, 5, .inl (upd (upd (upd (upd (upd (fun _ => 0) 0 a1) 1 a2) 2 a3) 3 a4) 4 a5)))] H := hP
  have hD : va_D A [(h0, .inr (8, [.int 0, .ref (u 0), .ref (u 1), .ref (u 2), .ref (u 3), .int 0, .ref (u 4), .int 0, .int 0, .int 0, .int 0, .int 0, .int 0, .int (-1), .ref (u 5), .ref (u 9), .ref (u 10), .ref (u 11), .ref (u 12), .ref (u 13), .ref (u 14), .ref (u 15), .int 0, .ref (u 16), .int 0, .ref (u 17), .ref (u 18), .ref (u 19), .int 0, .long 0, .ref (u 20), .ref (u 21), .ref (u 22), .ref (u 23), .int 0, .ref (u 24), .ref (u 25), .ref (u 6), .ref (u 7), .ref (u 8), .ref (u 26)])), (u 3, .inl (E 1, 2400, .inl (upd (upd (upd (upd (upd (upd (upd (upd (upd (upd (upd (upd (upd (upd (fun _ => 0) 0 (vp_nar .byte x_4)) 1 (vp_nar .byte x_7)) 2 (vp_nar .byte x_10)) 3 (vp_nar .byte x_13)) 4 (vp_nar .byte x_16)) 5 (vp_nar .byte x_19)) 6 (vp_nar .byte x_22)) 7 (vp_nar .byte x_25)) 8 (vp_nar .byte x_28)) 9 (vp_nar .byte x_31)) 10 (vp_nar .byte x_34)) 11 (vp_nar .byte x_37)) 12 (vp_nar .byte x_40)) 13 (vp_nar .byte x_43)))), (u 4, .inl (E 0, 5, .inl (upd (upd (upd (upd (upd (fun _ => 0) 0 a1) 1 a2) 2 a3) 3 a4) 4 a5)))] := hD
  refine lv_iinc (v := 14) (lv' := [(6, .int 14), (0, .ref h0), (1, .int a1), (2, .int a2), (3, .int a3), (4, .int a4), (5, .int a5)]) hx hb dX8_feed_95 hl (k := 0) rfl (by decide) (by decide) rfl (fun ls hl => ?_)
  refine lv_goto (tgt := 55) hx hb dX8_feed_98 (by decide) ?_
  refine lv_iload hx hb dX8_feed_55 (lv_at hl 0 rfl) ?_
  refine lv_bipush (v := 20) hx hb dX8_feed_57 (by decide) ?_
  refine lv_icmp_ge (tgt := 101) hx hb dX8_feed_59 (by decide) (fun h9 => absurd h9 (by decide)) (fun _ => ?_)
  refine lv_aload_n hx hb dX8_feed_62 rfl (lv_at hl 1 rfl) ?_
  refine va_get (ci := 8) (v := .ref (u 3)) (C := RX8) (T := TX8) (N := 41) hx hb hts in_m_M_feed_X8 hown hK hP 0 rfl rfl 4 (by decide) (hts (.fieldLink RX8 20 "UnseenClockModel" "tape" "[B") (List.mem_of_getElem? (i := 3) rfl)) (fun _ h9 => h9) rfl dX8_feed_63 ?_
  refine lv_aload_n hx hb dX8_feed_66 rfl (lv_at hl 1 rfl) ?_
  refine va_get (ci := 8) (v := .int 0) (C := RX8) (T := TX8) (N := 41) hx hb hts in_m_M_feed_X8 hown hK hP 0 rfl rfl 5 (by decide) (hts (.fieldLink RX8 114 "UnseenClockModel" "taped" "I") (List.mem_of_getElem? (i := 1) rfl)) (fun _ h9 => h9) rfl dX8_feed_67 ?_
  refine lv_iload hx hb dX8_feed_70 (lv_at hl 0 rfl) ?_
  refine lv_iadd hx hb dX8_feed_72 ?_
  refine lv_toc (y := 14) (by decide) ?_
  refine lv_aload_n hx hb dX8_feed_73 rfl (lv_at hl 1 rfl) ?_
  refine va_get (ci := 8) (v := .ref (u 4)) (C := RX8) (T := TX8) (N := 41) hx hb hts in_m_M_feed_X8 hown hK hP 0 rfl rfl 6 (by decide) (hts (.fieldLink RX8 24 "UnseenClockModel" "five" "[I") (List.mem_of_getElem? (i := 2) rfl)) (fun _ h9 => h9) rfl dX8_feed_74 ?_
  refine lv_iload hx hb dX8_feed_77 (lv_at hl 0 rfl) ?_
  refine lv_iconst (v := 4) hx hb dX8_feed_79 (by decide) ?_
  refine lv_idiv hx hb dX8_feed_80 (by decide) ?_
  refine lv_toc (y := 3) (by decide) ?_
  refine va_iald hx hb hK hP 2 0 rfl rfl (by unfold vp_in; decide) dX8_feed_81 ?_
  refine lv_toc (y := a4) rfl ?_
  refine lv_bipush (v := 24) hx hb dX8_feed_82 (by decide) ?_
  refine lv_bipush (v := 8) hx hb dX8_feed_84 (by decide) ?_
  refine lv_iload hx hb dX8_feed_86 (lv_at hl 0 rfl) ?_
  refine lv_iconst (v := 4) hx hb dX8_feed_88 (by decide) ?_
  refine lv_irem hx hb dX8_feed_89 (by decide) ?_
  refine lv_toc (y := 2) (by decide) ?_
  refine lv_imul hx hb dX8_feed_90 ?_
  refine lv_toc (y := 16) (by decide) ?_
  refine lv_isub hx hb dX8_feed_91 ?_
  refine lv_toc (y := 8) (by decide) ?_
  refine lv_ishr hx hb dX8_feed_92 ?_
  refine lv_topi (fun x_45 ex_45 => ?_)
  obtain ⟨x_46, ex_46⟩ : ∃ y : Int32, (Int32.toInt8 x_45).toInt32 = y := ⟨_, rfl⟩
  refine lv_i2b (v := x_46) hx hb dX8_feed_93 ex_46 ?_
  refine va_bast hx hb hK hP hD hS 1 1 rfl rfl (by unfold vp_in; decide) dX8_feed_94 (fun H locs hP hD hS => ?_)
  have hP : va_P D vwCl [(h0, .inr (8, [.int 0, .ref (u 0), .ref (u 1), .ref (u 2), .ref (u 3), .int 0, .ref (u 4), .int 0, .int 0, .int 0, .int 0, .int 0, .int 0, .int (-1), .ref (u 5), .ref (u 9), .ref (u 10), .ref (u 11), .ref (u 12), .ref (u 13), .ref (u 14), .ref (u 15), .int 0, .ref (u 16), .int 0, .ref (u 17), .ref (u 18), .ref (u 19), .int 0, .long 0, .ref (u 20), .ref (u 21), .ref (u 22), .ref (u 23), .int 0, .ref (u 24), .ref (u 25), .ref (u 6), .ref (u 7), .ref (u 8), .ref (u 26)])), (u 3, .inl (E 1, 2400, .inl (upd (upd (upd (upd (upd (upd (upd (upd (upd (upd (upd (upd (upd (upd (upd (fun _ => 0) 0 (vp_nar .byte x_4)) 1 (vp_nar .byte x_7)) 2 (vp_nar .byte x_10)) 3 (vp_nar .byte x_13)) 4 (vp_nar .byte x_16)) 5 (vp_nar .byte x_19)) 6 (vp_nar .byte x_22)) 7 (vp_nar .byte x_25)) 8 (vp_nar .byte x_28)) 9 (vp_nar .byte x_31)) 10 (vp_nar .byte x_34)) 11 (vp_nar .byte x_37)) 12 (vp_nar .byte x_40)) 13 (vp_nar .byte x_43)) 14 (vp_nar .byte x_46)))), (u 4, .inl (E 0, 5, .inl (upd (upd (upd (upd (upd (fun _ => 0) 0 a1) 1 a2) 2 a3) 3 a4) 4 a5)))] H := hP
  have hD : va_D A [(h0, .inr (8, [.int 0, .ref (u 0), .ref (u 1), .ref (u 2), .ref (u 3), .int 0, .ref (u 4), .int 0, .int 0, .int 0, .int 0, .int 0, .int 0, .int (-1), .ref (u 5), .ref (u 9), .ref (u 10), .ref (u 11), .ref (u 12), .ref (u 13), .ref (u 14), .ref (u 15), .int 0, .ref (u 16), .int 0, .ref (u 17), .ref (u 18), .ref (u 19), .int 0, .long 0, .ref (u 20), .ref (u 21), .ref (u 22), .ref (u 23), .int 0, .ref (u 24), .ref (u 25), .ref (u 6), .ref (u 7), .ref (u 8), .ref (u 26)])), (u 3, .inl (E 1, 2400, .inl (upd (upd (upd (upd (upd (upd (upd (upd (upd (upd (upd (upd (upd (upd (upd (fun _ => 0) 0 (vp_nar .byte x_4)) 1 (vp_nar .byte x_7)) 2 (vp_nar .byte x_10)) 3 (vp_nar .byte x_13)) 4 (vp_nar .byte x_16)) 5 (vp_nar .byte x_19)) 6 (vp_nar .byte x_22)) 7 (vp_nar .byte x_25)) 8 (vp_nar .byte x_28)) 9 (vp_nar .byte x_31)) 10 (vp_nar .byte x_34)) 11 (vp_nar .byte x_37)) 12 (vp_nar .byte x_40)) 13 (vp_nar .byte x_43)) 14 (vp_nar .byte x_46)))), (u 4, .inl (E 0, 5, .inl (upd (upd (upd (upd (upd (fun _ => 0) 0 a1) 1 a2) 2 a3) 3 a4) 4 a5)))] := hD
  refine lv_iinc (v := 15) (lv' := [(6, .int 15), (0, .ref h0), (1, .int a1), (2, .int a2), (3, .int a3), (4, .int a4), (5, .int a5)]) hx hb dX8_feed_95 hl (k := 0) rfl (by decide) (by decide) rfl (fun ls hl => ?_)
  refine lv_goto (tgt := 55) hx hb dX8_feed_98 (by decide) ?_
  refine lv_iload hx hb dX8_feed_55 (lv_at hl 0 rfl) ?_
  refine lv_bipush (v := 20) hx hb dX8_feed_57 (by decide) ?_
  refine lv_icmp_ge (tgt := 101) hx hb dX8_feed_59 (by decide) (fun h9 => absurd h9 (by decide)) (fun _ => ?_)
  refine lv_aload_n hx hb dX8_feed_62 rfl (lv_at hl 1 rfl) ?_
  refine va_get (ci := 8) (v := .ref (u 3)) (C := RX8) (T := TX8) (N := 41) hx hb hts in_m_M_feed_X8 hown hK hP 0 rfl rfl 4 (by decide) (hts (.fieldLink RX8 20 "UnseenClockModel" "tape" "[B") (List.mem_of_getElem? (i := 3) rfl)) (fun _ h9 => h9) rfl dX8_feed_63 ?_
  refine lv_aload_n hx hb dX8_feed_66 rfl (lv_at hl 1 rfl) ?_
  refine va_get (ci := 8) (v := .int 0) (C := RX8) (T := TX8) (N := 41) hx hb hts in_m_M_feed_X8 hown hK hP 0 rfl rfl 5 (by decide) (hts (.fieldLink RX8 114 "UnseenClockModel" "taped" "I") (List.mem_of_getElem? (i := 1) rfl)) (fun _ h9 => h9) rfl dX8_feed_67 ?_
  refine lv_iload hx hb dX8_feed_70 (lv_at hl 0 rfl) ?_
  refine lv_iadd hx hb dX8_feed_72 ?_
  refine lv_toc (y := 15) (by decide) ?_
  refine lv_aload_n hx hb dX8_feed_73 rfl (lv_at hl 1 rfl) ?_
  refine va_get (ci := 8) (v := .ref (u 4)) (C := RX8) (T := TX8) (N := 41) hx hb hts in_m_M_feed_X8 hown hK hP 0 rfl rfl 6 (by decide) (hts (.fieldLink RX8 24 "UnseenClockModel" "five" "[I") (List.mem_of_getElem? (i := 2) rfl)) (fun _ h9 => h9) rfl dX8_feed_74 ?_
  refine lv_iload hx hb dX8_feed_77 (lv_at hl 0 rfl) ?_
  refine lv_iconst (v := 4) hx hb dX8_feed_79 (by decide) ?_
  refine lv_idiv hx hb dX8_feed_80 (by decide) ?_
  refine lv_toc (y := 3) (by decide) ?_
  refine va_iald hx hb hK hP 2 0 rfl rfl (by unfold vp_in; decide) dX8_feed_81 ?_
  refine lv_toc (y := a4) rfl ?_
  refine lv_bipush (v := 24) hx hb dX8_feed_82 (by decide) ?_
  refine lv_bipush (v := 8) hx hb dX8_feed_84 (by decide) ?_
  refine lv_iload hx hb dX8_feed_86 (lv_at hl 0 rfl) ?_
  refine lv_iconst (v := 4) hx hb dX8_feed_88 (by decide) ?_
  refine lv_irem hx hb dX8_feed_89 (by decide) ?_
  refine lv_toc (y := 3) (by decide) ?_
  refine lv_imul hx hb dX8_feed_90 ?_
  refine lv_toc (y := 24) (by decide) ?_
  refine lv_isub hx hb dX8_feed_91 ?_
  refine lv_toc (y := 0) (by decide) ?_
  refine lv_ishr hx hb dX8_feed_92 ?_
  refine lv_topi (fun x_48 ex_48 => ?_)
  obtain ⟨x_49, ex_49⟩ : ∃ y : Int32, (Int32.toInt8 x_48).toInt32 = y := ⟨_, rfl⟩
  refine lv_i2b (v := x_49) hx hb dX8_feed_93 ex_49 ?_
  refine va_bast hx hb hK hP hD hS 1 1 rfl rfl (by unfold vp_in; decide) dX8_feed_94 (fun H locs hP hD hS => ?_)
  have hP : va_P D vwCl [(h0, .inr (8, [.int 0, .ref (u 0), .ref (u 1), .ref (u 2), .ref (u 3), .int 0, .ref (u 4), .int 0, .int 0, .int 0, .int 0, .int 0, .int 0, .int (-1), .ref (u 5), .ref (u 9), .ref (u 10), .ref (u 11), .ref (u 12), .ref (u 13), .ref (u 14), .ref (u 15), .int 0, .ref (u 16), .int 0, .ref (u 17), .ref (u 18), .ref (u 19), .int 0, .long 0, .ref (u 20), .ref (u 21), .ref (u 22), .ref (u 23), .int 0, .ref (u 24), .ref (u 25), .ref (u 6), .ref (u 7), .ref (u 8), .ref (u 26)])), (u 3, .inl (E 1, 2400, .inl (upd (upd (upd (upd (upd (upd (upd (upd (upd (upd (upd (upd (upd (upd (upd (upd (fun _ => 0) 0 (vp_nar .byte x_4)) 1 (vp_nar .byte x_7)) 2 (vp_nar .byte x_10)) 3 (vp_nar .byte x_13)) 4 (vp_nar .byte x_16)) 5 (vp_nar .byte x_19)) 6 (vp_nar .byte x_22)) 7 (vp_nar .byte x_25)) 8 (vp_nar .byte x_28)) 9 (vp_nar .byte x_31)) 10 (vp_nar .byte x_34)) 11 (vp_nar .byte x_37)) 12 (vp_nar .byte x_40)) 13 (vp_nar .byte x_43)) 14 (vp_nar .byte x_46)) 15 (vp_nar .byte x_49)))), (u 4, .inl (E 0, 5, .inl (upd (upd (upd (upd (upd (fun _ => 0) 0 a1) 1 a2) 2 a3) 3 a4) 4 a5)))] H := hP
  have hD : va_D A [(h0, .inr (8, [.int 0, .ref (u 0), .ref (u 1), .ref (u 2), .ref (u 3), .int 0, .ref (u 4), .int 0, .int 0, .int 0, .int 0, .int 0, .int 0, .int (-1), .ref (u 5), .ref (u 9), .ref (u 10), .ref (u 11), .ref (u 12), .ref (u 13), .ref (u 14), .ref (u 15), .int 0, .ref (u 16), .int 0, .ref (u 17), .ref (u 18), .ref (u 19), .int 0, .long 0, .ref (u 20), .ref (u 21), .ref (u 22), .ref (u 23), .int 0, .ref (u 24), .ref (u 25), .ref (u 6), .ref (u 7), .ref (u 8), .ref (u 26)])), (u 3, .inl (E 1, 2400, .inl (upd (upd (upd (upd (upd (upd (upd (upd (upd (upd (upd (upd (upd (upd (upd (upd (fun _ => 0) 0 (vp_nar .byte x_4)) 1 (vp_nar .byte x_7)) 2 (vp_nar .byte x_10)) 3 (vp_nar .byte x_13)) 4 (vp_nar .byte x_16)) 5 (vp_nar .byte x_19)) 6 (vp_nar .byte x_22)) 7 (vp_nar .byte x_25)) 8 (vp_nar .byte x_28)) 9 (vp_nar .byte x_31)) 10 (vp_nar .byte x_34)) 11 (vp_nar .byte x_37)) 12 (vp_nar .byte x_40)) 13 (vp_nar .byte x_43)) 14 (vp_nar .byte x_46)) 15 (vp_nar .byte x_49)))), (u 4, .inl (E 0, 5, .inl (upd (upd (upd (upd (upd (fun _ => 0) 0 a1) 1 a2) 2 a3) 3 a4) 4 a5)))] := hD
  refine lv_iinc (v := 16) (lv' := [(6, .int 16), (0, .ref h0), (1, .int a1), (2, .int a2), (3, .int a3), (4, .int a4), (5, .int a5)]) hx hb dX8_feed_95 hl (k := 0) rfl (by decide) (by decide) rfl (fun ls hl => ?_)
  refine lv_goto (tgt := 55) hx hb dX8_feed_98 (by decide) ?_
  refine lv_iload hx hb dX8_feed_55 (lv_at hl 0 rfl) ?_
  refine lv_bipush (v := 20) hx hb dX8_feed_57 (by decide) ?_
  refine lv_icmp_ge (tgt := 101) hx hb dX8_feed_59 (by decide) (fun h9 => absurd h9 (by decide)) (fun _ => ?_)
  refine lv_aload_n hx hb dX8_feed_62 rfl (lv_at hl 1 rfl) ?_
  refine va_get (ci := 8) (v := .ref (u 3)) (C := RX8) (T := TX8) (N := 41) hx hb hts in_m_M_feed_X8 hown hK hP 0 rfl rfl 4 (by decide) (hts (.fieldLink RX8 20 "UnseenClockModel" "tape" "[B") (List.mem_of_getElem? (i := 3) rfl)) (fun _ h9 => h9) rfl dX8_feed_63 ?_
  refine lv_aload_n hx hb dX8_feed_66 rfl (lv_at hl 1 rfl) ?_
  refine va_get (ci := 8) (v := .int 0) (C := RX8) (T := TX8) (N := 41) hx hb hts in_m_M_feed_X8 hown hK hP 0 rfl rfl 5 (by decide) (hts (.fieldLink RX8 114 "UnseenClockModel" "taped" "I") (List.mem_of_getElem? (i := 1) rfl)) (fun _ h9 => h9) rfl dX8_feed_67 ?_
  refine lv_iload hx hb dX8_feed_70 (lv_at hl 0 rfl) ?_
  refine lv_iadd hx hb dX8_feed_72 ?_
  refine lv_toc (y := 16) (by decide) ?_
  refine lv_aload_n hx hb dX8_feed_73 rfl (lv_at hl 1 rfl) ?_
  refine va_get (ci := 8) (v := .ref (u 4)) (C := RX8) (T := TX8) (N := 41) hx hb hts in_m_M_feed_X8 hown hK hP 0 rfl rfl 6 (by decide) (hts (.fieldLink RX8 24 "UnseenClockModel" "five" "[I") (List.mem_of_getElem? (i := 2) rfl)) (fun _ h9 => h9) rfl dX8_feed_74 ?_
  refine lv_iload hx hb dX8_feed_77 (lv_at hl 0 rfl) ?_
  refine lv_iconst (v := 4) hx hb dX8_feed_79 (by decide) ?_
  refine lv_idiv hx hb dX8_feed_80 (by decide) ?_
  refine lv_toc (y := 4) (by decide) ?_
  refine va_iald hx hb hK hP 2 0 rfl rfl (by unfold vp_in; decide) dX8_feed_81 ?_
  refine lv_toc (y := a5) rfl ?_
  refine lv_bipush (v := 24) hx hb dX8_feed_82 (by decide) ?_
  refine lv_bipush (v := 8) hx hb dX8_feed_84 (by decide) ?_
  refine lv_iload hx hb dX8_feed_86 (lv_at hl 0 rfl) ?_
  refine lv_iconst (v := 4) hx hb dX8_feed_88 (by decide) ?_
  refine lv_irem hx hb dX8_feed_89 (by decide) ?_
  refine lv_toc (y := 0) (by decide) ?_
  refine lv_imul hx hb dX8_feed_90 ?_
  refine lv_toc (y := 0) (by decide) ?_
  refine lv_isub hx hb dX8_feed_91 ?_
  refine lv_toc (y := 24) (by decide) ?_
  refine lv_ishr hx hb dX8_feed_92 ?_
  refine lv_topi (fun x_51 ex_51 => ?_)
  obtain ⟨x_52, ex_52⟩ : ∃ y : Int32, (Int32.toInt8 x_51).toInt32 = y := ⟨_, rfl⟩
  refine lv_i2b (v := x_52) hx hb dX8_feed_93 ex_52 ?_
  refine va_bast hx hb hK hP hD hS 1 1 rfl rfl (by unfold vp_in; decide) dX8_feed_94 (fun H locs hP hD hS => ?_)
  have hP : va_P D vwCl [(h0, .inr (8, [.int 0, .ref (u 0), .ref (u 1), .ref (u 2), .ref (u 3), .int 0, .ref (u 4), .int 0, .int 0, .int 0, .int 0, .int 0, .int 0, .int (-1), .ref (u 5), .ref (u 9), .ref (u 10), .ref (u 11), .ref (u 12), .ref (u 13), .ref (u 14), .ref (u 15), .int 0, .ref (u 16), .int 0, .ref (u 17), .ref (u 18), .ref (u 19), .int 0, .long 0, .ref (u 20), .ref (u 21), .ref (u 22), .ref (u 23), .int 0, .ref (u 24), .ref (u 25), .ref (u 6), .ref (u 7), .ref (u 8), .ref (u 26)])), (u 3, .inl (E 1, 2400, .inl (upd (upd (upd (upd (upd (upd (upd (upd (upd (upd (upd (upd (upd (upd (upd (upd (upd (fun _ => 0) 0 (vp_nar .byte x_4)) 1 (vp_nar .byte x_7)) 2 (vp_nar .byte x_10)) 3 (vp_nar .byte x_13)) 4 (vp_nar .byte x_16)) 5 (vp_nar .byte x_19)) 6 (vp_nar .byte x_22)) 7 (vp_nar .byte x_25)) 8 (vp_nar .byte x_28)) 9 (vp_nar .byte x_31)) 10 (vp_nar .byte x_34)) 11 (vp_nar .byte x_37)) 12 (vp_nar .byte x_40)) 13 (vp_nar .byte x_43)) 14 (vp_nar .byte x_46)) 15 (vp_nar .byte x_49)) 16 (vp_nar .byte x_52)))), (u 4, .inl (E 0, 5, .inl (upd (upd (upd (upd (upd (fun _ => 0) 0 a1) 1 a2) 2 a3) 3 a4) 4 a5)))] H := hP
  have hD : va_D A [(h0, .inr (8, [.int 0, .ref (u 0), .ref (u 1), .ref (u 2), .ref (u 3), .int 0, .ref (u 4), .int 0, .int 0, .int 0, .int 0, .int 0, .int 0, .int (-1), .ref (u 5), .ref (u 9), .ref (u 10), .ref (u 11), .ref (u 12), .ref (u 13), .ref (u 14), .ref (u 15), .int 0, .ref (u 16), .int 0, .ref (u 17), .ref (u 18), .ref (u 19), .int 0, .long 0, .ref (u 20), .ref (u 21), .ref (u 22), .ref (u 23), .int 0, .ref (u 24), .ref (u 25), .ref (u 6), .ref (u 7), .ref (u 8), .ref (u 26)])), (u 3, .inl (E 1, 2400, .inl (upd (upd (upd (upd (upd (upd (upd (upd (upd (upd (upd (upd (upd (upd (upd (upd (upd (fun _ => 0) 0 (vp_nar .byte x_4)) 1 (vp_nar .byte x_7)) 2 (vp_nar .byte x_10)) 3 (vp_nar .byte x_13)) 4 (vp_nar .byte x_16)) 5 (vp_nar .byte x_19)) 6 (vp_nar .byte x_22)) 7 (vp_nar .byte x_25)) 8 (vp_nar .byte x_28)) 9 (vp_nar .byte x_31)) 10 (vp_nar .byte x_34)) 11 (vp_nar .byte x_37)) 12 (vp_nar .byte x_40)) 13 (vp_nar .byte x_43)) 14 (vp_nar .byte x_46)) 15 (vp_nar .byte x_49)) 16 (vp_nar .byte x_52)))), (u 4, .inl (E 0, 5, .inl (upd (upd (upd (upd (upd (fun _ => 0) 0 a1) 1 a2) 2 a3) 3 a4) 4 a5)))] := hD
  refine lv_iinc (v := 17) (lv' := [(6, .int 17), (0, .ref h0), (1, .int a1), (2, .int a2), (3, .int a3), (4, .int a4), (5, .int a5)]) hx hb dX8_feed_95 hl (k := 0) rfl (by decide) (by decide) rfl (fun ls hl => ?_)
  refine lv_goto (tgt := 55) hx hb dX8_feed_98 (by decide) ?_
  refine lv_iload hx hb dX8_feed_55 (lv_at hl 0 rfl) ?_
  refine lv_bipush (v := 20) hx hb dX8_feed_57 (by decide) ?_
  refine lv_icmp_ge (tgt := 101) hx hb dX8_feed_59 (by decide) (fun h9 => absurd h9 (by decide)) (fun _ => ?_)
  refine lv_aload_n hx hb dX8_feed_62 rfl (lv_at hl 1 rfl) ?_
  refine va_get (ci := 8) (v := .ref (u 3)) (C := RX8) (T := TX8) (N := 41) hx hb hts in_m_M_feed_X8 hown hK hP 0 rfl rfl 4 (by decide) (hts (.fieldLink RX8 20 "UnseenClockModel" "tape" "[B") (List.mem_of_getElem? (i := 3) rfl)) (fun _ h9 => h9) rfl dX8_feed_63 ?_
  refine lv_aload_n hx hb dX8_feed_66 rfl (lv_at hl 1 rfl) ?_
  refine va_get (ci := 8) (v := .int 0) (C := RX8) (T := TX8) (N := 41) hx hb hts in_m_M_feed_X8 hown hK hP 0 rfl rfl 5 (by decide) (hts (.fieldLink RX8 114 "UnseenClockModel" "taped" "I") (List.mem_of_getElem? (i := 1) rfl)) (fun _ h9 => h9) rfl dX8_feed_67 ?_
  refine lv_iload hx hb dX8_feed_70 (lv_at hl 0 rfl) ?_
  refine lv_iadd hx hb dX8_feed_72 ?_
  refine lv_toc (y := 17) (by decide) ?_
  refine lv_aload_n hx hb dX8_feed_73 rfl (lv_at hl 1 rfl) ?_
  refine va_get (ci := 8) (v := .ref (u 4)) (C := RX8) (T := TX8) (N := 41) hx hb hts in_m_M_feed_X8 hown hK hP 0 rfl rfl 6 (by decide) (hts (.fieldLink RX8 24 "UnseenClockModel" "five" "[I") (List.mem_of_getElem? (i := 2) rfl)) (fun _ h9 => h9) rfl dX8_feed_74 ?_
  refine lv_iload hx hb dX8_feed_77 (lv_at hl 0 rfl) ?_
  refine lv_iconst (v := 4) hx hb dX8_feed_79 (by decide) ?_
  refine lv_idiv hx hb dX8_feed_80 (by decide) ?_
  refine lv_toc (y := 4) (by decide) ?_
  refine va_iald hx hb hK hP 2 0 rfl rfl (by unfold vp_in; decide) dX8_feed_81 ?_
  refine lv_toc (y := a5) rfl ?_
  refine lv_bipush (v := 24) hx hb dX8_feed_82 (by decide) ?_
  refine lv_bipush (v := 8) hx hb dX8_feed_84 (by decide) ?_
  refine lv_iload hx hb dX8_feed_86 (lv_at hl 0 rfl) ?_
  refine lv_iconst (v := 4) hx hb dX8_feed_88 (by decide) ?_
  refine lv_irem hx hb dX8_feed_89 (by decide) ?_
  refine lv_toc (y := 1) (by decide) ?_
  refine lv_imul hx hb dX8_feed_90 ?_
  refine lv_toc (y := 8) (by decide) ?_
  refine lv_isub hx hb dX8_feed_91 ?_
  refine lv_toc (y := 16) (by decide) ?_
  refine lv_ishr hx hb dX8_feed_92 ?_
  refine lv_topi (fun x_54 ex_54 => ?_)
  obtain ⟨x_55, ex_55⟩ : ∃ y : Int32, (Int32.toInt8 x_54).toInt32 = y := ⟨_, rfl⟩
  refine lv_i2b (v := x_55) hx hb dX8_feed_93 ex_55 ?_
  refine va_bast hx hb hK hP hD hS 1 1 rfl rfl (by unfold vp_in; decide) dX8_feed_94 (fun H locs hP hD hS => ?_)
  have hP : va_P D vwCl [(h0, .inr (8, [.int 0, .ref (u 0), .ref (u 1), .ref (u 2), .ref (u 3), .int 0, .ref (u 4), .int 0, .int 0, .int 0, .int 0, .int 0, .int 0, .int (-1), .ref (u 5), .ref (u 9), .ref (u 10), .ref (u 11), .ref (u 12), .ref (u 13), .ref (u 14), .ref (u 15), .int 0, .ref (u 16), .int 0, .ref (u 17), .ref (u 18), .ref (u 19), .int 0, .long 0, .ref (u 20), .ref (u 21), .ref (u 22), .ref (u 23), .int 0, .ref (u 24), .ref (u 25), .ref (u 6), .ref (u 7), .ref (u 8), .ref (u 26)])), (u 3, .inl (E 1, 2400, .inl (upd (upd (upd (upd (upd (upd (upd (upd (upd (upd (upd (upd (upd (upd (upd (upd (upd (upd (fun _ => 0) 0 (vp_nar .byte x_4)) 1 (vp_nar .byte x_7)) 2 (vp_nar .byte x_10)) 3 (vp_nar .byte x_13)) 4 (vp_nar .byte x_16)) 5 (vp_nar .byte x_19)) 6 (vp_nar .byte x_22)) 7 (vp_nar .byte x_25)) 8 (vp_nar .byte x_28)) 9 (vp_nar .byte x_31)) 10 (vp_nar .byte x_34)) 11 (vp_nar .byte x_37)) 12 (vp_nar .byte x_40)) 13 (vp_nar .byte x_43)) 14 (vp_nar .byte x_46)) 15 (vp_nar .byte x_49)) 16 (vp_nar .byte x_52)) 17 (vp_nar .byte x_55)))), (u 4, .inl (E 0, 5, .inl (upd (upd (upd (upd (upd (fun _ => 0) 0 a1) 1 a2) 2 a3) 3 a4) 4 a5)))] H := hP
  have hD : va_D A [(h0, .inr (8, [.int 0, .ref (u 0), .ref (u 1), .ref (u 2), .ref (u 3), .int 0, .ref (u 4), .int 0, .int 0, .int 0, .int 0, .int 0, .int 0, .int (-1), .ref (u 5), .ref (u 9), .ref (u 10), .ref (u 11), .ref (u 12), .ref (u 13), .ref (u 14), .ref (u 15), .int 0, .ref (u 16), .int 0, .ref (u 17), .ref (u 18), .ref (u 19), .int 0, .long 0, .ref (u 20), .ref (u 21), .ref (u 22), .ref (u 23), .int 0, .ref (u 24), .ref (u 25), .ref (u 6), .ref (u 7), .ref (u 8), .ref (u 26)])), (u 3, .inl (E 1, 2400, .inl (upd (upd (upd (upd (upd (upd (upd (upd (upd (upd (upd (upd (upd (upd (upd (upd (upd (upd (fun _ => 0) 0 (vp_nar .byte x_4)) 1 (vp_nar .byte x_7)) 2 (vp_nar .byte x_10)) 3 (vp_nar .byte x_13)) 4 (vp_nar .byte x_16)) 5 (vp_nar .byte x_19)) 6 (vp_nar .byte x_22)) 7 (vp_nar .byte x_25)) 8 (vp_nar .byte x_28)) 9 (vp_nar .byte x_31)) 10 (vp_nar .byte x_34)) 11 (vp_nar .byte x_37)) 12 (vp_nar .byte x_40)) 13 (vp_nar .byte x_43)) 14 (vp_nar .byte x_46)) 15 (vp_nar .byte x_49)) 16 (vp_nar .byte x_52)) 17 (vp_nar .byte x_55)))), (u 4, .inl (E 0, 5, .inl (upd (upd (upd (upd (upd (fun _ => 0) 0 a1) 1 a2) 2 a3) 3 a4) 4 a5)))] := hD
  refine lv_iinc (v := 18) (lv' := [(6, .int 18), (0, .ref h0), (1, .int a1), (2, .int a2), (3, .int a3), (4, .int a4), (5, .int a5)]) hx hb dX8_feed_95 hl (k := 0) rfl (by decide) (by decide) rfl (fun ls hl => ?_)
  refine lv_goto (tgt := 55) hx hb dX8_feed_98 (by decide) ?_
  refine lv_iload hx hb dX8_feed_55 (lv_at hl 0 rfl) ?_
  refine lv_bipush (v := 20) hx hb dX8_feed_57 (by decide) ?_
  refine lv_icmp_ge (tgt := 101) hx hb dX8_feed_59 (by decide) (fun h9 => absurd h9 (by decide)) (fun _ => ?_)
  refine lv_aload_n hx hb dX8_feed_62 rfl (lv_at hl 1 rfl) ?_
  refine va_get (ci := 8) (v := .ref (u 3)) (C := RX8) (T := TX8) (N := 41) hx hb hts in_m_M_feed_X8 hown hK hP 0 rfl rfl 4 (by decide) (hts (.fieldLink RX8 20 "UnseenClockModel" "tape" "[B") (List.mem_of_getElem? (i := 3) rfl)) (fun _ h9 => h9) rfl dX8_feed_63 ?_
  refine lv_aload_n hx hb dX8_feed_66 rfl (lv_at hl 1 rfl) ?_
  refine va_get (ci := 8) (v := .int 0) (C := RX8) (T := TX8) (N := 41) hx hb hts in_m_M_feed_X8 hown hK hP 0 rfl rfl 5 (by decide) (hts (.fieldLink RX8 114 "UnseenClockModel" "taped" "I") (List.mem_of_getElem? (i := 1) rfl)) (fun _ h9 => h9) rfl dX8_feed_67 ?_
  refine lv_iload hx hb dX8_feed_70 (lv_at hl 0 rfl) ?_
  refine lv_iadd hx hb dX8_feed_72 ?_
  refine lv_toc (y := 18) (by decide) ?_
  refine lv_aload_n hx hb dX8_feed_73 rfl (lv_at hl 1 rfl) ?_
  refine va_get (ci := 8) (v := .ref (u 4)) (C := RX8) (T := TX8) (N := 41) hx hb hts in_m_M_feed_X8 hown hK hP 0 rfl rfl 6 (by decide) (hts (.fieldLink RX8 24 "UnseenClockModel" "five" "[I") (List.mem_of_getElem? (i := 2) rfl)) (fun _ h9 => h9) rfl dX8_feed_74 ?_
  refine lv_iload hx hb dX8_feed_77 (lv_at hl 0 rfl) ?_
  refine lv_iconst (v := 4) hx hb dX8_feed_79 (by decide) ?_
  refine lv_idiv hx hb dX8_feed_80 (by decide) ?_
  refine lv_toc (y := 4) (by decide) ?_
  refine va_iald hx hb hK hP 2 0 rfl rfl (by unfold vp_in; decide) dX8_feed_81 ?_
  refine lv_toc (y := a5) rfl ?_
  refine lv_bipush (v := 24) hx hb dX8_feed_82 (by decide) ?_
  refine lv_bipush (v := 8) hx hb dX8_feed_84 (by decide) ?_
  refine lv_iload hx hb dX8_feed_86 (lv_at hl 0 rfl) ?_
  refine lv_iconst (v := 4) hx hb dX8_feed_88 (by decide) ?_
  refine lv_irem hx hb dX8_feed_89 (by decide) ?_
  refine lv_toc (y := 2) (by decide) ?_
  refine lv_imul hx hb dX8_feed_90 ?_
  refine lv_toc (y := 16) (by decide) ?_
  refine lv_isub hx hb dX8_feed_91 ?_
  refine lv_toc (y := 8) (by decide) ?_
  refine lv_ishr hx hb dX8_feed_92 ?_
  refine lv_topi (fun x_57 ex_57 => ?_)
  obtain ⟨x_58, ex_58⟩ : ∃ y : Int32, (Int32.toInt8 x_57).toInt32 = y := ⟨_, rfl⟩
  refine lv_i2b (v := x_58) hx hb dX8_feed_93 ex_58 ?_
  refine va_bast hx hb hK hP hD hS 1 1 rfl rfl (by unfold vp_in; decide) dX8_feed_94 (fun H locs hP hD hS => ?_)
  have hP : va_P D vwCl [(h0, .inr (8, [.int 0, .ref (u 0), .ref (u 1), .ref (u 2), .ref (u 3), .int 0, .ref (u 4), .int 0, .int 0, .int 0, .int 0, .int 0, .int 0, .int (-1), .ref (u 5), .ref (u 9), .ref (u 10), .ref (u 11), .ref (u 12), .ref (u 13), .ref (u 14), .ref (u 15), .int 0, .ref (u 16), .int 0, .ref (u 17), .ref (u 18), .ref (u 19), .int 0, .long 0, .ref (u 20), .ref (u 21), .ref (u 22), .ref (u 23), .int 0, .ref (u 24), .ref (u 25), .ref (u 6), .ref (u 7), .ref (u 8), .ref (u 26)])), (u 3, .inl (E 1, 2400, .inl (upd (upd (upd (upd (upd (upd (upd (upd (upd (upd (upd (upd (upd (upd (upd (upd (upd (upd (upd (fun _ => 0) 0 (vp_nar .byte x_4)) 1 (vp_nar .byte x_7)) 2 (vp_nar .byte x_10)) 3 (vp_nar .byte x_13)) 4 (vp_nar .byte x_16)) 5 (vp_nar .byte x_19)) 6 (vp_nar .byte x_22)) 7 (vp_nar .byte x_25)) 8 (vp_nar .byte x_28)) 9 (vp_nar .byte x_31)) 10 (vp_nar .byte x_34)) 11 (vp_nar .byte x_37)) 12 (vp_nar .byte x_40)) 13 (vp_nar .byte x_43)) 14 (vp_nar .byte x_46)) 15 (vp_nar .byte x_49)) 16 (vp_nar .byte x_52)) 17 (vp_nar .byte x_55)) 18 (vp_nar .byte x_58)))), (u 4, .inl (E 0, 5, .inl (upd (upd (upd (upd (upd (fun _ => 0) 0 a1) 1 a2) 2 a3) 3 a4) 4 a5)))] H := hP
  have hD : va_D A [(h0, .inr (8, [.int 0, .ref (u 0), .ref (u 1), .ref (u 2), .ref (u 3), .int 0, .ref (u 4), .int 0, .int 0, .int 0, .int 0, .int 0, .int 0, .int (-1), .ref (u 5), .ref (u 9), .ref (u 10), .ref (u 11), .ref (u 12), .ref (u 13), .ref (u 14), .ref (u 15), .int 0, .ref (u 16), .int 0, .ref (u 17), .ref (u 18), .ref (u 19), .int 0, .long 0, .ref (u 20), .ref (u 21), .ref (u 22), .ref (u 23), .int 0, .ref (u 24), .ref (u 25), .ref (u 6), .ref (u 7), .ref (u 8), .ref (u 26)])), (u 3, .inl (E 1, 2400, .inl (upd (upd (upd (upd (upd (upd (upd (upd (upd (upd (upd (upd (upd (upd (upd (upd (upd (upd (upd (fun _ => 0) 0 (vp_nar .byte x_4)) 1 (vp_nar .byte x_7)) 2 (vp_nar .byte x_10)) 3 (vp_nar .byte x_13)) 4 (vp_nar .byte x_16)) 5 (vp_nar .byte x_19)) 6 (vp_nar .byte x_22)) 7 (vp_nar .byte x_25)) 8 (vp_nar .byte x_28)) 9 (vp_nar .byte x_31)) 10 (vp_nar .byte x_34)) 11 (vp_nar .byte x_37)) 12 (vp_nar .byte x_40)) 13 (vp_nar .byte x_43)) 14 (vp_nar .byte x_46)) 15 (vp_nar .byte x_49)) 16 (vp_nar .byte x_52)) 17 (vp_nar .byte x_55)) 18 (vp_nar .byte x_58)))), (u 4, .inl (E 0, 5, .inl (upd (upd (upd (upd (upd (fun _ => 0) 0 a1) 1 a2) 2 a3) 3 a4) 4 a5)))] := hD
  refine lv_iinc (v := 19) (lv' := [(6, .int 19), (0, .ref h0), (1, .int a1), (2, .int a2), (3, .int a3), (4, .int a4), (5, .int a5)]) hx hb dX8_feed_95 hl (k := 0) rfl (by decide) (by decide) rfl (fun ls hl => ?_)
  refine lv_goto (tgt := 55) hx hb dX8_feed_98 (by decide) ?_
  refine lv_iload hx hb dX8_feed_55 (lv_at hl 0 rfl) ?_
  refine lv_bipush (v := 20) hx hb dX8_feed_57 (by decide) ?_
  refine lv_icmp_ge (tgt := 101) hx hb dX8_feed_59 (by decide) (fun h9 => absurd h9 (by decide)) (fun _ => ?_)
  refine lv_aload_n hx hb dX8_feed_62 rfl (lv_at hl 1 rfl) ?_
  refine va_get (ci := 8) (v := .ref (u 3)) (C := RX8) (T := TX8) (N := 41) hx hb hts in_m_M_feed_X8 hown hK hP 0 rfl rfl 4 (by decide) (hts (.fieldLink RX8 20 "UnseenClockModel" "tape" "[B") (List.mem_of_getElem? (i := 3) rfl)) (fun _ h9 => h9) rfl dX8_feed_63 ?_
  refine lv_aload_n hx hb dX8_feed_66 rfl (lv_at hl 1 rfl) ?_
  refine va_get (ci := 8) (v := .int 0) (C := RX8) (T := TX8) (N := 41) hx hb hts in_m_M_feed_X8 hown hK hP 0 rfl rfl 5 (by decide) (hts (.fieldLink RX8 114 "UnseenClockModel" "taped" "I") (List.mem_of_getElem? (i := 1) rfl)) (fun _ h9 => h9) rfl dX8_feed_67 ?_
  refine lv_iload hx hb dX8_feed_70 (lv_at hl 0 rfl) ?_
  refine lv_iadd hx hb dX8_feed_72 ?_
  refine lv_toc (y := 19) (by decide) ?_
  refine lv_aload_n hx hb dX8_feed_73 rfl (lv_at hl 1 rfl) ?_
  refine va_get (ci := 8) (v := .ref (u 4)) (C := RX8) (T := TX8) (N := 41) hx hb hts in_m_M_feed_X8 hown hK hP 0 rfl rfl 6 (by decide) (hts (.fieldLink RX8 24 "UnseenClockModel" "five" "[I") (List.mem_of_getElem? (i := 2) rfl)) (fun _ h9 => h9) rfl dX8_feed_74 ?_
  refine lv_iload hx hb dX8_feed_77 (lv_at hl 0 rfl) ?_
  refine lv_iconst (v := 4) hx hb dX8_feed_79 (by decide) ?_
  refine lv_idiv hx hb dX8_feed_80 (by decide) ?_
  refine lv_toc (y := 4) (by decide) ?_
  refine va_iald hx hb hK hP 2 0 rfl rfl (by unfold vp_in; decide) dX8_feed_81 ?_
  refine lv_toc (y := a5) rfl ?_
  refine lv_bipush (v := 24) hx hb dX8_feed_82 (by decide) ?_
  refine lv_bipush (v := 8) hx hb dX8_feed_84 (by decide) ?_
  refine lv_iload hx hb dX8_feed_86 (lv_at hl 0 rfl) ?_
  refine lv_iconst (v := 4) hx hb dX8_feed_88 (by decide) ?_
  refine lv_irem hx hb dX8_feed_89 (by decide) ?_
  refine lv_toc (y := 3) (by decide) ?_
  refine lv_imul hx hb dX8_feed_90 ?_
  refine lv_toc (y := 24) (by decide) ?_
  refine lv_isub hx hb dX8_feed_91 ?_
  refine lv_toc (y := 0) (by decide) ?_
  refine lv_ishr hx hb dX8_feed_92 ?_
  refine lv_topi (fun x_60 ex_60 => ?_)
  obtain ⟨x_61, ex_61⟩ : ∃ y : Int32, (Int32.toInt8 x_60).toInt32 = y := ⟨_, rfl⟩
  refine lv_i2b (v := x_61) hx hb dX8_feed_93 ex_61 ?_
  refine va_bast hx hb hK hP hD hS 1 1 rfl rfl (by unfold vp_in; decide) dX8_feed_94 (fun H locs hP hD hS => ?_)
  have hP : va_P D vwCl [(h0, .inr (8, [.int 0, .ref (u 0), .ref (u 1), .ref (u 2), .ref (u 3), .int 0, .ref (u 4), .int 0, .int 0, .int 0, .int 0, .int 0, .int 0, .int (-1), .ref (u 5), .ref (u 9), .ref (u 10), .ref (u 11), .ref (u 12), .ref (u 13), .ref (u 14), .ref (u 15), .int 0, .ref (u 16), .int 0, .ref (u 17), .ref (u 18), .ref (u 19), .int 0, .long 0, .ref (u 20), .ref (u 21), .ref (u 22), .ref (u 23), .int 0, .ref (u 24), .ref (u 25), .ref (u 6), .ref (u 7), .ref (u 8), .ref (u 26)])), (u 3, .inl (E 1, 2400, .inl (upd (upd (upd (upd (upd (upd (upd (upd (upd (upd (upd (upd (upd (upd (upd (upd (upd (upd (upd (upd (fun _ => 0) 0 (vp_nar .byte x_4)) 1 (vp_nar .byte x_7)) 2 (vp_nar .byte x_10)) 3 (vp_nar .byte x_13)) 4 (vp_nar .byte x_16)) 5 (vp_nar .byte x_19)) 6 (vp_nar .byte x_22)) 7 (vp_nar .byte x_25)) 8 (vp_nar .byte x_28)) 9 (vp_nar .byte x_31)) 10 (vp_nar .byte x_34)) 11 (vp_nar .byte x_37)) 12 (vp_nar .byte x_40)) 13 (vp_nar .byte x_43)) 14 (vp_nar .byte x_46)) 15 (vp_nar .byte x_49)) 16 (vp_nar .byte x_52)) 17 (vp_nar .byte x_55)) 18 (vp_nar .byte x_58)) 19 (vp_nar .byte x_61)))), (u 4, .inl (E 0, 5, .inl (upd (upd (upd (upd (upd (fun _ => 0) 0 a1) 1 a2) 2 a3) 3 a4) 4 a5)))] H := hP
  have hD : va_D A [(h0, .inr (8, [.int 0, .ref (u 0), .ref (u 1), .ref (u 2), .ref (u 3), .int 0, .ref (u 4), .int 0, .int 0, .int 0, .int 0, .int 0, .int 0, .int (-1), .ref (u 5), .ref (u 9), .ref (u 10), .ref (u 11), .ref (u 12), .ref (u 13), .ref (u 14), .ref (u 15), .int 0, .ref (u 16), .int 0, .ref (u 17), .ref (u 18), .ref (u 19), .int 0, .long 0, .ref (u 20), .ref (u 21), .ref (u 22), .ref (u 23), .int 0, .ref (u 24), .ref (u 25), .ref (u 6), .ref (u 7), .ref (u 8), .ref (u 26)])), (u 3, .inl (E 1, 2400, .inl (upd (upd (upd (upd (upd (upd (upd (upd (upd (upd (upd (upd (upd (upd (upd (upd (upd (upd (upd (upd (fun _ => 0) 0 (vp_nar .byte x_4)) 1 (vp_nar .byte x_7)) 2 (vp_nar .byte x_10)) 3 (vp_nar .byte x_13)) 4 (vp_nar .byte x_16)) 5 (vp_nar .byte x_19)) 6 (vp_nar .byte x_22)) 7 (vp_nar .byte x_25)) 8 (vp_nar .byte x_28)) 9 (vp_nar .byte x_31)) 10 (vp_nar .byte x_34)) 11 (vp_nar .byte x_37)) 12 (vp_nar .byte x_40)) 13 (vp_nar .byte x_43)) 14 (vp_nar .byte x_46)) 15 (vp_nar .byte x_49)) 16 (vp_nar .byte x_52)) 17 (vp_nar .byte x_55)) 18 (vp_nar .byte x_58)) 19 (vp_nar .byte x_61)))), (u 4, .inl (E 0, 5, .inl (upd (upd (upd (upd (upd (fun _ => 0) 0 a1) 1 a2) 2 a3) 3 a4) 4 a5)))] := hD
  refine lv_iinc (v := 20) (lv' := [(6, .int 20), (0, .ref h0), (1, .int a1), (2, .int a2), (3, .int a3), (4, .int a4), (5, .int a5)]) hx hb dX8_feed_95 hl (k := 0) rfl (by decide) (by decide) rfl (fun ls hl => ?_)
  refine lv_goto (tgt := 55) hx hb dX8_feed_98 (by decide) ?_
  refine lv_iload hx hb dX8_feed_55 (lv_at hl 0 rfl) ?_
  refine lv_bipush (v := 20) hx hb dX8_feed_57 (by decide) ?_
  refine lv_icmp_ge (tgt := 101) hx hb dX8_feed_59 (by decide) (fun _ => ?_) (fun h9 => absurd (by decide) h9)
  refine lv_aload_n hx hb dX8_feed_101 rfl (lv_at hl 1 rfl) ?_
  refine lv_dup hx hb dX8_feed_102 rfl ?_
  refine va_get (ci := 8) (v := .int 0) (C := RX8) (T := TX8) (N := 41) hx hb hts in_m_M_feed_X8 hown hK hP 0 rfl rfl 5 (by decide) (hts (.fieldLink RX8 114 "UnseenClockModel" "taped" "I") (List.mem_of_getElem? (i := 1) rfl)) (fun _ h9 => h9) rfl dX8_feed_103 ?_
  refine lv_bipush (v := 20) hx hb dX8_feed_106 (by decide) ?_
  refine lv_iadd hx hb dX8_feed_108 ?_
  refine lv_toc (y := 20) (by decide) ?_
  refine va_put (ci := 8) (v := .int 20) (ty := .int) (C := RX8) (T := TX8) (N := 41) hx hb hts in_m_M_feed_X8 tyX8 tyX8_ok nmX8 hown hK hP hD hS 0 rfl rfl 5 (by decide) (hts (.fieldLink RX8 114 "UnseenClockModel" "taped" "I") (List.mem_of_getElem? (i := 1) rfl)) (fun _ h9 => h9) rfl (by decide +kernel) rfl rfl (Nat.le_of_ble_eq_true rfl) dX8_feed_109 (fun H locs hP hD hS => ?_)
  have hP : va_P D vwCl [(h0, .inr (8, [.int 0, .ref (u 0), .ref (u 1), .ref (u 2), .ref (u 3), .int 20, .ref (u 4), .int 0, .int 0, .int 0, .int 0, .int 0, .int 0, .int (-1), .ref (u 5), .ref (u 9), .ref (u 10), .ref (u 11), .ref (u 12), .ref (u 13), .ref (u 14), .ref (u 15), .int 0, .ref (u 16), .int 0, .ref (u 17), .ref (u 18), .ref (u 19), .int 0, .long 0, .ref (u 20), .ref (u 21), .ref (u 22), .ref (u 23), .int 0, .ref (u 24), .ref (u 25), .ref (u 6), .ref (u 7), .ref (u 8), .ref (u 26)])), (u 3, .inl (E 1, 2400, .inl (upd (upd (upd (upd (upd (upd (upd (upd (upd (upd (upd (upd (upd (upd (upd (upd (upd (upd (upd (upd (fun _ => 0) 0 (vp_nar .byte x_4)) 1 (vp_nar .byte x_7)) 2 (vp_nar .byte x_10)) 3 (vp_nar .byte x_13)) 4 (vp_nar .byte x_16)) 5 (vp_nar .byte x_19)) 6 (vp_nar .byte x_22)) 7 (vp_nar .byte x_25)) 8 (vp_nar .byte x_28)) 9 (vp_nar .byte x_31)) 10 (vp_nar .byte x_34)) 11 (vp_nar .byte x_37)) 12 (vp_nar .byte x_40)) 13 (vp_nar .byte x_43)) 14 (vp_nar .byte x_46)) 15 (vp_nar .byte x_49)) 16 (vp_nar .byte x_52)) 17 (vp_nar .byte x_55)) 18 (vp_nar .byte x_58)) 19 (vp_nar .byte x_61)))), (u 4, .inl (E 0, 5, .inl (upd (upd (upd (upd (upd (fun _ => 0) 0 a1) 1 a2) 2 a3) 3 a4) 4 a5)))] H := hP
  have hD : va_D A [(h0, .inr (8, [.int 0, .ref (u 0), .ref (u 1), .ref (u 2), .ref (u 3), .int 20, .ref (u 4), .int 0, .int 0, .int 0, .int 0, .int 0, .int 0, .int (-1), .ref (u 5), .ref (u 9), .ref (u 10), .ref (u 11), .ref (u 12), .ref (u 13), .ref (u 14), .ref (u 15), .int 0, .ref (u 16), .int 0, .ref (u 17), .ref (u 18), .ref (u 19), .int 0, .long 0, .ref (u 20), .ref (u 21), .ref (u 22), .ref (u 23), .int 0, .ref (u 24), .ref (u 25), .ref (u 6), .ref (u 7), .ref (u 8), .ref (u 26)])), (u 3, .inl (E 1, 2400, .inl (upd (upd (upd (upd (upd (upd (upd (upd (upd (upd (upd (upd (upd (upd (upd (upd (upd (upd (upd (upd (fun _ => 0) 0 (vp_nar .byte x_4)) 1 (vp_nar .byte x_7)) 2 (vp_nar .byte x_10)) 3 (vp_nar .byte x_13)) 4 (vp_nar .byte x_16)) 5 (vp_nar .byte x_19)) 6 (vp_nar .byte x_22)) 7 (vp_nar .byte x_25)) 8 (vp_nar .byte x_28)) 9 (vp_nar .byte x_31)) 10 (vp_nar .byte x_34)) 11 (vp_nar .byte x_37)) 12 (vp_nar .byte x_40)) 13 (vp_nar .byte x_43)) 14 (vp_nar .byte x_46)) 15 (vp_nar .byte x_49)) 16 (vp_nar .byte x_52)) 17 (vp_nar .byte x_55)) 18 (vp_nar .byte x_58)) 19 (vp_nar .byte x_61)))), (u 4, .inl (E 0, 5, .inl (upd (upd (upd (upd (upd (fun _ => 0) 0 a1) 1 a2) 2 a3) 3 a4) 4 a5)))] := hD
  refine lv_aload_n hx hb dX8_feed_112 rfl (lv_at hl 1 rfl) ?_
  refine va_get (ci := 8) (v := .int 20) (C := RX8) (T := TX8) (N := 41) hx hb hts in_m_M_feed_X8 hown hK hP 0 rfl rfl 5 (by decide) (hts (.fieldLink RX8 114 "UnseenClockModel" "taped" "I") (List.mem_of_getElem? (i := 1) rfl)) (fun _ h9 => h9) rfl dX8_feed_113 ?_
  exact e_i (v := 20) hx hb hr rfl (()) rfl p_nil d_nil hS hlocks dX8_feed_116

