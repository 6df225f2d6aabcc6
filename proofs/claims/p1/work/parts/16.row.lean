theorem dX6_begin_0 : decode cX6_begin 0 = .ok (.aload_n 0, 1) := by decide +kernel
theorem dX6_begin_1 : decode cX6_begin 1 = .ok (.iload_n 1, 1) := by decide +kernel
theorem dX6_begin_2 : decode cX6_begin 2 = .ok (.putfield 19, 3) := by decide +kernel
theorem dX6_begin_5 : decode cX6_begin 5 = .ok (.aload_n 0, 1) := by decide +kernel
theorem dX6_begin_6 : decode cX6_begin 6 = .ok (.iload_n 2, 1) := by decide +kernel
theorem dX6_begin_7 : decode cX6_begin 7 = .ok (.putfield 9, 3) := by decide +kernel
theorem dX6_begin_10 : decode cX6_begin 10 = .ok (.aload_n 0, 1) := by decide +kernel
theorem dX6_begin_11 : decode cX6_begin 11 = .ok (.getfield 15, 3) := by decide +kernel
theorem dX6_begin_14 : decode cX6_begin 14 = .ok (.lconst 0, 1) := by decide +kernel
theorem dX6_begin_15 : decode cX6_begin 15 = .ok (.invokestatic 22, 3) := by decide +kernel
theorem dX6_begin_18 : decode cX6_begin 18 = .ok (.return_, 1) := by decide +kernel
theorem dX7_row_0 : decode cX7_row 0 = .ok (.iload_n 1, 1) := by decide +kernel
theorem dX7_row_1 : decode cX7_row 1 = .ok (.invokestatic 281, 3) := by decide +kernel
theorem dX7_row_4 : decode cX7_row 4 = .ok (.ifCond .ne 18, 3) := by decide +kernel
theorem dX7_row_7 : decode cX7_row 7 = .ok (.iload_n 2, 1) := by decide +kernel
theorem dX7_row_8 : decode cX7_row 8 = .ok (.ifCond .lt 14, 3) := by decide +kernel
theorem dX7_row_11 : decode cX7_row 11 = .ok (.iload_n 2, 1) := by decide +kernel
theorem dX7_row_12 : decode cX7_row 12 = .ok (.iconst 3, 1) := by decide +kernel
theorem dX7_row_13 : decode cX7_row 13 = .ok (.if_icmp .gt 9, 3) := by decide +kernel
theorem dX7_row_16 : decode cX7_row 16 = .ok (.iload_n 3, 1) := by decide +kernel
theorem dX7_row_17 : decode cX7_row 17 = .ok (.bipush 60, 2) := by decide +kernel
theorem dX7_row_19 : decode cX7_row 19 = .ok (.if_icmp .le 6, 3) := by decide +kernel
theorem dX7_row_22 : decode cX7_row 22 = .ok (.bipush (-2), 2) := by decide +kernel
theorem dX7_row_24 : decode cX7_row 24 = .ok (.ireturn, 1) := by decide +kernel
theorem dX7_row_25 : decode cX7_row 25 = .ok (.iload_n 3, 1) := by decide +kernel
theorem dX7_row_26 : decode cX7_row 26 = .ok (.ifCond .ge 6, 3) := by decide +kernel
theorem dX7_row_29 : decode cX7_row 29 = .ok (.bipush (-3), 2) := by decide +kernel
theorem dX7_row_31 : decode cX7_row 31 = .ok (.ireturn, 1) := by decide +kernel
theorem dX7_row_32 : decode cX7_row 32 = .ok (.aload_n 0, 1) := by decide +kernel
theorem dX7_row_33 : decode cX7_row 33 = .ok (.getfield 50, 3) := by decide +kernel
theorem dX7_row_36 : decode cX7_row 36 = .ok (.iload_n 1, 1) := by decide +kernel
theorem dX7_row_37 : decode cX7_row 37 = .ok (.aaload, 1) := by decide +kernel
theorem dX7_row_38 : decode cX7_row 38 = .ok (.iload_n 2, 1) := by decide +kernel
theorem dX7_row_39 : decode cX7_row 39 = .ok (.iload_n 3, 1) := by decide +kernel
theorem dX7_row_40 : decode cX7_row 40 = .ok (.invokevirtual 358, 3) := by decide +kernel
theorem dX7_row_43 : decode cX7_row 43 = .ok (.iconst 0, 1) := by decide +kernel
theorem dX7_row_44 : decode cX7_row 44 = .ok (.ireturn, 1) := by decide +kernel
theorem dX8_row_0 : decode cX8_row 0 = .ok (.iload_n 1, 1) := by decide +kernel
theorem dX8_row_1 : decode cX8_row 1 = .ok (.invokestatic 416, 3) := by decide +kernel
theorem dX8_row_4 : decode cX8_row 4 = .ok (.ifCond .eq 21, 3) := by decide +kernel
theorem dX8_row_7 : decode cX8_row 7 = .ok (.iload_n 2, 1) := by decide +kernel
theorem dX8_row_8 : decode cX8_row 8 = .ok (.i2l, 1) := by decide +kernel
theorem dX8_row_9 : decode cX8_row 9 = .ok (.lconst 0, 1) := by decide +kernel
theorem dX8_row_10 : decode cX8_row 10 = .ok (.ldc2_w 482, 3) := by decide +kernel
theorem dX8_row_13 : decode cX8_row 13 = .ok (.invokestatic 104, 3) := by decide +kernel
theorem dX8_row_16 : decode cX8_row 16 = .ok (.ifCond .eq 9, 3) := by decide +kernel
theorem dX8_row_19 : decode cX8_row 19 = .ok (.iload_n 3, 1) := by decide +kernel
theorem dX8_row_20 : decode cX8_row 20 = .ok (.bipush 60, 2) := by decide +kernel
theorem dX8_row_22 : decode cX8_row 22 = .ok (.if_icmp .le 6, 3) := by decide +kernel
theorem dX8_row_25 : decode cX8_row 25 = .ok (.bipush (-2), 2) := by decide +kernel
theorem dX8_row_27 : decode cX8_row 27 = .ok (.ireturn, 1) := by decide +kernel
theorem dX8_row_28 : decode cX8_row 28 = .ok (.iload_n 3, 1) := by decide +kernel
theorem dX8_row_29 : decode cX8_row 29 = .ok (.ifCond .ge 6, 3) := by decide +kernel
theorem dX8_row_32 : decode cX8_row 32 = .ok (.bipush (-3), 2) := by decide +kernel
theorem dX8_row_34 : decode cX8_row 34 = .ok (.ireturn, 1) := by decide +kernel
theorem dX8_row_35 : decode cX8_row 35 = .ok (.aload_n 0, 1) := by decide +kernel
theorem dX8_row_36 : decode cX8_row 36 = .ok (.getfield 86, 3) := by decide +kernel
theorem dX8_row_39 : decode cX8_row 39 = .ok (.iload_n 1, 1) := by decide +kernel
theorem dX8_row_40 : decode cX8_row 40 = .ok (.iload_n 3, 1) := by decide +kernel
theorem dX8_row_41 : decode cX8_row 41 = .ok (.iastore, 1) := by decide +kernel
theorem dX8_row_42 : decode cX8_row 42 = .ok (.aload_n 0, 1) := by decide +kernel
theorem dX8_row_43 : decode cX8_row 43 = .ok (.getfield 89, 3) := by decide +kernel
theorem dX8_row_46 : decode cX8_row 46 = .ok (.iload_n 1, 1) := by decide +kernel
theorem dX8_row_47 : decode cX8_row 47 = .ok (.iload_n 2, 1) := by decide +kernel
theorem dX8_row_48 : decode cX8_row 48 = .ok (.iastore, 1) := by decide +kernel
theorem dX8_row_49 : decode cX8_row 49 = .ok (.iconst 0, 1) := by decide +kernel
theorem dX8_row_50 : decode cX8_row 50 = .ok (.istore 4, 2) := by decide +kernel
theorem dX8_row_52 : decode cX8_row 52 = .ok (.iload 4, 2) := by decide +kernel
theorem dX8_row_54 : decode cX8_row 54 = .ok (.bipush 60, 2) := by decide +kernel
theorem dX8_row_56 : decode cX8_row 56 = .ok (.if_icmp .ge 22, 3) := by decide +kernel
theorem dX8_row_59 : decode cX8_row 59 = .ok (.aload_n 0, 1) := by decide +kernel
theorem dX8_row_60 : decode cX8_row 60 = .ok (.getfield 92, 3) := by decide +kernel
theorem dX8_row_63 : decode cX8_row 63 = .ok (.bipush 60, 2) := by decide +kernel
theorem dX8_row_65 : decode cX8_row 65 = .ok (.iload_n 1, 1) := by decide +kernel
theorem dX8_row_66 : decode cX8_row 66 = .ok (.imul, 1) := by decide +kernel
theorem dX8_row_67 : decode cX8_row 67 = .ok (.iload 4, 2) := by decide +kernel
theorem dX8_row_69 : decode cX8_row 69 = .ok (.iadd, 1) := by decide +kernel
theorem dX8_row_70 : decode cX8_row 70 = .ok (.lconst 0, 1) := by decide +kernel
theorem dX8_row_71 : decode cX8_row 71 = .ok (.lastore, 1) := by decide +kernel
theorem dX8_row_72 : decode cX8_row 72 = .ok (.iinc 4 1, 3) := by decide +kernel
theorem dX8_row_75 : decode cX8_row 75 = .ok (.goto (-23), 3) := by decide +kernel
theorem dX8_row_78 : decode cX8_row 78 = .ok (.iconst 0, 1) := by decide +kernel
theorem dX8_row_79 : decode cX8_row 79 = .ok (.ireturn, 1) := by decide +kernel
theorem dX8_image_0 : decode cX8_image 0 = .ok (.iload_n 1, 1) := by decide +kernel
theorem dX8_image_1 : decode cX8_image 1 = .ok (.i2l, 1) := by decide +kernel
theorem dX8_image_2 : decode cX8_image 2 = .ok (.lconst 0, 1) := by decide +kernel
theorem dX8_image_3 : decode cX8_image 3 = .ok (.ldc2_w 102, 3) := by decide +kernel
theorem dX8_image_6 : decode cX8_image 6 = .ok (.invokestatic 104, 3) := by decide +kernel
theorem dX8_image_9 : decode cX8_image 9 = .ok (.ifCond .ne 6, 3) := by decide +kernel
theorem dX8_image_12 : decode cX8_image 12 = .ok (.bipush (-2), 2) := by decide +kernel
theorem dX8_image_14 : decode cX8_image 14 = .ok (.ireturn, 1) := by decide +kernel
theorem dX8_image_15 : decode cX8_image 15 = .ok (.iconst 0, 1) := by decide +kernel
theorem dX8_image_16 : decode cX8_image 16 = .ok (.istore_n 2, 1) := by decide +kernel
theorem dX8_image_17 : decode cX8_image 17 = .ok (.iload_n 2, 1) := by decide +kernel
theorem dX8_image_18 : decode cX8_image 18 = .ok (.sipush 320, 3) := by decide +kernel
theorem dX8_image_21 : decode cX8_image 21 = .ok (.if_icmp .ge 27, 3) := by decide +kernel
theorem dX8_image_24 : decode cX8_image 24 = .ok (.aload_n 0, 1) := by decide +kernel
theorem dX8_image_25 : decode cX8_image 25 = .ok (.getfield 13, 3) := by decide +kernel
theorem dX8_image_28 : decode cX8_image 28 = .ok (.sipush 320, 3) := by decide +kernel
theorem dX8_image_31 : decode cX8_image 31 = .ok (.iload_n 1, 1) := by decide +kernel
theorem dX8_image_32 : decode cX8_image 32 = .ok (.imul, 1) := by decide +kernel
theorem dX8_image_33 : decode cX8_image 33 = .ok (.iload_n 2, 1) := by decide +kernel
theorem dX8_image_34 : decode cX8_image 34 = .ok (.iadd, 1) := by decide +kernel
theorem dX8_image_35 : decode cX8_image 35 = .ok (.aload_n 0, 1) := by decide +kernel
theorem dX8_image_36 : decode cX8_image 36 = .ok (.getfield 9, 3) := by decide +kernel
theorem dX8_image_39 : decode cX8_image 39 = .ok (.iload_n 2, 1) := by decide +kernel
theorem dX8_image_40 : decode cX8_image 40 = .ok (.iaload, 1) := by decide +kernel
theorem dX8_image_41 : decode cX8_image 41 = .ok (.iastore, 1) := by decide +kernel
theorem dX8_image_42 : decode cX8_image 42 = .ok (.iinc 2 1, 3) := by decide +kernel
theorem dX8_image_45 : decode cX8_image 45 = .ok (.goto (-28), 3) := by decide +kernel
theorem dX8_image_48 : decode cX8_image 48 = .ok (.aload_n 0, 1) := by decide +kernel
theorem dX8_image_49 : decode cX8_image 49 = .ok (.getfield 16, 3) := by decide +kernel
theorem dX8_image_52 : decode cX8_image 52 = .ok (.iload_n 1, 1) := by decide +kernel
theorem dX8_image_53 : decode cX8_image 53 = .ok (.iconst 1, 1) := by decide +kernel
theorem dX8_image_54 : decode cX8_image 54 = .ok (.bastore, 1) := by decide +kernel
theorem dX8_image_55 : decode cX8_image 55 = .ok (.iconst 0, 1) := by decide +kernel
theorem dX8_image_56 : decode cX8_image 56 = .ok (.ireturn, 1) := by decide +kernel
def v_m_begin : List Cond := .code yX6_begin cX6_begin 3 none :: ([.fieldLink RX6 19 "UnseenClock$Row" "width" "I", .fieldLink RX6 9 "UnseenClock$Row" "length" "I", .fieldLink RX6 15 "UnseenClock$Row" "number" "[J", .code yJ7_fill_d0a16 cJ7_fill_d0a16 5 none, .methodLink RX6 22 yJ7_fill_d0a16, .static yJ7_fill_d0a16, .initialized RJ7] ++ (wsX60))
theorem in_m_begin_X6 : ∀ w ∈ u_ws RX6 TX6 3, w ∈ v_m_begin := fun w h => List.mem_cons_of_mem _ (List.mem_append_right _ (h))
set_option maxRecDepth 20000 in
theorem g_m_begin_fL60 : GoodIn v_m_begin (va_wsS RX6 22 yJ7_fill_d0a16 v_fL60) := g_rows _ [5, 6, 7, 4] rfl (by decide +kernel)
set_option maxHeartbeats 2000000 in
set_option maxRecDepth 100000 in
theorem m_begin (l : Launch) (D : va_G) (E : Nat → ClassId) (sz : Nat) (h0 h1 : Nat) (a1 a2 : Int32) : Met l yX6_begin v_m_begin ({ frames := 1, cells := 0, slots := 0, locals := 24 }) (va_Pc [.ref h0, .int a1, .int a2] (pre D E ([(h0, .inr (6, [.int 0, .int (-1), .ref h1])), (h1, .inl (E 2, 60, .inr (.inl (fun _ => 0))))]) sz)) (qV (S := Unit) (fun _ => True) (fun _ => []) D (va_A ([(h0, .inr (6, [.int 0, .int (-1), .ref h1])), (h1, .inl (E 2, 60, .inr (.inl (fun _ => 0))))]) sz)) 0 0 (va_A ([(h0, .inr (6, [.int 0, .int (-1), .ref h1])), (h1, .inl (E 2, 60, .inr (.inl (fun _ => 0))))]) sz) := by
  refine c_void (cc := cX6_begin) (maxL := 3) (ret := none) (by decide) rfl (Nat.le_of_ble_eq_true rfl) ?_
  intro p e s m below meth c ls A ⟨hx, hb, hr, hts, hown, hlocks, hin, hml⟩ hP hK hD hN hA hS hl
  have hown : s.vm.findClass RX6 = some m.cls := hown
  have hl : lv_has ls 3 [(0, .ref h0), (1, .int a1), (2, .int a2)] := hl
  refine lv_aload_n hx hb dX6_begin_0 rfl (lv_at hl 0 rfl) ?_
  refine lv_iload_n hx hb dX6_begin_1 rfl (lv_at hl 1 rfl) ?_
  refine va_put (ci := 6) (v := .int a1) (ty := .int) (C := RX6) (T := TX6) (N := 3) hx hb hts in_m_begin_X6 tyX6 tyX6_ok nmX6 hown hK hP hD hS 0 rfl rfl 0 (by decide) (hts (.fieldLink RX6 19 "UnseenClock$Row" "width" "I") (List.mem_of_getElem? (i := 1) rfl)) (fun _ h9 => h9) rfl (by decide +kernel) rfl rfl (Nat.le_of_ble_eq_true rfl) dX6_begin_2 (fun H locs hP hD hS => ?_)
  have hP : va_P D vwCl [(h0, .inr (6, [.int a1, .int (-1), .ref h1])), (h1, .inl (E 2, 60, .inr (.inl (fun _ => 0))))] H := hP
  have hD : va_D A [(h0, .inr (6, [.int a1, .int (-1), .ref h1])), (h1, .inl (E 2, 60, .inr (.inl (fun _ => 0))))] := hD
  refine lv_aload_n hx hb dX6_begin_5 rfl (lv_at hl 0 rfl) ?_
  refine lv_iload_n hx hb dX6_begin_6 rfl (lv_at hl 2 rfl) ?_
  refine va_put (ci := 6) (v := .int a2) (ty := .int) (C := RX6) (T := TX6) (N := 3) hx hb hts in_m_begin_X6 tyX6 tyX6_ok nmX6 hown hK hP hD hS 0 rfl rfl 1 (by decide) (hts (.fieldLink RX6 9 "UnseenClock$Row" "length" "I") (List.mem_of_getElem? (i := 2) rfl)) (fun _ h9 => h9) rfl (by decide +kernel) rfl rfl (Nat.le_of_ble_eq_true rfl) dX6_begin_7 (fun H locs hP hD hS => ?_)
  have hP : va_P D vwCl [(h0, .inr (6, [.int a1, .int a2, .ref h1])), (h1, .inl (E 2, 60, .inr (.inl (fun _ => 0))))] H := hP
  have hD : va_D A [(h0, .inr (6, [.int a1, .int a2, .ref h1])), (h1, .inl (E 2, 60, .inr (.inl (fun _ => 0))))] := hD
  refine lv_aload_n hx hb dX6_begin_10 rfl (lv_at hl 0 rfl) ?_
  refine va_get (ci := 6) (v := .ref h1) (C := RX6) (T := TX6) (N := 3) hx hb hts in_m_begin_X6 hown hK hP 0 rfl rfl 2 (by decide) (hts (.fieldLink RX6 15 "UnseenClock$Row" "number" "[J") (List.mem_of_getElem? (i := 3) rfl)) (fun _ h9 => h9) rfl dX6_begin_11 ?_
  refine lv_lconst (v := 0) hx hb dX6_begin_14 (by decide) ?_
  have hPc := hP.sub (ws' := [(h1, .inl (E 2, 60, .inr (.inl (fun _ => 0))))]) [1] rfl
  have hDc := hD.sub (ws' := [(h1, .inl (E 2, 60, .inr (.inl (fun _ => 0))))]) [1] (by decide) rfl
  refine k_v (wr := [(h0, .inr (6, [.int a1, .int a2, .ref h1]))]) (va_runS (As := [.ref h1, .long 0]) (rest := []) ⟨hx, hb, hml, hown, hts⟩ (fL60 l D E H.size (h1) (fun _ => 0) 0) (va_cwS 2 hts g_m_begin_fL60 rfl rfl rfl (by decide +kernel) ⟨Nat.le_of_ble_eq_true rfl, Nat.le_of_ble_eq_true rfl⟩) ⟨pre_blind, pre_at hPc hK hDc hN⟩ rfl rfl hl.1 rfl (lv_room (Nat.le_of_ble_eq_true rfl)) dX6_begin_15 ⟨Nat.le_of_ble_eq_true rfl, Nat.le_of_ble_eq_true rfl⟩) hP hD hS hA [1] [0] rfl rfl (by decide +kernel) (by decide +kernel) (fun u_1 H locs hw hP hD hS => ?_)
  have hP : va_P D vwCl [(h0, .inr (6, [.int a1, .int a2, .ref h1])), (h1, .inl (E 2, 60, .inr (.inl u_1)))] H := hP
  have hD : va_D A [(h0, .inr (6, [.int a1, .int a2, .ref h1])), (h1, .inl (E 2, 60, .inr (.inl u_1)))] := hD
  exact e_v hx hb hr (()) trivial p_nil d_nil hS hlocks dX6_begin_18

def v_m_X_row : List Cond := .code yX7_row cX7_row 4 (some .int) :: ([.code yX7_noSlot cX7_noSlot 1 (some .boolean), .methodLink RX7 281 yX7_noSlot, .static yX7_noSlot, .initialized RX7, .fieldLink RX7 50 "UnseenClock" "rows" "[LUnseenClock$Row;", .fieldLink RX6 19 "UnseenClock$Row" "width" "I", .fieldLink RX6 9 "UnseenClock$Row" "length" "I", .fieldLink RX6 15 "UnseenClock$Row" "number" "[J", .code yJ7_fill_d0a16 cJ7_fill_d0a16 5 none, .methodLink RX6 22 yJ7_fill_d0a16, .static yJ7_fill_d0a16, .initialized RJ7, .code yX6_begin cX6_begin 3 none, .methodLink RX7 358 yX6_begin, .instanceMethod yX6_begin, .selects RX6 yX6_begin yX6_begin, .initialized RX6] ++ (wsX70 ++ (wsX60)))
theorem in_m_X_row_X7 : ∀ w ∈ u_ws RX7 TX7 14, w ∈ v_m_X_row := fun w h => List.mem_cons_of_mem _ (List.mem_append_right _ (List.mem_append_left _ h))
theorem in_m_X_row_X6 : ∀ w ∈ u_ws RX6 TX6 3, w ∈ v_m_X_row := fun w h => List.mem_cons_of_mem _ (List.mem_append_right _ (List.mem_append_right _ (h)))
set_option maxRecDepth 20000 in
theorem g_m_X_row_r_X_noSlot : GoodIn v_m_X_row (va_wsS RX7 281 yX7_noSlot v_r_X_noSlot) := g_rows _ [2, 3, 4, 1] rfl (by decide +kernel)
set_option maxRecDepth 20000 in
theorem g_m_X_row_m_begin : GoodIn v_m_X_row (wsV RX7 358 RX6 yX6_begin v_m_begin) := g_rows _ [14, 15, 16, 17, 13, 6, 7, 8, 9, 10, 11, 12, 32, 33, 34] rfl (by decide +kernel)
set_option maxHeartbeats 2000000 in
set_option maxRecDepth 100000 in
theorem m_X_row (l : Launch) (D : va_G) (E : Nat → ClassId) (sz : Nat) (h0 : Nat) (u : Nat → Nat) (a1 : Int32) (a2 : Int32) (a3 : Int32) : Met l yX7_row v_m_X_row ({ frames := 2, cells := 0, slots := 0, locals := 46 }) (va_Pc [.ref h0, .int a1, .int a2, .int a3] (pre D E (wX E h0 u) sz)) (qI (S := Unit) (fun r _ => r = rowA a1 a2 a3) (fun _ => []) D (va_A (wX E h0 u) sz)) 0 0 (va_A (wX E h0 u) sz) := by
  refine c_int (cc := cX7_row) (maxL := 4) (ret := (some .int)) (by decide) rfl (Nat.le_of_ble_eq_true rfl) ?_
  intro p e s m below meth c ls A ⟨hx, hb, hr, hts, hown, hlocks, hin, hml⟩ hP hK hD hN hA hS hl
  have hown : s.vm.findClass RX7 = some m.cls := hown
  have hl : lv_has ls 4 [(0, .ref h0), (1, .int a1), (2, .int a2), (3, .int a3)] := hl
  rcases cs4 a1 with h_1 | rfl | rfl | rfl | rfl
  · refine lv_iload_n hx hb dX7_row_0 rfl (lv_at hl 1 rfl) ?_
    refine vp_callSi (W.runS (As := [.int a1]) (rest := []) ⟨hx, hb, hml, hown, hts⟩ (r_X_noSlot l D E s.heap.size h0 u a1) (va_cwS 1 hts g_m_X_row_r_X_noSlot rfl rfl rfl (by decide +kernel) ⟨Nat.le_of_ble_eq_true rfl, Nat.le_of_ble_eq_true rfl⟩) ⟨pre_blind, pre_at hP hK hD hN⟩ rfl rfl hl.1 rfl (lv_room (Nat.le_of_ble_eq_true rfl)) dX7_row_1 ⟨Nat.le_of_ble_eq_true rfl, Nat.le_of_ble_eq_true rfl⟩) (fun r_2 er_2 => ?_)
    subst er_2
    refine lv_toc (y := 1) (if_neg h_1) ?_
    have hP := hP.sub (ws' := [(h0, .inr (7, [.ref (u 1), .int 0, .ref (u 2), .int 0, .int (-1), .ref (u 0), .ref (u 3), .ref (u 6), .ref (u 98), .int 0, .ref (u 7), .null, .int 0, .ref (u 15)])), (u 15, .inl (E 7, 4, .inr (.inr (.inr (.inr (va_up (va_up (va_up (va_up (fun _ => none) 0 (some (u 16))) 1 (some (u 18))) 2 (some (u 20))) 3 (some (u 22)))))))), (u 16, .inr (6, [.int 0, .int (-1), .ref (u 17)])), (u 17, .inl (E 2, 60, .inr (.inl (fun _ => 0)))), (u 18, .inr (6, [.int 0, .int (-1), .ref (u 19)])), (u 19, .inl (E 2, 60, .inr (.inl (fun _ => 0)))), (u 20, .inr (6, [.int 0, .int (-1), .ref (u 21)])), (u 21, .inl (E 2, 60, .inr (.inl (fun _ => 0)))), (u 22, .inr (6, [.int 0, .int (-1), .ref (u 23)])), (u 23, .inl (E 2, 60, .inr (.inl (fun _ => 0))))]) [0, 16, 17, 18, 19, 20, 21, 22, 23, 24] rfl
    have hD := hD.sub (ws' := [(h0, .inr (7, [.ref (u 1), .int 0, .ref (u 2), .int 0, .int (-1), .ref (u 0), .ref (u 3), .ref (u 6), .ref (u 98), .int 0, .ref (u 7), .null, .int 0, .ref (u 15)])), (u 15, .inl (E 7, 4, .inr (.inr (.inr (.inr (va_up (va_up (va_up (va_up (fun _ => none) 0 (some (u 16))) 1 (some (u 18))) 2 (some (u 20))) 3 (some (u 22)))))))), (u 16, .inr (6, [.int 0, .int (-1), .ref (u 17)])), (u 17, .inl (E 2, 60, .inr (.inl (fun _ => 0)))), (u 18, .inr (6, [.int 0, .int (-1), .ref (u 19)])), (u 19, .inl (E 2, 60, .inr (.inl (fun _ => 0)))), (u 20, .inr (6, [.int 0, .int (-1), .ref (u 21)])), (u 21, .inl (E 2, 60, .inr (.inl (fun _ => 0)))), (u 22, .inr (6, [.int 0, .int (-1), .ref (u 23)])), (u 23, .inl (E 2, 60, .inr (.inl (fun _ => 0))))]) [0, 16, 17, 18, 19, 20, 21, 22, 23, 24] (by decide) rfl
    refine lv_if_ne (tgt := 22) hx hb dX7_row_4 (by decide) (fun _ => ?_) (fun h9 => absurd h9 (by decide))
    refine lv_bipush (v := (-2)) hx hb dX7_row_22 (by decide) ?_
    exact e_i (v := (-2)) hx hb hr rfl (()) (row_a h_1) p_nil d_nil hS hlocks dX7_row_24
  · rcases Classical.em (0 ≤ a2.toInt ∧ a2.toInt ≤ 3) with h_4 | h_4
    · refine lv_iload_n hx hb dX7_row_0 rfl (lv_at hl 1 rfl) ?_
      refine vp_callSi (W.runS (As := [.int 0]) (rest := []) ⟨hx, hb, hml, hown, hts⟩ (r_X_noSlot l D E s.heap.size h0 u 0) (va_cwS 1 hts g_m_X_row_r_X_noSlot rfl rfl rfl (by decide +kernel) ⟨Nat.le_of_ble_eq_true rfl, Nat.le_of_ble_eq_true rfl⟩) ⟨pre_blind, pre_at hP hK hD hN⟩ rfl rfl hl.1 rfl (lv_room (Nat.le_of_ble_eq_true rfl)) dX7_row_1 ⟨Nat.le_of_ble_eq_true rfl, Nat.le_of_ble_eq_true rfl⟩) (fun r_5 er_5 => ?_)
      subst er_5
      refine lv_toc (y := 0) (by decide) ?_
      have hP := hP.sub (ws' := [(h0, .inr (7, [.ref (u 1), .int 0, .ref (u 2), .int 0, .int (-1), .ref (u 0), .ref (u 3), .ref (u 6), .ref (u 98), .int 0, .ref (u 7), .null, .int 0, .ref (u 15)])), (u 15, .inl (E 7, 4, .inr (.inr (.inr (.inr (va_up (va_up (va_up (va_up (fun _ => none) 0 (some (u 16))) 1 (some (u 18))) 2 (some (u 20))) 3 (some (u 22)))))))), (u 16, .inr (6, [.int 0, .int (-1), .ref (u 17)])), (u 17, .inl (E 2, 60, .inr (.inl (fun _ => 0)))), (u 18, .inr (6, [.int 0, .int (-1), .ref (u 19)])), (u 19, .inl (E 2, 60, .inr (.inl (fun _ => 0)))), (u 20, .inr (6, [.int 0, .int (-1), .ref (u 21)])), (u 21, .inl (E 2, 60, .inr (.inl (fun _ => 0)))), (u 22, .inr (6, [.int 0, .int (-1), .ref (u 23)])), (u 23, .inl (E 2, 60, .inr (.inl (fun _ => 0))))]) [0, 16, 17, 18, 19, 20, 21, 22, 23, 24] rfl
      have hD := hD.sub (ws' := [(h0, .inr (7, [.ref (u 1), .int 0, .ref (u 2), .int 0, .int (-1), .ref (u 0), .ref (u 3), .ref (u 6), .ref (u 98), .int 0, .ref (u 7), .null, .int 0, .ref (u 15)])), (u 15, .inl (E 7, 4, .inr (.inr (.inr (.inr (va_up (va_up (va_up (va_up (fun _ => none) 0 (some (u 16))) 1 (some (u 18))) 2 (some (u 20))) 3 (some (u 22)))))))), (u 16, .inr (6, [.int 0, .int (-1), .ref (u 17)])), (u 17, .inl (E 2, 60, .inr (.inl (fun _ => 0)))), (u 18, .inr (6, [.int 0, .int (-1), .ref (u 19)])), (u 19, .inl (E 2, 60, .inr (.inl (fun _ => 0)))), (u 20, .inr (6, [.int 0, .int (-1), .ref (u 21)])), (u 21, .inl (E 2, 60, .inr (.inl (fun _ => 0)))), (u 22, .inr (6, [.int 0, .int (-1), .ref (u 23)])), (u 23, .inl (E 2, 60, .inr (.inl (fun _ => 0))))]) [0, 16, 17, 18, 19, 20, 21, 22, 23, 24] (by decide) rfl
      refine lv_if_ne (tgt := 22) hx hb dX7_row_4 (by decide) (fun h9 => absurd (by decide) h9) (fun _ => ?_)
      refine lv_iload_n hx hb dX7_row_7 rfl (lv_at hl 2 rfl) ?_
      refine lv_if_lt (tgt := 22) hx hb dX7_row_8 (by decide) (fun h9 => absurd h9 (in_nlt h_4)) (fun _ => ?_)
      refine lv_iload_n hx hb dX7_row_11 rfl (lv_at hl 2 rfl) ?_
      refine lv_iconst (v := 3) hx hb dX7_row_12 (by decide) ?_
      refine lv_icmp_gt (tgt := 22) hx hb dX7_row_13 (by decide) (fun h9 => absurd h9 (in_ngt h_4)) (fun _ => ?_)
      refine lv_iload_n hx hb dX7_row_16 rfl (lv_at hl 3 rfl) ?_
      refine lv_bipush (v := 60) hx hb dX7_row_17 (by decide) ?_
      refine lv_icmp_le (tgt := 25) hx hb dX7_row_19 (by decide) (fun h_9 => ?_) (fun h_9 => ?_)
      · refine lv_iload_n hx hb dX7_row_25 rfl (lv_at hl 3 rfl) ?_
        refine lv_if_ge (tgt := 32) hx hb dX7_row_26 (by decide) (fun h_10 => ?_) (fun h_10 => ?_)
        · refine lv_aload_n hx hb dX7_row_32 rfl (lv_at hl 0 rfl) ?_
          refine va_get (ci := 7) (v := .ref (u 15)) (C := RX7) (T := TX7) (N := 14) hx hb hts in_m_X_row_X7 hown hK hP 0 rfl rfl 13 (by decide) (hts (.fieldLink RX7 50 "UnseenClock" "rows" "[LUnseenClock$Row;") (List.mem_of_getElem? (i := 5) rfl)) (fun _ h9 => h9) rfl dX7_row_33 ?_
          refine lv_iload_n hx hb dX7_row_36 rfl (lv_at hl 1 rfl) ?_
          refine va_aldq hx hb hK hP 1 7 rfl rfl (by unfold vp_in; decide) dX7_row_37 ?_
          refine lv_tov (y := .ref (u 16)) rfl ?_
          refine lv_iload_n hx hb dX7_row_38 rfl (lv_at hl 2 rfl) ?_
          refine lv_iload_n hx hb dX7_row_39 rfl (lv_at hl 3 rfl) ?_
          have hPc := hP.sub (ws' := [(u 16, .inr (6, [.int 0, .int (-1), .ref (u 17)])), (u 17, .inl (E 2, 60, .inr (.inl (fun _ => 0))))]) [2, 3] rfl
          have hDc := hD.sub (ws' := [(u 16, .inr (6, [.int 0, .int (-1), .ref (u 17)])), (u 17, .inl (E 2, 60, .inr (.inl (fun _ => 0))))]) [2, 3] (by decide) rfl
          refine k_v (wr := []) (va_runV (As := [.int a2, .int a3]) (rest := []) ⟨hx, hb, hml, hown, hts⟩ (m_begin l D E s.heap.size (u 16) (u 17) a2 a3) (cwV 2 hts g_m_X_row_m_begin rfl rfl rfl (by decide +kernel) ⟨Nat.le_of_ble_eq_true rfl, Nat.le_of_ble_eq_true rfl⟩) ⟨pre_blind, va_recv hK hPc (ci := 6) (q0 := 0) rfl rfl, pre_at hPc hK hDc hN⟩ rfl rfl hl.1 rfl (lv_room (Nat.le_of_ble_eq_true rfl)) dX7_row_40 ⟨Nat.le_of_ble_eq_true rfl, Nat.le_of_ble_eq_true rfl⟩) hP hD hS hA [2, 3] [] rfl rfl (by decide +kernel) (by decide +kernel) (fun u_11 H locs hw hP hD hS => ?_)
          have hP : va_P D vwCl [] H := hP
          have hD : va_D A [] := hD
          refine lv_iconst (v := 0) hx hb dX7_row_43 (by decide) ?_
          exact e_i (v := 0) hx hb hr rfl (()) (row_e (by decide) h_4 h_9 h_10) p_nil d_nil hS hlocks dX7_row_44
        · refine lv_bipush (v := (-3)) hx hb dX7_row_29 (by decide) ?_
          exact e_i (v := (-3)) hx hb hr rfl (()) (row_d (by decide) h_4 h_9 h_10) p_nil d_nil hS hlocks dX7_row_31
      · refine lv_bipush (v := (-2)) hx hb dX7_row_22 (by decide) ?_
        exact e_i (v := (-2)) hx hb hr rfl (()) (row_c h_9) p_nil d_nil hS hlocks dX7_row_24
    · refine lv_iload_n hx hb dX7_row_0 rfl (lv_at hl 1 rfl) ?_
      refine vp_callSi (W.runS (As := [.int 0]) (rest := []) ⟨hx, hb, hml, hown, hts⟩ (r_X_noSlot l D E s.heap.size h0 u 0) (va_cwS 1 hts g_m_X_row_r_X_noSlot rfl rfl rfl (by decide +kernel) ⟨Nat.le_of_ble_eq_true rfl, Nat.le_of_ble_eq_true rfl⟩) ⟨pre_blind, pre_at hP hK hD hN⟩ rfl rfl hl.1 rfl (lv_room (Nat.le_of_ble_eq_true rfl)) dX7_row_1 ⟨Nat.le_of_ble_eq_true rfl, Nat.le_of_ble_eq_true rfl⟩) (fun r_13 er_13 => ?_)
      subst er_13
      refine lv_toc (y := 0) (by decide) ?_
      have hP := hP.sub (ws' := [(h0, .inr (7, [.ref (u 1), .int 0, .ref (u 2), .int 0, .int (-1), .ref (u 0), .ref (u 3), .ref (u 6), .ref (u 98), .int 0, .ref (u 7), .null, .int 0, .ref (u 15)])), (u 15, .inl (E 7, 4, .inr (.inr (.inr (.inr (va_up (va_up (va_up (va_up (fun _ => none) 0 (some (u 16))) 1 (some (u 18))) 2 (some (u 20))) 3 (some (u 22)))))))), (u 16, .inr (6, [.int 0, .int (-1), .ref (u 17)])), (u 17, .inl (E 2, 60, .inr (.inl (fun _ => 0)))), (u 18, .inr (6, [.int 0, .int (-1), .ref (u 19)])), (u 19, .inl (E 2, 60, .inr (.inl (fun _ => 0)))), (u 20, .inr (6, [.int 0, .int (-1), .ref (u 21)])), (u 21, .inl (E 2, 60, .inr (.inl (fun _ => 0)))), (u 22, .inr (6, [.int 0, .int (-1), .ref (u 23)])), (u 23, .inl (E 2, 60, .inr (.inl (fun _ => 0))))]) [0, 16, 17, 18, 19, 20, 21, 22, 23, 24] rfl
      have hD := hD.sub (ws' := [(h0, .inr (7, [.ref (u 1), .int 0, .ref (u 2), .int 0, .int (-1), .ref (u 0), .ref (u 3), .ref (u 6), .ref (u 98), .int 0, .ref (u 7), .null, .int 0, .ref (u 15)])), (u 15, .inl (E 7, 4, .inr (.inr (.inr (.inr (va_up (va_up (va_up (va_up (fun _ => none) 0 (some (u 16))) 1 (some (u 18))) 2 (some (u 20))) 3 (some (u 22)))))))), (u 16, .inr (6, [.int 0, .int (-1), .ref (u 17)])), (u 17, .inl (E 2, 60, .inr (.inl (fun _ => 0)))), (u 18, .inr (6, [.int 0, .int (-1), .ref (u 19)])), (u 19, .inl (E 2, 60, .inr (.inl (fun _ => 0)))), (u 20, .inr (6, [.int 0, .int (-1), .ref (u 21)])), (u 21, .inl (E 2, 60, .inr (.inl (fun _ => 0)))), (u 22, .inr (6, [.int 0, .int (-1), .ref (u 23)])), (u 23, .inl (E 2, 60, .inr (.inl (fun _ => 0))))]) [0, 16, 17, 18, 19, 20, 21, 22, 23, 24] (by decide) rfl
      refine lv_if_ne (tgt := 22) hx hb dX7_row_4 (by decide) (fun h9 => absurd (by decide) h9) (fun _ => ?_)
      refine lv_iload_n hx hb dX7_row_7 rfl (lv_at hl 2 rfl) ?_
      refine lv_if_lt (tgt := 22) hx hb dX7_row_8 (by decide) (fun h_15 => ?_) (fun h_15 => ?_)
      · refine lv_bipush (v := (-2)) hx hb dX7_row_22 (by decide) ?_
        exact e_i (v := (-2)) hx hb hr rfl (()) (row_b h_4) p_nil d_nil hS hlocks dX7_row_24
      · refine lv_iload_n hx hb dX7_row_11 rfl (lv_at hl 2 rfl) ?_
        refine lv_iconst (v := 3) hx hb dX7_row_12 (by decide) ?_
        refine lv_icmp_gt (tgt := 22) hx hb dX7_row_13 (by decide) (fun _ => ?_) (fun h9 => absurd (out_gt h_4 h_15) h9)
        refine lv_bipush (v := (-2)) hx hb dX7_row_22 (by decide) ?_
        exact e_i (v := (-2)) hx hb hr rfl (()) (row_b h_4) p_nil d_nil hS hlocks dX7_row_24
  · rcases Classical.em (0 ≤ a2.toInt ∧ a2.toInt ≤ 3) with h_17 | h_17
    · refine lv_iload_n hx hb dX7_row_0 rfl (lv_at hl 1 rfl) ?_
      refine vp_callSi (W.runS (As := [.int 1]) (rest := []) ⟨hx, hb, hml, hown, hts⟩ (r_X_noSlot l D E s.heap.size h0 u 1) (va_cwS 1 hts g_m_X_row_r_X_noSlot rfl rfl rfl (by decide +kernel) ⟨Nat.le_of_ble_eq_true rfl, Nat.le_of_ble_eq_true rfl⟩) ⟨pre_blind, pre_at hP hK hD hN⟩ rfl rfl hl.1 rfl (lv_room (Nat.le_of_ble_eq_true rfl)) dX7_row_1 ⟨Nat.le_of_ble_eq_true rfl, Nat.le_of_ble_eq_true rfl⟩) (fun r_18 er_18 => ?_)
      subst er_18
      refine lv_toc (y := 0) (by decide) ?_
      have hP := hP.sub (ws' := [(h0, .inr (7, [.ref (u 1), .int 0, .ref (u 2), .int 0, .int (-1), .ref (u 0), .ref (u 3), .ref (u 6), .ref (u 98), .int 0, .ref (u 7), .null, .int 0, .ref (u 15)])), (u 15, .inl (E 7, 4, .inr (.inr (.inr (.inr (va_up (va_up (va_up (va_up (fun _ => none) 0 (some (u 16))) 1 (some (u 18))) 2 (some (u 20))) 3 (some (u 22)))))))), (u 16, .inr (6, [.int 0, .int (-1), .ref (u 17)])), (u 17, .inl (E 2, 60, .inr (.inl (fun _ => 0)))), (u 18, .inr (6, [.int 0, .int (-1), .ref (u 19)])), (u 19, .inl (E 2, 60, .inr (.inl (fun _ => 0)))), (u 20, .inr (6, [.int 0, .int (-1), .ref (u 21)])), (u 21, .inl (E 2, 60, .inr (.inl (fun _ => 0)))), (u 22, .inr (6, [.int 0, .int (-1), .ref (u 23)])), (u 23, .inl (E 2, 60, .inr (.inl (fun _ => 0))))]) [0, 16, 17, 18, 19, 20, 21, 22, 23, 24] rfl
      have hD := hD.sub (ws' := [(h0, .inr (7, [.ref (u 1), .int 0, .ref (u 2), .int 0, .int (-1), .ref (u 0), .ref (u 3), .ref (u 6), .ref (u 98), .int 0, .ref (u 7), .null, .int 0, .ref (u 15)])), (u 15, .inl (E 7, 4, .inr (.inr (.inr (.inr (va_up (va_up (va_up (va_up (fun _ => none) 0 (some (u 16))) 1 (some (u 18))) 2 (some (u 20))) 3 (some (u 22)))))))), (u 16, .inr (6, [.int 0, .int (-1), .ref (u 17)])), (u 17, .inl (E 2, 60, .inr (.inl (fun _ => 0)))), (u 18, .inr (6, [.int 0, .int (-1), .ref (u 19)])), (u 19, .inl (E 2, 60, .inr (.inl (fun _ => 0)))), (u 20, .inr (6, [.int 0, .int (-1), .ref (u 21)])), (u 21, .inl (E 2, 60, .inr (.inl (fun _ => 0)))), (u 22, .inr (6, [.int 0, .int (-1), .ref (u 23)])), (u 23, .inl (E 2, 60, .inr (.inl (fun _ => 0))))]) [0, 16, 17, 18, 19, 20, 21, 22, 23, 24] (by decide) rfl
      refine lv_if_ne (tgt := 22) hx hb dX7_row_4 (by decide) (fun h9 => absurd (by decide) h9) (fun _ => ?_)
      refine lv_iload_n hx hb dX7_row_7 rfl (lv_at hl 2 rfl) ?_
      refine lv_if_lt (tgt := 22) hx hb dX7_row_8 (by decide) (fun h9 => absurd h9 (in_nlt h_17)) (fun _ => ?_)
      refine lv_iload_n hx hb dX7_row_11 rfl (lv_at hl 2 rfl) ?_
      refine lv_iconst (v := 3) hx hb dX7_row_12 (by decide) ?_
      refine lv_icmp_gt (tgt := 22) hx hb dX7_row_13 (by decide) (fun h9 => absurd h9 (in_ngt h_17)) (fun _ => ?_)
      refine lv_iload_n hx hb dX7_row_16 rfl (lv_at hl 3 rfl) ?_
      refine lv_bipush (v := 60) hx hb dX7_row_17 (by decide) ?_
      refine lv_icmp_le (tgt := 25) hx hb dX7_row_19 (by decide) (fun h_22 => ?_) (fun h_22 => ?_)
      · refine lv_iload_n hx hb dX7_row_25 rfl (lv_at hl 3 rfl) ?_
        refine lv_if_ge (tgt := 32) hx hb dX7_row_26 (by decide) (fun h_23 => ?_) (fun h_23 => ?_)
        · refine lv_aload_n hx hb dX7_row_32 rfl (lv_at hl 0 rfl) ?_
          refine va_get (ci := 7) (v := .ref (u 15)) (C := RX7) (T := TX7) (N := 14) hx hb hts in_m_X_row_X7 hown hK hP 0 rfl rfl 13 (by decide) (hts (.fieldLink RX7 50 "UnseenClock" "rows" "[LUnseenClock$Row;") (List.mem_of_getElem? (i := 5) rfl)) (fun _ h9 => h9) rfl dX7_row_33 ?_
          refine lv_iload_n hx hb dX7_row_36 rfl (lv_at hl 1 rfl) ?_
          refine va_aldq hx hb hK hP 1 7 rfl rfl (by unfold vp_in; decide) dX7_row_37 ?_
          refine lv_tov (y := .ref (u 18)) rfl ?_
          refine lv_iload_n hx hb dX7_row_38 rfl (lv_at hl 2 rfl) ?_
          refine lv_iload_n hx hb dX7_row_39 rfl (lv_at hl 3 rfl) ?_
          have hPc := hP.sub (ws' := [(u 18, .inr (6, [.int 0, .int (-1), .ref (u 19)])), (u 19, .inl (E 2, 60, .inr (.inl (fun _ => 0))))]) [4, 5] rfl
          have hDc := hD.sub (ws' := [(u 18, .inr (6, [.int 0, .int (-1), .ref (u 19)])), (u 19, .inl (E 2, 60, .inr (.inl (fun _ => 0))))]) [4, 5] (by decide) rfl
          refine k_v (wr := []) (va_runV (As := [.int a2, .int a3]) (rest := []) ⟨hx, hb, hml, hown, hts⟩ (m_begin l D E s.heap.size (u 18) (u 19) a2 a3) (cwV 2 hts g_m_X_row_m_begin rfl rfl rfl (by decide +kernel) ⟨Nat.le_of_ble_eq_true rfl, Nat.le_of_ble_eq_true rfl⟩) ⟨pre_blind, va_recv hK hPc (ci := 6) (q0 := 0) rfl rfl, pre_at hPc hK hDc hN⟩ rfl rfl hl.1 rfl (lv_room (Nat.le_of_ble_eq_true rfl)) dX7_row_40 ⟨Nat.le_of_ble_eq_true rfl, Nat.le_of_ble_eq_true rfl⟩) hP hD hS hA [4, 5] [] rfl rfl (by decide +kernel) (by decide +kernel) (fun u_24 H locs hw hP hD hS => ?_)
          have hP : va_P D vwCl [] H := hP
          have hD : va_D A [] := hD
          refine lv_iconst (v := 0) hx hb dX7_row_43 (by decide) ?_
          exact e_i (v := 0) hx hb hr rfl (()) (row_e (by decide) h_17 h_22 h_23) p_nil d_nil hS hlocks dX7_row_44
        · refine lv_bipush (v := (-3)) hx hb dX7_row_29 (by decide) ?_
          exact e_i (v := (-3)) hx hb hr rfl (()) (row_d (by decide) h_17 h_22 h_23) p_nil d_nil hS hlocks dX7_row_31
      · refine lv_bipush (v := (-2)) hx hb dX7_row_22 (by decide) ?_
        exact e_i (v := (-2)) hx hb hr rfl (()) (row_c h_22) p_nil d_nil hS hlocks dX7_row_24
    · refine lv_iload_n hx hb dX7_row_0 rfl (lv_at hl 1 rfl) ?_
      refine vp_callSi (W.runS (As := [.int 1]) (rest := []) ⟨hx, hb, hml, hown, hts⟩ (r_X_noSlot l D E s.heap.size h0 u 1) (va_cwS 1 hts g_m_X_row_r_X_noSlot rfl rfl rfl (by decide +kernel) ⟨Nat.le_of_ble_eq_true rfl, Nat.le_of_ble_eq_true rfl⟩) ⟨pre_blind, pre_at hP hK hD hN⟩ rfl rfl hl.1 rfl (lv_room (Nat.le_of_ble_eq_true rfl)) dX7_row_1 ⟨Nat.le_of_ble_eq_true rfl, Nat.le_of_ble_eq_true rfl⟩) (fun r_26 er_26 => ?_)
      subst er_26
      refine lv_toc (y := 0) (by decide) ?_
      have hP := hP.sub (ws' := [(h0, .inr (7, [.ref (u 1), .int 0, .ref (u 2), .int 0, .int (-1), .ref (u 0), .ref (u 3), .ref (u 6), .ref (u 98), .int 0, .ref (u 7), .null, .int 0, .ref (u 15)])), (u 15, .inl (E 7, 4, .inr (.inr (.inr (.inr (va_up (va_up (va_up (va_up (fun _ => none) 0 (some (u 16))) 1 (some (u 18))) 2 (some (u 20))) 3 (some (u 22)))))))), (u 16, .inr (6, [.int 0, .int (-1), .ref (u 17)])), (u 17, .inl (E 2, 60, .inr (.inl (fun _ => 0)))), (u 18, .inr (6, [.int 0, .int (-1), .ref (u 19)])), (u 19, .inl (E 2, 60, .inr (.inl (fun _ => 0)))), (u 20, .inr (6, [.int 0, .int (-1), .ref (u 21)])), (u 21, .inl (E 2, 60, .inr (.inl (fun _ => 0)))), (u 22, .inr (6, [.int 0, .int (-1), .ref (u 23)])), (u 23, .inl (E 2, 60, .inr (.inl (fun _ => 0))))]) [0, 16, 17, 18, 19, 20, 21, 22, 23, 24] rfl
      have hD := hD.sub (ws' := [(h0, .inr (7, [.ref (u 1), .int 0, .ref (u 2), .int 0, .int (-1), .ref (u 0), .ref (u 3), .ref (u 6), .ref (u 98), .int 0, .ref (u 7), .null, .int 0, .ref (u 15)])), (u 15, .inl (E 7, 4, .inr (.inr (.inr (.inr (va_up (va_up (va_up (va_up (fun _ => none) 0 (some (u 16))) 1 (some (u 18))) 2 (some (u 20))) 3 (some (u 22)))))))), (u 16, .inr (6, [.int 0, .int (-1), .ref (u 17)])), (u 17, .inl (E 2, 60, .inr (.inl (fun _ => 0)))), (u 18, .inr (6, [.int 0, .int (-1), .ref (u 19)])), (u 19, .inl (E 2, 60, .inr (.inl (fun _ => 0)))), (u 20, .inr (6, [.int 0, .int (-1), .ref (u 21)])), (u 21, .inl (E 2, 60, .inr (.inl (fun _ => 0)))), (u 22, .inr (6, [.int 0, .int (-1), .ref (u 23)])), (u 23, .inl (E 2, 60, .inr (.inl (fun _ => 0))))]) [0, 16, 17, 18, 19, 20, 21, 22, 23, 24] (by decide) rfl
      refine lv_if_ne (tgt := 22) hx hb dX7_row_4 (by decide) (fun h9 => absurd (by decide) h9) (fun _ => ?_)
      refine lv_iload_n hx hb dX7_row_7 rfl (lv_at hl 2 rfl) ?_
      refine lv_if_lt (tgt := 22) hx hb dX7_row_8 (by decide) (fun h_28 => ?_) (fun h_28 => ?_)
      · refine lv_bipush (v := (-2)) hx hb dX7_row_22 (by decide) ?_
        exact e_i (v := (-2)) hx hb hr rfl (()) (row_b h_17) p_nil d_nil hS hlocks dX7_row_24
      · refine lv_iload_n hx hb dX7_row_11 rfl (lv_at hl 2 rfl) ?_
        refine lv_iconst (v := 3) hx hb dX7_row_12 (by decide) ?_
        refine lv_icmp_gt (tgt := 22) hx hb dX7_row_13 (by decide) (fun _ => ?_) (fun h9 => absurd (out_gt h_17 h_28) h9)
        refine lv_bipush (v := (-2)) hx hb dX7_row_22 (by decide) ?_
        exact e_i (v := (-2)) hx hb hr rfl (()) (row_b h_17) p_nil d_nil hS hlocks dX7_row_24
  · rcases Classical.em (0 ≤ a2.toInt ∧ a2.toInt ≤ 3) with h_30 | h_30
    · refine lv_iload_n hx hb dX7_row_0 rfl (lv_at hl 1 rfl) ?_
      refine vp_callSi (W.runS (As := [.int 2]) (rest := []) ⟨hx, hb, hml, hown, hts⟩ (r_X_noSlot l D E s.heap.size h0 u 2) (va_cwS 1 hts g_m_X_row_r_X_noSlot rfl rfl rfl (by decide +kernel) ⟨Nat.le_of_ble_eq_true rfl, Nat.le_of_ble_eq_true rfl⟩) ⟨pre_blind, pre_at hP hK hD hN⟩ rfl rfl hl.1 rfl (lv_room (Nat.le_of_ble_eq_true rfl)) dX7_row_1 ⟨Nat.le_of_ble_eq_true rfl, Nat.le_of_ble_eq_true rfl⟩) (fun r_31 er_31 => ?_)
      subst er_31
      refine lv_toc (y := 0) (by decide) ?_
      have hP := hP.sub (ws' := [(h0, .inr (7, [.ref (u 1), .int 0, .ref (u 2), .int 0, .int (-1), .ref (u 0), .ref (u 3), .ref (u 6), .ref (u 98), .int 0, .ref (u 7), .null, .int 0, .ref (u 15)])), (u 15, .inl (E 7, 4, .inr (.inr (.inr (.inr (va_up (va_up (va_up (va_up (fun _ => none) 0 (some (u 16))) 1 (some (u 18))) 2 (some (u 20))) 3 (some (u 22)))))))), (u 16, .inr (6, [.int 0, .int (-1), .ref (u 17)])), (u 17, .inl (E 2, 60, .inr (.inl (fun _ => 0)))), (u 18, .inr (6, [.int 0, .int (-1), .ref (u 19)])), (u 19, .inl (E 2, 60, .inr (.inl (fun _ => 0)))), (u 20, .inr (6, [.int 0, .int (-1), .ref (u 21)])), (u 21, .inl (E 2, 60, .inr (.inl (fun _ => 0)))), (u 22, .inr (6, [.int 0, .int (-1), .ref (u 23)])), (u 23, .inl (E 2, 60, .inr (.inl (fun _ => 0))))]) [0, 16, 17, 18, 19, 20, 21, 22, 23, 24] rfl
      have hD := hD.sub (ws' := [(h0, .inr (7, [.ref (u 1), .int 0, .ref (u 2), .int 0, .int (-1), .ref (u 0), .ref (u 3), .ref (u 6), .ref (u 98), .int 0, .ref (u 7), .null, .int 0, .ref (u 15)])), (u 15, .inl (E 7, 4, .inr (.inr (.inr (.inr (va_up (va_up (va_up (va_up (fun _ => none) 0 (some (u 16))) 1 (some (u 18))) 2 (some (u 20))) 3 (some (u 22)))))))), (u 16, .inr (6, [.int 0, .int (-1), .ref (u 17)])), (u 17, .inl (E 2, 60, .inr (.inl (fun _ => 0)))), (u 18, .inr (6, [.int 0, .int (-1), .ref (u 19)])), (u 19, .inl (E 2, 60, .inr (.inl (fun _ => 0)))), (u 20, .inr (6, [.int 0, .int (-1), .ref (u 21)])), (u 21, .inl (E 2, 60, .inr (.inl (fun _ => 0)))), (u 22, .inr (6, [.int 0, .int (-1), .ref (u 23)])), (u 23, .inl (E 2, 60, .inr (.inl (fun _ => 0))))]) [0, 16, 17, 18, 19, 20, 21, 22, 23, 24] (by decide) rfl
      refine lv_if_ne (tgt := 22) hx hb dX7_row_4 (by decide) (fun h9 => absurd (by decide) h9) (fun _ => ?_)
      refine lv_iload_n hx hb dX7_row_7 rfl (lv_at hl 2 rfl) ?_
      refine lv_if_lt (tgt := 22) hx hb dX7_row_8 (by decide) (fun h9 => absurd h9 (in_nlt h_30)) (fun _ => ?_)
      refine lv_iload_n hx hb dX7_row_11 rfl (lv_at hl 2 rfl) ?_
      refine lv_iconst (v := 3) hx hb dX7_row_12 (by decide) ?_
      refine lv_icmp_gt (tgt := 22) hx hb dX7_row_13 (by decide) (fun h9 => absurd h9 (in_ngt h_30)) (fun _ => ?_)
      refine lv_iload_n hx hb dX7_row_16 rfl (lv_at hl 3 rfl) ?_
      refine lv_bipush (v := 60) hx hb dX7_row_17 (by decide) ?_
      refine lv_icmp_le (tgt := 25) hx hb dX7_row_19 (by decide) (fun h_35 => ?_) (fun h_35 => ?_)
      · refine lv_iload_n hx hb dX7_row_25 rfl (lv_at hl 3 rfl) ?_
        refine lv_if_ge (tgt := 32) hx hb dX7_row_26 (by decide) (fun h_36 => ?_) (fun h_36 => ?_)
        · refine lv_aload_n hx hb dX7_row_32 rfl (lv_at hl 0 rfl) ?_
          refine va_get (ci := 7) (v := .ref (u 15)) (C := RX7) (T := TX7) (N := 14) hx hb hts in_m_X_row_X7 hown hK hP 0 rfl rfl 13 (by decide) (hts (.fieldLink RX7 50 "UnseenClock" "rows" "[LUnseenClock$Row;") (List.mem_of_getElem? (i := 5) rfl)) (fun _ h9 => h9) rfl dX7_row_33 ?_
          refine lv_iload_n hx hb dX7_row_36 rfl (lv_at hl 1 rfl) ?_
          refine va_aldq hx hb hK hP 1 7 rfl rfl (by unfold vp_in; decide) dX7_row_37 ?_
          refine lv_tov (y := .ref (u 20)) rfl ?_
          refine lv_iload_n hx hb dX7_row_38 rfl (lv_at hl 2 rfl) ?_
          refine lv_iload_n hx hb dX7_row_39 rfl (lv_at hl 3 rfl) ?_
          have hPc := hP.sub (ws' := [(u 20, .inr (6, [.int 0, .int (-1), .ref (u 21)])), (u 21, .inl (E 2, 60, .inr (.inl (fun _ => 0))))]) [6, 7] rfl
          have hDc := hD.sub (ws' := [(u 20, .inr (6, [.int 0, .int (-1), .ref (u 21)])), (u 21, .inl (E 2, 60, .inr (.inl (fun _ => 0))))]) [6, 7] (by decide) rfl
          refine k_v (wr := []) (va_runV (As := [.int a2, .int a3]) (rest := []) ⟨hx, hb, hml, hown, hts⟩ (m_begin l D E s.heap.size (u 20) (u 21) a2 a3) (cwV 2 hts g_m_X_row_m_begin rfl rfl rfl (by decide +kernel) ⟨Nat.le_of_ble_eq_true rfl, Nat.le_of_ble_eq_true rfl⟩) ⟨pre_blind, va_recv hK hPc (ci := 6) (q0 := 0) rfl rfl, pre_at hPc hK hDc hN⟩ rfl rfl hl.1 rfl (lv_room (Nat.le_of_ble_eq_true rfl)) dX7_row_40 ⟨Nat.le_of_ble_eq_true rfl, Nat.le_of_ble_eq_true rfl⟩) hP hD hS hA [6, 7] [] rfl rfl (by decide +kernel) (by decide +kernel) (fun u_37 H locs hw hP hD hS => ?_)
          have hP : va_P D vwCl [] H := hP
          have hD : va_D A [] := hD
          refine lv_iconst (v := 0) hx hb dX7_row_43 (by decide) ?_
          exact e_i (v := 0) hx hb hr rfl (()) (row_e (by decide) h_30 h_35 h_36) p_nil d_nil hS hlocks dX7_row_44
        · refine lv_bipush (v := (-3)) hx hb dX7_row_29 (by decide) ?_
          exact e_i (v := (-3)) hx hb hr rfl (()) (row_d (by decide) h_30 h_35 h_36) p_nil d_nil hS hlocks dX7_row_31
      · refine lv_bipush (v := (-2)) hx hb dX7_row_22 (by decide) ?_
        exact e_i (v := (-2)) hx hb hr rfl (()) (row_c h_35) p_nil d_nil hS hlocks dX7_row_24
    · refine lv_iload_n hx hb dX7_row_0 rfl (lv_at hl 1 rfl) ?_
      refine vp_callSi (W.runS (As := [.int 2]) (rest := []) ⟨hx, hb, hml, hown, hts⟩ (r_X_noSlot l D E s.heap.size h0 u 2) (va_cwS 1 hts g_m_X_row_r_X_noSlot rfl rfl rfl (by decide +kernel) ⟨Nat.le_of_ble_eq_true rfl, Nat.le_of_ble_eq_true rfl⟩) ⟨pre_blind, pre_at hP hK hD hN⟩ rfl rfl hl.1 rfl (lv_room (Nat.le_of_ble_eq_true rfl)) dX7_row_1 ⟨Nat.le_of_ble_eq_true rfl, Nat.le_of_ble_eq_true rfl⟩) (fun r_39 er_39 => ?_)
      subst er_39
      refine lv_toc (y := 0) (by decide) ?_
      have hP := hP.sub (ws' := [(h0, .inr (7, [.ref (u 1), .int 0, .ref (u 2), .int 0, .int (-1), .ref (u 0), .ref (u 3), .ref (u 6), .ref (u 98), .int 0, .ref (u 7), .null, .int 0, .ref (u 15)])), (u 15, .inl (E 7, 4, .inr (.inr (.inr (.inr (va_up (va_up (va_up (va_up (fun _ => none) 0 (some (u 16))) 1 (some (u 18))) 2 (some (u 20))) 3 (some (u 22)))))))), (u 16, .inr (6, [.int 0, .int (-1), .ref (u 17)])), (u 17, .inl (E 2, 60, .inr (.inl (fun _ => 0)))), (u 18, .inr (6, [.int 0, .int (-1), .ref (u 19)])), (u 19, .inl (E 2, 60, .inr (.inl (fun _ => 0)))), (u 20, .inr (6, [.int 0, .int (-1), .ref (u 21)])), (u 21, .inl (E 2, 60, .inr (.inl (fun _ => 0)))), (u 22, .inr (6, [.int 0, .int (-1), .ref (u 23)])), (u 23, .inl (E 2, 60, .inr (.inl (fun _ => 0))))]) [0, 16, 17, 18, 19, 20, 21, 22, 23, 24] rfl
      have hD := hD.sub (ws' := [(h0, .inr (7, [.ref (u 1), .int 0, .ref (u 2), .int 0, .int (-1), .ref (u 0), .ref (u 3), .ref (u 6), .ref (u 98), .int 0, .ref (u 7), .null, .int 0, .ref (u 15)])), (u 15, .inl (E 7, 4, .inr (.inr (.inr (.inr (va_up (va_up (va_up (va_up (fun _ => none) 0 (some (u 16))) 1 (some (u 18))) 2 (some (u 20))) 3 (some (u 22)))))))), (u 16, .inr (6, [.int 0, .int (-1), .ref (u 17)])), (u 17, .inl (E 2, 60, .inr (.inl (fun _ => 0)))), (u 18, .inr (6, [.int 0, .int (-1), .ref (u 19)])), (u 19, .inl (E 2, 60, .inr (.inl (fun _ => 0)))), (u 20, .inr (6, [.int 0, .int (-1), .ref (u 21)])), (u 21, .inl (E 2, 60, .inr (.inl (fun _ => 0)))), (u 22, .inr (6, [.int 0, .int (-1), .ref (u 23)])), (u 23, .inl (E 2, 60, .inr (.inl (fun _ => 0))))]) [0, 16, 17, 18, 19, 20, 21, 22, 23, 24] (by decide) rfl
      refine lv_if_ne (tgt := 22) hx hb dX7_row_4 (by decide) (fun h9 => absurd (by decide) h9) (fun _ => ?_)
      refine lv_iload_n hx hb dX7_row_7 rfl (lv_at hl 2 rfl) ?_
      refine lv_if_lt (tgt := 22) hx hb dX7_row_8 (by decide) (fun h_41 => ?_) (fun h_41 => ?_)
      · refine lv_bipush (v := (-2)) hx hb dX7_row_22 (by decide) ?_
        exact e_i (v := (-2)) hx hb hr rfl (()) (row_b h_30) p_nil d_nil hS hlocks dX7_row_24
      · refine lv_iload_n hx hb dX7_row_11 rfl (lv_at hl 2 rfl) ?_
        refine lv_iconst (v := 3) hx hb dX7_row_12 (by decide) ?_
        refine lv_icmp_gt (tgt := 22) hx hb dX7_row_13 (by decide) (fun _ => ?_) (fun h9 => absurd (out_gt h_30 h_41) h9)
        refine lv_bipush (v := (-2)) hx hb dX7_row_22 (by decide) ?_
        exact e_i (v := (-2)) hx hb hr rfl (()) (row_b h_30) p_nil d_nil hS hlocks dX7_row_24
  · rcases Classical.em (0 ≤ a2.toInt ∧ a2.toInt ≤ 3) with h_43 | h_43
    · refine lv_iload_n hx hb dX7_row_0 rfl (lv_at hl 1 rfl) ?_
      refine vp_callSi (W.runS (As := [.int 3]) (rest := []) ⟨hx, hb, hml, hown, hts⟩ (r_X_noSlot l D E s.heap.size h0 u 3) (va_cwS 1 hts g_m_X_row_r_X_noSlot rfl rfl rfl (by decide +kernel) ⟨Nat.le_of_ble_eq_true rfl, Nat.le_of_ble_eq_true rfl⟩) ⟨pre_blind, pre_at hP hK hD hN⟩ rfl rfl hl.1 rfl (lv_room (Nat.le_of_ble_eq_true rfl)) dX7_row_1 ⟨Nat.le_of_ble_eq_true rfl, Nat.le_of_ble_eq_true rfl⟩) (fun r_44 er_44 => ?_)
      subst er_44
      refine lv_toc (y := 0) (by decide) ?_
      have hP := hP.sub (ws' := [(h0, .inr (7, [.ref (u 1), .int 0, .ref (u 2), .int 0, .int (-1), .ref (u 0), .ref (u 3), .ref (u 6), .ref (u 98), .int 0, .ref (u 7), .null, .int 0, .ref (u 15)])), (u 15, .inl (E 7, 4, .inr (.inr (.inr (.inr (va_up (va_up (va_up (va_up (fun _ => none) 0 (some (u 16))) 1 (some (u 18))) 2 (some (u 20))) 3 (some (u 22)))))))), (u 16, .inr (6, [.int 0, .int (-1), .ref (u 17)])), (u 17, .inl (E 2, 60, .inr (.inl (fun _ => 0)))), (u 18, .inr (6, [.int 0, .int (-1), .ref (u 19)])), (u 19, .inl (E 2, 60, .inr (.inl (fun _ => 0)))), (u 20, .inr (6, [.int 0, .int (-1), .ref (u 21)])), (u 21, .inl (E 2, 60, .inr (.inl (fun _ => 0)))), (u 22, .inr (6, [.int 0, .int (-1), .ref (u 23)])), (u 23, .inl (E 2, 60, .inr (.inl (fun _ => 0))))]) [0, 16, 17, 18, 19, 20, 21, 22, 23, 24] rfl
      have hD := hD.sub (ws' := [(h0, .inr (7, [.ref (u 1), .int 0, .ref (u 2), .int 0, .int (-1), .ref (u 0), .ref (u 3), .ref (u 6), .ref (u 98), .int 0, .ref (u 7), .null, .int 0, .ref (u 15)])), (u 15, .inl (E 7, 4, .inr (.inr (.inr (.inr (va_up (va_up (va_up (va_up (fun _ => none) 0 (some (u 16))) 1 (some (u 18))) 2 (some (u 20))) 3 (some (u 22)))))))), (u 16, .inr (6, [.int 0, .int (-1), .ref (u 17)])), (u 17, .inl (E 2, 60, .inr (.inl (fun _ => 0)))), (u 18, .inr (6, [.int 0, .int (-1), .ref (u 19)])), (u 19, .inl (E 2, 60, .inr (.inl (fun _ => 0)))), (u 20, .inr (6, [.int 0, .int (-1), .ref (u 21)])), (u 21, .inl (E 2, 60, .inr (.inl (fun _ => 0)))), (u 22, .inr (6, [.int 0, .int (-1), .ref (u 23)])), (u 23, .inl (E 2, 60, .inr (.inl (fun _ => 0))))]) [0, 16, 17, 18, 19, 20, 21, 22, 23, 24] (by decide) rfl
      refine lv_if_ne (tgt := 22) hx hb dX7_row_4 (by decide) (fun h9 => absurd (by decide) h9) (fun _ => ?_)
      refine lv_iload_n hx hb dX7_row_7 rfl (lv_at hl 2 rfl) ?_
      refine lv_if_lt (tgt := 22) hx hb dX7_row_8 (by decide) (fun h9 => absurd h9 (in_nlt h_43)) (fun _ => ?_)
      refine lv_iload_n hx hb dX7_row_11 rfl (lv_at hl 2 rfl) ?_
      refine lv_iconst (v := 3) hx hb dX7_row_12 (by decide) ?_
      refine lv_icmp_gt (tgt := 22) hx hb dX7_row_13 (by decide) (fun h9 => absurd h9 (in_ngt h_43)) (fun _ => ?_)
      refine lv_iload_n hx hb dX7_row_16 rfl (lv_at hl 3 rfl) ?_
      refine lv_bipush (v := 60) hx hb dX7_row_17 (by decide) ?_
      refine lv_icmp_le (tgt := 25) hx hb dX7_row_19 (by decide) (fun h_48 => ?_) (fun h_48 => ?_)
      · refine lv_iload_n hx hb dX7_row_25 rfl (lv_at hl 3 rfl) ?_
        refine lv_if_ge (tgt := 32) hx hb dX7_row_26 (by decide) (fun h_49 => ?_) (fun h_49 => ?_)
        · refine lv_aload_n hx hb dX7_row_32 rfl (lv_at hl 0 rfl) ?_
          refine va_get (ci := 7) (v := .ref (u 15)) (C := RX7) (T := TX7) (N := 14) hx hb hts in_m_X_row_X7 hown hK hP 0 rfl rfl 13 (by decide) (hts (.fieldLink RX7 50 "UnseenClock" "rows" "[LUnseenClock$Row;") (List.mem_of_getElem? (i := 5) rfl)) (fun _ h9 => h9) rfl dX7_row_33 ?_
          refine lv_iload_n hx hb dX7_row_36 rfl (lv_at hl 1 rfl) ?_
          refine va_aldq hx hb hK hP 1 7 rfl rfl (by unfold vp_in; decide) dX7_row_37 ?_
          refine lv_tov (y := .ref (u 22)) rfl ?_
          refine lv_iload_n hx hb dX7_row_38 rfl (lv_at hl 2 rfl) ?_
          refine lv_iload_n hx hb dX7_row_39 rfl (lv_at hl 3 rfl) ?_
          have hPc := hP.sub (ws' := [(u 22, .inr (6, [.int 0, .int (-1), .ref (u 23)])), (u 23, .inl (E 2, 60, .inr (.inl (fun _ => 0))))]) [8, 9] rfl
          have hDc := hD.sub (ws' := [(u 22, .inr (6, [.int 0, .int (-1), .ref (u 23)])), (u 23, .inl (E 2, 60, .inr (.inl (fun _ => 0))))]) [8, 9] (by decide) rfl
          refine k_v (wr := []) (va_runV (As := [.int a2, .int a3]) (rest := []) ⟨hx, hb, hml, hown, hts⟩ (m_begin l D E s.heap.size (u 22) (u 23) a2 a3) (cwV 2 hts g_m_X_row_m_begin rfl rfl rfl (by decide +kernel) ⟨Nat.le_of_ble_eq_true rfl, Nat.le_of_ble_eq_true rfl⟩) ⟨pre_blind, va_recv hK hPc (ci := 6) (q0 := 0) rfl rfl, pre_at hPc hK hDc hN⟩ rfl rfl hl.1 rfl (lv_room (Nat.le_of_ble_eq_true rfl)) dX7_row_40 ⟨Nat.le_of_ble_eq_true rfl, Nat.le_of_ble_eq_true rfl⟩) hP hD hS hA [8, 9] [] rfl rfl (by decide +kernel) (by decide +kernel) (fun u_50 H locs hw hP hD hS => ?_)
          have hP : va_P D vwCl [] H := hP
          have hD : va_D A [] := hD
          refine lv_iconst (v := 0) hx hb dX7_row_43 (by decide) ?_
          exact e_i (v := 0) hx hb hr rfl (()) (row_e (by decide) h_43 h_48 h_49) p_nil d_nil hS hlocks dX7_row_44
        · refine lv_bipush (v := (-3)) hx hb dX7_row_29 (by decide) ?_
          exact e_i (v := (-3)) hx hb hr rfl (()) (row_d (by decide) h_43 h_48 h_49) p_nil d_nil hS hlocks dX7_row_31
      · refine lv_bipush (v := (-2)) hx hb dX7_row_22 (by decide) ?_
        exact e_i (v := (-2)) hx hb hr rfl (()) (row_c h_48) p_nil d_nil hS hlocks dX7_row_24
    · refine lv_iload_n hx hb dX7_row_0 rfl (lv_at hl 1 rfl) ?_
      refine vp_callSi (W.runS (As := [.int 3]) (rest := []) ⟨hx, hb, hml, hown, hts⟩ (r_X_noSlot l D E s.heap.size h0 u 3) (va_cwS 1 hts g_m_X_row_r_X_noSlot rfl rfl rfl (by decide +kernel) ⟨Nat.le_of_ble_eq_true rfl, Nat.le_of_ble_eq_true rfl⟩) ⟨pre_blind, pre_at hP hK hD hN⟩ rfl rfl hl.1 rfl (lv_room (Nat.le_of_ble_eq_true rfl)) dX7_row_1 ⟨Nat.le_of_ble_eq_true rfl, Nat.le_of_ble_eq_true rfl⟩) (fun r_52 er_52 => ?_)
      subst er_52
      refine lv_toc (y := 0) (by decide) ?_
      have hP := hP.sub (ws' := [(h0, .inr (7, [.ref (u 1), .int 0, .ref (u 2), .int 0, .int (-1), .ref (u 0), .ref (u 3), .ref (u 6), .ref (u 98), .int 0, .ref (u 7), .null, .int 0, .ref (u 15)])), (u 15, .inl (E 7, 4, .inr (.inr (.inr (.inr (va_up (va_up (va_up (va_up (fun _ => none) 0 (some (u 16))) 1 (some (u 18))) 2 (some (u 20))) 3 (some (u 22)))))))), (u 16, .inr (6, [.int 0, .int (-1), .ref (u 17)])), (u 17, .inl (E 2, 60, .inr (.inl (fun _ => 0)))), (u 18, .inr (6, [.int 0, .int (-1), .ref (u 19)])), (u 19, .inl (E 2, 60, .inr (.inl (fun _ => 0)))), (u 20, .inr (6, [.int 0, .int (-1), .ref (u 21)])), (u 21, .inl (E 2, 60, .inr (.inl (fun _ => 0)))), (u 22, .inr (6, [.int 0, .int (-1), .ref (u 23)])), (u 23, .inl (E 2, 60, .inr (.inl (fun _ => 0))))]) [0, 16, 17, 18, 19, 20, 21, 22, 23, 24] rfl
      have hD := hD.sub (ws' := [(h0, .inr (7, [.ref (u 1), .int 0, .ref (u 2), .int 0, .int (-1), .ref (u 0), .ref (u 3), .ref (u 6), .ref (u 98), .int 0, .ref (u 7), .null, .int 0, .ref (u 15)])), (u 15, .inl (E 7, 4, .inr (.inr (.inr (.inr (va_up (va_up (va_up (va_up (fun _ => none) 0 (some (u 16))) 1 (some (u 18))) 2 (some (u 20))) 3 (some (u 22)))))))), (u 16, .inr (6, [.int 0, .int (-1), .ref (u 17)])), (u 17, .inl (E 2, 60, .inr (.inl (fun _ => 0)))), (u 18, .inr (6, [.int 0, .int (-1), .ref (u 19)])), (u 19, .inl (E 2, 60, .inr (.inl (fun _ => 0)))), (u 20, .inr (6, [.int 0, .int (-1), .ref (u 21)])), (u 21, .inl (E 2, 60, .inr (.inl (fun _ => 0)))), (u 22, .inr (6, [.int 0, .int (-1), .ref (u 23)])), (u 23, .inl (E 2, 60, .inr (.inl (fun _ => 0))))]) [0, 16, 17, 18, 19, 20, 21, 22, 23, 24] (by decide) rfl
      refine lv_if_ne (tgt := 22) hx hb dX7_row_4 (by decide) (fun h9 => absurd (by decide) h9) (fun _ => ?_)
      refine lv_iload_n hx hb dX7_row_7 rfl (lv_at hl 2 rfl) ?_
      refine lv_if_lt (tgt := 22) hx hb dX7_row_8 (by decide) (fun h_54 => ?_) (fun h_54 => ?_)
      · refine lv_bipush (v := (-2)) hx hb dX7_row_22 (by decide) ?_
        exact e_i (v := (-2)) hx hb hr rfl (()) (row_b h_43) p_nil d_nil hS hlocks dX7_row_24
      · refine lv_iload_n hx hb dX7_row_11 rfl (lv_at hl 2 rfl) ?_
        refine lv_iconst (v := 3) hx hb dX7_row_12 (by decide) ?_
        refine lv_icmp_gt (tgt := 22) hx hb dX7_row_13 (by decide) (fun _ => ?_) (fun h9 => absurd (out_gt h_43 h_54) h9)
        refine lv_bipush (v := (-2)) hx hb dX7_row_22 (by decide) ?_
        exact e_i (v := (-2)) hx hb hr rfl (()) (row_b h_43) p_nil d_nil hS hlocks dX7_row_24

def v_m_M_row : List Cond := .code yX8_row cX8_row 5 (some .int) :: ([.constantLong RX8 482 (3), .code yX8_in cX8_in 6 (some .boolean), .methodLink RX8 104 yX8_in, .static yX8_in, .initialized RX8, .code yX8_isSlot cX8_isSlot 1 (some .boolean), .methodLink RX8 416 yX8_isSlot, .static yX8_isSlot, .fieldLink RX8 86 "UnseenClockModel" "many" "[I", .fieldLink RX8 89 "UnseenClockModel" "width" "[I", .fieldLink RX8 92 "UnseenClockModel" "numbers" "[J"] ++ (wsX80))
theorem in_m_M_row_X8 : ∀ w ∈ u_ws RX8 TX8 41, w ∈ v_m_M_row := fun w h => List.mem_cons_of_mem _ (List.mem_append_right _ (h))
set_option maxRecDepth 20000 in
theorem g_m_M_row_r_M_isSlot : GoodIn v_m_M_row (va_wsS RX8 416 yX8_isSlot v_r_M_isSlot) := g_rows _ [7, 8, 5, 6, 1, 2, 3, 4, 5] rfl (by decide +kernel)
set_option maxRecDepth 20000 in
theorem g_m_M_row_r_M_in : GoodIn v_m_M_row (va_wsS RX8 104 yX8_in v_r_M_in) := g_rows _ [3, 4, 5, 2] rfl (by decide +kernel)
set_option maxHeartbeats 2000000 in
set_option maxRecDepth 100000 in
theorem m_M_row (l : Launch) (D : va_G) (E : Nat → ClassId) (sz : Nat) (h0 : Nat) (u : Nat → Nat) (a1 : Int32) (a2 : Int32) (a3 : Int32) : Met l yX8_row v_m_M_row ({ frames := 2, cells := 0, slots := 0, locals := 45 }) (va_Pc [.ref h0, .int a1, .int a2, .int a3] (pre D E (wM E h0 u) sz)) (qI (S := Unit) (fun r _ => r = rowA a1 a2 a3) (fun _ => []) D (va_A (wM E h0 u) sz)) 0 0 (va_A (wM E h0 u) sz) := by
  refine c_int (cc := cX8_row) (maxL := 5) (ret := (some .int)) (by decide) rfl (Nat.le_of_ble_eq_true rfl) ?_
  intro p e s m below meth c ls A ⟨hx, hb, hr, hts, hown, hlocks, hin, hml⟩ hP hK hD hN hA hS hl
  have hown : s.vm.findClass RX8 = some m.cls := hown
  have hl : lv_has ls 5 [(0, .ref h0), (1, .int a1), (2, .int a2), (3, .int a3)] := hl
  rcases cs4 a1 with h_1 | rfl | rfl | rfl | rfl
  · refine lv_iload_n hx hb dX8_row_0 rfl (lv_at hl 1 rfl) ?_
    refine vp_callSi (W.runS (As := [.int a1]) (rest := []) ⟨hx, hb, hml, hown, hts⟩ (r_M_isSlot l D E s.heap.size h0 u a1) (va_cwS 1 hts g_m_M_row_r_M_isSlot rfl rfl rfl (by decide +kernel) ⟨Nat.le_of_ble_eq_true rfl, Nat.le_of_ble_eq_true rfl⟩) ⟨pre_blind, pre_at hP hK hD hN⟩ rfl rfl hl.1 rfl (lv_room (Nat.le_of_ble_eq_true rfl)) dX8_row_1 ⟨Nat.le_of_ble_eq_true rfl, Nat.le_of_ble_eq_true rfl⟩) (fun r_2 er_2 => ?_)
    subst er_2
    refine lv_toc (y := 0) (if_neg h_1) ?_
    refine lv_if_eq (tgt := 25) hx hb dX8_row_4 (by decide) (fun _ => ?_) (fun h9 => absurd (by decide) h9)
    refine lv_bipush (v := (-2)) hx hb dX8_row_25 (by decide) ?_
    exact e_i (v := (-2)) hx hb hr rfl (()) (row_a h_1) p_nil d_nil hS hlocks dX8_row_27
  · rcases Classical.em (0 ≤ a2.toInt ∧ a2.toInt ≤ 3) with h_4 | h_4
    · refine lv_iload_n hx hb dX8_row_0 rfl (lv_at hl 1 rfl) ?_
      refine vp_callSi (W.runS (As := [.int 0]) (rest := []) ⟨hx, hb, hml, hown, hts⟩ (r_M_isSlot l D E s.heap.size h0 u 0) (va_cwS 1 hts g_m_M_row_r_M_isSlot rfl rfl rfl (by decide +kernel) ⟨Nat.le_of_ble_eq_true rfl, Nat.le_of_ble_eq_true rfl⟩) ⟨pre_blind, pre_at hP hK hD hN⟩ rfl rfl hl.1 rfl (lv_room (Nat.le_of_ble_eq_true rfl)) dX8_row_1 ⟨Nat.le_of_ble_eq_true rfl, Nat.le_of_ble_eq_true rfl⟩) (fun r_5 er_5 => ?_)
      subst er_5
      refine lv_toc (y := 1) (by decide) ?_
      refine lv_if_eq (tgt := 25) hx hb dX8_row_4 (by decide) (fun h9 => absurd h9 (by decide)) (fun _ => ?_)
      refine lv_iload_n hx hb dX8_row_7 rfl (lv_at hl 2 rfl) ?_
      refine lv_i2l (v := Int32.toInt64 a2) hx hb dX8_row_8 rfl ?_
      refine lv_lconst (v := 0) hx hb dX8_row_9 (by decide) ?_
      refine lv_ldc2 (v := 3) hx hb hown (hts (.constantLong RX8 482 (3)) (List.mem_of_getElem? (i := 1) rfl)) dX8_row_10 ?_
      refine vp_callSi (W.runS (As := [.long (Int32.toInt64 a2), .long 0, .long 3]) (rest := []) ⟨hx, hb, hml, hown, hts⟩ (r_M_in l D E s.heap.size h0 u (Int32.toInt64 a2) 0 3) (va_cwS 3 hts g_m_M_row_r_M_in rfl rfl rfl (by decide +kernel) ⟨Nat.le_of_ble_eq_true rfl, Nat.le_of_ble_eq_true rfl⟩) ⟨pre_blind, pre_at hP hK hD hN⟩ rfl rfl hl.1 rfl (lv_room (Nat.le_of_ble_eq_true rfl)) dX8_row_13 ⟨Nat.le_of_ble_eq_true rfl, Nat.le_of_ble_eq_true rfl⟩) (fun r_7 er_7 => ?_)
      subst er_7
      refine lv_toc (y := 1) (in_in (n := 3) (by decide) h_4) ?_
      refine lv_if_eq (tgt := 25) hx hb dX8_row_16 (by decide) (fun h9 => absurd h9 (by decide)) (fun _ => ?_)
      refine lv_iload_n hx hb dX8_row_19 rfl (lv_at hl 3 rfl) ?_
      refine lv_bipush (v := 60) hx hb dX8_row_20 (by decide) ?_
      refine lv_icmp_le (tgt := 28) hx hb dX8_row_22 (by decide) (fun h_9 => ?_) (fun h_9 => ?_)
      · refine lv_iload_n hx hb dX8_row_28 rfl (lv_at hl 3 rfl) ?_
        refine lv_if_ge (tgt := 35) hx hb dX8_row_29 (by decide) (fun h_10 => ?_) (fun h_10 => ?_)
        · refine lv_aload_n hx hb dX8_row_35 rfl (lv_at hl 0 rfl) ?_
          refine va_get (ci := 8) (v := .ref (u 6)) (C := RX8) (T := TX8) (N := 41) hx hb hts in_m_M_row_X8 hown hK hP 0 rfl rfl 37 (by decide) (hts (.fieldLink RX8 86 "UnseenClockModel" "many" "[I") (List.mem_of_getElem? (i := 9) rfl)) (fun _ h9 => h9) rfl dX8_row_36 ?_
          refine lv_iload_n hx hb dX8_row_39 rfl (lv_at hl 1 rfl) ?_
          refine lv_iload_n hx hb dX8_row_40 rfl (lv_at hl 3 rfl) ?_
          refine va_iast hx hb hK hP hD hS 7 0 rfl rfl (by unfold vp_in; decide) dX8_row_41 (fun H locs hP hD hS => ?_)
          have hP : va_P D vwCl [(h0, .inr (8, [.int 0, .ref (u 0), .ref (u 1), .ref (u 2), .ref (u 3), .int 0, .ref (u 4), .int 0, .int 0, .int 0, .int 0, .int 0, .int 0, .int (-1), .ref (u 5), .ref (u 9), .ref (u 10), .ref (u 11), .ref (u 12), .ref (u 13), .ref (u 14), .ref (u 15), .int 0, .ref (u 16), .int 0, .ref (u 17), .ref (u 18), .ref (u 19), .int 0, .long 0, .ref (u 20), .ref (u 21), .ref (u 22), .ref (u 23), .int 0, .ref (u 24), .ref (u 25), .ref (u 6), .ref (u 7), .ref (u 8), .ref (u 26)])), (u 0, .inl (E 0, 320, .inl (fun _ => 0))), (u 1, .inl (E 0, 960, .inl (fun _ => 0))), (u 2, .inl (E 3, 3, .inl (fun _ => 0))), (u 3, .inl (E 1, 2400, .inl (fun _ => 0))), (u 4, .inl (E 0, 5, .inl (fun _ => 0))), (u 5, .inl (E 0, 320, .inl (fun _ => 0))), (u 6, .inl (E 0, 4, .inl (upd (upd (upd (upd (upd (fun _ => 0) 0 (-1)) 1 (-1)) 2 (-1)) 3 (-1)) 0 a3))), (u 7, .inl (E 0, 4, .inl (fun _ => 0))), (u 8, .inl (E 2, 240, .inr (.inl (fun _ => 0))))] H := hP
          have hD : va_D A [(h0, .inr (8, [.int 0, .ref (u 0), .ref (u 1), .ref (u 2), .ref (u 3), .int 0, .ref (u 4), .int 0, .int 0, .int 0, .int 0, .int 0, .int 0, .int (-1), .ref (u 5), .ref (u 9), .ref (u 10), .ref (u 11), .ref (u 12), .ref (u 13), .ref (u 14), .ref (u 15), .int 0, .ref (u 16), .int 0, .ref (u 17), .ref (u 18), .ref (u 19), .int 0, .long 0, .ref (u 20), .ref (u 21), .ref (u 22), .ref (u 23), .int 0, .ref (u 24), .ref (u 25), .ref (u 6), .ref (u 7), .ref (u 8), .ref (u 26)])), (u 0, .inl (E 0, 320, .inl (fun _ => 0))), (u 1, .inl (E 0, 960, .inl (fun _ => 0))), (u 2, .inl (E 3, 3, .inl (fun _ => 0))), (u 3, .inl (E 1, 2400, .inl (fun _ => 0))), (u 4, .inl (E 0, 5, .inl (fun _ => 0))), (u 5, .inl (E 0, 320, .inl (fun _ => 0))), (u 6, .inl (E 0, 4, .inl (upd (upd (upd (upd (upd (fun _ => 0) 0 (-1)) 1 (-1)) 2 (-1)) 3 (-1)) 0 a3))), (u 7, .inl (E 0, 4, .inl (fun _ => 0))), (u 8, .inl (E 2, 240, .inr (.inl (fun _ => 0))))] := hD
          refine lv_aload_n hx hb dX8_row_42 rfl (lv_at hl 0 rfl) ?_
          refine va_get (ci := 8) (v := .ref (u 7)) (C := RX8) (T := TX8) (N := 41) hx hb hts in_m_M_row_X8 hown hK hP 0 rfl rfl 38 (by decide) (hts (.fieldLink RX8 89 "UnseenClockModel" "width" "[I") (List.mem_of_getElem? (i := 10) rfl)) (fun _ h9 => h9) rfl dX8_row_43 ?_
          refine lv_iload_n hx hb dX8_row_46 rfl (lv_at hl 1 rfl) ?_
          refine lv_iload_n hx hb dX8_row_47 rfl (lv_at hl 2 rfl) ?_
          refine va_iast hx hb hK hP hD hS 8 0 rfl rfl (by unfold vp_in; decide) dX8_row_48 (fun H locs hP hD hS => ?_)
          have hP : va_P D vwCl [(h0, .inr (8, [.int 0, .ref (u 0), .ref (u 1), .ref (u 2), .ref (u 3), .int 0, .ref (u 4), .int 0, .int 0, .int 0, .int 0, .int 0, .int 0, .int (-1), .ref (u 5), .ref (u 9), .ref (u 10), .ref (u 11), .ref (u 12), .ref (u 13), .ref (u 14), .ref (u 15), .int 0, .ref (u 16), .int 0, .ref (u 17), .ref (u 18), .ref (u 19), .int 0, .long 0, .ref (u 20), .ref (u 21), .ref (u 22), .ref (u 23), .int 0, .ref (u 24), .ref (u 25), .ref (u 6), .ref (u 7), .ref (u 8), .ref (u 26)])), (u 0, .inl (E 0, 320, .inl (fun _ => 0))), (u 1, .inl (E 0, 960, .inl (fun _ => 0))), (u 2, .inl (E 3, 3, .inl (fun _ => 0))), (u 3, .inl (E 1, 2400, .inl (fun _ => 0))), (u 4, .inl (E 0, 5, .inl (fun _ => 0))), (u 5, .inl (E 0, 320, .inl (fun _ => 0))), (u 6, .inl (E 0, 4, .inl (upd (upd (upd (upd (upd (fun _ => 0) 0 (-1)) 1 (-1)) 2 (-1)) 3 (-1)) 0 a3))), (u 7, .inl (E 0, 4, .inl (upd (fun _ => 0) 0 a2))), (u 8, .inl (E 2, 240, .inr (.inl (fun _ => 0))))] H := hP
          have hD : va_D A [(h0, .inr (8, [.int 0, .ref (u 0), .ref (u 1), .ref (u 2), .ref (u 3), .int 0, .ref (u 4), .int 0, .int 0, .int 0, .int 0, .int 0, .int 0, .int (-1), .ref (u 5), .ref (u 9), .ref (u 10), .ref (u 11), .ref (u 12), .ref (u 13), .ref (u 14), .ref (u 15), .int 0, .ref (u 16), .int 0, .ref (u 17), .ref (u 18), .ref (u 19), .int 0, .long 0, .ref (u 20), .ref (u 21), .ref (u 22), .ref (u 23), .int 0, .ref (u 24), .ref (u 25), .ref (u 6), .ref (u 7), .ref (u 8), .ref (u 26)])), (u 0, .inl (E 0, 320, .inl (fun _ => 0))), (u 1, .inl (E 0, 960, .inl (fun _ => 0))), (u 2, .inl (E 3, 3, .inl (fun _ => 0))), (u 3, .inl (E 1, 2400, .inl (fun _ => 0))), (u 4, .inl (E 0, 5, .inl (fun _ => 0))), (u 5, .inl (E 0, 320, .inl (fun _ => 0))), (u 6, .inl (E 0, 4, .inl (upd (upd (upd (upd (upd (fun _ => 0) 0 (-1)) 1 (-1)) 2 (-1)) 3 (-1)) 0 a3))), (u 7, .inl (E 0, 4, .inl (upd (fun _ => 0) 0 a2))), (u 8, .inl (E 2, 240, .inr (.inl (fun _ => 0))))] := hD
          refine lv_iconst (v := 0) hx hb dX8_row_49 (by decide) ?_
          refine lv_istore (lv' := [(4, .int 0), (0, .ref h0), (1, .int 0), (2, .int a2), (3, .int a3)]) hx hb dX8_row_50 hl (by decide) rfl (fun ls hl => ?_)
          have loopk_11 : ∀ (nk_11 ik_11 : Nat), ik_11 ≤ 60 → 61 ≤ ik_11 + nk_11 → ∀ (g : Nat → Int64) (H : Heap) (locs : List Loc), va_P D vwCl [(h0, .inr (8, [.int 0, .ref (u 0), .ref (u 1), .ref (u 2), .ref (u 3), .int 0, .ref (u 4), .int 0, .int 0, .int 0, .int 0, .int 0, .int 0, .int (-1), .ref (u 5), .ref (u 9), .ref (u 10), .ref (u 11), .ref (u 12), .ref (u 13), .ref (u 14), .ref (u 15), .int 0, .ref (u 16), .int 0, .ref (u 17), .ref (u 18), .ref (u 19), .int 0, .long 0, .ref (u 20), .ref (u 21), .ref (u 22), .ref (u 23), .int 0, .ref (u 24), .ref (u 25), .ref (u 6), .ref (u 7), .ref (u 8), .ref (u 26)])), (u 0, .inl (E 0, 320, .inl (fun _ => 0))), (u 1, .inl (E 0, 960, .inl (fun _ => 0))), (u 2, .inl (E 3, 3, .inl (fun _ => 0))), (u 3, .inl (E 1, 2400, .inl (fun _ => 0))), (u 4, .inl (E 0, 5, .inl (fun _ => 0))), (u 5, .inl (E 0, 320, .inl (fun _ => 0))), (u 6, .inl (E 0, 4, .inl (upd (upd (upd (upd (upd (fun _ => 0) 0 (-1)) 1 (-1)) 2 (-1)) 3 (-1)) 0 a3))), (u 7, .inl (E 0, 4, .inl (upd (fun _ => 0) 0 a2))), (u 8, .inl (E 2, 240, .inr (.inl g)))] H → va_D A [(h0, .inr (8, [.int 0, .ref (u 0), .ref (u 1), .ref (u 2), .ref (u 3), .int 0, .ref (u 4), .int 0, .int 0, .int 0, .int 0, .int 0, .int 0, .int (-1), .ref (u 5), .ref (u 9), .ref (u 10), .ref (u 11), .ref (u 12), .ref (u 13), .ref (u 14), .ref (u 15), .int 0, .ref (u 16), .int 0, .ref (u 17), .ref (u 18), .ref (u 19), .int 0, .long 0, .ref (u 20), .ref (u 21), .ref (u 22), .ref (u 23), .int 0, .ref (u 24), .ref (u 25), .ref (u 6), .ref (u 7), .ref (u 8), .ref (u 26)])), (u 0, .inl (E 0, 320, .inl (fun _ => 0))), (u 1, .inl (E 0, 960, .inl (fun _ => 0))), (u 2, .inl (E 3, 3, .inl (fun _ => 0))), (u 3, .inl (E 1, 2400, .inl (fun _ => 0))), (u 4, .inl (E 0, 5, .inl (fun _ => 0))), (u 5, .inl (E 0, 320, .inl (fun _ => 0))), (u 6, .inl (E 0, 4, .inl (upd (upd (upd (upd (upd (fun _ => 0) 0 (-1)) 1 (-1)) 2 (-1)) 3 (-1)) 0 a3))), (u 7, .inl (E 0, 4, .inl (upd (fun _ => 0) 0 a2))), (u 8, .inl (E 2, 240, .inr (.inl g)))] → va_S A s.heap H locs → ∀ (ls : Array Slot), lv_has ls 5 [(4, .int (nI ik_11)), (0, .ref h0), (1, .int 0), (2, .int a2), (3, .int a3)] → W p l e (headSpec v_m_M_row ({ frames := 2, cells := 0, slots := 0, locals := 45 })).room s m ([.ref h0, .int (0 : Int32), .int a2, .int a3].toArray) below meth c H locs 0 0 (MQ below (qI (S := Unit) (fun r _ => r = rowA (0 : Int32) a2 a3) (fun _ => []) D A) ([.ref h0, .int (0 : Int32), .int a2, .int a3].toArray) s 0 0 A) (F0 m 52 ls []) := by
            intro nk_11
            induction nk_11 with
            | zero => intro ik_11 h1 h2; exact absurd h2 (by omega)
            | succ nk_11 ihk_11 =>
              intro ik_11 hik_11 hnk_11 g H locs hP hD hS ls hl
              refine lv_iload hx hb dX8_row_52 (lv_at hl 0 rfl) ?_
              refine lv_bipush (v := 60) hx hb dX8_row_54 (by decide) ?_
              refine lv_icmp_ge (tgt := 78) hx hb dX8_row_56 (by decide) (fun h_12 => ?_) (fun h_12 => ?_)
              · refine lv_iconst (v := 0) hx hb dX8_row_78 (by decide) ?_
                exact e_i (v := 0) hx hb hr rfl (()) (row_e (by decide) h_4 h_9 h_10) p_nil d_nil hS hlocks dX8_row_79
              · have hltik_11 : ik_11 < 60 := lt_nI (B := 60) (c := 60) (by decide) (by decide) hik_11 h_12
                refine lv_aload_n hx hb dX8_row_59 rfl (lv_at hl 1 rfl) ?_
                refine va_get (ci := 8) (v := .ref (u 8)) (C := RX8) (T := TX8) (N := 41) hx hb hts in_m_M_row_X8 hown hK hP 0 rfl rfl 39 (by decide) (hts (.fieldLink RX8 92 "UnseenClockModel" "numbers" "[J") (List.mem_of_getElem? (i := 11) rfl)) (fun _ h9 => h9) rfl dX8_row_60 ?_
                refine lv_bipush (v := 60) hx hb dX8_row_63 (by decide) ?_
                refine lv_iload_n hx hb dX8_row_65 rfl (lv_at hl 2 rfl) ?_
                refine lv_imul hx hb dX8_row_66 ?_
                refine lv_toc (y := 0) (by decide) ?_
                refine lv_iload hx hb dX8_row_67 (lv_at hl 0 rfl) ?_
                refine lv_iadd hx hb dX8_row_69 ?_
                refine lv_toc (y := nI (0 + ik_11)) (nI_add 0 ik_11) ?_
                refine lv_lconst (v := 0) hx hb dX8_row_70 (by decide) ?_
                refine va_last hx hb hK hP hD hS 9 2 rfl rfl (vp_in_nI (by omega) (by omega)) dX8_row_71 (fun H locs hP hD hS => ?_)
                have hP : va_P D vwCl [(h0, .inr (8, [.int 0, .ref (u 0), .ref (u 1), .ref (u 2), .ref (u 3), .int 0, .ref (u 4), .int 0, .int 0, .int 0, .int 0, .int 0, .int 0, .int (-1), .ref (u 5), .ref (u 9), .ref (u 10), .ref (u 11), .ref (u 12), .ref (u 13), .ref (u 14), .ref (u 15), .int 0, .ref (u 16), .int 0, .ref (u 17), .ref (u 18), .ref (u 19), .int 0, .long 0, .ref (u 20), .ref (u 21), .ref (u 22), .ref (u 23), .int 0, .ref (u 24), .ref (u 25), .ref (u 6), .ref (u 7), .ref (u 8), .ref (u 26)])), (u 0, .inl (E 0, 320, .inl (fun _ => 0))), (u 1, .inl (E 0, 960, .inl (fun _ => 0))), (u 2, .inl (E 3, 3, .inl (fun _ => 0))), (u 3, .inl (E 1, 2400, .inl (fun _ => 0))), (u 4, .inl (E 0, 5, .inl (fun _ => 0))), (u 5, .inl (E 0, 320, .inl (fun _ => 0))), (u 6, .inl (E 0, 4, .inl (upd (upd (upd (upd (upd (fun _ => 0) 0 (-1)) 1 (-1)) 2 (-1)) 3 (-1)) 0 a3))), (u 7, .inl (E 0, 4, .inl (upd (fun _ => 0) 0 a2))), (u 8, .inl (E 2, 240, .inr (.inl (vp_updL g (Int32.toNatClampNeg (nI (0 + ik_11))) 0))))] H := hP
                have hD : va_D A [(h0, .inr (8, [.int 0, .ref (u 0), .ref (u 1), .ref (u 2), .ref (u 3), .int 0, .ref (u 4), .int 0, .int 0, .int 0, .int 0, .int 0, .int 0, .int (-1), .ref (u 5), .ref (u 9), .ref (u 10), .ref (u 11), .ref (u 12), .ref (u 13), .ref (u 14), .ref (u 15), .int 0, .ref (u 16), .int 0, .ref (u 17), .ref (u 18), .ref (u 19), .int 0, .long 0, .ref (u 20), .ref (u 21), .ref (u 22), .ref (u 23), .int 0, .ref (u 24), .ref (u 25), .ref (u 6), .ref (u 7), .ref (u 8), .ref (u 26)])), (u 0, .inl (E 0, 320, .inl (fun _ => 0))), (u 1, .inl (E 0, 960, .inl (fun _ => 0))), (u 2, .inl (E 3, 3, .inl (fun _ => 0))), (u 3, .inl (E 1, 2400, .inl (fun _ => 0))), (u 4, .inl (E 0, 5, .inl (fun _ => 0))), (u 5, .inl (E 0, 320, .inl (fun _ => 0))), (u 6, .inl (E 0, 4, .inl (upd (upd (upd (upd (upd (fun _ => 0) 0 (-1)) 1 (-1)) 2 (-1)) 3 (-1)) 0 a3))), (u 7, .inl (E 0, 4, .inl (upd (fun _ => 0) 0 a2))), (u 8, .inl (E 2, 240, .inr (.inl (vp_updL g (Int32.toNatClampNeg (nI (0 + ik_11))) 0))))] := hD
                refine lv_iinc (v := nI (ik_11 + 1)) (lv' := [(4, .int (nI (ik_11 + 1))), (0, .ref h0), (1, .int 0), (2, .int a2), (3, .int a3)]) hx hb dX8_row_72 hl (k := 0) rfl (by rw [← nI_1]; rfl) (by decide) rfl (fun ls hl => ?_)
                refine lv_goto (tgt := 52) hx hb dX8_row_75 (by decide) ?_
                exact ihk_11 (ik_11 + 1) (by omega) (by omega) _ _ _ hP hD hS ls (lv_sub hl [0, 1, 2, 3, 4] rfl)
          exact loopk_11 61 0 (Nat.zero_le _) (by omega) _ _ _ hP hD hS ls (lv_sub hl [0, 1, 2, 3, 4] rfl)
        · refine lv_bipush (v := (-3)) hx hb dX8_row_32 (by decide) ?_
          exact e_i (v := (-3)) hx hb hr rfl (()) (row_d (by decide) h_4 h_9 h_10) p_nil d_nil hS hlocks dX8_row_34
      · refine lv_bipush (v := (-2)) hx hb dX8_row_25 (by decide) ?_
        exact e_i (v := (-2)) hx hb hr rfl (()) (row_c h_9) p_nil d_nil hS hlocks dX8_row_27
    · refine lv_iload_n hx hb dX8_row_0 rfl (lv_at hl 1 rfl) ?_
      refine vp_callSi (W.runS (As := [.int 0]) (rest := []) ⟨hx, hb, hml, hown, hts⟩ (r_M_isSlot l D E s.heap.size h0 u 0) (va_cwS 1 hts g_m_M_row_r_M_isSlot rfl rfl rfl (by decide +kernel) ⟨Nat.le_of_ble_eq_true rfl, Nat.le_of_ble_eq_true rfl⟩) ⟨pre_blind, pre_at hP hK hD hN⟩ rfl rfl hl.1 rfl (lv_room (Nat.le_of_ble_eq_true rfl)) dX8_row_1 ⟨Nat.le_of_ble_eq_true rfl, Nat.le_of_ble_eq_true rfl⟩) (fun r_13 er_13 => ?_)
      subst er_13
      refine lv_toc (y := 1) (by decide) ?_
      refine lv_if_eq (tgt := 25) hx hb dX8_row_4 (by decide) (fun h9 => absurd h9 (by decide)) (fun _ => ?_)
      refine lv_iload_n hx hb dX8_row_7 rfl (lv_at hl 2 rfl) ?_
      refine lv_i2l (v := Int32.toInt64 a2) hx hb dX8_row_8 rfl ?_
      refine lv_lconst (v := 0) hx hb dX8_row_9 (by decide) ?_
      refine lv_ldc2 (v := 3) hx hb hown (hts (.constantLong RX8 482 (3)) (List.mem_of_getElem? (i := 1) rfl)) dX8_row_10 ?_
      refine vp_callSi (W.runS (As := [.long (Int32.toInt64 a2), .long 0, .long 3]) (rest := []) ⟨hx, hb, hml, hown, hts⟩ (r_M_in l D E s.heap.size h0 u (Int32.toInt64 a2) 0 3) (va_cwS 3 hts g_m_M_row_r_M_in rfl rfl rfl (by decide +kernel) ⟨Nat.le_of_ble_eq_true rfl, Nat.le_of_ble_eq_true rfl⟩) ⟨pre_blind, pre_at hP hK hD hN⟩ rfl rfl hl.1 rfl (lv_room (Nat.le_of_ble_eq_true rfl)) dX8_row_13 ⟨Nat.le_of_ble_eq_true rfl, Nat.le_of_ble_eq_true rfl⟩) (fun r_15 er_15 => ?_)
      subst er_15
      refine lv_toc (y := 0) (in_out (n := 3) (by decide) h_4) ?_
      refine lv_if_eq (tgt := 25) hx hb dX8_row_16 (by decide) (fun _ => ?_) (fun h9 => absurd (by decide) h9)
      refine lv_bipush (v := (-2)) hx hb dX8_row_25 (by decide) ?_
      exact e_i (v := (-2)) hx hb hr rfl (()) (row_b h_4) p_nil d_nil hS hlocks dX8_row_27
  · rcases Classical.em (0 ≤ a2.toInt ∧ a2.toInt ≤ 3) with h_17 | h_17
    · refine lv_iload_n hx hb dX8_row_0 rfl (lv_at hl 1 rfl) ?_
      refine vp_callSi (W.runS (As := [.int 1]) (rest := []) ⟨hx, hb, hml, hown, hts⟩ (r_M_isSlot l D E s.heap.size h0 u 1) (va_cwS 1 hts g_m_M_row_r_M_isSlot rfl rfl rfl (by decide +kernel) ⟨Nat.le_of_ble_eq_true rfl, Nat.le_of_ble_eq_true rfl⟩) ⟨pre_blind, pre_at hP hK hD hN⟩ rfl rfl hl.1 rfl (lv_room (Nat.le_of_ble_eq_true rfl)) dX8_row_1 ⟨Nat.le_of_ble_eq_true rfl, Nat.le_of_ble_eq_true rfl⟩) (fun r_18 er_18 => ?_)
      subst er_18
      refine lv_toc (y := 1) (by decide) ?_
      refine lv_if_eq (tgt := 25) hx hb dX8_row_4 (by decide) (fun h9 => absurd h9 (by decide)) (fun _ => ?_)
      refine lv_iload_n hx hb dX8_row_7 rfl (lv_at hl 2 rfl) ?_
      refine lv_i2l (v := Int32.toInt64 a2) hx hb dX8_row_8 rfl ?_
      refine lv_lconst (v := 0) hx hb dX8_row_9 (by decide) ?_
      refine lv_ldc2 (v := 3) hx hb hown (hts (.constantLong RX8 482 (3)) (List.mem_of_getElem? (i := 1) rfl)) dX8_row_10 ?_
      refine vp_callSi (W.runS (As := [.long (Int32.toInt64 a2), .long 0, .long 3]) (rest := []) ⟨hx, hb, hml, hown, hts⟩ (r_M_in l D E s.heap.size h0 u (Int32.toInt64 a2) 0 3) (va_cwS 3 hts g_m_M_row_r_M_in rfl rfl rfl (by decide +kernel) ⟨Nat.le_of_ble_eq_true rfl, Nat.le_of_ble_eq_true rfl⟩) ⟨pre_blind, pre_at hP hK hD hN⟩ rfl rfl hl.1 rfl (lv_room (Nat.le_of_ble_eq_true rfl)) dX8_row_13 ⟨Nat.le_of_ble_eq_true rfl, Nat.le_of_ble_eq_true rfl⟩) (fun r_20 er_20 => ?_)
      subst er_20
      refine lv_toc (y := 1) (in_in (n := 3) (by decide) h_17) ?_
      refine lv_if_eq (tgt := 25) hx hb dX8_row_16 (by decide) (fun h9 => absurd h9 (by decide)) (fun _ => ?_)
      refine lv_iload_n hx hb dX8_row_19 rfl (lv_at hl 3 rfl) ?_
      refine lv_bipush (v := 60) hx hb dX8_row_20 (by decide) ?_
      refine lv_icmp_le (tgt := 28) hx hb dX8_row_22 (by decide) (fun h_22 => ?_) (fun h_22 => ?_)
      · refine lv_iload_n hx hb dX8_row_28 rfl (lv_at hl 3 rfl) ?_
        refine lv_if_ge (tgt := 35) hx hb dX8_row_29 (by decide) (fun h_23 => ?_) (fun h_23 => ?_)
        · refine lv_aload_n hx hb dX8_row_35 rfl (lv_at hl 0 rfl) ?_
          refine va_get (ci := 8) (v := .ref (u 6)) (C := RX8) (T := TX8) (N := 41) hx hb hts in_m_M_row_X8 hown hK hP 0 rfl rfl 37 (by decide) (hts (.fieldLink RX8 86 "UnseenClockModel" "many" "[I") (List.mem_of_getElem? (i := 9) rfl)) (fun _ h9 => h9) rfl dX8_row_36 ?_
          refine lv_iload_n hx hb dX8_row_39 rfl (lv_at hl 1 rfl) ?_
          refine lv_iload_n hx hb dX8_row_40 rfl (lv_at hl 3 rfl) ?_
          refine va_iast hx hb hK hP hD hS 7 0 rfl rfl (by unfold vp_in; decide) dX8_row_41 (fun H locs hP hD hS => ?_)
          have hP : va_P D vwCl [(h0, .inr (8, [.int 0, .ref (u 0), .ref (u 1), .ref (u 2), .ref (u 3), .int 0, .ref (u 4), .int 0, .int 0, .int 0, .int 0, .int 0, .int 0, .int (-1), .ref (u 5), .ref (u 9), .ref (u 10), .ref (u 11), .ref (u 12), .ref (u 13), .ref (u 14), .ref (u 15), .int 0, .ref (u 16), .int 0, .ref (u 17), .ref (u 18), .ref (u 19), .int 0, .long 0, .ref (u 20), .ref (u 21), .ref (u 22), .ref (u 23), .int 0, .ref (u 24), .ref (u 25), .ref (u 6), .ref (u 7), .ref (u 8), .ref (u 26)])), (u 0, .inl (E 0, 320, .inl (fun _ => 0))), (u 1, .inl (E 0, 960, .inl (fun _ => 0))), (u 2, .inl (E 3, 3, .inl (fun _ => 0))), (u 3, .inl (E 1, 2400, .inl (fun _ => 0))), (u 4, .inl (E 0, 5, .inl (fun _ => 0))), (u 5, .inl (E 0, 320, .inl (fun _ => 0))), (u 6, .inl (E 0, 4, .inl (upd (upd (upd (upd (upd (fun _ => 0) 0 (-1)) 1 (-1)) 2 (-1)) 3 (-1)) 1 a3))), (u 7, .inl (E 0, 4, .inl (fun _ => 0))), (u 8, .inl (E 2, 240, .inr (.inl (fun _ => 0))))] H := hP
          have hD : va_D A [(h0, .inr (8, [.int 0, .ref (u 0), .ref (u 1), .ref (u 2), .ref (u 3), .int 0, .ref (u 4), .int 0, .int 0, .int 0, .int 0, .int 0, .int 0, .int (-1), .ref (u 5), .ref (u 9), .ref (u 10), .ref (u 11), .ref (u 12), .ref (u 13), .ref (u 14), .ref (u 15), .int 0, .ref (u 16), .int 0, .ref (u 17), .ref (u 18), .ref (u 19), .int 0, .long 0, .ref (u 20), .ref (u 21), .ref (u 22), .ref (u 23), .int 0, .ref (u 24), .ref (u 25), .ref (u 6), .ref (u 7), .ref (u 8), .ref (u 26)])), (u 0, .inl (E 0, 320, .inl (fun _ => 0))), (u 1, .inl (E 0, 960, .inl (fun _ => 0))), (u 2, .inl (E 3, 3, .inl (fun _ => 0))), (u 3, .inl (E 1, 2400, .inl (fun _ => 0))), (u 4, .inl (E 0, 5, .inl (fun _ => 0))), (u 5, .inl (E 0, 320, .inl (fun _ => 0))), (u 6, .inl (E 0, 4, .inl (upd (upd (upd (upd (upd (fun _ => 0) 0 (-1)) 1 (-1)) 2 (-1)) 3 (-1)) 1 a3))), (u 7, .inl (E 0, 4, .inl (fun _ => 0))), (u 8, .inl (E 2, 240, .inr (.inl (fun _ => 0))))] := hD
          refine lv_aload_n hx hb dX8_row_42 rfl (lv_at hl 0 rfl) ?_
          refine va_get (ci := 8) (v := .ref (u 7)) (C := RX8) (T := TX8) (N := 41) hx hb hts in_m_M_row_X8 hown hK hP 0 rfl rfl 38 (by decide) (hts (.fieldLink RX8 89 "UnseenClockModel" "width" "[I") (List.mem_of_getElem? (i := 10) rfl)) (fun _ h9 => h9) rfl dX8_row_43 ?_
          refine lv_iload_n hx hb dX8_row_46 rfl (lv_at hl 1 rfl) ?_
          refine lv_iload_n hx hb dX8_row_47 rfl (lv_at hl 2 rfl) ?_
          refine va_iast hx hb hK hP hD hS 8 0 rfl rfl (by unfold vp_in; decide) dX8_row_48 (fun H locs hP hD hS => ?_)
          have hP : va_P D vwCl [(h0, .inr (8, [.int 0, .ref (u 0), .ref (u 1), .ref (u 2), .ref (u 3), .int 0, .ref (u 4), .int 0, .int 0, .int 0, .int 0, .int 0, .int 0, .int (-1), .ref (u 5), .ref (u 9), .ref (u 10), .ref (u 11), .ref (u 12), .ref (u 13), .ref (u 14), .ref (u 15), .int 0, .ref (u 16), .int 0, .ref (u 17), .ref (u 18), .ref (u 19), .int 0, .long 0, .ref (u 20), .ref (u 21), .ref (u 22), .ref (u 23), .int 0, .ref (u 24), .ref (u 25), .ref (u 6), .ref (u 7), .ref (u 8), .ref (u 26)])), (u 0, .inl (E 0, 320, .inl (fun _ => 0))), (u 1, .inl (E 0, 960, .inl (fun _ => 0))), (u 2, .inl (E 3, 3, .inl (fun _ => 0))), (u 3, .inl (E 1, 2400, .inl (fun _ => 0))), (u 4, .inl (E 0, 5, .inl (fun _ => 0))), (u 5, .inl (E 0, 320, .inl (fun _ => 0))), (u 6, .inl (E 0, 4, .inl (upd (upd (upd (upd (upd (fun _ => 0) 0 (-1)) 1 (-1)) 2 (-1)) 3 (-1)) 1 a3))), (u 7, .inl (E 0, 4, .inl (upd (fun _ => 0) 1 a2))), (u 8, .inl (E 2, 240, .inr (.inl (fun _ => 0))))] H := hP
          have hD : va_D A [(h0, .inr (8, [.int 0, .ref (u 0), .ref (u 1), .ref (u 2), .ref (u 3), .int 0, .ref (u 4), .int 0, .int 0, .int 0, .int 0, .int 0, .int 0, .int (-1), .ref (u 5), .ref (u 9), .ref (u 10), .ref (u 11), .ref (u 12), .ref (u 13), .ref (u 14), .ref (u 15), .int 0, .ref (u 16), .int 0, .ref (u 17), .ref (u 18), .ref (u 19), .int 0, .long 0, .ref (u 20), .ref (u 21), .ref (u 22), .ref (u 23), .int 0, .ref (u 24), .ref (u 25), .ref (u 6), .ref (u 7), .ref (u 8), .ref (u 26)])), (u 0, .inl (E 0, 320, .inl (fun _ => 0))), (u 1, .inl (E 0, 960, .inl (fun _ => 0))), (u 2, .inl (E 3, 3, .inl (fun _ => 0))), (u 3, .inl (E 1, 2400, .inl (fun _ => 0))), (u 4, .inl (E 0, 5, .inl (fun _ => 0))), (u 5, .inl (E 0, 320, .inl (fun _ => 0))), (u 6, .inl (E 0, 4, .inl (upd (upd (upd (upd (upd (fun _ => 0) 0 (-1)) 1 (-1)) 2 (-1)) 3 (-1)) 1 a3))), (u 7, .inl (E 0, 4, .inl (upd (fun _ => 0) 1 a2))), (u 8, .inl (E 2, 240, .inr (.inl (fun _ => 0))))] := hD
          refine lv_iconst (v := 0) hx hb dX8_row_49 (by decide) ?_
          refine lv_istore (lv' := [(4, .int 0), (0, .ref h0), (1, .int 1), (2, .int a2), (3, .int a3)]) hx hb dX8_row_50 hl (by decide) rfl (fun ls hl => ?_)
          have loopk_24 : ∀ (nk_24 ik_24 : Nat), ik_24 ≤ 60 → 61 ≤ ik_24 + nk_24 → ∀ (g : Nat → Int64) (H : Heap) (locs : List Loc), va_P D vwCl [(h0, .inr (8, [.int 0, .ref (u 0), .ref (u 1), .ref (u 2), .ref (u 3), .int 0, .ref (u 4), .int 0, .int 0, .int 0, .int 0, .int 0, .int 0, .int (-1), .ref (u 5), .ref (u 9), .ref (u 10), .ref (u 11), .ref (u 12), .ref (u 13), .ref (u 14), .ref (u 15), .int 0, .ref (u 16), .int 0, .ref (u 17), .ref (u 18), .ref (u 19), .int 0, .long 0, .ref (u 20), .ref (u 21), .ref (u 22), .ref (u 23), .int 0, .ref (u 24), .ref (u 25), .ref (u 6), .ref (u 7), .ref (u 8), .ref (u 26)])), (u 0, .inl (E 0, 320, .inl (fun _ => 0))), (u 1, .inl (E 0, 960, .inl (fun _ => 0))), (u 2, .inl (E 3, 3, .inl (fun _ => 0))), (u 3, .inl (E 1, 2400, .inl (fun _ => 0))), (u 4, .inl (E 0, 5, .inl (fun _ => 0))), (u 5, .inl (E 0, 320, .inl (fun _ => 0))), (u 6, .inl (E 0, 4, .inl (upd (upd (upd (upd (upd (fun _ => 0) 0 (-1)) 1 (-1)) 2 (-1)) 3 (-1)) 1 a3))), (u 7, .inl (E 0, 4, .inl (upd (fun _ => 0) 1 a2))), (u 8, .inl (E 2, 240, .inr (.inl g)))] H → va_D A [(h0, .inr (8, [.int 0, .ref (u 0), .ref (u 1), .ref (u 2), .ref (u 3), .int 0, .ref (u 4), .int 0, .int 0, .int 0, .int 0, .int 0, .int 0, .int (-1), .ref (u 5), .ref (u 9), .ref (u 10), .ref (u 11), .ref (u 12), .ref (u 13), .ref (u 14), .ref (u 15), .int 0, .ref (u 16), .int 0, .ref (u 17), .ref (u 18), .ref (u 19), .int 0, .long 0, .ref (u 20), .ref (u 21), .ref (u 22), .ref (u 23), .int 0, .ref (u 24), .ref (u 25), .ref (u 6), .ref (u 7), .ref (u 8), .ref (u 26)])), (u 0, .inl (E 0, 320, .inl (fun _ => 0))), (u 1, .inl (E 0, 960, .inl (fun _ => 0))), (u 2, .inl (E 3, 3, .inl (fun _ => 0))), (u 3, .inl (E 1, 2400, .inl (fun _ => 0))), (u 4, .inl (E 0, 5, .inl (fun _ => 0))), (u 5, .inl (E 0, 320, .inl (fun _ => 0))), (u 6, .inl (E 0, 4, .inl (upd (upd (upd (upd (upd (fun _ => 0) 0 (-1)) 1 (-1)) 2 (-1)) 3 (-1)) 1 a3))), (u 7, .inl (E 0, 4, .inl (upd (fun _ => 0) 1 a2))), (u 8, .inl (E 2, 240, .inr (.inl g)))] → va_S A s.heap H locs → ∀ (ls : Array Slot), lv_has ls 5 [(4, .int (nI ik_24)), (0, .ref h0), (1, .int 1), (2, .int a2), (3, .int a3)] → W p l e (headSpec v_m_M_row ({ frames := 2, cells := 0, slots := 0, locals := 45 })).room s m ([.ref h0, .int (1 : Int32), .int a2, .int a3].toArray) below meth c H locs 0 0 (MQ below (qI (S := Unit) (fun r _ => r = rowA (1 : Int32) a2 a3) (fun _ => []) D A) ([.ref h0, .int (1 : Int32), .int a2, .int a3].toArray) s 0 0 A) (F0 m 52 ls []) := by
            intro nk_24
            induction nk_24 with
            | zero => intro ik_24 h1 h2; exact absurd h2 (by omega)
            | succ nk_24 ihk_24 =>
              intro ik_24 hik_24 hnk_24 g H locs hP hD hS ls hl
              refine lv_iload hx hb dX8_row_52 (lv_at hl 0 rfl) ?_
              refine lv_bipush (v := 60) hx hb dX8_row_54 (by decide) ?_
              refine lv_icmp_ge (tgt := 78) hx hb dX8_row_56 (by decide) (fun h_25 => ?_) (fun h_25 => ?_)
              · refine lv_iconst (v := 0) hx hb dX8_row_78 (by decide) ?_
                exact e_i (v := 0) hx hb hr rfl (()) (row_e (by decide) h_17 h_22 h_23) p_nil d_nil hS hlocks dX8_row_79
              · have hltik_24 : ik_24 < 60 := lt_nI (B := 60) (c := 60) (by decide) (by decide) hik_24 h_25
                refine lv_aload_n hx hb dX8_row_59 rfl (lv_at hl 1 rfl) ?_
                refine va_get (ci := 8) (v := .ref (u 8)) (C := RX8) (T := TX8) (N := 41) hx hb hts in_m_M_row_X8 hown hK hP 0 rfl rfl 39 (by decide) (hts (.fieldLink RX8 92 "UnseenClockModel" "numbers" "[J") (List.mem_of_getElem? (i := 11) rfl)) (fun _ h9 => h9) rfl dX8_row_60 ?_
                refine lv_bipush (v := 60) hx hb dX8_row_63 (by decide) ?_
                refine lv_iload_n hx hb dX8_row_65 rfl (lv_at hl 2 rfl) ?_
                refine lv_imul hx hb dX8_row_66 ?_
                refine lv_toc (y := 60) (by decide) ?_
                refine lv_iload hx hb dX8_row_67 (lv_at hl 0 rfl) ?_
                refine lv_iadd hx hb dX8_row_69 ?_
                refine lv_toc (y := nI (60 + ik_24)) (nI_add 60 ik_24) ?_
                refine lv_lconst (v := 0) hx hb dX8_row_70 (by decide) ?_
                refine va_last hx hb hK hP hD hS 9 2 rfl rfl (vp_in_nI (by omega) (by omega)) dX8_row_71 (fun H locs hP hD hS => ?_)
                have hP : va_P D vwCl [(h0, .inr (8, [.int 0, .ref (u 0), .ref (u 1), .ref (u 2), .ref (u 3), .int 0, .ref (u 4), .int 0, .int 0, .int 0, .int 0, .int 0, .int 0, .int (-1), .ref (u 5), .ref (u 9), .ref (u 10), .ref (u 11), .ref (u 12), .ref (u 13), .ref (u 14), .ref (u 15), .int 0, .ref (u 16), .int 0, .ref (u 17), .ref (u 18), .ref (u 19), .int 0, .long 0, .ref (u 20), .ref (u 21), .ref (u 22), .ref (u 23), .int 0, .ref (u 24), .ref (u 25), .ref (u 6), .ref (u 7), .ref (u 8), .ref (u 26)])), (u 0, .inl (E 0, 320, .inl (fun _ => 0))), (u 1, .inl (E 0, 960, .inl (fun _ => 0))), (u 2, .inl (E 3, 3, .inl (fun _ => 0))), (u 3, .inl (E 1, 2400, .inl (fun _ => 0))), (u 4, .inl (E 0, 5, .inl (fun _ => 0))), (u 5, .inl (E 0, 320, .inl (fun _ => 0))), (u 6, .inl (E 0, 4, .inl (upd (upd (upd (upd (upd (fun _ => 0) 0 (-1)) 1 (-1)) 2 (-1)) 3 (-1)) 1 a3))), (u 7, .inl (E 0, 4, .inl (upd (fun _ => 0) 1 a2))), (u 8, .inl (E 2, 240, .inr (.inl (vp_updL g (Int32.toNatClampNeg (nI (60 + ik_24))) 0))))] H := hP
                have hD : va_D A [(h0, .inr (8, [.int 0, .ref (u 0), .ref (u 1), .ref (u 2), .ref (u 3), .int 0, .ref (u 4), .int 0, .int 0, .int 0, .int 0, .int 0, .int 0, .int (-1), .ref (u 5), .ref (u 9), .ref (u 10), .ref (u 11), .ref (u 12), .ref (u 13), .ref (u 14), .ref (u 15), .int 0, .ref (u 16), .int 0, .ref (u 17), .ref (u 18), .ref (u 19), .int 0, .long 0, .ref (u 20), .ref (u 21), .ref (u 22), .ref (u 23), .int 0, .ref (u 24), .ref (u 25), .ref (u 6), .ref (u 7), .ref (u 8), .ref (u 26)])), (u 0, .inl (E 0, 320, .inl (fun _ => 0))), (u 1, .inl (E 0, 960, .inl (fun _ => 0))), (u 2, .inl (E 3, 3, .inl (fun _ => 0))), (u 3, .inl (E 1, 2400, .inl (fun _ => 0))), (u 4, .inl (E 0, 5, .inl (fun _ => 0))), (u 5, .inl (E 0, 320, .inl (fun _ => 0))), (u 6, .inl (E 0, 4, .inl (upd (upd (upd (upd (upd (fun _ => 0) 0 (-1)) 1 (-1)) 2 (-1)) 3 (-1)) 1 a3))), (u 7, .inl (E 0, 4, .inl (upd (fun _ => 0) 1 a2))), (u 8, .inl (E 2, 240, .inr (.inl (vp_updL g (Int32.toNatClampNeg (nI (60 + ik_24))) 0))))] := hD
                refine lv_iinc (v := nI (ik_24 + 1)) (lv' := [(4, .int (nI (ik_24 + 1))), (0, .ref h0), (1, .int 1), (2, .int a2), (3, .int a3)]) hx hb dX8_row_72 hl (k := 0) rfl (by rw [← nI_1]; rfl) (by decide) rfl (fun ls hl => ?_)
                refine lv_goto (tgt := 52) hx hb dX8_row_75 (by decide) ?_
                exact ihk_24 (ik_24 + 1) (by omega) (by omega) _ _ _ hP hD hS ls (lv_sub hl [0, 1, 2, 3, 4] rfl)
          exact loopk_24 61 0 (Nat.zero_le _) (by omega) _ _ _ hP hD hS ls (lv_sub hl [0, 1, 2, 3, 4] rfl)
        · refine lv_bipush (v := (-3)) hx hb dX8_row_32 (by decide) ?_
          exact e_i (v := (-3)) hx hb hr rfl (()) (row_d (by decide) h_17 h_22 h_23) p_nil d_nil hS hlocks dX8_row_34
      · refine lv_bipush (v := (-2)) hx hb dX8_row_25 (by decide) ?_
        exact e_i (v := (-2)) hx hb hr rfl (()) (row_c h_22) p_nil d_nil hS hlocks dX8_row_27
    · refine lv_iload_n hx hb dX8_row_0 rfl (lv_at hl 1 rfl) ?_
      refine vp_callSi (W.runS (As := [.int 1]) (rest := []) ⟨hx, hb, hml, hown, hts⟩ (r_M_isSlot l D E s.heap.size h0 u 1) (va_cwS 1 hts g_m_M_row_r_M_isSlot rfl rfl rfl (by decide +kernel) ⟨Nat.le_of_ble_eq_true rfl, Nat.le_of_ble_eq_true rfl⟩) ⟨pre_blind, pre_at hP hK hD hN⟩ rfl rfl hl.1 rfl (lv_room (Nat.le_of_ble_eq_true rfl)) dX8_row_1 ⟨Nat.le_of_ble_eq_true rfl, Nat.le_of_ble_eq_true rfl⟩) (fun r_26 er_26 => ?_)
      subst er_26
      refine lv_toc (y := 1) (by decide) ?_
      refine lv_if_eq (tgt := 25) hx hb dX8_row_4 (by decide) (fun h9 => absurd h9 (by decide)) (fun _ => ?_)
      refine lv_iload_n hx hb dX8_row_7 rfl (lv_at hl 2 rfl) ?_
      refine lv_i2l (v := Int32.toInt64 a2) hx hb dX8_row_8 rfl ?_
      refine lv_lconst (v := 0) hx hb dX8_row_9 (by decide) ?_
      refine lv_ldc2 (v := 3) hx hb hown (hts (.constantLong RX8 482 (3)) (List.mem_of_getElem? (i := 1) rfl)) dX8_row_10 ?_
      refine vp_callSi (W.runS (As := [.long (Int32.toInt64 a2), .long 0, .long 3]) (rest := []) ⟨hx, hb, hml, hown, hts⟩ (r_M_in l D E s.heap.size h0 u (Int32.toInt64 a2) 0 3) (va_cwS 3 hts g_m_M_row_r_M_in rfl rfl rfl (by decide +kernel) ⟨Nat.le_of_ble_eq_true rfl, Nat.le_of_ble_eq_true rfl⟩) ⟨pre_blind, pre_at hP hK hD hN⟩ rfl rfl hl.1 rfl (lv_room (Nat.le_of_ble_eq_true rfl)) dX8_row_13 ⟨Nat.le_of_ble_eq_true rfl, Nat.le_of_ble_eq_true rfl⟩) (fun r_28 er_28 => ?_)
      subst er_28
      refine lv_toc (y := 0) (in_out (n := 3) (by decide) h_17) ?_
      refine lv_if_eq (tgt := 25) hx hb dX8_row_16 (by decide) (fun _ => ?_) (fun h9 => absurd (by decide) h9)
      refine lv_bipush (v := (-2)) hx hb dX8_row_25 (by decide) ?_
      exact e_i (v := (-2)) hx hb hr rfl (()) (row_b h_17) p_nil d_nil hS hlocks dX8_row_27
  · rcases Classical.em (0 ≤ a2.toInt ∧ a2.toInt ≤ 3) with h_30 | h_30
    · refine lv_iload_n hx hb dX8_row_0 rfl (lv_at hl 1 rfl) ?_
      refine vp_callSi (W.runS (As := [.int 2]) (rest := []) ⟨hx, hb, hml, hown, hts⟩ (r_M_isSlot l D E s.heap.size h0 u 2) (va_cwS 1 hts g_m_M_row_r_M_isSlot rfl rfl rfl (by decide +kernel) ⟨Nat.le_of_ble_eq_true rfl, Nat.le_of_ble_eq_true rfl⟩) ⟨pre_blind, pre_at hP hK hD hN⟩ rfl rfl hl.1 rfl (lv_room (Nat.le_of_ble_eq_true rfl)) dX8_row_1 ⟨Nat.le_of_ble_eq_true rfl, Nat.le_of_ble_eq_true rfl⟩) (fun r_31 er_31 => ?_)
      subst er_31
      refine lv_toc (y := 1) (by decide) ?_
      refine lv_if_eq (tgt := 25) hx hb dX8_row_4 (by decide) (fun h9 => absurd h9 (by decide)) (fun _ => ?_)
      refine lv_iload_n hx hb dX8_row_7 rfl (lv_at hl 2 rfl) ?_
      refine lv_i2l (v := Int32.toInt64 a2) hx hb dX8_row_8 rfl ?_
      refine lv_lconst (v := 0) hx hb dX8_row_9 (by decide) ?_
      refine lv_ldc2 (v := 3) hx hb hown (hts (.constantLong RX8 482 (3)) (List.mem_of_getElem? (i := 1) rfl)) dX8_row_10 ?_
      refine vp_callSi (W.runS (As := [.long (Int32.toInt64 a2), .long 0, .long 3]) (rest := []) ⟨hx, hb, hml, hown, hts⟩ (r_M_in l D E s.heap.size h0 u (Int32.toInt64 a2) 0 3) (va_cwS 3 hts g_m_M_row_r_M_in rfl rfl rfl (by decide +kernel) ⟨Nat.le_of_ble_eq_true rfl, Nat.le_of_ble_eq_true rfl⟩) ⟨pre_blind, pre_at hP hK hD hN⟩ rfl rfl hl.1 rfl (lv_room (Nat.le_of_ble_eq_true rfl)) dX8_row_13 ⟨Nat.le_of_ble_eq_true rfl, Nat.le_of_ble_eq_true rfl⟩) (fun r_33 er_33 => ?_)
      subst er_33
      refine lv_toc (y := 1) (in_in (n := 3) (by decide) h_30) ?_
      refine lv_if_eq (tgt := 25) hx hb dX8_row_16 (by decide) (fun h9 => absurd h9 (by decide)) (fun _ => ?_)
      refine lv_iload_n hx hb dX8_row_19 rfl (lv_at hl 3 rfl) ?_
      refine lv_bipush (v := 60) hx hb dX8_row_20 (by decide) ?_
      refine lv_icmp_le (tgt := 28) hx hb dX8_row_22 (by decide) (fun h_35 => ?_) (fun h_35 => ?_)
      · refine lv_iload_n hx hb dX8_row_28 rfl (lv_at hl 3 rfl) ?_
        refine lv_if_ge (tgt := 35) hx hb dX8_row_29 (by decide) (fun h_36 => ?_) (fun h_36 => ?_)
        · refine lv_aload_n hx hb dX8_row_35 rfl (lv_at hl 0 rfl) ?_
          refine va_get (ci := 8) (v := .ref (u 6)) (C := RX8) (T := TX8) (N := 41) hx hb hts in_m_M_row_X8 hown hK hP 0 rfl rfl 37 (by decide) (hts (.fieldLink RX8 86 "UnseenClockModel" "many" "[I") (List.mem_of_getElem? (i := 9) rfl)) (fun _ h9 => h9) rfl dX8_row_36 ?_
          refine lv_iload_n hx hb dX8_row_39 rfl (lv_at hl 1 rfl) ?_
          refine lv_iload_n hx hb dX8_row_40 rfl (lv_at hl 3 rfl) ?_
          refine va_iast hx hb hK hP hD hS 7 0 rfl rfl (by unfold vp_in; decide) dX8_row_41 (fun H locs hP hD hS => ?_)
          have hP : va_P D vwCl [(h0, .inr (8, [.int 0, .ref (u 0), .ref (u 1), .ref (u 2), .ref (u 3), .int 0, .ref (u 4), .int 0, .int 0, .int 0, .int 0, .int 0, .int 0, .int (-1), .ref (u 5), .ref (u 9), .ref (u 10), .ref (u 11), .ref (u 12), .ref (u 13), .ref (u 14), .ref (u 15), .int 0, .ref (u 16), .int 0, .ref (u 17), .ref (u 18), .ref (u 19), .int 0, .long 0, .ref (u 20), .ref (u 21), .ref (u 22), .ref (u 23), .int 0, .ref (u 24), .ref (u 25), .ref (u 6), .ref (u 7), .ref (u 8), .ref (u 26)])), (u 0, .inl (E 0, 320, .inl (fun _ => 0))), (u 1, .inl (E 0, 960, .inl (fun _ => 0))), (u 2, .inl (E 3, 3, .inl (fun _ => 0))), (u 3, .inl (E 1, 2400, .inl (fun _ => 0))), (u 4, .inl (E 0, 5, .inl (fun _ => 0))), (u 5, .inl (E 0, 320, .inl (fun _ => 0))), (u 6, .inl (E 0, 4, .inl (upd (upd (upd (upd (upd (fun _ => 0) 0 (-1)) 1 (-1)) 2 (-1)) 3 (-1)) 2 a3))), (u 7, .inl (E 0, 4, .inl (fun _ => 0))), (u 8, .inl (E 2, 240, .inr (.inl (fun _ => 0))))] H := hP
          have hD : va_D A [(h0, .inr (8, [.int 0, .ref (u 0), .ref (u 1), .ref (u 2), .ref (u 3), .int 0, .ref (u 4), .int 0, .int 0, .int 0, .int 0, .int 0, .int 0, .int (-1), .ref (u 5), .ref (u 9), .ref (u 10), .ref (u 11), .ref (u 12), .ref (u 13), .ref (u 14), .ref (u 15), .int 0, .ref (u 16), .int 0, .ref (u 17), .ref (u 18), .ref (u 19), .int 0, .long 0, .ref (u 20), .ref (u 21), .ref (u 22), .ref (u 23), .int 0, .ref (u 24), .ref (u 25), .ref (u 6), .ref (u 7), .ref (u 8), .ref (u 26)])), (u 0, .inl (E 0, 320, .inl (fun _ => 0))), (u 1, .inl (E 0, 960, .inl (fun _ => 0))), (u 2, .inl (E 3, 3, .inl (fun _ => 0))), (u 3, .inl (E 1, 2400, .inl (fun _ => 0))), (u 4, .inl (E 0, 5, .inl (fun _ => 0))), (u 5, .inl (E 0, 320, .inl (fun _ => 0))), (u 6, .inl (E 0, 4, .inl (upd (upd (upd (upd (upd (fun _ => 0) 0 (-1)) 1 (-1)) 2 (-1)) 3 (-1)) 2 a3))), (u 7, .inl (E 0, 4, .inl (fun _ => 0))), (u 8, .inl (E 2, 240, .inr (.inl (fun _ => 0))))] := hD
          refine lv_aload_n hx hb dX8_row_42 rfl (lv_at hl 0 rfl) ?_
          refine va_get (ci := 8) (v := .ref (u 7)) (C := RX8) (T := TX8) (N := 41) hx hb hts in_m_M_row_X8 hown hK hP 0 rfl rfl 38 (by decide) (hts (.fieldLink RX8 89 "UnseenClockModel" "width" "[I") (List.mem_of_getElem? (i := 10) rfl)) (fun _ h9 => h9) rfl dX8_row_43 ?_
          refine lv_iload_n hx hb dX8_row_46 rfl (lv_at hl 1 rfl) ?_
          refine lv_iload_n hx hb dX8_row_47 rfl (lv_at hl 2 rfl) ?_
          refine va_iast hx hb hK hP hD hS 8 0 rfl rfl (by unfold vp_in; decide) dX8_row_48 (fun H locs hP hD hS => ?_)
          have hP : va_P D vwCl [(h0, .inr (8, [.int 0, .ref (u 0), .ref (u 1), .ref (u 2), .ref (u 3), .int 0, .ref (u 4), .int 0, .int 0, .int 0, .int 0, .int 0, .int 0, .int (-1), .ref (u 5), .ref (u 9), .ref (u 10), .ref (u 11), .ref (u 12), .ref (u 13), .ref (u 14), .ref (u 15), .int 0, .ref (u 16), .int 0, .ref (u 17), .ref (u 18), .ref (u 19), .int 0, .long 0, .ref (u 20), .ref (u 21), .ref (u 22), .ref (u 23), .int 0, .ref (u 24), .ref (u 25), .ref (u 6), .ref (u 7), .ref (u 8), .ref (u 26)])), (u 0, .inl (E 0, 320, .inl (fun _ => 0))), (u 1, .inl (E 0, 960, .inl (fun _ => 0))), (u 2, .inl (E 3, 3, .inl (fun _ => 0))), (u 3, .inl (E 1, 2400, .inl (fun _ => 0))), (u 4, .inl (E 0, 5, .inl (fun _ => 0))), (u 5, .inl (E 0, 320, .inl (fun _ => 0))), (u 6, .inl (E 0, 4, .inl (upd (upd (upd (upd (upd (fun _ => 0) 0 (-1)) 1 (-1)) 2 (-1)) 3 (-1)) 2 a3))), (u 7, .inl (E 0, 4, .inl (upd (fun _ => 0) 2 a2))), (u 8, .inl (E 2, 240, .inr (.inl (fun _ => 0))))] H := hP
          have hD : va_D A [(h0, .inr (8, [.int 0, .ref (u 0), .ref (u 1), .ref (u 2), .ref (u 3), .int 0, .ref (u 4), .int 0, .int 0, .int 0, .int 0, .int 0, .int 0, .int (-1), .ref (u 5), .ref (u 9), .ref (u 10), .ref (u 11), .ref (u 12), .ref (u 13), .ref (u 14), .ref (u 15), .int 0, .ref (u 16), .int 0, .ref (u 17), .ref (u 18), .ref (u 19), .int 0, .long 0, .ref (u 20), .ref (u 21), .ref (u 22), .ref (u 23), .int 0, .ref (u 24), .ref (u 25), .ref (u 6), .ref (u 7), .ref (u 8), .ref (u 26)])), (u 0, .inl (E 0, 320, .inl (fun _ => 0))), (u 1, .inl (E 0, 960, .inl (fun _ => 0))), (u 2, .inl (E 3, 3, .inl (fun _ => 0))), (u 3, .inl (E 1, 2400, .inl (fun _ => 0))), (u 4, .inl (E 0, 5, .inl (fun _ => 0))), (u 5, .inl (E 0, 320, .inl (fun _ => 0))), (u 6, .inl (E 0, 4, .inl (upd (upd (upd (upd (upd (fun _ => 0) 0 (-1)) 1 (-1)) 2 (-1)) 3 (-1)) 2 a3))), (u 7, .inl (E 0, 4, .inl (upd (fun _ => 0) 2 a2))), (u 8, .inl (E 2, 240, .inr (.inl (fun _ => 0))))] := hD
          refine lv_iconst (v := 0) hx hb dX8_row_49 (by decide) ?_
          refine lv_istore (lv' := [(4, .int 0), (0, .ref h0), (1, .int 2), (2, .int a2), (3, .int a3)]) hx hb dX8_row_50 hl (by decide) rfl (fun ls hl => ?_)
          have loopk_37 : ∀ (nk_37 ik_37 : Nat), ik_37 ≤ 60 → 61 ≤ ik_37 + nk_37 → ∀ (g : Nat → Int64) (H : Heap) (locs : List Loc), va_P D vwCl [(h0, .inr (8, [.int 0, .ref (u 0), .ref (u 1), .ref (u 2), .ref (u 3), .int 0, .ref (u 4), .int 0, .int 0, .int 0, .int 0, .int 0, .int 0, .int (-1), .ref (u 5), .ref (u 9), .ref (u 10), .ref (u 11), .ref (u 12), .ref (u 13), .ref (u 14), .ref (u 15), .int 0, .ref (u 16), .int 0, .ref (u 17), .ref (u 18), .ref (u 19), .int 0, .long 0, .ref (u 20), .ref (u 21), .ref (u 22), .ref (u 23), .int 0, .ref (u 24), .ref (u 25), .ref (u 6), .ref (u 7), .ref (u 8), .ref (u 26)])), (u 0, .inl (E 0, 320, .inl (fun _ => 0))), (u 1, .inl (E 0, 960, .inl (fun _ => 0))), (u 2, .inl (E 3, 3, .inl (fun _ => 0))), (u 3, .inl (E 1, 2400, .inl (fun _ => 0))), (u 4, .inl (E 0, 5, .inl (fun _ => 0))), (u 5, .inl (E 0, 320, .inl (fun _ => 0))), (u 6, .inl (E 0, 4, .inl (upd (upd (upd (upd (upd (fun _ => 0) 0 (-1)) 1 (-1)) 2 (-1)) 3 (-1)) 2 a3))), (u 7, .inl (E 0, 4, .inl (upd (fun _ => 0) 2 a2))), (u 8, .inl (E 2, 240, .inr (.inl g)))] H → va_D A [(h0, .inr (8, [.int 0, .ref (u 0), .ref (u 1), .ref (u 2), .ref (u 3), .int 0, .ref (u 4), .int 0, .int 0, .int 0, .int 0, .int 0, .int 0, .int (-1), .ref (u 5), .ref (u 9), .ref (u 10), .ref (u 11), .ref (u 12), .ref (u 13), .ref (u 14), .ref (u 15), .int 0, .ref (u 16), .int 0, .ref (u 17), .ref (u 18), .ref (u 19), .int 0, .long 0, .ref (u 20), .ref (u 21), .ref (u 22), .ref (u 23), .int 0, .ref (u 24), .ref (u 25), .ref (u 6), .ref (u 7), .ref (u 8), .ref (u 26)])), (u 0, .inl (E 0, 320, .inl (fun _ => 0))), (u 1, .inl (E 0, 960, .inl (fun _ => 0))), (u 2, .inl (E 3, 3, .inl (fun _ => 0))), (u 3, .inl (E 1, 2400, .inl (fun _ => 0))), (u 4, .inl (E 0, 5, .inl (fun _ => 0))), (u 5, .inl (E 0, 320, .inl (fun _ => 0))), (u 6, .inl (E 0, 4, .inl (upd (upd (upd (upd (upd (fun _ => 0) 0 (-1)) 1 (-1)) 2 (-1)) 3 (-1)) 2 a3))), (u 7, .inl (E 0, 4, .inl (upd (fun _ => 0) 2 a2))), (u 8, .inl (E 2, 240, .inr (.inl g)))] → va_S A s.heap H locs → ∀ (ls : Array Slot), lv_has ls 5 [(4, .int (nI ik_37)), (0, .ref h0), (1, .int 2), (2, .int a2), (3, .int a3)] → W p l e (headSpec v_m_M_row ({ frames := 2, cells := 0, slots := 0, locals := 45 })).room s m ([.ref h0, .int (2 : Int32), .int a2, .int a3].toArray) below meth c H locs 0 0 (MQ below (qI (S := Unit) (fun r _ => r = rowA (2 : Int32) a2 a3) (fun _ => []) D A) ([.ref h0, .int (2 : Int32), .int a2, .int a3].toArray) s 0 0 A) (F0 m 52 ls []) := by
            intro nk_37
            induction nk_37 with
            | zero => intro ik_37 h1 h2; exact absurd h2 (by omega)
            | succ nk_37 ihk_37 =>
              intro ik_37 hik_37 hnk_37 g H locs hP hD hS ls hl
              refine lv_iload hx hb dX8_row_52 (lv_at hl 0 rfl) ?_
              refine lv_bipush (v := 60) hx hb dX8_row_54 (by decide) ?_
              refine lv_icmp_ge (tgt := 78) hx hb dX8_row_56 (by decide) (fun h_38 => ?_) (fun h_38 => ?_)
              · refine lv_iconst (v := 0) hx hb dX8_row_78 (by decide) ?_
                exact e_i (v := 0) hx hb hr rfl (()) (row_e (by decide) h_30 h_35 h_36) p_nil d_nil hS hlocks dX8_row_79
              · have hltik_37 : ik_37 < 60 := lt_nI (B := 60) (c := 60) (by decide) (by decide) hik_37 h_38
                refine lv_aload_n hx hb dX8_row_59 rfl (lv_at hl 1 rfl) ?_
                refine va_get (ci := 8) (v := .ref (u 8)) (C := RX8) (T := TX8) (N := 41) hx hb hts in_m_M_row_X8 hown hK hP 0 rfl rfl 39 (by decide) (hts (.fieldLink RX8 92 "UnseenClockModel" "numbers" "[J") (List.mem_of_getElem? (i := 11) rfl)) (fun _ h9 => h9) rfl dX8_row_60 ?_
                refine lv_bipush (v := 60) hx hb dX8_row_63 (by decide) ?_
                refine lv_iload_n hx hb dX8_row_65 rfl (lv_at hl 2 rfl) ?_
                refine lv_imul hx hb dX8_row_66 ?_
                refine lv_toc (y := 120) (by decide) ?_
                refine lv_iload hx hb dX8_row_67 (lv_at hl 0 rfl) ?_
                refine lv_iadd hx hb dX8_row_69 ?_
                refine lv_toc (y := nI (120 + ik_37)) (nI_add 120 ik_37) ?_
                refine lv_lconst (v := 0) hx hb dX8_row_70 (by decide) ?_
                refine va_last hx hb hK hP hD hS 9 2 rfl rfl (vp_in_nI (by omega) (by omega)) dX8_row_71 (fun H locs hP hD hS => ?_)
                have hP : va_P D vwCl [(h0, .inr (8, [.int 0, .ref (u 0), .ref (u 1), .ref (u 2), .ref (u 3), .int 0, .ref (u 4), .int 0, .int 0, .int 0, .int 0, .int 0, .int 0, .int (-1), .ref (u 5), .ref (u 9), .ref (u 10), .ref (u 11), .ref (u 12), .ref (u 13), .ref (u 14), .ref (u 15), .int 0, .ref (u 16), .int 0, .ref (u 17), .ref (u 18), .ref (u 19), .int 0, .long 0, .ref (u 20), .ref (u 21), .ref (u 22), .ref (u 23), .int 0, .ref (u 24), .ref (u 25), .ref (u 6), .ref (u 7), .ref (u 8), .ref (u 26)])), (u 0, .inl (E 0, 320, .inl (fun _ => 0))), (u 1, .inl (E 0, 960, .inl (fun _ => 0))), (u 2, .inl (E 3, 3, .inl (fun _ => 0))), (u 3, .inl (E 1, 2400, .inl (fun _ => 0))), (u 4, .inl (E 0, 5, .inl (fun _ => 0))), (u 5, .inl (E 0, 320, .inl (fun _ => 0))), (u 6, .inl (E 0, 4, .inl (upd (upd (upd (upd (upd (fun _ => 0) 0 (-1)) 1 (-1)) 2 (-1)) 3 (-1)) 2 a3))), (u 7, .inl (E 0, 4, .inl (upd (fun _ => 0) 2 a2))), (u 8, .inl (E 2, 240, .inr (.inl (vp_updL g (Int32.toNatClampNeg (nI (120 + ik_37))) 0))))] H := hP
                have hD : va_D A [(h0, .inr (8, [.int 0, .ref (u 0), .ref (u 1), .ref (u 2), .ref (u 3), .int 0, .ref (u 4), .int 0, .int 0, .int 0, .int 0, .int 0, .int 0, .int (-1), .ref (u 5), .ref (u 9), .ref (u 10), .ref (u 11), .ref (u 12), .ref (u 13), .ref (u 14), .ref (u 15), .int 0, .ref (u 16), .int 0, .ref (u 17), .ref (u 18), .ref (u 19), .int 0, .long 0, .ref (u 20), .ref (u 21), .ref (u 22), .ref (u 23), .int 0, .ref (u 24), .ref (u 25), .ref (u 6), .ref (u 7), .ref (u 8), .ref (u 26)])), (u 0, .inl (E 0, 320, .inl (fun _ => 0))), (u 1, .inl (E 0, 960, .inl (fun _ => 0))), (u 2, .inl (E 3, 3, .inl (fun _ => 0))), (u 3, .inl (E 1, 2400, .inl (fun _ => 0))), (u 4, .inl (E 0, 5, .inl (fun _ => 0))), (u 5, .inl (E 0, 320, .inl (fun _ => 0))), (u 6, .inl (E 0, 4, .inl (upd (upd (upd (upd (upd (fun _ => 0) 0 (-1)) 1 (-1)) 2 (-1)) 3 (-1)) 2 a3))), (u 7, .inl (E 0, 4, .inl (upd (fun _ => 0) 2 a2))), (u 8, .inl (E 2, 240, .inr (.inl (vp_updL g (Int32.toNatClampNeg (nI (120 + ik_37))) 0))))] := hD
                refine lv_iinc (v := nI (ik_37 + 1)) (lv' := [(4, .int (nI (ik_37 + 1))), (0, .ref h0), (1, .int 2), (2, .int a2), (3, .int a3)]) hx hb dX8_row_72 hl (k := 0) rfl (by rw [← nI_1]; rfl) (by decide) rfl (fun ls hl => ?_)
                refine lv_goto (tgt := 52) hx hb dX8_row_75 (by decide) ?_
                exact ihk_37 (ik_37 + 1) (by omega) (by omega) _ _ _ hP hD hS ls (lv_sub hl [0, 1, 2, 3, 4] rfl)
          exact loopk_37 61 0 (Nat.zero_le _) (by omega) _ _ _ hP hD hS ls (lv_sub hl [0, 1, 2, 3, 4] rfl)
        · refine lv_bipush (v := (-3)) hx hb dX8_row_32 (by decide) ?_
          exact e_i (v := (-3)) hx hb hr rfl (()) (row_d (by decide) h_30 h_35 h_36) p_nil d_nil hS hlocks dX8_row_34
      · refine lv_bipush (v := (-2)) hx hb dX8_row_25 (by decide) ?_
        exact e_i (v := (-2)) hx hb hr rfl (()) (row_c h_35) p_nil d_nil hS hlocks dX8_row_27
    · refine lv_iload_n hx hb dX8_row_0 rfl (lv_at hl 1 rfl) ?_
      refine vp_callSi (W.runS (As := [.int 2]) (rest := []) ⟨hx, hb, hml, hown, hts⟩ (r_M_isSlot l D E s.heap.size h0 u 2) (va_cwS 1 hts g_m_M_row_r_M_isSlot rfl rfl rfl (by decide +kernel) ⟨Nat.le_of_ble_eq_true rfl, Nat.le_of_ble_eq_true rfl⟩) ⟨pre_blind, pre_at hP hK hD hN⟩ rfl rfl hl.1 rfl (lv_room (Nat.le_of_ble_eq_true rfl)) dX8_row_1 ⟨Nat.le_of_ble_eq_true rfl, Nat.le_of_ble_eq_true rfl⟩) (fun r_39 er_39 => ?_)
      subst er_39
      refine lv_toc (y := 1) (by decide) ?_
      refine lv_if_eq (tgt := 25) hx hb dX8_row_4 (by decide) (fun h9 => absurd h9 (by decide)) (fun _ => ?_)
      refine lv_iload_n hx hb dX8_row_7 rfl (lv_at hl 2 rfl) ?_
      refine lv_i2l (v := Int32.toInt64 a2) hx hb dX8_row_8 rfl ?_
      refine lv_lconst (v := 0) hx hb dX8_row_9 (by decide) ?_
      refine lv_ldc2 (v := 3) hx hb hown (hts (.constantLong RX8 482 (3)) (List.mem_of_getElem? (i := 1) rfl)) dX8_row_10 ?_
      refine vp_callSi (W.runS (As := [.long (Int32.toInt64 a2), .long 0, .long 3]) (rest := []) ⟨hx, hb, hml, hown, hts⟩ (r_M_in l D E s.heap.size h0 u (Int32.toInt64 a2) 0 3) (va_cwS 3 hts g_m_M_row_r_M_in rfl rfl rfl (by decide +kernel) ⟨Nat.le_of_ble_eq_true rfl, Nat.le_of_ble_eq_true rfl⟩) ⟨pre_blind, pre_at hP hK hD hN⟩ rfl rfl hl.1 rfl (lv_room (Nat.le_of_ble_eq_true rfl)) dX8_row_13 ⟨Nat.le_of_ble_eq_true rfl, Nat.le_of_ble_eq_true rfl⟩) (fun r_41 er_41 => ?_)
      subst er_41
      refine lv_toc (y := 0) (in_out (n := 3) (by decide) h_30) ?_
      refine lv_if_eq (tgt := 25) hx hb dX8_row_16 (by decide) (fun _ => ?_) (fun h9 => absurd (by decide) h9)
      refine lv_bipush (v := (-2)) hx hb dX8_row_25 (by decide) ?_
      exact e_i (v := (-2)) hx hb hr rfl (()) (row_b h_30) p_nil d_nil hS hlocks dX8_row_27
  · rcases Classical.em (0 ≤ a2.toInt ∧ a2.toInt ≤ 3) with h_43 | h_43
    · refine lv_iload_n hx hb dX8_row_0 rfl (lv_at hl 1 rfl) ?_
      refine vp_callSi (W.runS (As := [.int 3]) (rest := []) ⟨hx, hb, hml, hown, hts⟩ (r_M_isSlot l D E s.heap.size h0 u 3) (va_cwS 1 hts g_m_M_row_r_M_isSlot rfl rfl rfl (by decide +kernel) ⟨Nat.le_of_ble_eq_true rfl, Nat.le_of_ble_eq_true rfl⟩) ⟨pre_blind, pre_at hP hK hD hN⟩ rfl rfl hl.1 rfl (lv_room (Nat.le_of_ble_eq_true rfl)) dX8_row_1 ⟨Nat.le_of_ble_eq_true rfl, Nat.le_of_ble_eq_true rfl⟩) (fun r_44 er_44 => ?_)
      subst er_44
      refine lv_toc (y := 1) (by decide) ?_
      refine lv_if_eq (tgt := 25) hx hb dX8_row_4 (by decide) (fun h9 => absurd h9 (by decide)) (fun _ => ?_)
      refine lv_iload_n hx hb dX8_row_7 rfl (lv_at hl 2 rfl) ?_
      refine lv_i2l (v := Int32.toInt64 a2) hx hb dX8_row_8 rfl ?_
      refine lv_lconst (v := 0) hx hb dX8_row_9 (by decide) ?_
      refine lv_ldc2 (v := 3) hx hb hown (hts (.constantLong RX8 482 (3)) (List.mem_of_getElem? (i := 1) rfl)) dX8_row_10 ?_
      refine vp_callSi (W.runS (As := [.long (Int32.toInt64 a2), .long 0, .long 3]) (rest := []) ⟨hx, hb, hml, hown, hts⟩ (r_M_in l D E s.heap.size h0 u (Int32.toInt64 a2) 0 3) (va_cwS 3 hts g_m_M_row_r_M_in rfl rfl rfl (by decide +kernel) ⟨Nat.le_of_ble_eq_true rfl, Nat.le_of_ble_eq_true rfl⟩) ⟨pre_blind, pre_at hP hK hD hN⟩ rfl rfl hl.1 rfl (lv_room (Nat.le_of_ble_eq_true rfl)) dX8_row_13 ⟨Nat.le_of_ble_eq_true rfl, Nat.le_of_ble_eq_true rfl⟩) (fun r_46 er_46 => ?_)
      subst er_46
      refine lv_toc (y := 1) (in_in (n := 3) (by decide) h_43) ?_
      refine lv_if_eq (tgt := 25) hx hb dX8_row_16 (by decide) (fun h9 => absurd h9 (by decide)) (fun _ => ?_)
      refine lv_iload_n hx hb dX8_row_19 rfl (lv_at hl 3 rfl) ?_
      refine lv_bipush (v := 60) hx hb dX8_row_20 (by decide) ?_
      refine lv_icmp_le (tgt := 28) hx hb dX8_row_22 (by decide) (fun h_48 => ?_) (fun h_48 => ?_)
      · refine lv_iload_n hx hb dX8_row_28 rfl (lv_at hl 3 rfl) ?_
        refine lv_if_ge (tgt := 35) hx hb dX8_row_29 (by decide) (fun h_49 => ?_) (fun h_49 => ?_)
        · refine lv_aload_n hx hb dX8_row_35 rfl (lv_at hl 0 rfl) ?_
          refine va_get (ci := 8) (v := .ref (u 6)) (C := RX8) (T := TX8) (N := 41) hx hb hts in_m_M_row_X8 hown hK hP 0 rfl rfl 37 (by decide) (hts (.fieldLink RX8 86 "UnseenClockModel" "many" "[I") (List.mem_of_getElem? (i := 9) rfl)) (fun _ h9 => h9) rfl dX8_row_36 ?_
          refine lv_iload_n hx hb dX8_row_39 rfl (lv_at hl 1 rfl) ?_
          refine lv_iload_n hx hb dX8_row_40 rfl (lv_at hl 3 rfl) ?_
          refine va_iast hx hb hK hP hD hS 7 0 rfl rfl (by unfold vp_in; decide) dX8_row_41 (fun H locs hP hD hS => ?_)
          have hP : va_P D vwCl [(h0, .inr (8, [.int 0, .ref (u 0), .ref (u 1), .ref (u 2), .ref (u 3), .int 0, .ref (u 4), .int 0, .int 0, .int 0, .int 0, .int 0, .int 0, .int (-1), .ref (u 5), .ref (u 9), .ref (u 10), .ref (u 11), .ref (u 12), .ref (u 13), .ref (u 14), .ref (u 15), .int 0, .ref (u 16), .int 0, .ref (u 17), .ref (u 18), .ref (u 19), .int 0, .long 0, .ref (u 20), .ref (u 21), .ref (u 22), .ref (u 23), .int 0, .ref (u 24), .ref (u 25), .ref (u 6), .ref (u 7), .ref (u 8), .ref (u 26)])), (u 0, .inl (E 0, 320, .inl (fun _ => 0))), (u 1, .inl (E 0, 960, .inl (fun _ => 0))), (u 2, .inl (E 3, 3, .inl (fun _ => 0))), (u 3, .inl (E 1, 2400, .inl (fun _ => 0))), (u 4, .inl (E 0, 5, .inl (fun _ => 0))), (u 5, .inl (E 0, 320, .inl (fun _ => 0))), (u 6, .inl (E 0, 4, .inl (upd (upd (upd (upd (upd (fun _ => 0) 0 (-1)) 1 (-1)) 2 (-1)) 3 (-1)) 3 a3))), (u 7, .inl (E 0, 4, .inl (fun _ => 0))), (u 8, .inl (E 2, 240, .inr (.inl (fun _ => 0))))] H := hP
          have hD : va_D A [(h0, .inr (8, [.int 0, .ref (u 0), .ref (u 1), .ref (u 2), .ref (u 3), .int 0, .ref (u 4), .int 0, .int 0, .int 0, .int 0, .int 0, .int 0, .int (-1), .ref (u 5), .ref (u 9), .ref (u 10), .ref (u 11), .ref (u 12), .ref (u 13), .ref (u 14), .ref (u 15), .int 0, .ref (u 16), .int 0, .ref (u 17), .ref (u 18), .ref (u 19), .int 0, .long 0, .ref (u 20), .ref (u 21), .ref (u 22), .ref (u 23), .int 0, .ref (u 24), .ref (u 25), .ref (u 6), .ref (u 7), .ref (u 8), .ref (u 26)])), (u 0, .inl (E 0, 320, .inl (fun _ => 0))), (u 1, .inl (E 0, 960, .inl (fun _ => 0))), (u 2, .inl (E 3, 3, .inl (fun _ => 0))), (u 3, .inl (E 1, 2400, .inl (fun _ => 0))), (u 4, .inl (E 0, 5, .inl (fun _ => 0))), (u 5, .inl (E 0, 320, .inl (fun _ => 0))), (u 6, .inl (E 0, 4, .inl (upd (upd (upd (upd (upd (fun _ => 0) 0 (-1)) 1 (-1)) 2 (-1)) 3 (-1)) 3 a3))), (u 7, .inl (E 0, 4, .inl (fun _ => 0))), (u 8, .inl (E 2, 240, .inr (.inl (fun _ => 0))))] := hD
          refine lv_aload_n hx hb dX8_row_42 rfl (lv_at hl 0 rfl) ?_
          refine va_get (ci := 8) (v := .ref (u 7)) (C := RX8) (T := TX8) (N := 41) hx hb hts in_m_M_row_X8 hown hK hP 0 rfl rfl 38 (by decide) (hts (.fieldLink RX8 89 "UnseenClockModel" "width" "[I") (List.mem_of_getElem? (i := 10) rfl)) (fun _ h9 => h9) rfl dX8_row_43 ?_
          refine lv_iload_n hx hb dX8_row_46 rfl (lv_at hl 1 rfl) ?_
          refine lv_iload_n hx hb dX8_row_47 rfl (lv_at hl 2 rfl) ?_
          refine va_iast hx hb hK hP hD hS 8 0 rfl rfl (by unfold vp_in; decide) dX8_row_48 (fun H locs hP hD hS => ?_)
          have hP : va_P D vwCl [(h0, .inr (8, [.int 0, .ref (u 0), .ref (u 1), .ref (u 2), .ref (u 3), .int 0, .ref (u 4), .int 0, .int 0, .int 0, .int 0, .int 0, .int 0, .int (-1), .ref (u 5), .ref (u 9), .ref (u 10), .ref (u 11), .ref (u 12), .ref (u 13), .ref (u 14), .ref (u 15), .int 0, .ref (u 16), .int 0, .ref (u 17), .ref (u 18), .ref (u 19), .int 0, .long 0, .ref (u 20), .ref (u 21), .ref (u 22), .ref (u 23), .int 0, .ref (u 24), .ref (u 25), .ref (u 6), .ref (u 7), .ref (u 8), .ref (u 26)])), (u 0, .inl (E 0, 320, .inl (fun _ => 0))), (u 1, .inl (E 0, 960, .inl (fun _ => 0))), (u 2, .inl (E 3, 3, .inl (fun _ => 0))), (u 3, .inl (E 1, 2400, .inl (fun _ => 0))), (u 4, .inl (E 0, 5, .inl (fun _ => 0))), (u 5, .inl (E 0, 320, .inl (fun _ => 0))), (u 6, .inl (E 0, 4, .inl (upd (upd (upd (upd (upd (fun _ => 0) 0 (-1)) 1 (-1)) 2 (-1)) 3 (-1)) 3 a3))), (u 7, .inl (E 0, 4, .inl (upd (fun _ => 0) 3 a2))), (u 8, .inl (E 2, 240, .inr (.inl (fun _ => 0))))] H := hP
          have hD : va_D A [(h0, .inr (8, [.int 0, .ref (u 0), .ref (u 1), .ref (u 2), .ref (u 3), .int 0, .ref (u 4), .int 0, .int 0, .int 0, .int 0, .int 0, .int 0, .int (-1), .ref (u 5), .ref (u 9), .ref (u 10), .ref (u 11), .ref (u 12), .ref (u 13), .ref (u 14), .ref (u 15), .int 0, .ref (u 16), .int 0, .ref (u 17), .ref (u 18), .ref (u 19), .int 0, .long 0, .ref (u 20), .ref (u 21), .ref (u 22), .ref (u 23), .int 0, .ref (u 24), .ref (u 25), .ref (u 6), .ref (u 7), .ref (u 8), .ref (u 26)])), (u 0, .inl (E 0, 320, .inl (fun _ => 0))), (u 1, .inl (E 0, 960, .inl (fun _ => 0))), (u 2, .inl (E 3, 3, .inl (fun _ => 0))), (u 3, .inl (E 1, 2400, .inl (fun _ => 0))), (u 4, .inl (E 0, 5, .inl (fun _ => 0))), (u 5, .inl (E 0, 320, .inl (fun _ => 0))), (u 6, .inl (E 0, 4, .inl (upd (upd (upd (upd (upd (fun _ => 0) 0 (-1)) 1 (-1)) 2 (-1)) 3 (-1)) 3 a3))), (u 7, .inl (E 0, 4, .inl (upd (fun _ => 0) 3 a2))), (u 8, .inl (E 2, 240, .inr (.inl (fun _ => 0))))] := hD
          refine lv_iconst (v := 0) hx hb dX8_row_49 (by decide) ?_
          refine lv_istore (lv' := [(4, .int 0), (0, .ref h0), (1, .int 3), (2, .int a2), (3, .int a3)]) hx hb dX8_row_50 hl (by decide) rfl (fun ls hl => ?_)
          have loopk_50 : ∀ (nk_50 ik_50 : Nat), ik_50 ≤ 60 → 61 ≤ ik_50 + nk_50 → ∀ (g : Nat → Int64) (H : Heap) (locs : List Loc), va_P D vwCl [(h0, .inr (8, [.int 0, .ref (u 0), .ref (u 1), .ref (u 2), .ref (u 3), .int 0, .ref (u 4), .int 0, .int 0, .int 0, .int 0, .int 0, .int 0, .int (-1), .ref (u 5), .ref (u 9), .ref (u 10), .ref (u 11), .ref (u 12), .ref (u 13), .ref (u 14), .ref (u 15), .int 0, .ref (u 16), .int 0, .ref (u 17), .ref (u 18), .ref (u 19), .int 0, .long 0, .ref (u 20), .ref (u 21), .ref (u 22), .ref (u 23), .int 0, .ref (u 24), .ref (u 25), .ref (u 6), .ref (u 7), .ref (u 8), .ref (u 26)])), (u 0, .inl (E 0, 320, .inl (fun _ => 0))), (u 1, .inl (E 0, 960, .inl (fun _ => 0))), (u 2, .inl (E 3, 3, .inl (fun _ => 0))), (u 3, .inl (E 1, 2400, .inl (fun _ => 0))), (u 4, .inl (E 0, 5, .inl (fun _ => 0))), (u 5, .inl (E 0, 320, .inl (fun _ => 0))), (u 6, .inl (E 0, 4, .inl (upd (upd (upd (upd (upd (fun _ => 0) 0 (-1)) 1 (-1)) 2 (-1)) 3 (-1)) 3 a3))), (u 7, .inl (E 0, 4, .inl (upd (fun _ => 0) 3 a2))), (u 8, .inl (E 2, 240, .inr (.inl g)))] H → va_D A [(h0, .inr (8, [.int 0, .ref (u 0), .ref (u 1), .ref (u 2), .ref (u 3), .int 0, .ref (u 4), .int 0, .int 0, .int 0, .int 0, .int 0, .int 0, .int (-1), .ref (u 5), .ref (u 9), .ref (u 10), .ref (u 11), .ref (u 12), .ref (u 13), .ref (u 14), .ref (u 15), .int 0, .ref (u 16), .int 0, .ref (u 17), .ref (u 18), .ref (u 19), .int 0, .long 0, .ref (u 20), .ref (u 21), .ref (u 22), .ref (u 23), .int 0, .ref (u 24), .ref (u 25), .ref (u 6), .ref (u 7), .ref (u 8), .ref (u 26)])), (u 0, .inl (E 0, 320, .inl (fun _ => 0))), (u 1, .inl (E 0, 960, .inl (fun _ => 0))), (u 2, .inl (E 3, 3, .inl (fun _ => 0))), (u 3, .inl (E 1, 2400, .inl (fun _ => 0))), (u 4, .inl (E 0, 5, .inl (fun _ => 0))), (u 5, .inl (E 0, 320, .inl (fun _ => 0))), (u 6, .inl (E 0, 4, .inl (upd (upd (upd (upd (upd (fun _ => 0) 0 (-1)) 1 (-1)) 2 (-1)) 3 (-1)) 3 a3))), (u 7, .inl (E 0, 4, .inl (upd (fun _ => 0) 3 a2))), (u 8, .inl (E 2, 240, .inr (.inl g)))] → va_S A s.heap H locs → ∀ (ls : Array Slot), lv_has ls 5 [(4, .int (nI ik_50)), (0, .ref h0), (1, .int 3), (2, .int a2), (3, .int a3)] → W p l e (headSpec v_m_M_row ({ frames := 2, cells := 0, slots := 0, locals := 45 })).room s m ([.ref h0, .int (3 : Int32), .int a2, .int a3].toArray) below meth c H locs 0 0 (MQ below (qI (S := Unit) (fun r _ => r = rowA (3 : Int32) a2 a3) (fun _ => []) D A) ([.ref h0, .int (3 : Int32), .int a2, .int a3].toArray) s 0 0 A) (F0 m 52 ls []) := by
            intro nk_50
            induction nk_50 with
            | zero => intro ik_50 h1 h2; exact absurd h2 (by omega)
            | succ nk_50 ihk_50 =>
              intro ik_50 hik_50 hnk_50 g H locs hP hD hS ls hl
              refine lv_iload hx hb dX8_row_52 (lv_at hl 0 rfl) ?_
              refine lv_bipush (v := 60) hx hb dX8_row_54 (by decide) ?_
              refine lv_icmp_ge (tgt := 78) hx hb dX8_row_56 (by decide) (fun h_51 => ?_) (fun h_51 => ?_)
              · refine lv_iconst (v := 0) hx hb dX8_row_78 (by decide) ?_
                exact e_i (v := 0) hx hb hr rfl (()) (row_e (by decide) h_43 h_48 h_49) p_nil d_nil hS hlocks dX8_row_79
              · have hltik_50 : ik_50 < 60 := lt_nI (B := 60) (c := 60) (by decide) (by decide) hik_50 h_51
                refine lv_aload_n hx hb dX8_row_59 rfl (lv_at hl 1 rfl) ?_
                refine va_get (ci := 8) (v := .ref (u 8)) (C := RX8) (T := TX8) (N := 41) hx hb hts in_m_M_row_X8 hown hK hP 0 rfl rfl 39 (by decide) (hts (.fieldLink RX8 92 "UnseenClockModel" "numbers" "[J") (List.mem_of_getElem? (i := 11) rfl)) (fun _ h9 => h9) rfl dX8_row_60 ?_
                refine lv_bipush (v := 60) hx hb dX8_row_63 (by decide) ?_
                refine lv_iload_n hx hb dX8_row_65 rfl (lv_at hl 2 rfl) ?_
                refine lv_imul hx hb dX8_row_66 ?_
                refine lv_toc (y := 180) (by decide) ?_
                refine lv_iload hx hb dX8_row_67 (lv_at hl 0 rfl) ?_
                refine lv_iadd hx hb dX8_row_69 ?_
                refine lv_toc (y := nI (180 + ik_50)) (nI_add 180 ik_50) ?_
                refine lv_lconst (v := 0) hx hb dX8_row_70 (by decide) ?_
                refine va_last hx hb hK hP hD hS 9 2 rfl rfl (vp_in_nI (by omega) (by omega)) dX8_row_71 (fun H locs hP hD hS => ?_)
                have hP : va_P D vwCl [(h0, .inr (8, [.int 0, .ref (u 0), .ref (u 1), .ref (u 2), .ref (u 3), .int 0, .ref (u 4), .int 0, .int 0, .int 0, .int 0, .int 0, .int 0, .int (-1), .ref (u 5), .ref (u 9), .ref (u 10), .ref (u 11), .ref (u 12), .ref (u 13), .ref (u 14), .ref (u 15), .int 0, .ref (u 16), .int 0, .ref (u 17), .ref (u 18), .ref (u 19), .int 0, .long 0, .ref (u 20), .ref (u 21), .ref (u 22), .ref (u 23), .int 0, .ref (u 24), .ref (u 25), .ref (u 6), .ref (u 7), .ref (u 8), .ref (u 26)])), (u 0, .inl (E 0, 320, .inl (fun _ => 0))), (u 1, .inl (E 0, 960, .inl (fun _ => 0))), (u 2, .inl (E 3, 3, .inl (fun _ => 0))), (u 3, .inl (E 1, 2400, .inl (fun _ => 0))), (u 4, .inl (E 0, 5, .inl (fun _ => 0))), (u 5, .inl (E 0, 320, .inl (fun _ => 0))), (u 6, .inl (E 0, 4, .inl (upd (upd (upd (upd (upd (fun _ => 0) 0 (-1)) 1 (-1)) 2 (-1)) 3 (-1)) 3 a3))), (u 7, .inl (E 0, 4, .inl (upd (fun _ => 0) 3 a2))), (u 8, .inl (E 2, 240, .inr (.inl (vp_updL g (Int32.toNatClampNeg (nI (180 + ik_50))) 0))))] H := hP
                have hD : va_D A [(h0, .inr (8, [.int 0, .ref (u 0), .ref (u 1), .ref (u 2), .ref (u 3), .int 0, .ref (u 4), .int 0, .int 0, .int 0, .int 0, .int 0, .int 0, .int (-1), .ref (u 5), .ref (u 9), .ref (u 10), .ref (u 11), .ref (u 12), .ref (u 13), .ref (u 14), .ref (u 15), .int 0, .ref (u 16), .int 0, .ref (u 17), .ref (u 18), .ref (u 19), .int 0, .long 0, .ref (u 20), .ref (u 21), .ref (u 22), .ref (u 23), .int 0, .ref (u 24), .ref (u 25), .ref (u 6), .ref (u 7), .ref (u 8), .ref (u 26)])), (u 0, .inl (E 0, 320, .inl (fun _ => 0))), (u 1, .inl (E 0, 960, .inl (fun _ => 0))), (u 2, .inl (E 3, 3, .inl (fun _ => 0))), (u 3, .inl (E 1, 2400, .inl (fun _ => 0))), (u 4, .inl (E 0, 5, .inl (fun _ => 0))), (u 5, .inl (E 0, 320, .inl (fun _ => 0))), (u 6, .inl (E 0, 4, .inl (upd (upd (upd (upd (upd (fun _ => 0) 0 (-1)) 1 (-1)) 2 (-1)) 3 (-1)) 3 a3))), (u 7, .inl (E 0, 4, .inl (upd (fun _ => 0) 3 a2))), (u 8, .inl (E 2, 240, .inr (.inl (vp_updL g (Int32.toNatClampNeg (nI (180 + ik_50))) 0))))] := hD
                refine lv_iinc (v := nI (ik_50 + 1)) (lv' := [(4, .int (nI (ik_50 + 1))), (0, .ref h0), (1, .int 3), (2, .int a2), (3, .int a3)]) hx hb dX8_row_72 hl (k := 0) rfl (by rw [← nI_1]; rfl) (by decide) rfl (fun ls hl => ?_)
                refine lv_goto (tgt := 52) hx hb dX8_row_75 (by decide) ?_
                exact ihk_50 (ik_50 + 1) (by omega) (by omega) _ _ _ hP hD hS ls (lv_sub hl [0, 1, 2, 3, 4] rfl)
          exact loopk_50 61 0 (Nat.zero_le _) (by omega) _ _ _ hP hD hS ls (lv_sub hl [0, 1, 2, 3, 4] rfl)
        · refine lv_bipush (v := (-3)) hx hb dX8_row_32 (by decide) ?_
          exact e_i (v := (-3)) hx hb hr rfl (()) (row_d (by decide) h_43 h_48 h_49) p_nil d_nil hS hlocks dX8_row_34
      · refine lv_bipush (v := (-2)) hx hb dX8_row_25 (by decide) ?_
        exact e_i (v := (-2)) hx hb hr rfl (()) (row_c h_48) p_nil d_nil hS hlocks dX8_row_27
    · refine lv_iload_n hx hb dX8_row_0 rfl (lv_at hl 1 rfl) ?_
      refine vp_callSi (W.runS (As := [.int 3]) (rest := []) ⟨hx, hb, hml, hown, hts⟩ (r_M_isSlot l D E s.heap.size h0 u 3) (va_cwS 1 hts g_m_M_row_r_M_isSlot rfl rfl rfl (by decide +kernel) ⟨Nat.le_of_ble_eq_true rfl, Nat.le_of_ble_eq_true rfl⟩) ⟨pre_blind, pre_at hP hK hD hN⟩ rfl rfl hl.1 rfl (lv_room (Nat.le_of_ble_eq_true rfl)) dX8_row_1 ⟨Nat.le_of_ble_eq_true rfl, Nat.le_of_ble_eq_true rfl⟩) (fun r_52 er_52 => ?_)
      subst er_52
      refine lv_toc (y := 1) (by decide) ?_
      refine lv_if_eq (tgt := 25) hx hb dX8_row_4 (by decide) (fun h9 => absurd h9 (by decide)) (fun _ => ?_)
      refine lv_iload_n hx hb dX8_row_7 rfl (lv_at hl 2 rfl) ?_
      refine lv_i2l (v := Int32.toInt64 a2) hx hb dX8_row_8 rfl ?_
      refine lv_lconst (v := 0) hx hb dX8_row_9 (by decide) ?_
      refine lv_ldc2 (v := 3) hx hb hown (hts (.constantLong RX8 482 (3)) (List.mem_of_getElem? (i := 1) rfl)) dX8_row_10 ?_
      refine vp_callSi (W.runS (As := [.long (Int32.toInt64 a2), .long 0, .long 3]) (rest := []) ⟨hx, hb, hml, hown, hts⟩ (r_M_in l D E s.heap.size h0 u (Int32.toInt64 a2) 0 3) (va_cwS 3 hts g_m_M_row_r_M_in rfl rfl rfl (by decide +kernel) ⟨Nat.le_of_ble_eq_true rfl, Nat.le_of_ble_eq_true rfl⟩) ⟨pre_blind, pre_at hP hK hD hN⟩ rfl rfl hl.1 rfl (lv_room (Nat.le_of_ble_eq_true rfl)) dX8_row_13 ⟨Nat.le_of_ble_eq_true rfl, Nat.le_of_ble_eq_true rfl⟩) (fun r_54 er_54 => ?_)
      subst er_54
      refine lv_toc (y := 0) (in_out (n := 3) (by decide) h_43) ?_
      refine lv_if_eq (tgt := 25) hx hb dX8_row_16 (by decide) (fun _ => ?_) (fun h9 => absurd (by decide) h9)
      refine lv_bipush (v := (-2)) hx hb dX8_row_25 (by decide) ?_
      exact e_i (v := (-2)) hx hb hr rfl (()) (row_b h_43) p_nil d_nil hS hlocks dX8_row_27

def v_m_M_image : List Cond := .code yX8_image cX8_image 3 (some .int) :: ([.constantLong RX8 102 (2), .code yX8_in cX8_in 6 (some .boolean), .methodLink RX8 104 yX8_in, .static yX8_in, .initialized RX8, .fieldLink RX8 16 "UnseenClockModel" "hasImage" "[Z", .fieldLink RX8 13 "UnseenClockModel" "images" "[I", .fieldLink RX8 9 "UnseenClockModel" "world" "[I"] ++ (wsX80))
theorem in_m_M_image_X8 : ∀ w ∈ u_ws RX8 TX8 41, w ∈ v_m_M_image := fun w h => List.mem_cons_of_mem _ (List.mem_append_right _ (h))
set_option maxRecDepth 20000 in
theorem g_m_M_image_r_M_in : GoodIn v_m_M_image (va_wsS RX8 104 yX8_in v_r_M_in) := g_rows _ [3, 4, 5, 2] rfl (by decide +kernel)
set_option maxHeartbeats 2000000 in
set_option maxRecDepth 100000 in
theorem m_M_image (l : Launch) (D : va_G) (E : Nat → ClassId) (sz : Nat) (h0 : Nat) (u : Nat → Nat) (a1 : Int32) : Met l yX8_image v_m_M_image ({ frames := 1, cells := 0, slots := 0, locals := 25 }) (va_Pc [.ref h0, .int a1] (pre D E (wM E h0 u) sz)) (qI (S := Unit) (fun r _ => r = if 0 ≤ a1.toInt ∧ a1.toInt ≤ 2 then 0 else -2) (fun _ => []) D (va_A (wM E h0 u) sz)) 0 0 (va_A (wM E h0 u) sz) := by
  refine c_int (cc := cX8_image) (maxL := 3) (ret := (some .int)) (by decide) rfl (Nat.le_of_ble_eq_true rfl) ?_
  intro p e s m below meth c ls A ⟨hx, hb, hr, hts, hown, hlocks, hin, hml⟩ hP hK hD hN hA hS hl
  have hown : s.vm.findClass RX8 = some m.cls := hown
  have hl : lv_has ls 3 [(0, .ref h0), (1, .int a1)] := hl
  rcases cs3 a1 with h_1 | rfl | rfl | rfl
  · refine lv_iload_n hx hb dX8_image_0 rfl (lv_at hl 1 rfl) ?_
    refine lv_i2l (v := Int32.toInt64 a1) hx hb dX8_image_1 rfl ?_
    refine lv_lconst (v := 0) hx hb dX8_image_2 (by decide) ?_
    refine lv_ldc2 (v := 2) hx hb hown (hts (.constantLong RX8 102 (2)) (List.mem_of_getElem? (i := 1) rfl)) dX8_image_3 ?_
    refine vp_callSi (W.runS (As := [.long (Int32.toInt64 a1), .long 0, .long 2]) (rest := []) ⟨hx, hb, hml, hown, hts⟩ (r_M_in l D E s.heap.size h0 u (Int32.toInt64 a1) 0 2) (va_cwS 3 hts g_m_M_image_r_M_in rfl rfl rfl (by decide +kernel) ⟨Nat.le_of_ble_eq_true rfl, Nat.le_of_ble_eq_true rfl⟩) ⟨pre_blind, pre_at hP hK hD hN⟩ rfl rfl hl.1 rfl (lv_room (Nat.le_of_ble_eq_true rfl)) dX8_image_6 ⟨Nat.le_of_ble_eq_true rfl, Nat.le_of_ble_eq_true rfl⟩) (fun r_2 er_2 => ?_)
    subst er_2
    refine lv_toc (y := 0) (in_out (n := 2) (by decide) h_1) ?_
    refine lv_if_ne (tgt := 15) hx hb dX8_image_9 (by decide) (fun h9 => absurd (by decide) h9) (fun _ => ?_)
    refine lv_bipush (v := (-2)) hx hb dX8_image_12 (by decide) ?_
    exact e_i (v := (-2)) hx hb hr rfl (()) (if_neg h_1).symm p_nil d_nil hS hlocks dX8_image_14
  · refine lv_iload_n hx hb dX8_image_0 rfl (lv_at hl 1 rfl) ?_
    refine lv_i2l (v := 0) hx hb dX8_image_1 (by decide) ?_
    refine lv_lconst (v := 0) hx hb dX8_image_2 (by decide) ?_
    refine lv_ldc2 (v := 2) hx hb hown (hts (.constantLong RX8 102 (2)) (List.mem_of_getElem? (i := 1) rfl)) dX8_image_3 ?_
    refine vp_callSi (W.runS (As := [.long 0, .long 0, .long 2]) (rest := []) ⟨hx, hb, hml, hown, hts⟩ (r_M_in l D E s.heap.size h0 u 0 0 2) (va_cwS 3 hts g_m_M_image_r_M_in rfl rfl rfl (by decide +kernel) ⟨Nat.le_of_ble_eq_true rfl, Nat.le_of_ble_eq_true rfl⟩) ⟨pre_blind, pre_at hP hK hD hN⟩ rfl rfl hl.1 rfl (lv_room (Nat.le_of_ble_eq_true rfl)) dX8_image_6 ⟨Nat.le_of_ble_eq_true rfl, Nat.le_of_ble_eq_true rfl⟩) (fun r_4 er_4 => ?_)
    subst er_4
    refine lv_toc (y := 1) (by decide) ?_
    refine lv_if_ne (tgt := 15) hx hb dX8_image_9 (by decide) (fun _ => ?_) (fun h9 => absurd h9 (by decide))
    refine lv_iconst (v := 0) hx hb dX8_image_15 (by decide) ?_
    refine lv_istore_n (lv' := [(2, .int 0), (0, .ref h0), (1, .int 0)]) hx hb dX8_image_16 rfl hl (by decide) rfl (fun ls hl => ?_)
    have loopk_6 : ∀ (nk_6 ik_6 : Nat), ik_6 ≤ 320 → 321 ≤ ik_6 + nk_6 → ∀ (g : Nat → Int32) (H : Heap) (locs : List Loc), va_P D vwCl [(h0, .inr (8, [.int 0, .ref (u 0), .ref (u 1), .ref (u 2), .ref (u 3), .int 0, .ref (u 4), .int 0, .int 0, .int 0, .int 0, .int 0, .int 0, .int (-1), .ref (u 5), .ref (u 9), .ref (u 10), .ref (u 11), .ref (u 12), .ref (u 13), .ref (u 14), .ref (u 15), .int 0, .ref (u 16), .int 0, .ref (u 17), .ref (u 18), .ref (u 19), .int 0, .long 0, .ref (u 20), .ref (u 21), .ref (u 22), .ref (u 23), .int 0, .ref (u 24), .ref (u 25), .ref (u 6), .ref (u 7), .ref (u 8), .ref (u 26)])), (u 0, .inl (E 0, 320, .inl (fun _ => 0))), (u 1, .inl (E 0, 960, .inl g)), (u 2, .inl (E 3, 3, .inl (fun _ => 0))), (u 3, .inl (E 1, 2400, .inl (fun _ => 0))), (u 4, .inl (E 0, 5, .inl (fun _ => 0))), (u 5, .inl (E 0, 320, .inl (fun _ => 0))), (u 6, .inl (E 0, 4, .inl (upd (upd (upd (upd (fun _ => 0) 0 (-1)) 1 (-1)) 2 (-1)) 3 (-1)))), (u 7, .inl (E 0, 4, .inl (fun _ => 0))), (u 8, .inl (E 2, 240, .inr (.inl (fun _ => 0))))] H → va_D A [(h0, .inr (8, [.int 0, .ref (u 0), .ref (u 1), .ref (u 2), .ref (u 3), .int 0, .ref (u 4), .int 0, .int 0, .int 0, .int 0, .int 0, .int 0, .int (-1), .ref (u 5), .ref (u 9), .ref (u 10), .ref (u 11), .ref (u 12), .ref (u 13), .ref (u 14), .ref (u 15), .int 0, .ref (u 16), .int 0, .ref (u 17), .ref (u 18), .ref (u 19), .int 0, .long 0, .ref (u 20), .ref (u 21), .ref (u 22), .ref (u 23), .int 0, .ref (u 24), .ref (u 25), .ref (u 6), .ref (u 7), .ref (u 8), .ref (u 26)])), (u 0, .inl (E 0, 320, .inl (fun _ => 0))), (u 1, .inl (E 0, 960, .inl g)), (u 2, .inl (E 3, 3, .inl (fun _ => 0))), (u 3, .inl (E 1, 2400, .inl (fun _ => 0))), (u 4, .inl (E 0, 5, .inl (fun _ => 0))), (u 5, .inl (E 0, 320, .inl (fun _ => 0))), (u 6, .inl (E 0, 4, .inl (upd (upd (upd (upd (fun _ => 0) 0 (-1)) 1 (-1)) 2 (-1)) 3 (-1)))), (u 7, .inl (E 0, 4, .inl (fun _ => 0))), (u 8, .inl (E 2, 240, .inr (.inl (fun _ => 0))))] → va_S A s.heap H locs → ∀ (ls : Array Slot), lv_has ls 3 [(2, .int (nI ik_6)), (0, .ref h0), (1, .int 0)] → W p l e (headSpec v_m_M_image ({ frames := 1, cells := 0, slots := 0, locals := 25 })).room s m ([.ref h0, .int (0 : Int32)].toArray) below meth c H locs 0 0 (MQ below (qI (S := Unit) (fun r _ => r = if 0 ≤ (0 : Int32).toInt ∧ (0 : Int32).toInt ≤ 2 then 0 else -2) (fun _ => []) D A) ([.ref h0, .int (0 : Int32)].toArray) s 0 0 A) (F0 m 17 ls []) := by
      intro nk_6
      induction nk_6 with
      | zero => intro ik_6 h1 h2; exact absurd h2 (by omega)
      | succ nk_6 ihk_6 =>
        intro ik_6 hik_6 hnk_6 g H locs hP hD hS ls hl
        refine lv_iload_n hx hb dX8_image_17 rfl (lv_at hl 0 rfl) ?_
        refine lv_sipush (v := 320) hx hb dX8_image_18 (by decide) ?_
        refine lv_icmp_ge (tgt := 48) hx hb dX8_image_21 (by decide) (fun h_7 => ?_) (fun h_7 => ?_)
        · refine lv_aload_n hx hb dX8_image_48 rfl (lv_at hl 1 rfl) ?_
          refine va_get (ci := 8) (v := .ref (u 2)) (C := RX8) (T := TX8) (N := 41) hx hb hts in_m_M_image_X8 hown hK hP 0 rfl rfl 3 (by decide) (hts (.fieldLink RX8 16 "UnseenClockModel" "hasImage" "[Z") (List.mem_of_getElem? (i := 6) rfl)) (fun _ h9 => h9) rfl dX8_image_49 ?_
          refine lv_iload_n hx hb dX8_image_52 rfl (lv_at hl 2 rfl) ?_
          refine lv_iconst (v := 1) hx hb dX8_image_53 (by decide) ?_
          refine va_zast hx hb hK hP hD hS 3 3 rfl rfl (by unfold vp_in; decide) dX8_image_54 (fun H locs hP hD hS => ?_)
          have hP : va_P D vwCl [(h0, .inr (8, [.int 0, .ref (u 0), .ref (u 1), .ref (u 2), .ref (u 3), .int 0, .ref (u 4), .int 0, .int 0, .int 0, .int 0, .int 0, .int 0, .int (-1), .ref (u 5), .ref (u 9), .ref (u 10), .ref (u 11), .ref (u 12), .ref (u 13), .ref (u 14), .ref (u 15), .int 0, .ref (u 16), .int 0, .ref (u 17), .ref (u 18), .ref (u 19), .int 0, .long 0, .ref (u 20), .ref (u 21), .ref (u 22), .ref (u 23), .int 0, .ref (u 24), .ref (u 25), .ref (u 6), .ref (u 7), .ref (u 8), .ref (u 26)])), (u 0, .inl (E 0, 320, .inl (fun _ => 0))), (u 1, .inl (E 0, 960, .inl g)), (u 2, .inl (E 3, 3, .inl (upd (fun _ => 0) 0 (vp_nar .boolean 1)))), (u 3, .inl (E 1, 2400, .inl (fun _ => 0))), (u 4, .inl (E 0, 5, .inl (fun _ => 0))), (u 5, .inl (E 0, 320, .inl (fun _ => 0))), (u 6, .inl (E 0, 4, .inl (upd (upd (upd (upd (fun _ => 0) 0 (-1)) 1 (-1)) 2 (-1)) 3 (-1)))), (u 7, .inl (E 0, 4, .inl (fun _ => 0))), (u 8, .inl (E 2, 240, .inr (.inl (fun _ => 0))))] H := hP
          have hD : va_D A [(h0, .inr (8, [.int 0, .ref (u 0), .ref (u 1), .ref (u 2), .ref (u 3), .int 0, .ref (u 4), .int 0, .int 0, .int 0, .int 0, .int 0, .int 0, .int (-1), .ref (u 5), .ref (u 9), .ref (u 10), .ref (u 11), .ref (u 12), .ref (u 13), .ref (u 14), .ref (u 15), .int 0, .ref (u 16), .int 0, .ref (u 17), .ref (u 18), .ref (u 19), .int 0, .long 0, .ref (u 20), .ref (u 21), .ref (u 22), .ref (u 23), .int 0, .ref (u 24), .ref (u 25), .ref (u 6), .ref (u 7), .ref (u 8), .ref (u 26)])), (u 0, .inl (E 0, 320, .inl (fun _ => 0))), (u 1, .inl (E 0, 960, .inl g)), (u 2, .inl (E 3, 3, .inl (upd (fun _ => 0) 0 (vp_nar .boolean 1)))), (u 3, .inl (E 1, 2400, .inl (fun _ => 0))), (u 4, .inl (E 0, 5, .inl (fun _ => 0))), (u 5, .inl (E 0, 320, .inl (fun _ => 0))), (u 6, .inl (E 0, 4, .inl (upd (upd (upd (upd (fun _ => 0) 0 (-1)) 1 (-1)) 2 (-1)) 3 (-1)))), (u 7, .inl (E 0, 4, .inl (fun _ => 0))), (u 8, .inl (E 2, 240, .inr (.inl (fun _ => 0))))] := hD
          refine lv_iconst (v := 0) hx hb dX8_image_55 (by decide) ?_
          exact e_i (v := 0) hx hb hr rfl (()) (by decide) p_nil d_nil hS hlocks dX8_image_56
        · have hltik_6 : ik_6 < 320 := lt_nI (B := 320) (c := 320) (by decide) (by decide) hik_6 h_7
          refine lv_aload_n hx hb dX8_image_24 rfl (lv_at hl 1 rfl) ?_
          refine va_get (ci := 8) (v := .ref (u 1)) (C := RX8) (T := TX8) (N := 41) hx hb hts in_m_M_image_X8 hown hK hP 0 rfl rfl 2 (by decide) (hts (.fieldLink RX8 13 "UnseenClockModel" "images" "[I") (List.mem_of_getElem? (i := 7) rfl)) (fun _ h9 => h9) rfl dX8_image_25 ?_
          refine lv_sipush (v := 320) hx hb dX8_image_28 (by decide) ?_
          refine lv_iload_n hx hb dX8_image_31 rfl (lv_at hl 2 rfl) ?_
          refine lv_imul hx hb dX8_image_32 ?_
          refine lv_toc (y := 0) (by decide) ?_
          refine lv_iload_n hx hb dX8_image_33 rfl (lv_at hl 0 rfl) ?_
          refine lv_iadd hx hb dX8_image_34 ?_
          refine lv_toc (y := nI (0 + ik_6)) (nI_add 0 ik_6) ?_
          refine lv_aload_n hx hb dX8_image_35 rfl (lv_at hl 1 rfl) ?_
          refine va_get (ci := 8) (v := .ref (u 0)) (C := RX8) (T := TX8) (N := 41) hx hb hts in_m_M_image_X8 hown hK hP 0 rfl rfl 1 (by decide) (hts (.fieldLink RX8 9 "UnseenClockModel" "world" "[I") (List.mem_of_getElem? (i := 8) rfl)) (fun _ h9 => h9) rfl dX8_image_36 ?_
          refine lv_iload_n hx hb dX8_image_39 rfl (lv_at hl 0 rfl) ?_
          refine va_iald hx hb hK hP 1 0 rfl rfl (vp_in_nI (by omega) (by omega)) dX8_image_40 ?_
          refine lv_toc (y := 0) rfl ?_
          refine va_iast hx hb hK hP hD hS 2 0 rfl rfl (vp_in_nI (by omega) (by omega)) dX8_image_41 (fun H locs hP hD hS => ?_)
          have hP : va_P D vwCl [(h0, .inr (8, [.int 0, .ref (u 0), .ref (u 1), .ref (u 2), .ref (u 3), .int 0, .ref (u 4), .int 0, .int 0, .int 0, .int 0, .int 0, .int 0, .int (-1), .ref (u 5), .ref (u 9), .ref (u 10), .ref (u 11), .ref (u 12), .ref (u 13), .ref (u 14), .ref (u 15), .int 0, .ref (u 16), .int 0, .ref (u 17), .ref (u 18), .ref (u 19), .int 0, .long 0, .ref (u 20), .ref (u 21), .ref (u 22), .ref (u 23), .int 0, .ref (u 24), .ref (u 25), .ref (u 6), .ref (u 7), .ref (u 8), .ref (u 26)])), (u 0, .inl (E 0, 320, .inl (fun _ => 0))), (u 1, .inl (E 0, 960, .inl (upd g (Int32.toNatClampNeg (nI (0 + ik_6))) 0))), (u 2, .inl (E 3, 3, .inl (fun _ => 0))), (u 3, .inl (E 1, 2400, .inl (fun _ => 0))), (u 4, .inl (E 0, 5, .inl (fun _ => 0))), (u 5, .inl (E 0, 320, .inl (fun _ => 0))), (u 6, .inl (E 0, 4, .inl (upd (upd (upd (upd (fun _ => 0) 0 (-1)) 1 (-1)) 2 (-1)) 3 (-1)))), (u 7, .inl (E 0, 4, .inl (fun _ => 0))), (u 8, .inl (E 2, 240, .inr (.inl (fun _ => 0))))] H := hP
          have hD : va_D A [(h0, .inr (8, [.int 0, .ref (u 0), .ref (u 1), .ref (u 2), .ref (u 3), .int 0, .ref (u 4), .int 0, .int 0, .int 0, .int 0, .int 0, .int 0, .int (-1), .ref (u 5), .ref (u 9), .ref (u 10), .ref (u 11), .ref (u 12), .ref (u 13), .ref (u 14), .ref (u 15), .int 0, .ref (u 16), .int 0, .ref (u 17), .ref (u 18), .ref (u 19), .int 0, .long 0, .ref (u 20), .ref (u 21), .ref (u 22), .ref (u 23), .int 0, .ref (u 24), .ref (u 25), .ref (u 6), .ref (u 7), .ref (u 8), .ref (u 26)])), (u 0, .inl (E 0, 320, .inl (fun _ => 0))), (u 1, .inl (E 0, 960, .inl (upd g (Int32.toNatClampNeg (nI (0 + ik_6))) 0))), (u 2, .inl (E 3, 3, .inl (fun _ => 0))), (u 3, .inl (E 1, 2400, .inl (fun _ => 0))), (u 4, .inl (E 0, 5, .inl (fun _ => 0))), (u 5, .inl (E 0, 320, .inl (fun _ => 0))), (u 6, .inl (E 0, 4, .inl (upd (upd (upd (upd (fun _ => 0) 0 (-1)) 1 (-1)) 2 (-1)) 3 (-1)))), (u 7, .inl (E 0, 4, .inl (fun _ => 0))), (u 8, .inl (E 2, 240, .inr (.inl (fun _ => 0))))] := hD
          refine lv_iinc (v := nI (ik_6 + 1)) (lv' := [(2, .int (nI (ik_6 + 1))), (0, .ref h0), (1, .int 0)]) hx hb dX8_image_42 hl (k := 0) rfl (by rw [← nI_1]; rfl) (by decide) rfl (fun ls hl => ?_)
          refine lv_goto (tgt := 17) hx hb dX8_image_45 (by decide) ?_
          exact ihk_6 (ik_6 + 1) (by omega) (by omega) _ _ _ hP hD hS ls (lv_sub hl [0, 1, 2] rfl)
    exact loopk_6 321 0 (Nat.zero_le _) (by omega) _ _ _ hP hD hS ls (lv_sub hl [0, 1, 2] rfl)
  · refine lv_iload_n hx hb dX8_image_0 rfl (lv_at hl 1 rfl) ?_
    refine lv_i2l (v := 1) hx hb dX8_image_1 (by decide) ?_
    refine lv_lconst (v := 0) hx hb dX8_image_2 (by decide) ?_
    refine lv_ldc2 (v := 2) hx hb hown (hts (.constantLong RX8 102 (2)) (List.mem_of_getElem? (i := 1) rfl)) dX8_image_3 ?_
    refine vp_callSi (W.runS (As := [.long 1, .long 0, .long 2]) (rest := []) ⟨hx, hb, hml, hown, hts⟩ (r_M_in l D E s.heap.size h0 u 1 0 2) (va_cwS 3 hts g_m_M_image_r_M_in rfl rfl rfl (by decide +kernel) ⟨Nat.le_of_ble_eq_true rfl, Nat.le_of_ble_eq_true rfl⟩) ⟨pre_blind, pre_at hP hK hD hN⟩ rfl rfl hl.1 rfl (lv_room (Nat.le_of_ble_eq_true rfl)) dX8_image_6 ⟨Nat.le_of_ble_eq_true rfl, Nat.le_of_ble_eq_true rfl⟩) (fun r_8 er_8 => ?_)
    subst er_8
    refine lv_toc (y := 1) (by decide) ?_
    refine lv_if_ne (tgt := 15) hx hb dX8_image_9 (by decide) (fun _ => ?_) (fun h9 => absurd h9 (by decide))
    refine lv_iconst (v := 0) hx hb dX8_image_15 (by decide) ?_
    refine lv_istore_n (lv' := [(2, .int 0), (0, .ref h0), (1, .int 1)]) hx hb dX8_image_16 rfl hl (by decide) rfl (fun ls hl => ?_)
    have loopk_10 : ∀ (nk_10 ik_10 : Nat), ik_10 ≤ 320 → 321 ≤ ik_10 + nk_10 → ∀ (g : Nat → Int32) (H : Heap) (locs : List Loc), va_P D vwCl [(h0, .inr (8, [.int 0, .ref (u 0), .ref (u 1), .ref (u 2), .ref (u 3), .int 0, .ref (u 4), .int 0, .int 0, .int 0, .int 0, .int 0, .int 0, .int (-1), .ref (u 5), .ref (u 9), .ref (u 10), .ref (u 11), .ref (u 12), .ref (u 13), .ref (u 14), .ref (u 15), .int 0, .ref (u 16), .int 0, .ref (u 17), .ref (u 18), .ref (u 19), .int 0, .long 0, .ref (u 20), .ref (u 21), .ref (u 22), .ref (u 23), .int 0, .ref (u 24), .ref (u 25), .ref (u 6), .ref (u 7), .ref (u 8), .ref (u 26)])), (u 0, .inl (E 0, 320, .inl (fun _ => 0))), (u 1, .inl (E 0, 960, .inl g)), (u 2, .inl (E 3, 3, .inl (fun _ => 0))), (u 3, .inl (E 1, 2400, .inl (fun _ => 0))), (u 4, .inl (E 0, 5, .inl (fun _ => 0))), (u 5, .inl (E 0, 320, .inl (fun _ => 0))), (u 6, .inl (E 0, 4, .inl (upd (upd (upd (upd (fun _ => 0) 0 (-1)) 1 (-1)) 2 (-1)) 3 (-1)))), (u 7, .inl (E 0, 4, .inl (fun _ => 0))), (u 8, .inl (E 2, 240, .inr (.inl (fun _ => 0))))] H → va_D A [(h0, .inr (8, [.int 0, .ref (u 0), .ref (u 1), .ref (u 2), .ref (u 3), .int 0, .ref (u 4), .int 0, .int 0, .int 0, .int 0, .int 0, .int 0, .int (-1), .ref (u 5), .ref (u 9), .ref (u 10), .ref (u 11), .ref (u 12), .ref (u 13), .ref (u 14), .ref (u 15), .int 0, .ref (u 16), .int 0, .ref (u 17), .ref (u 18), .ref (u 19), .int 0, .long 0, .ref (u 20), .ref (u 21), .ref (u 22), .ref (u 23), .int 0, .ref (u 24), .ref (u 25), .ref (u 6), .ref (u 7), .ref (u 8), .ref (u 26)])), (u 0, .inl (E 0, 320, .inl (fun _ => 0))), (u 1, .inl (E 0, 960, .inl g)), (u 2, .inl (E 3, 3, .inl (fun _ => 0))), (u 3, .inl (E 1, 2400, .inl (fun _ => 0))), (u 4, .inl (E 0, 5, .inl (fun _ => 0))), (u 5, .inl (E 0, 320, .inl (fun _ => 0))), (u 6, .inl (E 0, 4, .inl (upd (upd (upd (upd (fun _ => 0) 0 (-1)) 1 (-1)) 2 (-1)) 3 (-1)))), (u 7, .inl (E 0, 4, .inl (fun _ => 0))), (u 8, .inl (E 2, 240, .inr (.inl (fun _ => 0))))] → va_S A s.heap H locs → ∀ (ls : Array Slot), lv_has ls 3 [(2, .int (nI ik_10)), (0, .ref h0), (1, .int 1)] → W p l e (headSpec v_m_M_image ({ frames := 1, cells := 0, slots := 0, locals := 25 })).room s m ([.ref h0, .int (1 : Int32)].toArray) below meth c H locs 0 0 (MQ below (qI (S := Unit) (fun r _ => r = if 0 ≤ (1 : Int32).toInt ∧ (1 : Int32).toInt ≤ 2 then 0 else -2) (fun _ => []) D A) ([.ref h0, .int (1 : Int32)].toArray) s 0 0 A) (F0 m 17 ls []) := by
      intro nk_10
      induction nk_10 with
      | zero => intro ik_10 h1 h2; exact absurd h2 (by omega)
      | succ nk_10 ihk_10 =>
        intro ik_10 hik_10 hnk_10 g H locs hP hD hS ls hl
        refine lv_iload_n hx hb dX8_image_17 rfl (lv_at hl 0 rfl) ?_
        refine lv_sipush (v := 320) hx hb dX8_image_18 (by decide) ?_
        refine lv_icmp_ge (tgt := 48) hx hb dX8_image_21 (by decide) (fun h_11 => ?_) (fun h_11 => ?_)
        · refine lv_aload_n hx hb dX8_image_48 rfl (lv_at hl 1 rfl) ?_
          refine va_get (ci := 8) (v := .ref (u 2)) (C := RX8) (T := TX8) (N := 41) hx hb hts in_m_M_image_X8 hown hK hP 0 rfl rfl 3 (by decide) (hts (.fieldLink RX8 16 "UnseenClockModel" "hasImage" "[Z") (List.mem_of_getElem? (i := 6) rfl)) (fun _ h9 => h9) rfl dX8_image_49 ?_
          refine lv_iload_n hx hb dX8_image_52 rfl (lv_at hl 2 rfl) ?_
          refine lv_iconst (v := 1) hx hb dX8_image_53 (by decide) ?_
          refine va_zast hx hb hK hP hD hS 3 3 rfl rfl (by unfold vp_in; decide) dX8_image_54 (fun H locs hP hD hS => ?_)
          have hP : va_P D vwCl [(h0, .inr (8, [.int 0, .ref (u 0), .ref (u 1), .ref (u 2), .ref (u 3), .int 0, .ref (u 4), .int 0, .int 0, .int 0, .int 0, .int 0, .int 0, .int (-1), .ref (u 5), .ref (u 9), .ref (u 10), .ref (u 11), .ref (u 12), .ref (u 13), .ref (u 14), .ref (u 15), .int 0, .ref (u 16), .int 0, .ref (u 17), .ref (u 18), .ref (u 19), .int 0, .long 0, .ref (u 20), .ref (u 21), .ref (u 22), .ref (u 23), .int 0, .ref (u 24), .ref (u 25), .ref (u 6), .ref (u 7), .ref (u 8), .ref (u 26)])), (u 0, .inl (E 0, 320, .inl (fun _ => 0))), (u 1, .inl (E 0, 960, .inl g)), (u 2, .inl (E 3, 3, .inl (upd (fun _ => 0) 1 (vp_nar .boolean 1)))), (u 3, .inl (E 1, 2400, .inl (fun _ => 0))), (u 4, .inl (E 0, 5, .inl (fun _ => 0))), (u 5, .inl (E 0, 320, .inl (fun _ => 0))), (u 6, .inl (E 0, 4, .inl (upd (upd (upd (upd (fun _ => 0) 0 (-1)) 1 (-1)) 2 (-1)) 3 (-1)))), (u 7, .inl (E 0, 4, .inl (fun _ => 0))), (u 8, .inl (E 2, 240, .inr (.inl (fun _ => 0))))] H := hP
          have hD : va_D A [(h0, .inr (8, [.int 0, .ref (u 0), .ref (u 1), .ref (u 2), .ref (u 3), .int 0, .ref (u 4), .int 0, .int 0, .int 0, .int 0, .int 0, .int 0, .int (-1), .ref (u 5), .ref (u 9), .ref (u 10), .ref (u 11), .ref (u 12), .ref (u 13), .ref (u 14), .ref (u 15), .int 0, .ref (u 16), .int 0, .ref (u 17), .ref (u 18), .ref (u 19), .int 0, .long 0, .ref (u 20), .ref (u 21), .ref (u 22), .ref (u 23), .int 0, .ref (u 24), .ref (u 25), .ref (u 6), .ref (u 7), .ref (u 8), .ref (u 26)])), (u 0, .inl (E 0, 320, .inl (fun _ => 0))), (u 1, .inl (E 0, 960, .inl g)), (u 2, .inl (E 3, 3, .inl (upd (fun _ => 0) 1 (vp_nar .boolean 1)))), (u 3, .inl (E 1, 2400, .inl (fun _ => 0))), (u 4, .inl (E 0, 5, .inl (fun _ => 0))), (u 5, .inl (E 0, 320, .inl (fun _ => 0))), (u 6, .inl (E 0, 4, .inl (upd (upd (upd (upd (fun _ => 0) 0 (-1)) 1 (-1)) 2 (-1)) 3 (-1)))), (u 7, .inl (E 0, 4, .inl (fun _ => 0))), (u 8, .inl (E 2, 240, .inr (.inl (fun _ => 0))))] := hD
          refine lv_iconst (v := 0) hx hb dX8_image_55 (by decide) ?_
          exact e_i (v := 0) hx hb hr rfl (()) (by decide) p_nil d_nil hS hlocks dX8_image_56
        · have hltik_10 : ik_10 < 320 := lt_nI (B := 320) (c := 320) (by decide) (by decide) hik_10 h_11
          refine lv_aload_n hx hb dX8_image_24 rfl (lv_at hl 1 rfl) ?_
          refine va_get (ci := 8) (v := .ref (u 1)) (C := RX8) (T := TX8) (N := 41) hx hb hts in_m_M_image_X8 hown hK hP 0 rfl rfl 2 (by decide) (hts (.fieldLink RX8 13 "UnseenClockModel" "images" "[I") (List.mem_of_getElem? (i := 7) rfl)) (fun _ h9 => h9) rfl dX8_image_25 ?_
          refine lv_sipush (v := 320) hx hb dX8_image_28 (by decide) ?_
          refine lv_iload_n hx hb dX8_image_31 rfl (lv_at hl 2 rfl) ?_
          refine lv_imul hx hb dX8_image_32 ?_
          refine lv_toc (y := 320) (by decide) ?_
          refine lv_iload_n hx hb dX8_image_33 rfl (lv_at hl 0 rfl) ?_
          refine lv_iadd hx hb dX8_image_34 ?_
          refine lv_toc (y := nI (320 + ik_10)) (nI_add 320 ik_10) ?_
          refine lv_aload_n hx hb dX8_image_35 rfl (lv_at hl 1 rfl) ?_
          refine va_get (ci := 8) (v := .ref (u 0)) (C := RX8) (T := TX8) (N := 41) hx hb hts in_m_M_image_X8 hown hK hP 0 rfl rfl 1 (by decide) (hts (.fieldLink RX8 9 "UnseenClockModel" "world" "[I") (List.mem_of_getElem? (i := 8) rfl)) (fun _ h9 => h9) rfl dX8_image_36 ?_
          refine lv_iload_n hx hb dX8_image_39 rfl (lv_at hl 0 rfl) ?_
          refine va_iald hx hb hK hP 1 0 rfl rfl (vp_in_nI (by omega) (by omega)) dX8_image_40 ?_
          refine lv_toc (y := 0) rfl ?_
          refine va_iast hx hb hK hP hD hS 2 0 rfl rfl (vp_in_nI (by omega) (by omega)) dX8_image_41 (fun H locs hP hD hS => ?_)
          have hP : va_P D vwCl [(h0, .inr (8, [.int 0, .ref (u 0), .ref (u 1), .ref (u 2), .ref (u 3), .int 0, .ref (u 4), .int 0, .int 0, .int 0, .int 0, .int 0, .int 0, .int (-1), .ref (u 5), .ref (u 9), .ref (u 10), .ref (u 11), .ref (u 12), .ref (u 13), .ref (u 14), .ref (u 15), .int 0, .ref (u 16), .int 0, .ref (u 17), .ref (u 18), .ref (u 19), .int 0, .long 0, .ref (u 20), .ref (u 21), .ref (u 22), .ref (u 23), .int 0, .ref (u 24), .ref (u 25), .ref (u 6), .ref (u 7), .ref (u 8), .ref (u 26)])), (u 0, .inl (E 0, 320, .inl (fun _ => 0))), (u 1, .inl (E 0, 960, .inl (upd g (Int32.toNatClampNeg (nI (320 + ik_10))) 0))), (u 2, .inl (E 3, 3, .inl (fun _ => 0))), (u 3, .inl (E 1, 2400, .inl (fun _ => 0))), (u 4, .inl (E 0, 5, .inl (fun _ => 0))), (u 5, .inl (E 0, 320, .inl (fun _ => 0))), (u 6, .inl (E 0, 4, .inl (upd (upd (upd (upd (fun _ => 0) 0 (-1)) 1 (-1)) 2 (-1)) 3 (-1)))), (u 7, .inl (E 0, 4, .inl (fun _ => 0))), (u 8, .inl (E 2, 240, .inr (.inl (fun _ => 0))))] H := hP
          have hD : va_D A [(h0, .inr (8, [.int 0, .ref (u 0), .ref (u 1), .ref (u 2), .ref (u 3), .int 0, .ref (u 4), .int 0, .int 0, .int 0, .int 0, .int 0, .int 0, .int (-1), .ref (u 5), .ref (u 9), .ref (u 10), .ref (u 11), .ref (u 12), .ref (u 13), .ref (u 14), .ref (u 15), .int 0, .ref (u 16), .int 0, .ref (u 17), .ref (u 18), .ref (u 19), .int 0, .long 0, .ref (u 20), .ref (u 21), .ref (u 22), .ref (u 23), .int 0, .ref (u 24), .ref (u 25), .ref (u 6), .ref (u 7), .ref (u 8), .ref (u 26)])), (u 0, .inl (E 0, 320, .inl (fun _ => 0))), (u 1, .inl (E 0, 960, .inl (upd g (Int32.toNatClampNeg (nI (320 + ik_10))) 0))), (u 2, .inl (E 3, 3, .inl (fun _ => 0))), (u 3, .inl (E 1, 2400, .inl (fun _ => 0))), (u 4, .inl (E 0, 5, .inl (fun _ => 0))), (u 5, .inl (E 0, 320, .inl (fun _ => 0))), (u 6, .inl (E 0, 4, .inl (upd (upd (upd (upd (fun _ => 0) 0 (-1)) 1 (-1)) 2 (-1)) 3 (-1)))), (u 7, .inl (E 0, 4, .inl (fun _ => 0))), (u 8, .inl (E 2, 240, .inr (.inl (fun _ => 0))))] := hD
          refine lv_iinc (v := nI (ik_10 + 1)) (lv' := [(2, .int (nI (ik_10 + 1))), (0, .ref h0), (1, .int 1)]) hx hb dX8_image_42 hl (k := 0) rfl (by rw [← nI_1]; rfl) (by decide) rfl (fun ls hl => ?_)
          refine lv_goto (tgt := 17) hx hb dX8_image_45 (by decide) ?_
          exact ihk_10 (ik_10 + 1) (by omega) (by omega) _ _ _ hP hD hS ls (lv_sub hl [0, 1, 2] rfl)
    exact loopk_10 321 0 (Nat.zero_le _) (by omega) _ _ _ hP hD hS ls (lv_sub hl [0, 1, 2] rfl)
  · refine lv_iload_n hx hb dX8_image_0 rfl (lv_at hl 1 rfl) ?_
    refine lv_i2l (v := 2) hx hb dX8_image_1 (by decide) ?_
    refine lv_lconst (v := 0) hx hb dX8_image_2 (by decide) ?_
    refine lv_ldc2 (v := 2) hx hb hown (hts (.constantLong RX8 102 (2)) (List.mem_of_getElem? (i := 1) rfl)) dX8_image_3 ?_
    refine vp_callSi (W.runS (As := [.long 2, .long 0, .long 2]) (rest := []) ⟨hx, hb, hml, hown, hts⟩ (r_M_in l D E s.heap.size h0 u 2 0 2) (va_cwS 3 hts g_m_M_image_r_M_in rfl rfl rfl (by decide +kernel) ⟨Nat.le_of_ble_eq_true rfl, Nat.le_of_ble_eq_true rfl⟩) ⟨pre_blind, pre_at hP hK hD hN⟩ rfl rfl hl.1 rfl (lv_room (Nat.le_of_ble_eq_true rfl)) dX8_image_6 ⟨Nat.le_of_ble_eq_true rfl, Nat.le_of_ble_eq_true rfl⟩) (fun r_12 er_12 => ?_)
    subst er_12
    refine lv_toc (y := 1) (by decide) ?_
    refine lv_if_ne (tgt := 15) hx hb dX8_image_9 (by decide) (fun _ => ?_) (fun h9 => absurd h9 (by decide))
    refine lv_iconst (v := 0) hx hb dX8_image_15 (by decide) ?_
    refine lv_istore_n (lv' := [(2, .int 0), (0, .ref h0), (1, .int 2)]) hx hb dX8_image_16 rfl hl (by decide) rfl (fun ls hl => ?_)
    have loopk_14 : ∀ (nk_14 ik_14 : Nat), ik_14 ≤ 320 → 321 ≤ ik_14 + nk_14 → ∀ (g : Nat → Int32) (H : Heap) (locs : List Loc), va_P D vwCl [(h0, .inr (8, [.int 0, .ref (u 0), .ref (u 1), .ref (u 2), .ref (u 3), .int 0, .ref (u 4), .int 0, .int 0, .int 0, .int 0, .int 0, .int 0, .int (-1), .ref (u 5), .ref (u 9), .ref (u 10), .ref (u 11), .ref (u 12), .ref (u 13), .ref (u 14), .ref (u 15), .int 0, .ref (u 16), .int 0, .ref (u 17), .ref (u 18), .ref (u 19), .int 0, .long 0, .ref (u 20), .ref (u 21), .ref (u 22), .ref (u 23), .int 0, .ref (u 24), .ref (u 25), .ref (u 6), .ref (u 7), .ref (u 8), .ref (u 26)])), (u 0, .inl (E 0, 320, .inl (fun _ => 0))), (u 1, .inl (E 0, 960, .inl g)), (u 2, .inl (E 3, 3, .inl (fun _ => 0))), (u 3, .inl (E 1, 2400, .inl (fun _ => 0))), (u 4, .inl (E 0, 5, .inl (fun _ => 0))), (u 5, .inl (E 0, 320, .inl (fun _ => 0))), (u 6, .inl (E 0, 4, .inl (upd (upd (upd (upd (fun _ => 0) 0 (-1)) 1 (-1)) 2 (-1)) 3 (-1)))), (u 7, .inl (E 0, 4, .inl (fun _ => 0))), (u 8, .inl (E 2, 240, .inr (.inl (fun _ => 0))))] H → va_D A [(h0, .inr (8, [.int 0, .ref (u 0), .ref (u 1), .ref (u 2), .ref (u 3), .int 0, .ref (u 4), .int 0, .int 0, .int 0, .int 0, .int 0, .int 0, .int (-1), .ref (u 5), .ref (u 9), .ref (u 10), .ref (u 11), .ref (u 12), .ref (u 13), .ref (u 14), .ref (u 15), .int 0, .ref (u 16), .int 0, .ref (u 17), .ref (u 18), .ref (u 19), .int 0, .long 0, .ref (u 20), .ref (u 21), .ref (u 22), .ref (u 23), .int 0, .ref (u 24), .ref (u 25), .ref (u 6), .ref (u 7), .ref (u 8), .ref (u 26)])), (u 0, .inl (E 0, 320, .inl (fun _ => 0))), (u 1, .inl (E 0, 960, .inl g)), (u 2, .inl (E 3, 3, .inl (fun _ => 0))), (u 3, .inl (E 1, 2400, .inl (fun _ => 0))), (u 4, .inl (E 0, 5, .inl (fun _ => 0))), (u 5, .inl (E 0, 320, .inl (fun _ => 0))), (u 6, .inl (E 0, 4, .inl (upd (upd (upd (upd (fun _ => 0) 0 (-1)) 1 (-1)) 2 (-1)) 3 (-1)))), (u 7, .inl (E 0, 4, .inl (fun _ => 0))), (u 8, .inl (E 2, 240, .inr (.inl (fun _ => 0))))] → va_S A s.heap H locs → ∀ (ls : Array Slot), lv_has ls 3 [(2, .int (nI ik_14)), (0, .ref h0), (1, .int 2)] → W p l e (headSpec v_m_M_image ({ frames := 1, cells := 0, slots := 0, locals := 25 })).room s m ([.ref h0, .int (2 : Int32)].toArray) below meth c H locs 0 0 (MQ below (qI (S := Unit) (fun r _ => r = if 0 ≤ (2 : Int32).toInt ∧ (2 : Int32).toInt ≤ 2 then 0 else -2) (fun _ => []) D A) ([.ref h0, .int (2 : Int32)].toArray) s 0 0 A) (F0 m 17 ls []) := by
      intro nk_14
      induction nk_14 with
      | zero => intro ik_14 h1 h2; exact absurd h2 (by omega)
      | succ nk_14 ihk_14 =>
        intro ik_14 hik_14 hnk_14 g H locs hP hD hS ls hl
        refine lv_iload_n hx hb dX8_image_17 rfl (lv_at hl 0 rfl) ?_
        refine lv_sipush (v := 320) hx hb dX8_image_18 (by decide) ?_
        refine lv_icmp_ge (tgt := 48) hx hb dX8_image_21 (by decide) (fun h_15 => ?_) (fun h_15 => ?_)
        · refine lv_aload_n hx hb dX8_image_48 rfl (lv_at hl 1 rfl) ?_
          refine va_get (ci := 8) (v := .ref (u 2)) (C := RX8) (T := TX8) (N := 41) hx hb hts in_m_M_image_X8 hown hK hP 0 rfl rfl 3 (by decide) (hts (.fieldLink RX8 16 "UnseenClockModel" "hasImage" "[Z") (List.mem_of_getElem? (i := 6) rfl)) (fun _ h9 => h9) rfl dX8_image_49 ?_
          refine lv_iload_n hx hb dX8_image_52 rfl (lv_at hl 2 rfl) ?_
          refine lv_iconst (v := 1) hx hb dX8_image_53 (by decide) ?_
          refine va_zast hx hb hK hP hD hS 3 3 rfl rfl (by unfold vp_in; decide) dX8_image_54 (fun H locs hP hD hS => ?_)
          have hP : va_P D vwCl [(h0, .inr (8, [.int 0, .ref (u 0), .ref (u 1), .ref (u 2), .ref (u 3), .int 0, .ref (u 4), .int 0, .int 0, .int 0, .int 0, .int 0, .int 0, .int (-1), .ref (u 5), .ref (u 9), .ref (u 10), .ref (u 11), .ref (u 12), .ref (u 13), .ref (u 14), .ref (u 15), .int 0, .ref (u 16), .int 0, .ref (u 17), .ref (u 18), .ref (u 19), .int 0, .long 0, .ref (u 20), .ref (u 21), .ref (u 22), .ref (u 23), .int 0, .ref (u 24), .ref (u 25), .ref (u 6), .ref (u 7), .ref (u 8), .ref (u 26)])), (u 0, .inl (E 0, 320, .inl (fun _ => 0))), (u 1, .inl (E 0, 960, .inl g)), (u 2, .inl (E 3, 3, .inl (upd (fun _ => 0) 2 (vp_nar .boolean 1)))), (u 3, .inl (E 1, 2400, .inl (fun _ => 0))), (u 4, .inl (E 0, 5, .inl (fun _ => 0))), (u 5, .inl (E 0, 320, .inl (fun _ => 0))), (u 6, .inl (E 0, 4, .inl (upd (upd (upd (upd (fun _ => 0) 0 (-1)) 1 (-1)) 2 (-1)) 3 (-1)))), (u 7, .inl (E 0, 4, .inl (fun _ => 0))), (u 8, .inl (E 2, 240, .inr (.inl (fun _ => 0))))] H := hP
          have hD : va_D A [(h0, .inr (8, [.int 0, .ref (u 0), .ref (u 1), .ref (u 2), .ref (u 3), .int 0, .ref (u 4), .int 0, .int 0, .int 0, .int 0, .int 0, .int 0, .int (-1), .ref (u 5), .ref (u 9), .ref (u 10), .ref (u 11), .ref (u 12), .ref (u 13), .ref (u 14), .ref (u 15), .int 0, .ref (u 16), .int 0, .ref (u 17), .ref (u 18), .ref (u 19), .int 0, .long 0, .ref (u 20), .ref (u 21), .ref (u 22), .ref (u 23), .int 0, .ref (u 24), .ref (u 25), .ref (u 6), .ref (u 7), .ref (u 8), .ref (u 26)])), (u 0, .inl (E 0, 320, .inl (fun _ => 0))), (u 1, .inl (E 0, 960, .inl g)), (u 2, .inl (E 3, 3, .inl (upd (fun _ => 0) 2 (vp_nar .boolean 1)))), (u 3, .inl (E 1, 2400, .inl (fun _ => 0))), (u 4, .inl (E 0, 5, .inl (fun _ => 0))), (u 5, .inl (E 0, 320, .inl (fun _ => 0))), (u 6, .inl (E 0, 4, .inl (upd (upd (upd (upd (fun _ => 0) 0 (-1)) 1 (-1)) 2 (-1)) 3 (-1)))), (u 7, .inl (E 0, 4, .inl (fun _ => 0))), (u 8, .inl (E 2, 240, .inr (.inl (fun _ => 0))))] := hD
          refine lv_iconst (v := 0) hx hb dX8_image_55 (by decide) ?_
          exact e_i (v := 0) hx hb hr rfl (()) (by decide) p_nil d_nil hS hlocks dX8_image_56
        · have hltik_14 : ik_14 < 320 := lt_nI (B := 320) (c := 320) (by decide) (by decide) hik_14 h_15
          refine lv_aload_n hx hb dX8_image_24 rfl (lv_at hl 1 rfl) ?_
          refine va_get (ci := 8) (v := .ref (u 1)) (C := RX8) (T := TX8) (N := 41) hx hb hts in_m_M_image_X8 hown hK hP 0 rfl rfl 2 (by decide) (hts (.fieldLink RX8 13 "UnseenClockModel" "images" "[I") (List.mem_of_getElem? (i := 7) rfl)) (fun _ h9 => h9) rfl dX8_image_25 ?_
          refine lv_sipush (v := 320) hx hb dX8_image_28 (by decide) ?_
          refine lv_iload_n hx hb dX8_image_31 rfl (lv_at hl 2 rfl) ?_
          refine lv_imul hx hb dX8_image_32 ?_
          refine lv_toc (y := 640) (by decide) ?_
          refine lv_iload_n hx hb dX8_image_33 rfl (lv_at hl 0 rfl) ?_
          refine lv_iadd hx hb dX8_image_34 ?_
          refine lv_toc (y := nI (640 + ik_14)) (nI_add 640 ik_14) ?_
          refine lv_aload_n hx hb dX8_image_35 rfl (lv_at hl 1 rfl) ?_
          refine va_get (ci := 8) (v := .ref (u 0)) (C := RX8) (T := TX8) (N := 41) hx hb hts in_m_M_image_X8 hown hK hP 0 rfl rfl 1 (by decide) (hts (.fieldLink RX8 9 "UnseenClockModel" "world" "[I") (List.mem_of_getElem? (i := 8) rfl)) (fun _ h9 => h9) rfl dX8_image_36 ?_
          refine lv_iload_n hx hb dX8_image_39 rfl (lv_at hl 0 rfl) ?_
          refine va_iald hx hb hK hP 1 0 rfl rfl (vp_in_nI (by omega) (by omega)) dX8_image_40 ?_
          refine lv_toc (y := 0) rfl ?_
          refine va_iast hx hb hK hP hD hS 2 0 rfl rfl (vp_in_nI (by omega) (by omega)) dX8_image_41 (fun H locs hP hD hS => ?_)
          have hP : va_P D vwCl [(h0, .inr (8, [.int 0, .ref (u 0), .ref (u 1), .ref (u 2), .ref (u 3), .int 0, .ref (u 4), .int 0, .int 0, .int 0, .int 0, .int 0, .int 0, .int (-1), .ref (u 5), .ref (u 9), .ref (u 10), .ref (u 11), .ref (u 12), .ref (u 13), .ref (u 14), .ref (u 15), .int 0, .ref (u 16), .int 0, .ref (u 17), .ref (u 18), .ref (u 19), .int 0, .long 0, .ref (u 20), .ref (u 21), .ref (u 22), .ref (u 23), .int 0, .ref (u 24), .ref (u 25), .ref (u 6), .ref (u 7), .ref (u 8), .ref (u 26)])), (u 0, .inl (E 0, 320, .inl (fun _ => 0))), (u 1, .inl (E 0, 960, .inl (upd g (Int32.toNatClampNeg (nI (640 + ik_14))) 0))), (u 2, .inl (E 3, 3, .inl (fun _ => 0))), (u 3, .inl (E 1, 2400, .inl (fun _ => 0))), (u 4, .inl (E 0, 5, .inl (fun _ => 0))), (u 5, .inl (E 0, 320, .inl (fun _ => 0))), (u 6, .inl (E 0, 4, .inl (upd (upd (upd (upd (fun _ => 0) 0 (-1)) 1 (-1)) 2 (-1)) 3 (-1)))), (u 7, .inl (E 0, 4, .inl (fun _ => 0))), (u 8, .inl (E 2, 240, .inr (.inl (fun _ => 0))))] H := hP
          have hD : va_D A [(h0, .inr (8, [.int 0, .ref (u 0), .ref (u 1), .ref (u 2), .ref (u 3), .int 0, .ref (u 4), .int 0, .int 0, .int 0, .int 0, .int 0, .int 0, .int (-1), .ref (u 5), .ref (u 9), .ref (u 10), .ref (u 11), .ref (u 12), .ref (u 13), .ref (u 14), .ref (u 15), .int 0, .ref (u 16), .int 0, .ref (u 17), .ref (u 18), .ref (u 19), .int 0, .long 0, .ref (u 20), .ref (u 21), .ref (u 22), .ref (u 23), .int 0, .ref (u 24), .ref (u 25), .ref (u 6), .ref (u 7), .ref (u 8), .ref (u 26)])), (u 0, .inl (E 0, 320, .inl (fun _ => 0))), (u 1, .inl (E 0, 960, .inl (upd g (Int32.toNatClampNeg (nI (640 + ik_14))) 0))), (u 2, .inl (E 3, 3, .inl (fun _ => 0))), (u 3, .inl (E 1, 2400, .inl (fun _ => 0))), (u 4, .inl (E 0, 5, .inl (fun _ => 0))), (u 5, .inl (E 0, 320, .inl (fun _ => 0))), (u 6, .inl (E 0, 4, .inl (upd (upd (upd (upd (fun _ => 0) 0 (-1)) 1 (-1)) 2 (-1)) 3 (-1)))), (u 7, .inl (E 0, 4, .inl (fun _ => 0))), (u 8, .inl (E 2, 240, .inr (.inl (fun _ => 0))))] := hD
          refine lv_iinc (v := nI (ik_14 + 1)) (lv' := [(2, .int (nI (ik_14 + 1))), (0, .ref h0), (1, .int 2)]) hx hb dX8_image_42 hl (k := 0) rfl (by rw [← nI_1]; rfl) (by decide) rfl (fun ls hl => ?_)
          refine lv_goto (tgt := 17) hx hb dX8_image_45 (by decide) ?_
          exact ihk_14 (ik_14 + 1) (by omega) (by omega) _ _ _ hP hD hS ls (lv_sub hl [0, 1, 2] rfl)
    exact loopk_14 321 0 (Nat.zero_le _) (by omega) _ _ _ hP hD hS ls (lv_sub hl [0, 1, 2] rfl)

