theorem dX8_see_0 : decode cX8_see 0 = .ok (.iload_n 1, 1) := by decide +kernel
theorem dX8_see_1 : decode cX8_see 1 = .ok (.aload_n 0, 1) := by decide +kernel
theorem dX8_see_2 : decode cX8_see 2 = .ok (.getfield 117, 3) := by decide +kernel
theorem dX8_see_5 : decode cX8_see 5 = .ok (.if_icmp .ge 16, 3) := by decide +kernel
theorem dX8_see_21 : decode cX8_see 21 = .ok (.iconst (-1), 1) := by decide +kernel
theorem dX8_see_22 : decode cX8_see 22 = .ok (.ireturn, 1) := by decide +kernel
theorem dX8_good_0 : decode cX8_good 0 = .ok (.aload_n 0, 1) := by decide +kernel
theorem dX8_good_1 : decode cX8_good 1 = .ok (.getfield 151, 3) := by decide +kernel
theorem dX8_good_4 : decode cX8_good 4 = .ok (.ifCond .ne 7, 3) := by decide +kernel
theorem dX8_good_7 : decode cX8_good 7 = .ok (.iconst 1, 1) := by decide +kernel
theorem dX8_good_8 : decode cX8_good 8 = .ok (.goto 4, 3) := by decide +kernel
theorem dX8_good_12 : decode cX8_good 12 = .ok (.ireturn, 1) := by decide +kernel
theorem dX8_advance_0 : decode cX8_advance 0 = .ok (.aload_n 0, 1) := by decide +kernel
theorem dX8_advance_1 : decode cX8_advance 1 = .ok (.aload_n 0, 1) := by decide +kernel
theorem dX8_advance_2 : decode cX8_advance 2 = .ok (.getfield 120, 3) := by decide +kernel
theorem dX8_advance_5 : decode cX8_advance 5 = .ok (.invokevirtual 123, 3) := by decide +kernel
theorem dX8_advance_8 : decode cX8_advance 8 = .ok (.bipush 32, 2) := by decide +kernel
theorem dX8_advance_10 : decode cX8_advance 10 = .ok (.if_icmp .eq 16, 3) := by decide +kernel
theorem dX8_advance_13 : decode cX8_advance 13 = .ok (.aload_n 0, 1) := by decide +kernel
theorem dX8_advance_14 : decode cX8_advance 14 = .ok (.aload_n 0, 1) := by decide +kernel
theorem dX8_advance_15 : decode cX8_advance 15 = .ok (.getfield 120, 3) := by decide +kernel
theorem dX8_advance_18 : decode cX8_advance 18 = .ok (.invokevirtual 123, 3) := by decide +kernel
theorem dX8_advance_21 : decode cX8_advance 21 = .ok (.bipush 10, 2) := by decide +kernel
theorem dX8_advance_23 : decode cX8_advance 23 = .ok (.if_icmp .ne 16, 3) := by decide +kernel
theorem dX8_advance_39 : decode cX8_advance 39 = .ok (.aload_n 0, 1) := by decide +kernel
theorem dX8_advance_40 : decode cX8_advance 40 = .ok (.aload_n 0, 1) := by decide +kernel
theorem dX8_advance_41 : decode cX8_advance 41 = .ok (.getfield 120, 3) := by decide +kernel
theorem dX8_advance_44 : decode cX8_advance 44 = .ok (.putfield 127, 3) := by decide +kernel
theorem dX8_advance_47 : decode cX8_advance 47 = .ok (.aload_n 0, 1) := by decide +kernel
theorem dX8_advance_48 : decode cX8_advance 48 = .ok (.aload_n 0, 1) := by decide +kernel
theorem dX8_advance_49 : decode cX8_advance 49 = .ok (.getfield 120, 3) := by decide +kernel
theorem dX8_advance_52 : decode cX8_advance 52 = .ok (.invokevirtual 123, 3) := by decide +kernel
theorem dX8_advance_55 : decode cX8_advance 55 = .ok (.istore_n 1, 1) := by decide +kernel
theorem dX8_advance_56 : decode cX8_advance 56 = .ok (.iload_n 1, 1) := by decide +kernel
theorem dX8_advance_57 : decode cX8_advance 57 = .ok (.iconst (-1), 1) := by decide +kernel
theorem dX8_advance_58 : decode cX8_advance 58 = .ok (.if_icmp .ne 11, 3) := by decide +kernel
theorem dX8_advance_61 : decode cX8_advance 61 = .ok (.aload_n 0, 1) := by decide +kernel
theorem dX8_advance_62 : decode cX8_advance 62 = .ok (.iconst 0, 1) := by decide +kernel
theorem dX8_advance_63 : decode cX8_advance 63 = .ok (.putfield 130, 3) := by decide +kernel
theorem dX8_advance_66 : decode cX8_advance 66 = .ok (.goto 173, 3) := by decide +kernel
theorem dX8_advance_239 : decode cX8_advance 239 = .ok (.return_, 1) := by decide +kernel
theorem dX8_square_0 : decode cX8_square 0 = .ok (.aload_n 0, 1) := by decide +kernel
theorem dX8_square_1 : decode cX8_square 1 = .ok (.aload_n 0, 1) := by decide +kernel
theorem dX8_square_2 : decode cX8_square 2 = .ok (.getfield 114, 3) := by decide +kernel
theorem dX8_square_5 : decode cX8_square 5 = .ok (.putfield 117, 3) := by decide +kernel
theorem dX8_square_8 : decode cX8_square 8 = .ok (.aload_n 0, 1) := by decide +kernel
theorem dX8_square_9 : decode cX8_square 9 = .ok (.iconst 0, 1) := by decide +kernel
theorem dX8_square_10 : decode cX8_square 10 = .ok (.putfield 114, 3) := by decide +kernel
theorem dX8_square_13 : decode cX8_square 13 = .ok (.aload_n 0, 1) := by decide +kernel
theorem dX8_square_14 : decode cX8_square 14 = .ok (.iconst 0, 1) := by decide +kernel
theorem dX8_square_15 : decode cX8_square 15 = .ok (.putfield 120, 3) := by decide +kernel
theorem dX8_square_18 : decode cX8_square 18 = .ok (.aload_n 0, 1) := by decide +kernel
theorem dX8_square_19 : decode cX8_square 19 = .ok (.iconst 0, 1) := by decide +kernel
theorem dX8_square_20 : decode cX8_square 20 = .ok (.putfield 151, 3) := by decide +kernel
theorem dX8_square_23 : decode cX8_square 23 = .ok (.aload_n 0, 1) := by decide +kernel
theorem dX8_square_24 : decode cX8_square 24 = .ok (.iconst (-1), 1) := by decide +kernel
theorem dX8_square_25 : decode cX8_square 25 = .ok (.putfield 27, 3) := by decide +kernel
theorem dX8_square_28 : decode cX8_square 28 = .ok (.iconst 0, 1) := by decide +kernel
theorem dX8_square_29 : decode cX8_square 29 = .ok (.istore_n 1, 1) := by decide +kernel
theorem dX8_square_30 : decode cX8_square 30 = .ok (.iload_n 1, 1) := by decide +kernel
theorem dX8_square_31 : decode cX8_square 31 = .ok (.sipush 320, 3) := by decide +kernel
theorem dX8_square_34 : decode cX8_square 34 = .ok (.if_icmp .ge 16, 3) := by decide +kernel
theorem dX8_square_37 : decode cX8_square 37 = .ok (.aload_n 0, 1) := by decide +kernel
theorem dX8_square_38 : decode cX8_square 38 = .ok (.getfield 31, 3) := by decide +kernel
theorem dX8_square_41 : decode cX8_square 41 = .ok (.iload_n 1, 1) := by decide +kernel
theorem dX8_square_42 : decode cX8_square 42 = .ok (.iconst 0, 1) := by decide +kernel
theorem dX8_square_43 : decode cX8_square 43 = .ok (.iastore, 1) := by decide +kernel
theorem dX8_square_44 : decode cX8_square 44 = .ok (.iinc 1 1, 3) := by decide +kernel
theorem dX8_square_47 : decode cX8_square 47 = .ok (.goto (-17), 3) := by decide +kernel
theorem dX8_square_50 : decode cX8_square 50 = .ok (.aload_n 0, 1) := by decide +kernel
theorem dX8_square_51 : decode cX8_square 51 = .ok (.invokevirtual 171, 3) := by decide +kernel
theorem dX8_square_54 : decode cX8_square 54 = .ok (.aload_n 0, 1) := by decide +kernel
theorem dX8_square_55 : decode cX8_square 55 = .ok (.invokevirtual 154, 3) := by decide +kernel
theorem dX8_square_58 : decode cX8_square 58 = .ok (.ifCond .eq 17, 3) := by decide +kernel
theorem dX8_square_61 : decode cX8_square 61 = .ok (.aload_n 0, 1) := by decide +kernel
theorem dX8_square_62 : decode cX8_square 62 = .ok (.getfield 130, 3) := by decide +kernel
theorem dX8_square_65 : decode cX8_square 65 = .ok (.ifCond .eq 10, 3) := by decide +kernel
theorem dX8_square_75 : decode cX8_square 75 = .ok (.aload_n 0, 1) := by decide +kernel
theorem dX8_square_76 : decode cX8_square 76 = .ok (.invokevirtual 154, 3) := by decide +kernel
theorem dX8_square_79 : decode cX8_square 79 = .ok (.ifCond .ne 6, 3) := by decide +kernel
theorem dX8_square_85 : decode cX8_square 85 = .ok (.iconst 0, 1) := by decide +kernel
theorem dX8_square_86 : decode cX8_square 86 = .ok (.istore_n 1, 1) := by decide +kernel
theorem dX8_square_87 : decode cX8_square 87 = .ok (.iload_n 1, 1) := by decide +kernel
theorem dX8_square_88 : decode cX8_square 88 = .ok (.sipush 320, 3) := by decide +kernel
theorem dX8_square_91 : decode cX8_square 91 = .ok (.if_icmp .ge 21, 3) := by decide +kernel
theorem dX8_square_94 : decode cX8_square 94 = .ok (.aload_n 0, 1) := by decide +kernel
theorem dX8_square_95 : decode cX8_square 95 = .ok (.getfield 9, 3) := by decide +kernel
theorem dX8_square_98 : decode cX8_square 98 = .ok (.iload_n 1, 1) := by decide +kernel
theorem dX8_square_99 : decode cX8_square 99 = .ok (.aload_n 0, 1) := by decide +kernel
theorem dX8_square_100 : decode cX8_square 100 = .ok (.getfield 31, 3) := by decide +kernel
theorem dX8_square_103 : decode cX8_square 103 = .ok (.iload_n 1, 1) := by decide +kernel
theorem dX8_square_104 : decode cX8_square 104 = .ok (.iaload, 1) := by decide +kernel
theorem dX8_square_105 : decode cX8_square 105 = .ok (.iastore, 1) := by decide +kernel
theorem dX8_square_106 : decode cX8_square 106 = .ok (.iinc 1 1, 3) := by decide +kernel
theorem dX8_square_109 : decode cX8_square 109 = .ok (.goto (-22), 3) := by decide +kernel
theorem dX8_square_112 : decode cX8_square 112 = .ok (.aload_n 0, 1) := by decide +kernel
theorem dX8_square_113 : decode cX8_square 113 = .ok (.getfield 9, 3) := by decide +kernel
theorem dX8_square_116 : decode cX8_square 116 = .ok (.iconst 3, 1) := by decide +kernel
theorem dX8_square_117 : decode cX8_square 117 = .ok (.iaload, 1) := by decide +kernel
theorem dX8_square_118 : decode cX8_square 118 = .ok (.ireturn, 1) := by decide +kernel
def v_m_M_see : List Cond := .code yX8_see cX8_see 2 (some .int) :: ([.fieldLink RX8 117 "UnseenClockModel" "size" "I"] ++ (wsX80))
theorem in_m_M_see_X8 : ∀ w ∈ u_ws RX8 TX8 41, w ∈ v_m_M_see := fun w h => List.mem_cons_of_mem _ (List.mem_append_right _ (h))
set_option maxHeartbeats 2000000 in
set_option maxRecDepth 100000 in
theorem m_M_see (l : Launch) (D : va_G) (E : Nat → ClassId) (sz : Nat) (h0 : Nat) (u : Nat → Nat) : Met l yX8_see v_m_M_see ({ frames := 0, cells := 0, slots := 0, locals := 0 }) (va_Pc [.ref h0, .int 0] (pre D E ([(h0, .inr (8, [.int 0, .ref (u 0), .ref (u 1), .ref (u 2), .ref (u 3), .int 0, .ref (u 4), .int 0, .int 0, .int 0, .int 0, .int 0, .int 0, .int (-1), .ref (u 5), .ref (u 9), .ref (u 10), .ref (u 11), .ref (u 12), .ref (u 13), .ref (u 14), .ref (u 15), .int 0, .ref (u 16), .int 0, .ref (u 17), .ref (u 18), .ref (u 19), .int 0, .long 0, .ref (u 20), .ref (u 21), .ref (u 22), .ref (u 23), .int 0, .ref (u 24), .ref (u 25), .ref (u 6), .ref (u 7), .ref (u 8), .ref (u 26)]))]) sz)) (vp_Si (fun r => r = -1)) 0 0 (fun _ => False) := by
  refine c_read (cc := cX8_see) (maxL := 2) (ret := (some .int)) (by decide) rfl (Nat.le_of_ble_eq_true rfl) ?_
  intro p e s m below meth c ls ⟨hx, hb, hr, hts, hown, hlocks, hin, hml⟩ hP hK hD hN hl
  have hown : s.vm.findClass RX8 = some m.cls := hown
  have hl : lv_has ls 2 [(0, .ref h0), (1, .int 0)] := hl
  refine lv_iload_n hx hb dX8_see_0 rfl (lv_at hl 1 rfl) ?_
  refine lv_aload_n hx hb dX8_see_1 rfl (lv_at hl 0 rfl) ?_
  refine va_get (ci := 8) (v := .int 0) (C := RX8) (T := TX8) (N := 41) hx hb hts in_m_M_see_X8 hown hK hP 0 rfl rfl 7 (by decide) (hts (.fieldLink RX8 117 "UnseenClockModel" "size" "I") (List.mem_of_getElem? (i := 1) rfl)) (fun _ h9 => h9) rfl dX8_see_2 ?_
  refine lv_icmp_ge (tgt := 21) hx hb dX8_see_5 (by decide) (fun _ => ?_) (fun h9 => absurd (by decide) h9)
  refine lv_iconst (v := (-1)) hx hb dX8_see_21 (by decide) ?_
  exact e_s (v := (-1)) hx hb hr rfl rfl hlocks dX8_see_22

def v_m_M_good : List Cond := .code yX8_good cX8_good 1 (some .boolean) :: ([.fieldLink RX8 151 "UnseenClockModel" "faultKind" "I"] ++ (wsX80))
theorem in_m_M_good_X8 : ∀ w ∈ u_ws RX8 TX8 41, w ∈ v_m_M_good := fun w h => List.mem_cons_of_mem _ (List.mem_append_right _ (h))
set_option maxHeartbeats 2000000 in
set_option maxRecDepth 100000 in
theorem m_M_good (l : Launch) (D : va_G) (E : Nat → ClassId) (sz : Nat) (h0 : Nat) (u : Nat → Nat) : Met l yX8_good v_m_M_good ({ frames := 0, cells := 0, slots := 0, locals := 0 }) (va_Pc [.ref h0] (pre D E ([(h0, .inr (8, [.int 0, .ref (u 0), .ref (u 1), .ref (u 2), .ref (u 3), .int 0, .ref (u 4), .int 0, .int 0, .int 0, .int 0, .int 0, .int 0, .int (-1), .ref (u 5), .ref (u 9), .ref (u 10), .ref (u 11), .ref (u 12), .ref (u 13), .ref (u 14), .ref (u 15), .int 0, .ref (u 16), .int 0, .ref (u 17), .ref (u 18), .ref (u 19), .int 0, .long 0, .ref (u 20), .ref (u 21), .ref (u 22), .ref (u 23), .int 0, .ref (u 24), .ref (u 25), .ref (u 6), .ref (u 7), .ref (u 8), .ref (u 26)]))]) sz)) (vp_Si (fun r => r = 1)) 0 0 (fun _ => False) := by
  refine c_read (cc := cX8_good) (maxL := 1) (ret := (some .boolean)) (by decide) rfl (Nat.le_of_ble_eq_true rfl) ?_
  intro p e s m below meth c ls ⟨hx, hb, hr, hts, hown, hlocks, hin, hml⟩ hP hK hD hN hl
  have hown : s.vm.findClass RX8 = some m.cls := hown
  have hl : lv_has ls 1 [(0, .ref h0)] := hl
  refine lv_aload_n hx hb dX8_good_0 rfl (lv_at hl 0 rfl) ?_
  refine va_get (ci := 8) (v := .int 0) (C := RX8) (T := TX8) (N := 41) hx hb hts in_m_M_good_X8 hown hK hP 0 rfl rfl 12 (by decide) (hts (.fieldLink RX8 151 "UnseenClockModel" "faultKind" "I") (List.mem_of_getElem? (i := 1) rfl)) (fun _ h9 => h9) rfl dX8_good_1 ?_
  refine lv_if_ne (tgt := 11) hx hb dX8_good_4 (by decide) (fun h9 => absurd (by decide) h9) (fun _ => ?_)
  refine lv_iconst (v := 1) hx hb dX8_good_7 (by decide) ?_
  refine lv_goto (tgt := 12) hx hb dX8_good_8 (by decide) ?_
  exact e_s (v := 1) hx hb hr rfl rfl hlocks dX8_good_12

def v_m_M_advance : List Cond := .code yX8_advance cX8_advance 2 none :: ([.fieldLink RX8 120 "UnseenClockModel" "at" "I", .fieldLink RX8 117 "UnseenClockModel" "size" "I", .code yX8_see cX8_see 2 (some .int), .methodLink RX8 123 yX8_see, .instanceMethod yX8_see, .selects RX8 yX8_see yX8_see, .initialized RX8, .fieldLink RX8 127 "UnseenClockModel" "from" "I", .fieldLink RX8 130 "UnseenClockModel" "token" "I"] ++ (wsX80))
theorem in_m_M_advance_X8 : ∀ w ∈ u_ws RX8 TX8 41, w ∈ v_m_M_advance := fun w h => List.mem_cons_of_mem _ (List.mem_append_right _ (h))
set_option maxRecDepth 20000 in
theorem g_m_M_advance_m_M_see : GoodIn v_m_M_advance (wsV RX8 123 RX8 yX8_see v_m_M_see) := g_rows _ [4, 5, 6, 7, 3, 2, 10, 11, 12, 13, 14, 15, 16, 17, 18, 19, 20, 21, 22, 23, 24, 25, 26, 27, 28, 29, 30, 31, 32, 33, 34, 35, 36, 37, 38, 39, 40, 41, 42, 43, 44, 45, 46, 47, 48, 49, 50] rfl (by decide +kernel)
set_option maxHeartbeats 2000000 in
set_option maxRecDepth 100000 in
theorem m_M_advance (l : Launch) (D : va_G) (E : Nat → ClassId) (sz : Nat) (h0 : Nat) (u : Nat → Nat) : Met l yX8_advance v_m_M_advance ({ frames := 1, cells := 0, slots := 0, locals := 21 }) (va_Pc [.ref h0] (pre D E ([(h0, .inr (8, [.int 0, .ref (u 0), .ref (u 1), .ref (u 2), .ref (u 3), .int 0, .ref (u 4), .int 0, .int 0, .int 0, .int 0, .int 0, .int 0, .int (-1), .ref (u 5), .ref (u 9), .ref (u 10), .ref (u 11), .ref (u 12), .ref (u 13), .ref (u 14), .ref (u 15), .int 0, .ref (u 16), .int 0, .ref (u 17), .ref (u 18), .ref (u 19), .int 0, .long 0, .ref (u 20), .ref (u 21), .ref (u 22), .ref (u 23), .int 0, .ref (u 24), .ref (u 25), .ref (u 6), .ref (u 7), .ref (u 8), .ref (u 26)]))]) sz)) (qV (S := Unit) (fun _ => True) (fun _ => [(h0, .inr (8, [.int 0, .ref (u 0), .ref (u 1), .ref (u 2), .ref (u 3), .int 0, .ref (u 4), .int 0, .int 0, .int 0, .int 0, .int 0, .int 0, .int (-1), .ref (u 5), .ref (u 9), .ref (u 10), .ref (u 11), .ref (u 12), .ref (u 13), .ref (u 14), .ref (u 15), .int 0, .ref (u 16), .int 0, .ref (u 17), .ref (u 18), .ref (u 19), .int 0, .long 0, .ref (u 20), .ref (u 21), .ref (u 22), .ref (u 23), .int 0, .ref (u 24), .ref (u 25), .ref (u 6), .ref (u 7), .ref (u 8), .ref (u 26)]))]) D (va_A ([(h0, .inr (8, [.int 0, .ref (u 0), .ref (u 1), .ref (u 2), .ref (u 3), .int 0, .ref (u 4), .int 0, .int 0, .int 0, .int 0, .int 0, .int 0, .int (-1), .ref (u 5), .ref (u 9), .ref (u 10), .ref (u 11), .ref (u 12), .ref (u 13), .ref (u 14), .ref (u 15), .int 0, .ref (u 16), .int 0, .ref (u 17), .ref (u 18), .ref (u 19), .int 0, .long 0, .ref (u 20), .ref (u 21), .ref (u 22), .ref (u 23), .int 0, .ref (u 24), .ref (u 25), .ref (u 6), .ref (u 7), .ref (u 8), .ref (u 26)]))]) sz)) 0 0 (va_A ([(h0, .inr (8, [.int 0, .ref (u 0), .ref (u 1), .ref (u 2), .ref (u 3), .int 0, .ref (u 4), .int 0, .int 0, .int 0, .int 0, .int 0, .int 0, .int (-1), .ref (u 5), .ref (u 9), .ref (u 10), .ref (u 11), .ref (u 12), .ref (u 13), .ref (u 14), .ref (u 15), .int 0, .ref (u 16), .int 0, .ref (u 17), .ref (u 18), .ref (u 19), .int 0, .long 0, .ref (u 20), .ref (u 21), .ref (u 22), .ref (u 23), .int 0, .ref (u 24), .ref (u 25), .ref (u 6), .ref (u 7), .ref (u 8), .ref (u 26)]))]) sz) := by
  refine c_void (cc := cX8_advance) (maxL := 2) (ret := none) (by decide) rfl (Nat.le_of_ble_eq_true rfl) ?_
  intro p e s m below meth c ls A ⟨hx, hb, hr, hts, hown, hlocks, hin, hml⟩ hP hK hD hN hA hS hl
  have hown : s.vm.findClass RX8 = some m.cls := hown
  have hl : lv_has ls 2 [(0, .ref h0)] := hl
  refine lv_aload_n hx hb dX8_advance_0 rfl (lv_at hl 0 rfl) ?_
  refine lv_aload_n hx hb dX8_advance_1 rfl (lv_at hl 0 rfl) ?_
  refine va_get (ci := 8) (v := .int 0) (C := RX8) (T := TX8) (N := 41) hx hb hts in_m_M_advance_X8 hown hK hP 0 rfl rfl 8 (by decide) (hts (.fieldLink RX8 120 "UnseenClockModel" "at" "I") (List.mem_of_getElem? (i := 1) rfl)) (fun _ h9 => h9) rfl dX8_advance_2 ?_
  have hPc := hP.sub (ws' := [(h0, .inr (8, [.int 0, .ref (u 0), .ref (u 1), .ref (u 2), .ref (u 3), .int 0, .ref (u 4), .int 0, .int 0, .int 0, .int 0, .int 0, .int 0, .int (-1), .ref (u 5), .ref (u 9), .ref (u 10), .ref (u 11), .ref (u 12), .ref (u 13), .ref (u 14), .ref (u 15), .int 0, .ref (u 16), .int 0, .ref (u 17), .ref (u 18), .ref (u 19), .int 0, .long 0, .ref (u 20), .ref (u 21), .ref (u 22), .ref (u 23), .int 0, .ref (u 24), .ref (u 25), .ref (u 6), .ref (u 7), .ref (u 8), .ref (u 26)]))]) [0] rfl
  have hDc := hD.sub (ws' := [(h0, .inr (8, [.int 0, .ref (u 0), .ref (u 1), .ref (u 2), .ref (u 3), .int 0, .ref (u 4), .int 0, .int 0, .int 0, .int 0, .int 0, .int 0, .int (-1), .ref (u 5), .ref (u 9), .ref (u 10), .ref (u 11), .ref (u 12), .ref (u 13), .ref (u 14), .ref (u 15), .int 0, .ref (u 16), .int 0, .ref (u 17), .ref (u 18), .ref (u 19), .int 0, .long 0, .ref (u 20), .ref (u 21), .ref (u 22), .ref (u 23), .int 0, .ref (u 24), .ref (u 25), .ref (u 6), .ref (u 7), .ref (u 8), .ref (u 26)]))]) [0] (by decide) rfl
  refine vp_callSi (W.runV (As := [.int 0]) (rest := []) ⟨hx, hb, hml, hown, hts⟩ (m_M_see l D E s.heap.size h0 u) (cwV 1 hts g_m_M_advance_m_M_see rfl rfl rfl (by decide +kernel) ⟨Nat.le_of_ble_eq_true rfl, Nat.le_of_ble_eq_true rfl⟩) ⟨pre_blind, va_recv hK hPc (ci := 8) (q0 := 0) rfl rfl, pre_at hPc hK hDc hN⟩ rfl rfl hl.1 rfl (lv_room (Nat.le_of_ble_eq_true rfl)) dX8_advance_5 ⟨Nat.le_of_ble_eq_true rfl, Nat.le_of_ble_eq_true rfl⟩) (fun r_1 er_1 => ?_)
  subst er_1
  refine lv_bipush (v := 32) hx hb dX8_advance_8 (by decide) ?_
  refine lv_icmp_eq (tgt := 26) hx hb dX8_advance_10 (by decide) (fun h9 => absurd h9 (by decide)) (fun _ => ?_)
  refine lv_aload_n hx hb dX8_advance_13 rfl (lv_at hl 0 rfl) ?_
  refine lv_aload_n hx hb dX8_advance_14 rfl (lv_at hl 0 rfl) ?_
  refine va_get (ci := 8) (v := .int 0) (C := RX8) (T := TX8) (N := 41) hx hb hts in_m_M_advance_X8 hown hK hP 0 rfl rfl 8 (by decide) (hts (.fieldLink RX8 120 "UnseenClockModel" "at" "I") (List.mem_of_getElem? (i := 1) rfl)) (fun _ h9 => h9) rfl dX8_advance_15 ?_
  have hPc := hP.sub (ws' := [(h0, .inr (8, [.int 0, .ref (u 0), .ref (u 1), .ref (u 2), .ref (u 3), .int 0, .ref (u 4), .int 0, .int 0, .int 0, .int 0, .int 0, .int 0, .int (-1), .ref (u 5), .ref (u 9), .ref (u 10), .ref (u 11), .ref (u 12), .ref (u 13), .ref (u 14), .ref (u 15), .int 0, .ref (u 16), .int 0, .ref (u 17), .ref (u 18), .ref (u 19), .int 0, .long 0, .ref (u 20), .ref (u 21), .ref (u 22), .ref (u 23), .int 0, .ref (u 24), .ref (u 25), .ref (u 6), .ref (u 7), .ref (u 8), .ref (u 26)]))]) [0] rfl
  have hDc := hD.sub (ws' := [(h0, .inr (8, [.int 0, .ref (u 0), .ref (u 1), .ref (u 2), .ref (u 3), .int 0, .ref (u 4), .int 0, .int 0, .int 0, .int 0, .int 0, .int 0, .int (-1), .ref (u 5), .ref (u 9), .ref (u 10), .ref (u 11), .ref (u 12), .ref (u 13), .ref (u 14), .ref (u 15), .int 0, .ref (u 16), .int 0, .ref (u 17), .ref (u 18), .ref (u 19), .int 0, .long 0, .ref (u 20), .ref (u 21), .ref (u 22), .ref (u 23), .int 0, .ref (u 24), .ref (u 25), .ref (u 6), .ref (u 7), .ref (u 8), .ref (u 26)]))]) [0] (by decide) rfl
  refine vp_callSi (W.runV (As := [.int 0]) (rest := []) ⟨hx, hb, hml, hown, hts⟩ (m_M_see l D E s.heap.size h0 u) (cwV 1 hts g_m_M_advance_m_M_see rfl rfl rfl (by decide +kernel) ⟨Nat.le_of_ble_eq_true rfl, Nat.le_of_ble_eq_true rfl⟩) ⟨pre_blind, va_recv hK hPc (ci := 8) (q0 := 0) rfl rfl, pre_at hPc hK hDc hN⟩ rfl rfl hl.1 rfl (lv_room (Nat.le_of_ble_eq_true rfl)) dX8_advance_18 ⟨Nat.le_of_ble_eq_true rfl, Nat.le_of_ble_eq_true rfl⟩) (fun r_3 er_3 => ?_)
  subst er_3
  refine lv_bipush (v := 10) hx hb dX8_advance_21 (by decide) ?_
  refine lv_icmp_ne (tgt := 39) hx hb dX8_advance_23 (by decide) (fun _ => ?_) (fun h9 => absurd h9 (by decide))
  refine lv_aload_n hx hb dX8_advance_39 rfl (lv_at hl 0 rfl) ?_
  refine lv_aload_n hx hb dX8_advance_40 rfl (lv_at hl 0 rfl) ?_
  refine va_get (ci := 8) (v := .int 0) (C := RX8) (T := TX8) (N := 41) hx hb hts in_m_M_advance_X8 hown hK hP 0 rfl rfl 8 (by decide) (hts (.fieldLink RX8 120 "UnseenClockModel" "at" "I") (List.mem_of_getElem? (i := 1) rfl)) (fun _ h9 => h9) rfl dX8_advance_41 ?_
  refine va_put (ci := 8) (v := .int 0) (ty := .int) (C := RX8) (T := TX8) (N := 41) hx hb hts in_m_M_advance_X8 tyX8 tyX8_ok nmX8 hown hK hP hD hS 0 rfl rfl 9 (by decide) (hts (.fieldLink RX8 127 "UnseenClockModel" "from" "I") (List.mem_of_getElem? (i := 8) rfl)) (fun _ h9 => h9) rfl (by decide +kernel) rfl rfl (Nat.le_of_ble_eq_true rfl) dX8_advance_44 (fun H locs hP hD hS => ?_)
  have hP : va_P D vwCl [(h0, .inr (8, [.int 0, .ref (u 0), .ref (u 1), .ref (u 2), .ref (u 3), .int 0, .ref (u 4), .int 0, .int 0, .int 0, .int 0, .int 0, .int 0, .int (-1), .ref (u 5), .ref (u 9), .ref (u 10), .ref (u 11), .ref (u 12), .ref (u 13), .ref (u 14), .ref (u 15), .int 0, .ref (u 16), .int 0, .ref (u 17), .ref (u 18), .ref (u 19), .int 0, .long 0, .ref (u 20), .ref (u 21), .ref (u 22), .ref (u 23), .int 0, .ref (u 24), .ref (u 25), .ref (u 6), .ref (u 7), .ref (u 8), .ref (u 26)]))] H := hP
  have hD : va_D A [(h0, .inr (8, [.int 0, .ref (u 0), .ref (u 1), .ref (u 2), .ref (u 3), .int 0, .ref (u 4), .int 0, .int 0, .int 0, .int 0, .int 0, .int 0, .int (-1), .ref (u 5), .ref (u 9), .ref (u 10), .ref (u 11), .ref (u 12), .ref (u 13), .ref (u 14), .ref (u 15), .int 0, .ref (u 16), .int 0, .ref (u 17), .ref (u 18), .ref (u 19), .int 0, .long 0, .ref (u 20), .ref (u 21), .ref (u 22), .ref (u 23), .int 0, .ref (u 24), .ref (u 25), .ref (u 6), .ref (u 7), .ref (u 8), .ref (u 26)]))] := hD
  refine lv_aload_n hx hb dX8_advance_47 rfl (lv_at hl 0 rfl) ?_
  refine lv_aload_n hx hb dX8_advance_48 rfl (lv_at hl 0 rfl) ?_
  refine va_get (ci := 8) (v := .int 0) (C := RX8) (T := TX8) (N := 41) hx hb hts in_m_M_advance_X8 hown hK hP 0 rfl rfl 8 (by decide) (hts (.fieldLink RX8 120 "UnseenClockModel" "at" "I") (List.mem_of_getElem? (i := 1) rfl)) (fun _ h9 => h9) rfl dX8_advance_49 ?_
  have hPc := hP.sub (ws' := [(h0, .inr (8, [.int 0, .ref (u 0), .ref (u 1), .ref (u 2), .ref (u 3), .int 0, .ref (u 4), .int 0, .int 0, .int 0, .int 0, .int 0, .int 0, .int (-1), .ref (u 5), .ref (u 9), .ref (u 10), .ref (u 11), .ref (u 12), .ref (u 13), .ref (u 14), .ref (u 15), .int 0, .ref (u 16), .int 0, .ref (u 17), .ref (u 18), .ref (u 19), .int 0, .long 0, .ref (u 20), .ref (u 21), .ref (u 22), .ref (u 23), .int 0, .ref (u 24), .ref (u 25), .ref (u 6), .ref (u 7), .ref (u 8), .ref (u 26)]))]) [0] rfl
  have hDc := hD.sub (ws' := [(h0, .inr (8, [.int 0, .ref (u 0), .ref (u 1), .ref (u 2), .ref (u 3), .int 0, .ref (u 4), .int 0, .int 0, .int 0, .int 0, .int 0, .int 0, .int (-1), .ref (u 5), .ref (u 9), .ref (u 10), .ref (u 11), .ref (u 12), .ref (u 13), .ref (u 14), .ref (u 15), .int 0, .ref (u 16), .int 0, .ref (u 17), .ref (u 18), .ref (u 19), .int 0, .long 0, .ref (u 20), .ref (u 21), .ref (u 22), .ref (u 23), .int 0, .ref (u 24), .ref (u 25), .ref (u 6), .ref (u 7), .ref (u 8), .ref (u 26)]))]) [0] (by decide) rfl
  refine vp_callSi (W.runV (As := [.int 0]) (rest := []) ⟨hx, hb, hml, hown, hts⟩ (m_M_see l D E H.size h0 u) (cwV 1 hts g_m_M_advance_m_M_see rfl rfl rfl (by decide +kernel) ⟨Nat.le_of_ble_eq_true rfl, Nat.le_of_ble_eq_true rfl⟩) ⟨pre_blind, va_recv hK hPc (ci := 8) (q0 := 0) rfl rfl, pre_at hPc hK hDc hN⟩ rfl rfl hl.1 rfl (lv_room (Nat.le_of_ble_eq_true rfl)) dX8_advance_52 ⟨Nat.le_of_ble_eq_true rfl, Nat.le_of_ble_eq_true rfl⟩) (fun r_5 er_5 => ?_)
  subst er_5
  refine lv_istore_n (lv' := [(1, .int (-1)), (0, .ref h0)]) hx hb dX8_advance_55 rfl hl (by decide) rfl (fun ls hl => ?_)
  refine lv_iload_n hx hb dX8_advance_56 rfl (lv_at hl 0 rfl) ?_
  refine lv_iconst (v := (-1)) hx hb dX8_advance_57 (by decide) ?_
  refine lv_icmp_ne (tgt := 69) hx hb dX8_advance_58 (by decide) (fun h9 => absurd (by decide) h9) (fun _ => ?_)
  refine lv_aload_n hx hb dX8_advance_61 rfl (lv_at hl 1 rfl) ?_
  refine lv_iconst (v := 0) hx hb dX8_advance_62 (by decide) ?_
  refine va_put (ci := 8) (v := .int 0) (ty := .int) (C := RX8) (T := TX8) (N := 41) hx hb hts in_m_M_advance_X8 tyX8 tyX8_ok nmX8 hown hK hP hD hS 0 rfl rfl 10 (by decide) (hts (.fieldLink RX8 130 "UnseenClockModel" "token" "I") (List.mem_of_getElem? (i := 9) rfl)) (fun _ h9 => h9) rfl (by decide +kernel) rfl rfl (Nat.le_of_ble_eq_true rfl) dX8_advance_63 (fun H locs hP hD hS => ?_)
  have hP : va_P D vwCl [(h0, .inr (8, [.int 0, .ref (u 0), .ref (u 1), .ref (u 2), .ref (u 3), .int 0, .ref (u 4), .int 0, .int 0, .int 0, .int 0, .int 0, .int 0, .int (-1), .ref (u 5), .ref (u 9), .ref (u 10), .ref (u 11), .ref (u 12), .ref (u 13), .ref (u 14), .ref (u 15), .int 0, .ref (u 16), .int 0, .ref (u 17), .ref (u 18), .ref (u 19), .int 0, .long 0, .ref (u 20), .ref (u 21), .ref (u 22), .ref (u 23), .int 0, .ref (u 24), .ref (u 25), .ref (u 6), .ref (u 7), .ref (u 8), .ref (u 26)]))] H := hP
  have hD : va_D A [(h0, .inr (8, [.int 0, .ref (u 0), .ref (u 1), .ref (u 2), .ref (u 3), .int 0, .ref (u 4), .int 0, .int 0, .int 0, .int 0, .int 0, .int 0, .int (-1), .ref (u 5), .ref (u 9), .ref (u 10), .ref (u 11), .ref (u 12), .ref (u 13), .ref (u 14), .ref (u 15), .int 0, .ref (u 16), .int 0, .ref (u 17), .ref (u 18), .ref (u 19), .int 0, .long 0, .ref (u 20), .ref (u 21), .ref (u 22), .ref (u 23), .int 0, .ref (u 24), .ref (u 25), .ref (u 6), .ref (u 7), .ref (u 8), .ref (u 26)]))] := hD
  refine lv_goto (tgt := 239) hx hb dX8_advance_66 (by decide) ?_
  exact e_v hx hb hr (()) trivial hP hD hS hlocks dX8_advance_239

def v_m_M_square : List Cond := .code yX8_square cX8_square 2 (some .int) :: ([.fieldLink RX8 114 "UnseenClockModel" "taped" "I", .fieldLink RX8 117 "UnseenClockModel" "size" "I", .fieldLink RX8 120 "UnseenClockModel" "at" "I", .fieldLink RX8 151 "UnseenClockModel" "faultKind" "I", .fieldLink RX8 27 "UnseenClockModel" "faultPlace" "I", .code yX8_see cX8_see 2 (some .int), .methodLink RX8 123 yX8_see, .instanceMethod yX8_see, .selects RX8 yX8_see yX8_see, .initialized RX8, .fieldLink RX8 127 "UnseenClockModel" "from" "I", .fieldLink RX8 130 "UnseenClockModel" "token" "I", .code yX8_advance cX8_advance 2 none, .methodLink RX8 171 yX8_advance, .instanceMethod yX8_advance, .selects RX8 yX8_advance yX8_advance, .code yX8_good cX8_good 1 (some .boolean), .methodLink RX8 154 yX8_good, .instanceMethod yX8_good, .selects RX8 yX8_good yX8_good, .fieldLink RX8 9 "UnseenClockModel" "world" "[I", .fieldLink RX8 31 "UnseenClockModel" "fresh" "[I"] ++ (wsX80))
theorem in_m_M_square_X8 : ∀ w ∈ u_ws RX8 TX8 41, w ∈ v_m_M_square := fun w h => List.mem_cons_of_mem _ (List.mem_append_right _ (h))
set_option maxRecDepth 20000 in
theorem g_m_M_square_m_M_advance : GoodIn v_m_M_square (wsV RX8 171 RX8 yX8_advance v_m_M_advance) := g_rows _ [14, 15, 16, 10, 13, 3, 2, 6, 7, 8, 9, 10, 11, 12, 23, 24, 25, 26, 27, 28, 29, 30, 31, 32, 33, 34, 35, 36, 37, 38, 39, 40, 41, 42, 43, 44, 45, 46, 47, 48, 49, 50, 51, 52, 53, 54, 55, 56, 57, 58, 59, 60, 61, 62, 63] rfl (by decide +kernel)
set_option maxRecDepth 20000 in
theorem g_m_M_square_m_M_good : GoodIn v_m_M_square (wsV RX8 154 RX8 yX8_good v_m_M_good) := g_rows _ [18, 19, 20, 10, 17, 4, 23, 24, 25, 26, 27, 28, 29, 30, 31, 32, 33, 34, 35, 36, 37, 38, 39, 40, 41, 42, 43, 44, 45, 46, 47, 48, 49, 50, 51, 52, 53, 54, 55, 56, 57, 58, 59, 60, 61, 62, 63] rfl (by decide +kernel)
set_option maxHeartbeats 2000000 in
set_option maxRecDepth 100000 in
theorem m_M_square (l : Launch) (D : va_G) (E : Nat → ClassId) (sz : Nat) (h0 : Nat) (u : Nat → Nat)  : Met l yX8_square v_m_M_square ({ frames := 2, cells := 0, slots := 0, locals := 42 }) (va_Pc [.ref h0] (pre D E (wM E h0 u) sz)) (qI (S := Unit) (fun r _ => r = 0) (fun _ => []) D (va_A (wM E h0 u) sz)) 0 0 (va_A (wM E h0 u) sz) := by
  refine c_int (cc := cX8_square) (maxL := 2) (ret := (some .int)) (by decide) rfl (Nat.le_of_ble_eq_true rfl) ?_
  intro p e s m below meth c ls A ⟨hx, hb, hr, hts, hown, hlocks, hin, hml⟩ hP hK hD hN hA hS hl
  have hown : s.vm.findClass RX8 = some m.cls := hown
  have hl : lv_has ls 2 [(0, .ref h0)] := hl
  have hP := hP.sub (ws' := [(h0, .inr (8, [.int 0, .ref (u 0), .ref (u 1), .ref (u 2), .ref (u 3), .int 0, .ref (u 4), .int 0, .int 0, .int 0, .int 0, .int 0, .int 0, .int (-1), .ref (u 5), .ref (u 9), .ref (u 10), .ref (u 11), .ref (u 12), .ref (u 13), .ref (u 14), .ref (u 15), .int 0, .ref (u 16), .int 0, .ref (u 17), .ref (u 18), .ref (u 19), .int 0, .long 0, .ref (u 20), .ref (u 21), .ref (u 22), .ref (u 23), .int 0, .ref (u 24), .ref (u 25), .ref (u 6), .ref (u 7), .ref (u 8), .ref (u 26)])), (u 0, .inl (E 0, 320, .inl (fun _ => 0))), (u 5, .inl (E 0, 320, .inl (fun _ => 0)))]) [0, 1, 6] rfl
  have hD := hD.sub (ws' := [(h0, .inr (8, [.int 0, .ref (u 0), .ref (u 1), .ref (u 2), .ref (u 3), .int 0, .ref (u 4), .int 0, .int 0, .int 0, .int 0, .int 0, .int 0, .int (-1), .ref (u 5), .ref (u 9), .ref (u 10), .ref (u 11), .ref (u 12), .ref (u 13), .ref (u 14), .ref (u 15), .int 0, .ref (u 16), .int 0, .ref (u 17), .ref (u 18), .ref (u 19), .int 0, .long 0, .ref (u 20), .ref (u 21), .ref (u 22), .ref (u 23), .int 0, .ref (u 24), .ref (u 25), .ref (u 6), .ref (u 7), .ref (u 8), .ref (u 26)])), (u 0, .inl (E 0, 320, .inl (fun _ => 0))), (u 5, .inl (E 0, 320, .inl (fun _ => 0)))]) [0, 1, 6] (by decide) rfl
  refine lv_aload_n hx hb dX8_square_0 rfl (lv_at hl 0 rfl) ?_
  refine lv_aload_n hx hb dX8_square_1 rfl (lv_at hl 0 rfl) ?_
  refine va_get (ci := 8) (v := .int 0) (C := RX8) (T := TX8) (N := 41) hx hb hts in_m_M_square_X8 hown hK hP 0 rfl rfl 5 (by decide) (hts (.fieldLink RX8 114 "UnseenClockModel" "taped" "I") (List.mem_of_getElem? (i := 1) rfl)) (fun _ h9 => h9) rfl dX8_square_2 ?_
  refine va_put (ci := 8) (v := .int 0) (ty := .int) (C := RX8) (T := TX8) (N := 41) hx hb hts in_m_M_square_X8 tyX8 tyX8_ok nmX8 hown hK hP hD hS 0 rfl rfl 7 (by decide) (hts (.fieldLink RX8 117 "UnseenClockModel" "size" "I") (List.mem_of_getElem? (i := 2) rfl)) (fun _ h9 => h9) rfl (by decide +kernel) rfl rfl (Nat.le_of_ble_eq_true rfl) dX8_square_5 (fun H locs hP hD hS => ?_)
  have hP : va_P D vwCl [(h0, .inr (8, [.int 0, .ref (u 0), .ref (u 1), .ref (u 2), .ref (u 3), .int 0, .ref (u 4), .int 0, .int 0, .int 0, .int 0, .int 0, .int 0, .int (-1), .ref (u 5), .ref (u 9), .ref (u 10), .ref (u 11), .ref (u 12), .ref (u 13), .ref (u 14), .ref (u 15), .int 0, .ref (u 16), .int 0, .ref (u 17), .ref (u 18), .ref (u 19), .int 0, .long 0, .ref (u 20), .ref (u 21), .ref (u 22), .ref (u 23), .int 0, .ref (u 24), .ref (u 25), .ref (u 6), .ref (u 7), .ref (u 8), .ref (u 26)])), (u 0, .inl (E 0, 320, .inl (fun _ => 0))), (u 5, .inl (E 0, 320, .inl (fun _ => 0)))] H := hP
  have hD : va_D A [(h0, .inr (8, [.int 0, .ref (u 0), .ref (u 1), .ref (u 2), .ref (u 3), .int 0, .ref (u 4), .int 0, .int 0, .int 0, .int 0, .int 0, .int 0, .int (-1), .ref (u 5), .ref (u 9), .ref (u 10), .ref (u 11), .ref (u 12), .ref (u 13), .ref (u 14), .ref (u 15), .int 0, .ref (u 16), .int 0, .ref (u 17), .ref (u 18), .ref (u 19), .int 0, .long 0, .ref (u 20), .ref (u 21), .ref (u 22), .ref (u 23), .int 0, .ref (u 24), .ref (u 25), .ref (u 6), .ref (u 7), .ref (u 8), .ref (u 26)])), (u 0, .inl (E 0, 320, .inl (fun _ => 0))), (u 5, .inl (E 0, 320, .inl (fun _ => 0)))] := hD
  refine lv_aload_n hx hb dX8_square_8 rfl (lv_at hl 0 rfl) ?_
  refine lv_iconst (v := 0) hx hb dX8_square_9 (by decide) ?_
  refine va_put (ci := 8) (v := .int 0) (ty := .int) (C := RX8) (T := TX8) (N := 41) hx hb hts in_m_M_square_X8 tyX8 tyX8_ok nmX8 hown hK hP hD hS 0 rfl rfl 5 (by decide) (hts (.fieldLink RX8 114 "UnseenClockModel" "taped" "I") (List.mem_of_getElem? (i := 1) rfl)) (fun _ h9 => h9) rfl (by decide +kernel) rfl rfl (Nat.le_of_ble_eq_true rfl) dX8_square_10 (fun H locs hP hD hS => ?_)
  have hP : va_P D vwCl [(h0, .inr (8, [.int 0, .ref (u 0), .ref (u 1), .ref (u 2), .ref (u 3), .int 0, .ref (u 4), .int 0, .int 0, .int 0, .int 0, .int 0, .int 0, .int (-1), .ref (u 5), .ref (u 9), .ref (u 10), .ref (u 11), .ref (u 12), .ref (u 13), .ref (u 14), .ref (u 15), .int 0, .ref (u 16), .int 0, .ref (u 17), .ref (u 18), .ref (u 19), .int 0, .long 0, .ref (u 20), .ref (u 21), .ref (u 22), .ref (u 23), .int 0, .ref (u 24), .ref (u 25), .ref (u 6), .ref (u 7), .ref (u 8), .ref (u 26)])), (u 0, .inl (E 0, 320, .inl (fun _ => 0))), (u 5, .inl (E 0, 320, .inl (fun _ => 0)))] H := hP
  have hD : va_D A [(h0, .inr (8, [.int 0, .ref (u 0), .ref (u 1), .ref (u 2), .ref (u 3), .int 0, .ref (u 4), .int 0, .int 0, .int 0, .int 0, .int 0, .int 0, .int (-1), .ref (u 5), .ref (u 9), .ref (u 10), .ref (u 11), .ref (u 12), .ref (u 13), .ref (u 14), .ref (u 15), .int 0, .ref (u 16), .int 0, .ref (u 17), .ref (u 18), .ref (u 19), .int 0, .long 0, .ref (u 20), .ref (u 21), .ref (u 22), .ref (u 23), .int 0, .ref (u 24), .ref (u 25), .ref (u 6), .ref (u 7), .ref (u 8), .ref (u 26)])), (u 0, .inl (E 0, 320, .inl (fun _ => 0))), (u 5, .inl (E 0, 320, .inl (fun _ => 0)))] := hD
  refine lv_aload_n hx hb dX8_square_13 rfl (lv_at hl 0 rfl) ?_
  refine lv_iconst (v := 0) hx hb dX8_square_14 (by decide) ?_
  refine va_put (ci := 8) (v := .int 0) (ty := .int) (C := RX8) (T := TX8) (N := 41) hx hb hts in_m_M_square_X8 tyX8 tyX8_ok nmX8 hown hK hP hD hS 0 rfl rfl 8 (by decide) (hts (.fieldLink RX8 120 "UnseenClockModel" "at" "I") (List.mem_of_getElem? (i := 3) rfl)) (fun _ h9 => h9) rfl (by decide +kernel) rfl rfl (Nat.le_of_ble_eq_true rfl) dX8_square_15 (fun H locs hP hD hS => ?_)
  have hP : va_P D vwCl [(h0, .inr (8, [.int 0, .ref (u 0), .ref (u 1), .ref (u 2), .ref (u 3), .int 0, .ref (u 4), .int 0, .int 0, .int 0, .int 0, .int 0, .int 0, .int (-1), .ref (u 5), .ref (u 9), .ref (u 10), .ref (u 11), .ref (u 12), .ref (u 13), .ref (u 14), .ref (u 15), .int 0, .ref (u 16), .int 0, .ref (u 17), .ref (u 18), .ref (u 19), .int 0, .long 0, .ref (u 20), .ref (u 21), .ref (u 22), .ref (u 23), .int 0, .ref (u 24), .ref (u 25), .ref (u 6), .ref (u 7), .ref (u 8), .ref (u 26)])), (u 0, .inl (E 0, 320, .inl (fun _ => 0))), (u 5, .inl (E 0, 320, .inl (fun _ => 0)))] H := hP
  have hD : va_D A [(h0, .inr (8, [.int 0, .ref (u 0), .ref (u 1), .ref (u 2), .ref (u 3), .int 0, .ref (u 4), .int 0, .int 0, .int 0, .int 0, .int 0, .int 0, .int (-1), .ref (u 5), .ref (u 9), .ref (u 10), .ref (u 11), .ref (u 12), .ref (u 13), .ref (u 14), .ref (u 15), .int 0, .ref (u 16), .int 0, .ref (u 17), .ref (u 18), .ref (u 19), .int 0, .long 0, .ref (u 20), .ref (u 21), .ref (u 22), .ref (u 23), .int 0, .ref (u 24), .ref (u 25), .ref (u 6), .ref (u 7), .ref (u 8), .ref (u 26)])), (u 0, .inl (E 0, 320, .inl (fun _ => 0))), (u 5, .inl (E 0, 320, .inl (fun _ => 0)))] := hD
  refine lv_aload_n hx hb dX8_square_18 rfl (lv_at hl 0 rfl) ?_
  refine lv_iconst (v := 0) hx hb dX8_square_19 (by decide) ?_
  refine va_put (ci := 8) (v := .int 0) (ty := .int) (C := RX8) (T := TX8) (N := 41) hx hb hts in_m_M_square_X8 tyX8 tyX8_ok nmX8 hown hK hP hD hS 0 rfl rfl 12 (by decide) (hts (.fieldLink RX8 151 "UnseenClockModel" "faultKind" "I") (List.mem_of_getElem? (i := 4) rfl)) (fun _ h9 => h9) rfl (by decide +kernel) rfl rfl (Nat.le_of_ble_eq_true rfl) dX8_square_20 (fun H locs hP hD hS => ?_)
  have hP : va_P D vwCl [(h0, .inr (8, [.int 0, .ref (u 0), .ref (u 1), .ref (u 2), .ref (u 3), .int 0, .ref (u 4), .int 0, .int 0, .int 0, .int 0, .int 0, .int 0, .int (-1), .ref (u 5), .ref (u 9), .ref (u 10), .ref (u 11), .ref (u 12), .ref (u 13), .ref (u 14), .ref (u 15), .int 0, .ref (u 16), .int 0, .ref (u 17), .ref (u 18), .ref (u 19), .int 0, .long 0, .ref (u 20), .ref (u 21), .ref (u 22), .ref (u 23), .int 0, .ref (u 24), .ref (u 25), .ref (u 6), .ref (u 7), .ref (u 8), .ref (u 26)])), (u 0, .inl (E 0, 320, .inl (fun _ => 0))), (u 5, .inl (E 0, 320, .inl (fun _ => 0)))] H := hP
  have hD : va_D A [(h0, .inr (8, [.int 0, .ref (u 0), .ref (u 1), .ref (u 2), .ref (u 3), .int 0, .ref (u 4), .int 0, .int 0, .int 0, .int 0, .int 0, .int 0, .int (-1), .ref (u 5), .ref (u 9), .ref (u 10), .ref (u 11), .ref (u 12), .ref (u 13), .ref (u 14), .ref (u 15), .int 0, .ref (u 16), .int 0, .ref (u 17), .ref (u 18), .ref (u 19), .int 0, .long 0, .ref (u 20), .ref (u 21), .ref (u 22), .ref (u 23), .int 0, .ref (u 24), .ref (u 25), .ref (u 6), .ref (u 7), .ref (u 8), .ref (u 26)])), (u 0, .inl (E 0, 320, .inl (fun _ => 0))), (u 5, .inl (E 0, 320, .inl (fun _ => 0)))] := hD
  refine lv_aload_n hx hb dX8_square_23 rfl (lv_at hl 0 rfl) ?_
  refine lv_iconst (v := (-1)) hx hb dX8_square_24 (by decide) ?_
  refine va_put (ci := 8) (v := .int (-1)) (ty := .int) (C := RX8) (T := TX8) (N := 41) hx hb hts in_m_M_square_X8 tyX8 tyX8_ok nmX8 hown hK hP hD hS 0 rfl rfl 13 (by decide) (hts (.fieldLink RX8 27 "UnseenClockModel" "faultPlace" "I") (List.mem_of_getElem? (i := 5) rfl)) (fun _ h9 => h9) rfl (by decide +kernel) rfl rfl (Nat.le_of_ble_eq_true rfl) dX8_square_25 (fun H locs hP hD hS => ?_)
  have hP : va_P D vwCl [(h0, .inr (8, [.int 0, .ref (u 0), .ref (u 1), .ref (u 2), .ref (u 3), .int 0, .ref (u 4), .int 0, .int 0, .int 0, .int 0, .int 0, .int 0, .int (-1), .ref (u 5), .ref (u 9), .ref (u 10), .ref (u 11), .ref (u 12), .ref (u 13), .ref (u 14), .ref (u 15), .int 0, .ref (u 16), .int 0, .ref (u 17), .ref (u 18), .ref (u 19), .int 0, .long 0, .ref (u 20), .ref (u 21), .ref (u 22), .ref (u 23), .int 0, .ref (u 24), .ref (u 25), .ref (u 6), .ref (u 7), .ref (u 8), .ref (u 26)])), (u 0, .inl (E 0, 320, .inl (fun _ => 0))), (u 5, .inl (E 0, 320, .inl (fun _ => 0)))] H := hP
  have hD : va_D A [(h0, .inr (8, [.int 0, .ref (u 0), .ref (u 1), .ref (u 2), .ref (u 3), .int 0, .ref (u 4), .int 0, .int 0, .int 0, .int 0, .int 0, .int 0, .int (-1), .ref (u 5), .ref (u 9), .ref (u 10), .ref (u 11), .ref (u 12), .ref (u 13), .ref (u 14), .ref (u 15), .int 0, .ref (u 16), .int 0, .ref (u 17), .ref (u 18), .ref (u 19), .int 0, .long 0, .ref (u 20), .ref (u 21), .ref (u 22), .ref (u 23), .int 0, .ref (u 24), .ref (u 25), .ref (u 6), .ref (u 7), .ref (u 8), .ref (u 26)])), (u 0, .inl (E 0, 320, .inl (fun _ => 0))), (u 5, .inl (E 0, 320, .inl (fun _ => 0)))] := hD
  refine lv_iconst (v := 0) hx hb dX8_square_28 (by decide) ?_
  refine lv_istore_n (lv' := [(1, .int 0), (0, .ref h0)]) hx hb dX8_square_29 rfl hl (by decide) rfl (fun ls hl => ?_)
  have loopk_1 : ∀ (nk_1 ik_1 : Nat), ik_1 ≤ 320 → 321 ≤ ik_1 + nk_1 → ∀ (g : Nat → Int32) (H : Heap) (locs : List Loc), (∀ j, g j = 0) → va_P D vwCl [(h0, .inr (8, [.int 0, .ref (u 0), .ref (u 1), .ref (u 2), .ref (u 3), .int 0, .ref (u 4), .int 0, .int 0, .int 0, .int 0, .int 0, .int 0, .int (-1), .ref (u 5), .ref (u 9), .ref (u 10), .ref (u 11), .ref (u 12), .ref (u 13), .ref (u 14), .ref (u 15), .int 0, .ref (u 16), .int 0, .ref (u 17), .ref (u 18), .ref (u 19), .int 0, .long 0, .ref (u 20), .ref (u 21), .ref (u 22), .ref (u 23), .int 0, .ref (u 24), .ref (u 25), .ref (u 6), .ref (u 7), .ref (u 8), .ref (u 26)])), (u 0, .inl (E 0, 320, .inl (fun _ => 0))), (u 5, .inl (E 0, 320, .inl g))] H → va_D A [(h0, .inr (8, [.int 0, .ref (u 0), .ref (u 1), .ref (u 2), .ref (u 3), .int 0, .ref (u 4), .int 0, .int 0, .int 0, .int 0, .int 0, .int 0, .int (-1), .ref (u 5), .ref (u 9), .ref (u 10), .ref (u 11), .ref (u 12), .ref (u 13), .ref (u 14), .ref (u 15), .int 0, .ref (u 16), .int 0, .ref (u 17), .ref (u 18), .ref (u 19), .int 0, .long 0, .ref (u 20), .ref (u 21), .ref (u 22), .ref (u 23), .int 0, .ref (u 24), .ref (u 25), .ref (u 6), .ref (u 7), .ref (u 8), .ref (u 26)])), (u 0, .inl (E 0, 320, .inl (fun _ => 0))), (u 5, .inl (E 0, 320, .inl g))] → va_S A s.heap H locs → ∀ (ls : Array Slot), lv_has ls 2 [(1, .int (nI ik_1)), (0, .ref h0)] → W p l e (headSpec v_m_M_square ({ frames := 2, cells := 0, slots := 0, locals := 42 })).room s m ([.ref h0].toArray) below meth c H locs 0 0 (MQ below (qI (S := Unit) (fun r _ => r = 0) (fun _ => []) D A) ([.ref h0].toArray) s 0 0 A) (F0 m 30 ls []) := by
    intro nk_1
    induction nk_1 with
    | zero => intro ik_1 h1 h2; exact absurd h2 (by omega)
    | succ nk_1 ihk_1 =>
      intro ik_1 hik_1 hnk_1 g H locs hIk_1 hP hD hS ls hl
      refine lv_iload_n hx hb dX8_square_30 rfl (lv_at hl 0 rfl) ?_
      refine lv_sipush (v := 320) hx hb dX8_square_31 (by decide) ?_
      refine lv_icmp_ge (tgt := 50) hx hb dX8_square_34 (by decide) (fun h_2 => ?_) (fun h_2 => ?_)
      · refine lv_aload_n hx hb dX8_square_50 rfl (lv_at hl 1 rfl) ?_
        have hPc := hP.sub (ws' := [(h0, .inr (8, [.int 0, .ref (u 0), .ref (u 1), .ref (u 2), .ref (u 3), .int 0, .ref (u 4), .int 0, .int 0, .int 0, .int 0, .int 0, .int 0, .int (-1), .ref (u 5), .ref (u 9), .ref (u 10), .ref (u 11), .ref (u 12), .ref (u 13), .ref (u 14), .ref (u 15), .int 0, .ref (u 16), .int 0, .ref (u 17), .ref (u 18), .ref (u 19), .int 0, .long 0, .ref (u 20), .ref (u 21), .ref (u 22), .ref (u 23), .int 0, .ref (u 24), .ref (u 25), .ref (u 6), .ref (u 7), .ref (u 8), .ref (u 26)]))]) [0] rfl
        have hDc := hD.sub (ws' := [(h0, .inr (8, [.int 0, .ref (u 0), .ref (u 1), .ref (u 2), .ref (u 3), .int 0, .ref (u 4), .int 0, .int 0, .int 0, .int 0, .int 0, .int 0, .int (-1), .ref (u 5), .ref (u 9), .ref (u 10), .ref (u 11), .ref (u 12), .ref (u 13), .ref (u 14), .ref (u 15), .int 0, .ref (u 16), .int 0, .ref (u 17), .ref (u 18), .ref (u 19), .int 0, .long 0, .ref (u 20), .ref (u 21), .ref (u 22), .ref (u 23), .int 0, .ref (u 24), .ref (u 25), .ref (u 6), .ref (u 7), .ref (u 8), .ref (u 26)]))]) [0] (by decide) rfl
        refine k_v (wr := [(u 0, .inl (E 0, 320, .inl (fun _ => 0))), (u 5, .inl (E 0, 320, .inl g))]) (va_runV (As := []) (rest := []) ⟨hx, hb, hml, hown, hts⟩ (m_M_advance l D E H.size h0 u) (cwV 0 hts g_m_M_square_m_M_advance rfl rfl rfl (by decide +kernel) ⟨Nat.le_of_ble_eq_true rfl, Nat.le_of_ble_eq_true rfl⟩) ⟨pre_blind, va_recv hK hPc (ci := 8) (q0 := 0) rfl rfl, pre_at hPc hK hDc hN⟩ rfl rfl hl.1 rfl (lv_room (Nat.le_of_ble_eq_true rfl)) dX8_square_51 ⟨Nat.le_of_ble_eq_true rfl, Nat.le_of_ble_eq_true rfl⟩) hP hD hS hA [0] [1, 2] rfl rfl (by decide +kernel) (by decide +kernel) (fun u_3 H locs hw hP hD hS => ?_)
        have hP : va_P D vwCl [(u 0, .inl (E 0, 320, .inl (fun _ => 0))), (u 5, .inl (E 0, 320, .inl g)), (h0, .inr (8, [.int 0, .ref (u 0), .ref (u 1), .ref (u 2), .ref (u 3), .int 0, .ref (u 4), .int 0, .int 0, .int 0, .int 0, .int 0, .int 0, .int (-1), .ref (u 5), .ref (u 9), .ref (u 10), .ref (u 11), .ref (u 12), .ref (u 13), .ref (u 14), .ref (u 15), .int 0, .ref (u 16), .int 0, .ref (u 17), .ref (u 18), .ref (u 19), .int 0, .long 0, .ref (u 20), .ref (u 21), .ref (u 22), .ref (u 23), .int 0, .ref (u 24), .ref (u 25), .ref (u 6), .ref (u 7), .ref (u 8), .ref (u 26)]))] H := hP
        have hD : va_D A [(u 0, .inl (E 0, 320, .inl (fun _ => 0))), (u 5, .inl (E 0, 320, .inl g)), (h0, .inr (8, [.int 0, .ref (u 0), .ref (u 1), .ref (u 2), .ref (u 3), .int 0, .ref (u 4), .int 0, .int 0, .int 0, .int 0, .int 0, .int 0, .int (-1), .ref (u 5), .ref (u 9), .ref (u 10), .ref (u 11), .ref (u 12), .ref (u 13), .ref (u 14), .ref (u 15), .int 0, .ref (u 16), .int 0, .ref (u 17), .ref (u 18), .ref (u 19), .int 0, .long 0, .ref (u 20), .ref (u 21), .ref (u 22), .ref (u 23), .int 0, .ref (u 24), .ref (u 25), .ref (u 6), .ref (u 7), .ref (u 8), .ref (u 26)]))] := hD
        refine lv_aload_n hx hb dX8_square_54 rfl (lv_at hl 1 rfl) ?_
        have hPc := hP.sub (ws' := [(h0, .inr (8, [.int 0, .ref (u 0), .ref (u 1), .ref (u 2), .ref (u 3), .int 0, .ref (u 4), .int 0, .int 0, .int 0, .int 0, .int 0, .int 0, .int (-1), .ref (u 5), .ref (u 9), .ref (u 10), .ref (u 11), .ref (u 12), .ref (u 13), .ref (u 14), .ref (u 15), .int 0, .ref (u 16), .int 0, .ref (u 17), .ref (u 18), .ref (u 19), .int 0, .long 0, .ref (u 20), .ref (u 21), .ref (u 22), .ref (u 23), .int 0, .ref (u 24), .ref (u 25), .ref (u 6), .ref (u 7), .ref (u 8), .ref (u 26)]))]) [2] rfl
        have hDc := hD.sub (ws' := [(h0, .inr (8, [.int 0, .ref (u 0), .ref (u 1), .ref (u 2), .ref (u 3), .int 0, .ref (u 4), .int 0, .int 0, .int 0, .int 0, .int 0, .int 0, .int (-1), .ref (u 5), .ref (u 9), .ref (u 10), .ref (u 11), .ref (u 12), .ref (u 13), .ref (u 14), .ref (u 15), .int 0, .ref (u 16), .int 0, .ref (u 17), .ref (u 18), .ref (u 19), .int 0, .long 0, .ref (u 20), .ref (u 21), .ref (u 22), .ref (u 23), .int 0, .ref (u 24), .ref (u 25), .ref (u 6), .ref (u 7), .ref (u 8), .ref (u 26)]))]) [2] (by decide) rfl
        refine vp_callSi (W.runV (As := []) (rest := []) ⟨hx, hb, hml, hown, hts⟩ (m_M_good l D E H.size h0 u) (cwV 0 hts g_m_M_square_m_M_good rfl rfl rfl (by decide +kernel) ⟨Nat.le_of_ble_eq_true rfl, Nat.le_of_ble_eq_true rfl⟩) ⟨pre_blind, va_recv hK hPc (ci := 8) (q0 := 0) rfl rfl, pre_at hPc hK hDc hN⟩ rfl rfl hl.1 rfl (lv_room (Nat.le_of_ble_eq_true rfl)) dX8_square_55 ⟨Nat.le_of_ble_eq_true rfl, Nat.le_of_ble_eq_true rfl⟩) (fun r_5 er_5 => ?_)
        subst er_5
        refine lv_if_eq (tgt := 75) hx hb dX8_square_58 (by decide) (fun h9 => absurd h9 (by decide)) (fun _ => ?_)
        refine lv_aload_n hx hb dX8_square_61 rfl (lv_at hl 1 rfl) ?_
        refine va_get (ci := 8) (v := .int 0) (C := RX8) (T := TX8) (N := 41) hx hb hts in_m_M_square_X8 hown hK hP 2 rfl rfl 10 (by decide) (hts (.fieldLink RX8 130 "UnseenClockModel" "token" "I") (List.mem_of_getElem? (i := 12) rfl)) (fun _ h9 => h9) rfl dX8_square_62 ?_
        refine lv_if_eq (tgt := 75) hx hb dX8_square_65 (by decide) (fun _ => ?_) (fun h9 => absurd (by decide) h9)
        refine lv_aload_n hx hb dX8_square_75 rfl (lv_at hl 1 rfl) ?_
        have hPc := hP.sub (ws' := [(h0, .inr (8, [.int 0, .ref (u 0), .ref (u 1), .ref (u 2), .ref (u 3), .int 0, .ref (u 4), .int 0, .int 0, .int 0, .int 0, .int 0, .int 0, .int (-1), .ref (u 5), .ref (u 9), .ref (u 10), .ref (u 11), .ref (u 12), .ref (u 13), .ref (u 14), .ref (u 15), .int 0, .ref (u 16), .int 0, .ref (u 17), .ref (u 18), .ref (u 19), .int 0, .long 0, .ref (u 20), .ref (u 21), .ref (u 22), .ref (u 23), .int 0, .ref (u 24), .ref (u 25), .ref (u 6), .ref (u 7), .ref (u 8), .ref (u 26)]))]) [2] rfl
        have hDc := hD.sub (ws' := [(h0, .inr (8, [.int 0, .ref (u 0), .ref (u 1), .ref (u 2), .ref (u 3), .int 0, .ref (u 4), .int 0, .int 0, .int 0, .int 0, .int 0, .int 0, .int (-1), .ref (u 5), .ref (u 9), .ref (u 10), .ref (u 11), .ref (u 12), .ref (u 13), .ref (u 14), .ref (u 15), .int 0, .ref (u 16), .int 0, .ref (u 17), .ref (u 18), .ref (u 19), .int 0, .long 0, .ref (u 20), .ref (u 21), .ref (u 22), .ref (u 23), .int 0, .ref (u 24), .ref (u 25), .ref (u 6), .ref (u 7), .ref (u 8), .ref (u 26)]))]) [2] (by decide) rfl
        refine vp_callSi (W.runV (As := []) (rest := []) ⟨hx, hb, hml, hown, hts⟩ (m_M_good l D E H.size h0 u) (cwV 0 hts g_m_M_square_m_M_good rfl rfl rfl (by decide +kernel) ⟨Nat.le_of_ble_eq_true rfl, Nat.le_of_ble_eq_true rfl⟩) ⟨pre_blind, va_recv hK hPc (ci := 8) (q0 := 0) rfl rfl, pre_at hPc hK hDc hN⟩ rfl rfl hl.1 rfl (lv_room (Nat.le_of_ble_eq_true rfl)) dX8_square_76 ⟨Nat.le_of_ble_eq_true rfl, Nat.le_of_ble_eq_true rfl⟩) (fun r_8 er_8 => ?_)
        subst er_8
        refine lv_if_ne (tgt := 85) hx hb dX8_square_79 (by decide) (fun _ => ?_) (fun h9 => absurd h9 (by decide))
        refine lv_iconst (v := 0) hx hb dX8_square_85 (by decide) ?_
        refine lv_istore_n (lv' := [(1, .int 0), (0, .ref h0)]) hx hb dX8_square_86 rfl hl (by decide) rfl (fun ls hl => ?_)
        have loopk_10 : ∀ (nk_10 ik_10 : Nat), ik_10 ≤ 320 → 321 ≤ ik_10 + nk_10 → ∀ (g2 : Nat → Int32) (H : Heap) (locs : List Loc), (∀ j, g2 j = 0) → va_P D vwCl [(u 0, .inl (E 0, 320, .inl g2)), (u 5, .inl (E 0, 320, .inl g)), (h0, .inr (8, [.int 0, .ref (u 0), .ref (u 1), .ref (u 2), .ref (u 3), .int 0, .ref (u 4), .int 0, .int 0, .int 0, .int 0, .int 0, .int 0, .int (-1), .ref (u 5), .ref (u 9), .ref (u 10), .ref (u 11), .ref (u 12), .ref (u 13), .ref (u 14), .ref (u 15), .int 0, .ref (u 16), .int 0, .ref (u 17), .ref (u 18), .ref (u 19), .int 0, .long 0, .ref (u 20), .ref (u 21), .ref (u 22), .ref (u 23), .int 0, .ref (u 24), .ref (u 25), .ref (u 6), .ref (u 7), .ref (u 8), .ref (u 26)]))] H → va_D A [(u 0, .inl (E 0, 320, .inl g2)), (u 5, .inl (E 0, 320, .inl g)), (h0, .inr (8, [.int 0, .ref (u 0), .ref (u 1), .ref (u 2), .ref (u 3), .int 0, .ref (u 4), .int 0, .int 0, .int 0, .int 0, .int 0, .int 0, .int (-1), .ref (u 5), .ref (u 9), .ref (u 10), .ref (u 11), .ref (u 12), .ref (u 13), .ref (u 14), .ref (u 15), .int 0, .ref (u 16), .int 0, .ref (u 17), .ref (u 18), .ref (u 19), .int 0, .long 0, .ref (u 20), .ref (u 21), .ref (u 22), .ref (u 23), .int 0, .ref (u 24), .ref (u 25), .ref (u 6), .ref (u 7), .ref (u 8), .ref (u 26)]))] → va_S A s.heap H locs → ∀ (ls : Array Slot), lv_has ls 2 [(1, .int (nI ik_10)), (0, .ref h0)] → W p l e (headSpec v_m_M_square ({ frames := 2, cells := 0, slots := 0, locals := 42 })).room s m ([.ref h0].toArray) below meth c H locs 0 0 (MQ below (qI (S := Unit) (fun r _ => r = 0) (fun _ => []) D A) ([.ref h0].toArray) s 0 0 A) (F0 m 87 ls []) := by
          intro nk_10
          induction nk_10 with
          | zero => intro ik_10 h1 h2; exact absurd h2 (by omega)
          | succ nk_10 ihk_10 =>
            intro ik_10 hik_10 hnk_10 g2 H locs hIk_10 hP hD hS ls hl
            refine lv_iload_n hx hb dX8_square_87 rfl (lv_at hl 0 rfl) ?_
            refine lv_sipush (v := 320) hx hb dX8_square_88 (by decide) ?_
            refine lv_icmp_ge (tgt := 112) hx hb dX8_square_91 (by decide) (fun h_11 => ?_) (fun h_11 => ?_)
            · refine lv_aload_n hx hb dX8_square_112 rfl (lv_at hl 1 rfl) ?_
              refine va_get (ci := 8) (v := .ref (u 0)) (C := RX8) (T := TX8) (N := 41) hx hb hts in_m_M_square_X8 hown hK hP 2 rfl rfl 1 (by decide) (hts (.fieldLink RX8 9 "UnseenClockModel" "world" "[I") (List.mem_of_getElem? (i := 21) rfl)) (fun _ h9 => h9) rfl dX8_square_113 ?_
              refine lv_iconst (v := 3) hx hb dX8_square_116 (by decide) ?_
              refine va_iald hx hb hK hP 0 0 rfl rfl (by unfold vp_in; decide) dX8_square_117 ?_
              refine lv_toc (y := 0) (hIk_10 _) ?_
              exact e_i (v := 0) hx hb hr rfl (()) rfl p_nil d_nil hS hlocks dX8_square_118
            · have hltik_10 : ik_10 < 320 := lt_nI (B := 320) (c := 320) (by decide) (by decide) hik_10 h_11
              refine lv_aload_n hx hb dX8_square_94 rfl (lv_at hl 1 rfl) ?_
              refine va_get (ci := 8) (v := .ref (u 0)) (C := RX8) (T := TX8) (N := 41) hx hb hts in_m_M_square_X8 hown hK hP 2 rfl rfl 1 (by decide) (hts (.fieldLink RX8 9 "UnseenClockModel" "world" "[I") (List.mem_of_getElem? (i := 21) rfl)) (fun _ h9 => h9) rfl dX8_square_95 ?_
              refine lv_iload_n hx hb dX8_square_98 rfl (lv_at hl 0 rfl) ?_
              refine lv_aload_n hx hb dX8_square_99 rfl (lv_at hl 1 rfl) ?_
              refine va_get (ci := 8) (v := .ref (u 5)) (C := RX8) (T := TX8) (N := 41) hx hb hts in_m_M_square_X8 hown hK hP 2 rfl rfl 14 (by decide) (hts (.fieldLink RX8 31 "UnseenClockModel" "fresh" "[I") (List.mem_of_getElem? (i := 22) rfl)) (fun _ h9 => h9) rfl dX8_square_100 ?_
              refine lv_iload_n hx hb dX8_square_103 rfl (lv_at hl 0 rfl) ?_
              refine va_iald hx hb hK hP 1 0 rfl rfl (vp_in_nI (by omega) (by omega)) dX8_square_104 ?_
              refine lv_toc (y := 0) (hIk_1 _) ?_
              refine va_iast hx hb hK hP hD hS 0 0 rfl rfl (vp_in_nI (by omega) (by omega)) dX8_square_105 (fun H locs hP hD hS => ?_)
              have hP : va_P D vwCl [(u 0, .inl (E 0, 320, .inl (upd g2 (Int32.toNatClampNeg (nI ik_10)) 0))), (u 5, .inl (E 0, 320, .inl g)), (h0, .inr (8, [.int 0, .ref (u 0), .ref (u 1), .ref (u 2), .ref (u 3), .int 0, .ref (u 4), .int 0, .int 0, .int 0, .int 0, .int 0, .int 0, .int (-1), .ref (u 5), .ref (u 9), .ref (u 10), .ref (u 11), .ref (u 12), .ref (u 13), .ref (u 14), .ref (u 15), .int 0, .ref (u 16), .int 0, .ref (u 17), .ref (u 18), .ref (u 19), .int 0, .long 0, .ref (u 20), .ref (u 21), .ref (u 22), .ref (u 23), .int 0, .ref (u 24), .ref (u 25), .ref (u 6), .ref (u 7), .ref (u 8), .ref (u 26)]))] H := hP
              have hD : va_D A [(u 0, .inl (E 0, 320, .inl (upd g2 (Int32.toNatClampNeg (nI ik_10)) 0))), (u 5, .inl (E 0, 320, .inl g)), (h0, .inr (8, [.int 0, .ref (u 0), .ref (u 1), .ref (u 2), .ref (u 3), .int 0, .ref (u 4), .int 0, .int 0, .int 0, .int 0, .int 0, .int 0, .int (-1), .ref (u 5), .ref (u 9), .ref (u 10), .ref (u 11), .ref (u 12), .ref (u 13), .ref (u 14), .ref (u 15), .int 0, .ref (u 16), .int 0, .ref (u 17), .ref (u 18), .ref (u 19), .int 0, .long 0, .ref (u 20), .ref (u 21), .ref (u 22), .ref (u 23), .int 0, .ref (u 24), .ref (u 25), .ref (u 6), .ref (u 7), .ref (u 8), .ref (u 26)]))] := hD
              refine lv_iinc (v := nI (ik_10 + 1)) (lv' := [(1, .int (nI (ik_10 + 1))), (0, .ref h0)]) hx hb dX8_square_106 hl (k := 0) rfl (by rw [← nI_1]; rfl) (by decide) rfl (fun ls hl => ?_)
              refine lv_goto (tgt := 87) hx hb dX8_square_109 (by decide) ?_
              exact ihk_10 (ik_10 + 1) (by omega) (by omega) _ _ _ (upd_z hIk_10) hP hD hS ls (lv_sub hl [0, 1] rfl)
        exact loopk_10 321 0 (Nat.zero_le _) (by omega) _ _ _ (fun _ => rfl) hP hD hS ls (lv_sub hl [0, 1] rfl)
      · have hltik_1 : ik_1 < 320 := lt_nI (B := 320) (c := 320) (by decide) (by decide) hik_1 h_2
        refine lv_aload_n hx hb dX8_square_37 rfl (lv_at hl 1 rfl) ?_
        refine va_get (ci := 8) (v := .ref (u 5)) (C := RX8) (T := TX8) (N := 41) hx hb hts in_m_M_square_X8 hown hK hP 0 rfl rfl 14 (by decide) (hts (.fieldLink RX8 31 "UnseenClockModel" "fresh" "[I") (List.mem_of_getElem? (i := 22) rfl)) (fun _ h9 => h9) rfl dX8_square_38 ?_
        refine lv_iload_n hx hb dX8_square_41 rfl (lv_at hl 0 rfl) ?_
        refine lv_iconst (v := 0) hx hb dX8_square_42 (by decide) ?_
        refine va_iast hx hb hK hP hD hS 2 0 rfl rfl (vp_in_nI (by omega) (by omega)) dX8_square_43 (fun H locs hP hD hS => ?_)
        have hP : va_P D vwCl [(h0, .inr (8, [.int 0, .ref (u 0), .ref (u 1), .ref (u 2), .ref (u 3), .int 0, .ref (u 4), .int 0, .int 0, .int 0, .int 0, .int 0, .int 0, .int (-1), .ref (u 5), .ref (u 9), .ref (u 10), .ref (u 11), .ref (u 12), .ref (u 13), .ref (u 14), .ref (u 15), .int 0, .ref (u 16), .int 0, .ref (u 17), .ref (u 18), .ref (u 19), .int 0, .long 0, .ref (u 20), .ref (u 21), .ref (u 22), .ref (u 23), .int 0, .ref (u 24), .ref (u 25), .ref (u 6), .ref (u 7), .ref (u 8), .ref (u 26)])), (u 0, .inl (E 0, 320, .inl (fun _ => 0))), (u 5, .inl (E 0, 320, .inl (upd g (Int32.toNatClampNeg (nI ik_1)) 0)))] H := hP
        have hD : va_D A [(h0, .inr (8, [.int 0, .ref (u 0), .ref (u 1), .ref (u 2), .ref (u 3), .int 0, .ref (u 4), .int 0, .int 0, .int 0, .int 0, .int 0, .int 0, .int (-1), .ref (u 5), .ref (u 9), .ref (u 10), .ref (u 11), .ref (u 12), .ref (u 13), .ref (u 14), .ref (u 15), .int 0, .ref (u 16), .int 0, .ref (u 17), .ref (u 18), .ref (u 19), .int 0, .long 0, .ref (u 20), .ref (u 21), .ref (u 22), .ref (u 23), .int 0, .ref (u 24), .ref (u 25), .ref (u 6), .ref (u 7), .ref (u 8), .ref (u 26)])), (u 0, .inl (E 0, 320, .inl (fun _ => 0))), (u 5, .inl (E 0, 320, .inl (upd g (Int32.toNatClampNeg (nI ik_1)) 0)))] := hD
        refine lv_iinc (v := nI (ik_1 + 1)) (lv' := [(1, .int (nI (ik_1 + 1))), (0, .ref h0)]) hx hb dX8_square_44 hl (k := 0) rfl (by rw [← nI_1]; rfl) (by decide) rfl (fun ls hl => ?_)
        refine lv_goto (tgt := 30) hx hb dX8_square_47 (by decide) ?_
        exact ihk_1 (ik_1 + 1) (by omega) (by omega) _ _ _ (upd_z hIk_1) hP hD hS ls (lv_sub hl [0, 1] rfl)
  exact loopk_1 321 0 (Nat.zero_le _) (by omega) _ _ _ (fun _ => rfl) hP hD hS ls (lv_sub hl [0, 1] rfl)

