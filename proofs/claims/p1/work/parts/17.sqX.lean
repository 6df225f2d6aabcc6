theorem dX3_clear_0 : decode cX3_clear 0 = .ok (.aload_n 0, 1) := by decide +kernel
theorem dX3_clear_1 : decode cX3_clear 1 = .ok (.iconst 0, 1) := by decide +kernel
theorem dX3_clear_2 : decode cX3_clear 2 = .ok (.putfield 33, 3) := by decide +kernel
theorem dX3_clear_5 : decode cX3_clear 5 = .ok (.aload_n 0, 1) := by decide +kernel
theorem dX3_clear_6 : decode cX3_clear 6 = .ok (.iconst 0, 1) := by decide +kernel
theorem dX3_clear_7 : decode cX3_clear 7 = .ok (.putfield 37, 3) := by decide +kernel
theorem dX3_clear_10 : decode cX3_clear 10 = .ok (.aload_n 0, 1) := by decide +kernel
theorem dX3_clear_11 : decode cX3_clear 11 = .ok (.iconst 0, 1) := by decide +kernel
theorem dX3_clear_12 : decode cX3_clear 12 = .ok (.putfield 40, 3) := by decide +kernel
theorem dX3_clear_15 : decode cX3_clear 15 = .ok (.aload_n 0, 1) := by decide +kernel
theorem dX3_clear_16 : decode cX3_clear 16 = .ok (.iconst 0, 1) := by decide +kernel
theorem dX3_clear_17 : decode cX3_clear 17 = .ok (.putfield 43, 3) := by decide +kernel
theorem dX3_clear_20 : decode cX3_clear 20 = .ok (.aload_n 0, 1) := by decide +kernel
theorem dX3_clear_21 : decode cX3_clear 21 = .ok (.iconst 0, 1) := by decide +kernel
theorem dX3_clear_22 : decode cX3_clear 22 = .ok (.putfield 46, 3) := by decide +kernel
theorem dX3_clear_25 : decode cX3_clear 25 = .ok (.aload_n 0, 1) := by decide +kernel
theorem dX3_clear_26 : decode cX3_clear 26 = .ok (.iconst 0, 1) := by decide +kernel
theorem dX3_clear_27 : decode cX3_clear 27 = .ok (.putfield 49, 3) := by decide +kernel
theorem dX3_clear_30 : decode cX3_clear 30 = .ok (.aload_n 0, 1) := by decide +kernel
theorem dX3_clear_31 : decode cX3_clear 31 = .ok (.iconst 0, 1) := by decide +kernel
theorem dX3_clear_32 : decode cX3_clear 32 = .ok (.putfield 52, 3) := by decide +kernel
theorem dX3_clear_35 : decode cX3_clear 35 = .ok (.aload_n 0, 1) := by decide +kernel
theorem dX3_clear_36 : decode cX3_clear 36 = .ok (.iconst 0, 1) := by decide +kernel
theorem dX3_clear_37 : decode cX3_clear 37 = .ok (.putfield 55, 3) := by decide +kernel
theorem dX3_clear_40 : decode cX3_clear 40 = .ok (.aload_n 0, 1) := by decide +kernel
theorem dX3_clear_41 : decode cX3_clear 41 = .ok (.getfield 9, 3) := by decide +kernel
theorem dX3_clear_44 : decode cX3_clear 44 = .ok (.iconst 0, 1) := by decide +kernel
theorem dX3_clear_45 : decode cX3_clear 45 = .ok (.invokestatic 58, 3) := by decide +kernel
theorem dX3_clear_48 : decode cX3_clear 48 = .ok (.return_, 1) := by decide +kernel
theorem dX5_step_0 : decode cX5_step 0 = .ok (.aload_n 0, 1) := by decide +kernel
theorem dX5_step_1 : decode cX5_step 1 = .ok (.aload_n 0, 1) := by decide +kernel
theorem dX5_step_2 : decode cX5_step 2 = .ok (.getfield 40, 3) := by decide +kernel
theorem dX5_step_5 : decode cX5_step 5 = .ok (.putfield 59, 3) := by decide +kernel
theorem dX5_step_8 : decode cX5_step 8 = .ok (.aload_n 0, 1) := by decide +kernel
theorem dX5_step_9 : decode cX5_step 9 = .ok (.getfield 59, 3) := by decide +kernel
theorem dX5_step_12 : decode cX5_step 12 = .ok (.aload_n 0, 1) := by decide +kernel
theorem dX5_step_13 : decode cX5_step 13 = .ok (.getfield 21, 3) := by decide +kernel
theorem dX5_step_16 : decode cX5_step 16 = .ok (.if_icmp .ge 44, 3) := by decide +kernel
theorem dX5_step_60 : decode cX5_step 60 = .ok (.aload_n 0, 1) := by decide +kernel
theorem dX5_step_61 : decode cX5_step 61 = .ok (.aload_n 0, 1) := by decide +kernel
theorem dX5_step_62 : decode cX5_step 62 = .ok (.getfield 59, 3) := by decide +kernel
theorem dX5_step_65 : decode cX5_step 65 = .ok (.putfield 40, 3) := by decide +kernel
theorem dX5_step_68 : decode cX5_step 68 = .ok (.aload_n 0, 1) := by decide +kernel
theorem dX5_step_69 : decode cX5_step 69 = .ok (.iconst 0, 1) := by decide +kernel
theorem dX5_step_70 : decode cX5_step 70 = .ok (.putfield 62, 3) := by decide +kernel
theorem dX5_step_73 : decode cX5_step 73 = .ok (.aload_n 0, 1) := by decide +kernel
theorem dX5_step_74 : decode cX5_step 74 = .ok (.getfield 40, 3) := by decide +kernel
theorem dX5_step_77 : decode cX5_step 77 = .ok (.aload_n 0, 1) := by decide +kernel
theorem dX5_step_78 : decode cX5_step 78 = .ok (.getfield 21, 3) := by decide +kernel
theorem dX5_step_81 : decode cX5_step 81 = .ok (.if_icmp .ge 44, 3) := by decide +kernel
theorem dX5_step_125 : decode cX5_step 125 = .ok (.aload_n 0, 1) := by decide +kernel
theorem dX5_step_126 : decode cX5_step 126 = .ok (.getfield 40, 3) := by decide +kernel
theorem dX5_step_129 : decode cX5_step 129 = .ok (.aload_n 0, 1) := by decide +kernel
theorem dX5_step_130 : decode cX5_step 130 = .ok (.getfield 59, 3) := by decide +kernel
theorem dX5_step_133 : decode cX5_step 133 = .ok (.if_icmp .le 9, 3) := by decide +kernel
theorem dX5_step_142 : decode cX5_step 142 = .ok (.aload_n 0, 1) := by decide +kernel
theorem dX5_step_143 : decode cX5_step 143 = .ok (.getfield 40, 3) := by decide +kernel
theorem dX5_step_146 : decode cX5_step 146 = .ok (.aload_n 0, 1) := by decide +kernel
theorem dX5_step_147 : decode cX5_step 147 = .ok (.getfield 21, 3) := by decide +kernel
theorem dX5_step_150 : decode cX5_step 150 = .ok (.if_icmp .ge 73, 3) := by decide +kernel
theorem dX5_step_223 : decode cX5_step 223 = .ok (.aload_n 0, 1) := by decide +kernel
theorem dX5_step_224 : decode cX5_step 224 = .ok (.getfield 40, 3) := by decide +kernel
theorem dX5_step_227 : decode cX5_step 227 = .ok (.aload_n 0, 1) := by decide +kernel
theorem dX5_step_228 : decode cX5_step 228 = .ok (.getfield 59, 3) := by decide +kernel
theorem dX5_step_231 : decode cX5_step 231 = .ok (.if_icmp .le 11, 3) := by decide +kernel
theorem dX5_step_242 : decode cX5_step 242 = .ok (.aload_n 0, 1) := by decide +kernel
theorem dX5_step_243 : decode cX5_step 243 = .ok (.getfield 59, 3) := by decide +kernel
theorem dX5_step_246 : decode cX5_step 246 = .ok (.aload_n 0, 1) := by decide +kernel
theorem dX5_step_247 : decode cX5_step 247 = .ok (.getfield 21, 3) := by decide +kernel
theorem dX5_step_250 : decode cX5_step 250 = .ok (.if_icmp .lt 11, 3) := by decide +kernel
theorem dX5_step_253 : decode cX5_step 253 = .ok (.aload_n 0, 1) := by decide +kernel
theorem dX5_step_254 : decode cX5_step 254 = .ok (.iconst 0, 1) := by decide +kernel
theorem dX5_step_255 : decode cX5_step 255 = .ok (.putfield 46, 3) := by decide +kernel
theorem dX5_step_258 : decode cX5_step 258 = .ok (.goto 36, 3) := by decide +kernel
theorem dX5_step_294 : decode cX5_step 294 = .ok (.return_, 1) := by decide +kernel
theorem dX5_readSquare_0 : decode cX5_readSquare 0 = .ok (.aload_n 0, 1) := by decide +kernel
theorem dX5_readSquare_1 : decode cX5_readSquare 1 = .ok (.aload_n 1, 1) := by decide +kernel
theorem dX5_readSquare_2 : decode cX5_readSquare 2 = .ok (.putfield 9, 3) := by decide +kernel
theorem dX5_readSquare_5 : decode cX5_readSquare 5 = .ok (.aload_n 0, 1) := by decide +kernel
theorem dX5_readSquare_6 : decode cX5_readSquare 6 = .ok (.iload_n 2, 1) := by decide +kernel
theorem dX5_readSquare_7 : decode cX5_readSquare 7 = .ok (.aload_n 1, 1) := by decide +kernel
theorem dX5_readSquare_8 : decode cX5_readSquare 8 = .ok (.arraylength, 1) := by decide +kernel
theorem dX5_readSquare_9 : decode cX5_readSquare 9 = .ok (.invokestatic 15, 3) := by decide +kernel
theorem dX5_readSquare_12 : decode cX5_readSquare 12 = .ok (.putfield 21, 3) := by decide +kernel
theorem dX5_readSquare_15 : decode cX5_readSquare 15 = .ok (.aload_n 0, 1) := by decide +kernel
theorem dX5_readSquare_16 : decode cX5_readSquare 16 = .ok (.aload_n 3, 1) := by decide +kernel
theorem dX5_readSquare_17 : decode cX5_readSquare 17 = .ok (.putfield 25, 3) := by decide +kernel
theorem dX5_readSquare_20 : decode cX5_readSquare 20 = .ok (.aload_n 0, 1) := by decide +kernel
theorem dX5_readSquare_21 : decode cX5_readSquare 21 = .ok (.getfield 25, 3) := by decide +kernel
theorem dX5_readSquare_24 : decode cX5_readSquare 24 = .ok (.invokevirtual 29, 3) := by decide +kernel
theorem dX5_readSquare_27 : decode cX5_readSquare 27 = .ok (.aload_n 0, 1) := by decide +kernel
theorem dX5_readSquare_28 : decode cX5_readSquare 28 = .ok (.iconst 0, 1) := by decide +kernel
theorem dX5_readSquare_29 : decode cX5_readSquare 29 = .ok (.putfield 34, 3) := by decide +kernel
theorem dX5_readSquare_32 : decode cX5_readSquare 32 = .ok (.aload_n 0, 1) := by decide +kernel
theorem dX5_readSquare_33 : decode cX5_readSquare 33 = .ok (.iconst (-1), 1) := by decide +kernel
theorem dX5_readSquare_34 : decode cX5_readSquare 34 = .ok (.putfield 37, 3) := by decide +kernel
theorem dX5_readSquare_37 : decode cX5_readSquare 37 = .ok (.aload_n 0, 1) := by decide +kernel
theorem dX5_readSquare_38 : decode cX5_readSquare 38 = .ok (.iconst 0, 1) := by decide +kernel
theorem dX5_readSquare_39 : decode cX5_readSquare 39 = .ok (.putfield 40, 3) := by decide +kernel
theorem dX5_readSquare_42 : decode cX5_readSquare 42 = .ok (.aload_n 0, 1) := by decide +kernel
theorem dX5_readSquare_43 : decode cX5_readSquare 43 = .ok (.invokevirtual 43, 3) := by decide +kernel
theorem dX5_readSquare_46 : decode cX5_readSquare 46 = .ok (.iconst 0, 1) := by decide +kernel
theorem dX5_readSquare_47 : decode cX5_readSquare 47 = .ok (.istore 4, 2) := by decide +kernel
theorem dX5_readSquare_49 : decode cX5_readSquare 49 = .ok (.iload 4, 2) := by decide +kernel
theorem dX5_readSquare_51 : decode cX5_readSquare 51 = .ok (.sipush 2400, 3) := by decide +kernel
theorem dX5_readSquare_54 : decode cX5_readSquare 54 = .ok (.if_icmp .ge 44, 3) := by decide +kernel
theorem dX5_readSquare_57 : decode cX5_readSquare 57 = .ok (.aload_n 0, 1) := by decide +kernel
theorem dX5_readSquare_58 : decode cX5_readSquare 58 = .ok (.getfield 46, 3) := by decide +kernel
theorem dX5_readSquare_61 : decode cX5_readSquare 61 = .ok (.ifCond .eq 37, 3) := by decide +kernel
theorem dX5_readSquare_98 : decode cX5_readSquare 98 = .ok (.return_, 1) := by decide +kernel
theorem dX3_walkAll_0 : decode cX3_walkAll 0 = .ok (.aload_n 0, 1) := by decide +kernel
theorem dX3_walkAll_1 : decode cX3_walkAll 1 = .ok (.getfield 27, 3) := by decide +kernel
theorem dX3_walkAll_4 : decode cX3_walkAll 4 = .ok (.iconst 0, 1) := by decide +kernel
theorem dX3_walkAll_5 : decode cX3_walkAll 5 = .ok (.invokestatic 105, 3) := by decide +kernel
theorem dX3_walkAll_8 : decode cX3_walkAll 8 = .ok (.iconst 0, 1) := by decide +kernel
theorem dX3_walkAll_9 : decode cX3_walkAll 9 = .ok (.istore_n 1, 1) := by decide +kernel
theorem dX3_walkAll_10 : decode cX3_walkAll 10 = .ok (.iload_n 1, 1) := by decide +kernel
theorem dX3_walkAll_11 : decode cX3_walkAll 11 = .ok (.aload_n 0, 1) := by decide +kernel
theorem dX3_walkAll_12 : decode cX3_walkAll 12 = .ok (.getfield 52, 3) := by decide +kernel
theorem dX3_walkAll_15 : decode cX3_walkAll 15 = .ok (.if_icmp .ge 77, 3) := by decide +kernel
theorem dX3_walkAll_92 : decode cX3_walkAll 92 = .ok (.return_, 1) := by decide +kernel
theorem dX7_forgetCourses_0 : decode cX7_forgetCourses 0 = .ok (.aload_n 0, 1) := by decide +kernel
theorem dX7_forgetCourses_1 : decode cX7_forgetCourses 1 = .ok (.iconst 0, 1) := by decide +kernel
theorem dX7_forgetCourses_2 : decode cX7_forgetCourses 2 = .ok (.putfield 84, 3) := by decide +kernel
theorem dX7_forgetCourses_5 : decode cX7_forgetCourses 5 = .ok (.aload_n 0, 1) := by decide +kernel
theorem dX7_forgetCourses_6 : decode cX7_forgetCourses 6 = .ok (.iconst 0, 1) := by decide +kernel
theorem dX7_forgetCourses_7 : decode cX7_forgetCourses 7 = .ok (.putfield 88, 3) := by decide +kernel
theorem dX7_forgetCourses_10 : decode cX7_forgetCourses 10 = .ok (.return_, 1) := by decide +kernel
theorem dX7_square_0 : decode cX7_square 0 = .ok (.aload_n 0, 1) := by decide +kernel
theorem dX7_square_1 : decode cX7_square 1 = .ok (.getfield 16, 3) := by decide +kernel
theorem dX7_square_4 : decode cX7_square 4 = .ok (.aload_n 0, 1) := by decide +kernel
theorem dX7_square_5 : decode cX7_square 5 = .ok (.getfield 9, 3) := by decide +kernel
theorem dX7_square_8 : decode cX7_square 8 = .ok (.aload_n 0, 1) := by decide +kernel
theorem dX7_square_9 : decode cX7_square 9 = .ok (.getfield 55, 3) := by decide +kernel
theorem dX7_square_12 : decode cX7_square 12 = .ok (.aload_n 0, 1) := by decide +kernel
theorem dX7_square_13 : decode cX7_square 13 = .ok (.getfield 31, 3) := by decide +kernel
theorem dX7_square_16 : decode cX7_square 16 = .ok (.invokevirtual 62, 3) := by decide +kernel
theorem dX7_square_19 : decode cX7_square 19 = .ok (.aload_n 0, 1) := by decide +kernel
theorem dX7_square_20 : decode cX7_square 20 = .ok (.iconst 0, 1) := by decide +kernel
theorem dX7_square_21 : decode cX7_square 21 = .ok (.putfield 55, 3) := by decide +kernel
theorem dX7_square_24 : decode cX7_square 24 = .ok (.aload_n 0, 1) := by decide +kernel
theorem dX7_square_25 : decode cX7_square 25 = .ok (.aload_n 0, 1) := by decide +kernel
theorem dX7_square_26 : decode cX7_square 26 = .ok (.getfield 16, 3) := by decide +kernel
theorem dX7_square_29 : decode cX7_square 29 = .ok (.getfield 66, 3) := by decide +kernel
theorem dX7_square_32 : decode cX7_square 32 = .ok (.putfield 69, 3) := by decide +kernel
theorem dX7_square_35 : decode cX7_square 35 = .ok (.aload_n 0, 1) := by decide +kernel
theorem dX7_square_36 : decode cX7_square 36 = .ok (.aload_n 0, 1) := by decide +kernel
theorem dX7_square_37 : decode cX7_square 37 = .ok (.getfield 16, 3) := by decide +kernel
theorem dX7_square_40 : decode cX7_square 40 = .ok (.getfield 72, 3) := by decide +kernel
theorem dX7_square_43 : decode cX7_square 43 = .ok (.putfield 20, 3) := by decide +kernel
theorem dX7_square_46 : decode cX7_square 46 = .ok (.aload_n 0, 1) := by decide +kernel
theorem dX7_square_47 : decode cX7_square 47 = .ok (.getfield 69, 3) := by decide +kernel
theorem dX7_square_50 : decode cX7_square 50 = .ok (.ifCond .eq 6, 3) := by decide +kernel
theorem dX7_square_56 : decode cX7_square 56 = .ok (.aload_n 0, 1) := by decide +kernel
theorem dX7_square_57 : decode cX7_square 57 = .ok (.getfield 31, 3) := by decide +kernel
theorem dX7_square_60 : decode cX7_square 60 = .ok (.invokevirtual 75, 3) := by decide +kernel
theorem dX7_square_63 : decode cX7_square 63 = .ok (.aload_n 0, 1) := by decide +kernel
theorem dX7_square_64 : decode cX7_square 64 = .ok (.getfield 27, 3) := by decide +kernel
theorem dX7_square_67 : decode cX7_square 67 = .ok (.astore_n 1, 1) := by decide +kernel
theorem dX7_square_68 : decode cX7_square 68 = .ok (.aload_n 0, 1) := by decide +kernel
theorem dX7_square_69 : decode cX7_square 69 = .ok (.aload_n 0, 1) := by decide +kernel
theorem dX7_square_70 : decode cX7_square 70 = .ok (.getfield 31, 3) := by decide +kernel
theorem dX7_square_73 : decode cX7_square 73 = .ok (.putfield 27, 3) := by decide +kernel
theorem dX7_square_76 : decode cX7_square 76 = .ok (.aload_n 0, 1) := by decide +kernel
theorem dX7_square_77 : decode cX7_square 77 = .ok (.aload_n 1, 1) := by decide +kernel
theorem dX7_square_78 : decode cX7_square 78 = .ok (.putfield 31, 3) := by decide +kernel
theorem dX7_square_81 : decode cX7_square 81 = .ok (.aload_n 0, 1) := by decide +kernel
theorem dX7_square_82 : decode cX7_square 82 = .ok (.invokevirtual 78, 3) := by decide +kernel
theorem dX7_square_85 : decode cX7_square 85 = .ok (.aload_n 0, 1) := by decide +kernel
theorem dX7_square_86 : decode cX7_square 86 = .ok (.getfield 27, 3) := by decide +kernel
theorem dX7_square_89 : decode cX7_square 89 = .ok (.getfield 81, 3) := by decide +kernel
theorem dX7_square_92 : decode cX7_square 92 = .ok (.ireturn, 1) := by decide +kernel
def v_m_clear : List Cond := .code yX3_clear cX3_clear 1 none :: ([.fieldLink RX3 33 "UnseenClock$Plan" "wide" "I", .fieldLink RX3 37 "UnseenClock$Plan" "tall" "I", .fieldLink RX3 40 "UnseenClock$Plan" "minutes" "I", .fieldLink RX3 43 "UnseenClock$Plan" "lines" "I", .fieldLink RX3 46 "UnseenClock$Plan" "walls" "I", .fieldLink RX3 49 "UnseenClock$Plan" "clocks" "I", .fieldLink RX3 52 "UnseenClock$Plan" "people" "I", .fieldLink RX3 55 "UnseenClock$Plan" "away" "I", .fieldLink RX3 9 "UnseenClock$Plan" "cell" "[B", .code yJ7_fill_031fb cJ7_fill_031fb 4 none, .methodLink RX3 58 yJ7_fill_031fb, .static yJ7_fill_031fb, .initialized RJ7] ++ (wsX30))
theorem in_m_clear_X3 : ∀ w ∈ u_ws RX3 TX3 12, w ∈ v_m_clear := fun w h => List.mem_cons_of_mem _ (List.mem_append_right _ (h))
set_option maxRecDepth 20000 in
theorem g_m_clear_fB144 : GoodIn v_m_clear (va_wsS RX3 58 yJ7_fill_031fb v_fB144) := g_rows _ [11, 12, 13, 10] rfl (by decide +kernel)
set_option maxHeartbeats 2000000 in
set_option maxRecDepth 100000 in
theorem m_clear (l : Launch) (D : va_G) (E : Nat → ClassId) (sz : Nat) (h0 h1 h2 hk hp : Nat) : Met l yX3_clear v_m_clear ({ frames := 1, cells := 0, slots := 0, locals := 23 }) (va_Pc [.ref h0] (pre D E ([(h0, .inr (3, [.int 0, .int 0, .int 0, .int 0, .int 0, .int 0, .int 0, .int 0, .ref h1, .ref hk, .ref hp, .ref h2])), (h1, .inl (E 1, 144, .inl (fun _ => 0)))]) sz)) (qV (S := Nat → Int32) (fun _ => True) (fun f => [(h0, .inr (3, [.int 0, .int 0, .int 0, .int 0, .int 0, .int 0, .int 0, .int 0, .ref h1, .ref hk, .ref hp, .ref h2])), (h1, .inl (E 1, 144, .inl f))]) D (va_A ([(h0, .inr (3, [.int 0, .int 0, .int 0, .int 0, .int 0, .int 0, .int 0, .int 0, .ref h1, .ref hk, .ref hp, .ref h2])), (h1, .inl (E 1, 144, .inl (fun _ => 0)))]) sz)) 0 0 (va_A ([(h0, .inr (3, [.int 0, .int 0, .int 0, .int 0, .int 0, .int 0, .int 0, .int 0, .ref h1, .ref hk, .ref hp, .ref h2])), (h1, .inl (E 1, 144, .inl (fun _ => 0)))]) sz) := by
  refine c_void (cc := cX3_clear) (maxL := 1) (ret := none) (by decide) rfl (Nat.le_of_ble_eq_true rfl) ?_
  intro p e s m below meth c ls A ⟨hx, hb, hr, hts, hown, hlocks, hin, hml⟩ hP hK hD hN hA hS hl
  have hown : s.vm.findClass RX3 = some m.cls := hown
  have hl : lv_has ls 1 [(0, .ref h0)] := hl
  refine lv_aload_n hx hb dX3_clear_0 rfl (lv_at hl 0 rfl) ?_
  refine lv_iconst (v := 0) hx hb dX3_clear_1 (by decide) ?_
  refine va_put (ci := 3) (v := .int 0) (ty := .int) (C := RX3) (T := TX3) (N := 12) hx hb hts in_m_clear_X3 tyX3 tyX3_ok nmX3 hown hK hP hD hS 0 rfl rfl 0 (by decide) (hts (.fieldLink RX3 33 "UnseenClock$Plan" "wide" "I") (List.mem_of_getElem? (i := 1) rfl)) (fun _ h9 => h9) rfl (by decide +kernel) rfl rfl (Nat.le_of_ble_eq_true rfl) dX3_clear_2 (fun H locs hP hD hS => ?_)
  have hP : va_P D vwCl [(h0, .inr (3, [.int 0, .int 0, .int 0, .int 0, .int 0, .int 0, .int 0, .int 0, .ref h1, .ref hk, .ref hp, .ref h2])), (h1, .inl (E 1, 144, .inl (fun _ => 0)))] H := hP
  have hD : va_D A [(h0, .inr (3, [.int 0, .int 0, .int 0, .int 0, .int 0, .int 0, .int 0, .int 0, .ref h1, .ref hk, .ref hp, .ref h2])), (h1, .inl (E 1, 144, .inl (fun _ => 0)))] := hD
  refine lv_aload_n hx hb dX3_clear_5 rfl (lv_at hl 0 rfl) ?_
  refine lv_iconst (v := 0) hx hb dX3_clear_6 (by decide) ?_
  refine va_put (ci := 3) (v := .int 0) (ty := .int) (C := RX3) (T := TX3) (N := 12) hx hb hts in_m_clear_X3 tyX3 tyX3_ok nmX3 hown hK hP hD hS 0 rfl rfl 1 (by decide) (hts (.fieldLink RX3 37 "UnseenClock$Plan" "tall" "I") (List.mem_of_getElem? (i := 2) rfl)) (fun _ h9 => h9) rfl (by decide +kernel) rfl rfl (Nat.le_of_ble_eq_true rfl) dX3_clear_7 (fun H locs hP hD hS => ?_)
  have hP : va_P D vwCl [(h0, .inr (3, [.int 0, .int 0, .int 0, .int 0, .int 0, .int 0, .int 0, .int 0, .ref h1, .ref hk, .ref hp, .ref h2])), (h1, .inl (E 1, 144, .inl (fun _ => 0)))] H := hP
  have hD : va_D A [(h0, .inr (3, [.int 0, .int 0, .int 0, .int 0, .int 0, .int 0, .int 0, .int 0, .ref h1, .ref hk, .ref hp, .ref h2])), (h1, .inl (E 1, 144, .inl (fun _ => 0)))] := hD
  refine lv_aload_n hx hb dX3_clear_10 rfl (lv_at hl 0 rfl) ?_
  refine lv_iconst (v := 0) hx hb dX3_clear_11 (by decide) ?_
  refine va_put (ci := 3) (v := .int 0) (ty := .int) (C := RX3) (T := TX3) (N := 12) hx hb hts in_m_clear_X3 tyX3 tyX3_ok nmX3 hown hK hP hD hS 0 rfl rfl 2 (by decide) (hts (.fieldLink RX3 40 "UnseenClock$Plan" "minutes" "I") (List.mem_of_getElem? (i := 3) rfl)) (fun _ h9 => h9) rfl (by decide +kernel) rfl rfl (Nat.le_of_ble_eq_true rfl) dX3_clear_12 (fun H locs hP hD hS => ?_)
  have hP : va_P D vwCl [(h0, .inr (3, [.int 0, .int 0, .int 0, .int 0, .int 0, .int 0, .int 0, .int 0, .ref h1, .ref hk, .ref hp, .ref h2])), (h1, .inl (E 1, 144, .inl (fun _ => 0)))] H := hP
  have hD : va_D A [(h0, .inr (3, [.int 0, .int 0, .int 0, .int 0, .int 0, .int 0, .int 0, .int 0, .ref h1, .ref hk, .ref hp, .ref h2])), (h1, .inl (E 1, 144, .inl (fun _ => 0)))] := hD
  refine lv_aload_n hx hb dX3_clear_15 rfl (lv_at hl 0 rfl) ?_
  refine lv_iconst (v := 0) hx hb dX3_clear_16 (by decide) ?_
  refine va_put (ci := 3) (v := .int 0) (ty := .int) (C := RX3) (T := TX3) (N := 12) hx hb hts in_m_clear_X3 tyX3 tyX3_ok nmX3 hown hK hP hD hS 0 rfl rfl 3 (by decide) (hts (.fieldLink RX3 43 "UnseenClock$Plan" "lines" "I") (List.mem_of_getElem? (i := 4) rfl)) (fun _ h9 => h9) rfl (by decide +kernel) rfl rfl (Nat.le_of_ble_eq_true rfl) dX3_clear_17 (fun H locs hP hD hS => ?_)
  have hP : va_P D vwCl [(h0, .inr (3, [.int 0, .int 0, .int 0, .int 0, .int 0, .int 0, .int 0, .int 0, .ref h1, .ref hk, .ref hp, .ref h2])), (h1, .inl (E 1, 144, .inl (fun _ => 0)))] H := hP
  have hD : va_D A [(h0, .inr (3, [.int 0, .int 0, .int 0, .int 0, .int 0, .int 0, .int 0, .int 0, .ref h1, .ref hk, .ref hp, .ref h2])), (h1, .inl (E 1, 144, .inl (fun _ => 0)))] := hD
  refine lv_aload_n hx hb dX3_clear_20 rfl (lv_at hl 0 rfl) ?_
  refine lv_iconst (v := 0) hx hb dX3_clear_21 (by decide) ?_
  refine va_put (ci := 3) (v := .int 0) (ty := .int) (C := RX3) (T := TX3) (N := 12) hx hb hts in_m_clear_X3 tyX3 tyX3_ok nmX3 hown hK hP hD hS 0 rfl rfl 4 (by decide) (hts (.fieldLink RX3 46 "UnseenClock$Plan" "walls" "I") (List.mem_of_getElem? (i := 5) rfl)) (fun _ h9 => h9) rfl (by decide +kernel) rfl rfl (Nat.le_of_ble_eq_true rfl) dX3_clear_22 (fun H locs hP hD hS => ?_)
  have hP : va_P D vwCl [(h0, .inr (3, [.int 0, .int 0, .int 0, .int 0, .int 0, .int 0, .int 0, .int 0, .ref h1, .ref hk, .ref hp, .ref h2])), (h1, .inl (E 1, 144, .inl (fun _ => 0)))] H := hP
  have hD : va_D A [(h0, .inr (3, [.int 0, .int 0, .int 0, .int 0, .int 0, .int 0, .int 0, .int 0, .ref h1, .ref hk, .ref hp, .ref h2])), (h1, .inl (E 1, 144, .inl (fun _ => 0)))] := hD
  refine lv_aload_n hx hb dX3_clear_25 rfl (lv_at hl 0 rfl) ?_
  refine lv_iconst (v := 0) hx hb dX3_clear_26 (by decide) ?_
  refine va_put (ci := 3) (v := .int 0) (ty := .int) (C := RX3) (T := TX3) (N := 12) hx hb hts in_m_clear_X3 tyX3 tyX3_ok nmX3 hown hK hP hD hS 0 rfl rfl 5 (by decide) (hts (.fieldLink RX3 49 "UnseenClock$Plan" "clocks" "I") (List.mem_of_getElem? (i := 6) rfl)) (fun _ h9 => h9) rfl (by decide +kernel) rfl rfl (Nat.le_of_ble_eq_true rfl) dX3_clear_27 (fun H locs hP hD hS => ?_)
  have hP : va_P D vwCl [(h0, .inr (3, [.int 0, .int 0, .int 0, .int 0, .int 0, .int 0, .int 0, .int 0, .ref h1, .ref hk, .ref hp, .ref h2])), (h1, .inl (E 1, 144, .inl (fun _ => 0)))] H := hP
  have hD : va_D A [(h0, .inr (3, [.int 0, .int 0, .int 0, .int 0, .int 0, .int 0, .int 0, .int 0, .ref h1, .ref hk, .ref hp, .ref h2])), (h1, .inl (E 1, 144, .inl (fun _ => 0)))] := hD
  refine lv_aload_n hx hb dX3_clear_30 rfl (lv_at hl 0 rfl) ?_
  refine lv_iconst (v := 0) hx hb dX3_clear_31 (by decide) ?_
  refine va_put (ci := 3) (v := .int 0) (ty := .int) (C := RX3) (T := TX3) (N := 12) hx hb hts in_m_clear_X3 tyX3 tyX3_ok nmX3 hown hK hP hD hS 0 rfl rfl 6 (by decide) (hts (.fieldLink RX3 52 "UnseenClock$Plan" "people" "I") (List.mem_of_getElem? (i := 7) rfl)) (fun _ h9 => h9) rfl (by decide +kernel) rfl rfl (Nat.le_of_ble_eq_true rfl) dX3_clear_32 (fun H locs hP hD hS => ?_)
  have hP : va_P D vwCl [(h0, .inr (3, [.int 0, .int 0, .int 0, .int 0, .int 0, .int 0, .int 0, .int 0, .ref h1, .ref hk, .ref hp, .ref h2])), (h1, .inl (E 1, 144, .inl (fun _ => 0)))] H := hP
  have hD : va_D A [(h0, .inr (3, [.int 0, .int 0, .int 0, .int 0, .int 0, .int 0, .int 0, .int 0, .ref h1, .ref hk, .ref hp, .ref h2])), (h1, .inl (E 1, 144, .inl (fun _ => 0)))] := hD
  refine lv_aload_n hx hb dX3_clear_35 rfl (lv_at hl 0 rfl) ?_
  refine lv_iconst (v := 0) hx hb dX3_clear_36 (by decide) ?_
  refine va_put (ci := 3) (v := .int 0) (ty := .int) (C := RX3) (T := TX3) (N := 12) hx hb hts in_m_clear_X3 tyX3 tyX3_ok nmX3 hown hK hP hD hS 0 rfl rfl 7 (by decide) (hts (.fieldLink RX3 55 "UnseenClock$Plan" "away" "I") (List.mem_of_getElem? (i := 8) rfl)) (fun _ h9 => h9) rfl (by decide +kernel) rfl rfl (Nat.le_of_ble_eq_true rfl) dX3_clear_37 (fun H locs hP hD hS => ?_)
  have hP : va_P D vwCl [(h0, .inr (3, [.int 0, .int 0, .int 0, .int 0, .int 0, .int 0, .int 0, .int 0, .ref h1, .ref hk, .ref hp, .ref h2])), (h1, .inl (E 1, 144, .inl (fun _ => 0)))] H := hP
  have hD : va_D A [(h0, .inr (3, [.int 0, .int 0, .int 0, .int 0, .int 0, .int 0, .int 0, .int 0, .ref h1, .ref hk, .ref hp, .ref h2])), (h1, .inl (E 1, 144, .inl (fun _ => 0)))] := hD
  refine lv_aload_n hx hb dX3_clear_40 rfl (lv_at hl 0 rfl) ?_
  refine va_get (ci := 3) (v := .ref h1) (C := RX3) (T := TX3) (N := 12) hx hb hts in_m_clear_X3 hown hK hP 0 rfl rfl 8 (by decide) (hts (.fieldLink RX3 9 "UnseenClock$Plan" "cell" "[B") (List.mem_of_getElem? (i := 9) rfl)) (fun _ h9 => h9) rfl dX3_clear_41 ?_
  refine lv_iconst (v := 0) hx hb dX3_clear_44 (by decide) ?_
  have hPc := hP.sub (ws' := [(h1, .inl (E 1, 144, .inl (fun _ => 0)))]) [1] rfl
  have hDc := hD.sub (ws' := [(h1, .inl (E 1, 144, .inl (fun _ => 0)))]) [1] (by decide) rfl
  refine k_v (wr := [(h0, .inr (3, [.int 0, .int 0, .int 0, .int 0, .int 0, .int 0, .int 0, .int 0, .ref h1, .ref hk, .ref hp, .ref h2]))]) (va_runS (As := [.ref h1, .int 0]) (rest := []) ⟨hx, hb, hml, hown, hts⟩ (fB144 l D E H.size (h1) (fun _ => 0) 0) (va_cwS 2 hts g_m_clear_fB144 rfl rfl rfl (by decide +kernel) ⟨Nat.le_of_ble_eq_true rfl, Nat.le_of_ble_eq_true rfl⟩) ⟨pre_blind, pre_at hPc hK hDc hN⟩ rfl rfl hl.1 rfl (lv_room (Nat.le_of_ble_eq_true rfl)) dX3_clear_45 ⟨Nat.le_of_ble_eq_true rfl, Nat.le_of_ble_eq_true rfl⟩) hP hD hS hA [1] [0] rfl rfl (by decide +kernel) (by decide +kernel) (fun u_1 H locs hw hP hD hS => ?_)
  have hP : va_P D vwCl [(h0, .inr (3, [.int 0, .int 0, .int 0, .int 0, .int 0, .int 0, .int 0, .int 0, .ref h1, .ref hk, .ref hp, .ref h2])), (h1, .inl (E 1, 144, .inl u_1))] H := hP
  have hD : va_D A [(h0, .inr (3, [.int 0, .int 0, .int 0, .int 0, .int 0, .int 0, .int 0, .int 0, .ref h1, .ref hk, .ref hp, .ref h2])), (h1, .inl (E 1, 144, .inl u_1))] := hD
  exact e_v hx hb hr (u_1) trivial hP hD hS hlocks dX3_clear_48

def v_m_step : List Cond := .code yX5_step cX5_step 1 none :: ([.fieldLink RX5 40 "UnseenClock$Reader" "to" "I", .fieldLink RX5 59 "UnseenClock$Reader" "from" "I", .fieldLink RX5 21 "UnseenClock$Reader" "length" "I", .fieldLink RX5 62 "UnseenClock$Reader" "number" "I", .fieldLink RX5 46 "UnseenClock$Reader" "kind" "I"] ++ (wsX50))
theorem in_m_step_X5 : ∀ w ∈ u_ws RX5 TX5 12, w ∈ v_m_step := fun w h => List.mem_cons_of_mem _ (List.mem_append_right _ (h))
set_option maxHeartbeats 2000000 in
set_option maxRecDepth 100000 in
theorem m_step (l : Launch) (D : va_G) (E : Nat → ClassId) (sz : Nat) (h0 h1 h2 : Nat) : Met l yX5_step v_m_step ({ frames := 0, cells := 0, slots := 0, locals := 0 }) (va_Pc [.ref h0] (pre D E ([(h0, .inr (5, [.int 0, .int (-1), .ref h1, .int 0, .int 0, .int 0, .int 0, .int 0, .int 0, .int 0, .int 0, .ref h2]))]) sz)) (qV (S := Unit) (fun _ => True) (fun _ => [(h0, .inr (5, [.int 0, .int (-1), .ref h1, .int 0, .int 0, .int 0, .int 0, .int 0, .int 0, .int 0, .int 0, .ref h2]))]) D (va_A ([(h0, .inr (5, [.int 0, .int (-1), .ref h1, .int 0, .int 0, .int 0, .int 0, .int 0, .int 0, .int 0, .int 0, .ref h2]))]) sz)) 0 0 (va_A ([(h0, .inr (5, [.int 0, .int (-1), .ref h1, .int 0, .int 0, .int 0, .int 0, .int 0, .int 0, .int 0, .int 0, .ref h2]))]) sz) := by
  refine c_void (cc := cX5_step) (maxL := 1) (ret := none) (by decide) rfl (Nat.le_of_ble_eq_true rfl) ?_
  intro p e s m below meth c ls A ⟨hx, hb, hr, hts, hown, hlocks, hin, hml⟩ hP hK hD hN hA hS hl
  have hown : s.vm.findClass RX5 = some m.cls := hown
  have hl : lv_has ls 1 [(0, .ref h0)] := hl
  refine lv_aload_n hx hb dX5_step_0 rfl (lv_at hl 0 rfl) ?_
  refine lv_aload_n hx hb dX5_step_1 rfl (lv_at hl 0 rfl) ?_
  refine va_get (ci := 5) (v := .int 0) (C := RX5) (T := TX5) (N := 12) hx hb hts in_m_step_X5 hown hK hP 0 rfl rfl 6 (by decide) (hts (.fieldLink RX5 40 "UnseenClock$Reader" "to" "I") (List.mem_of_getElem? (i := 1) rfl)) (fun _ h9 => h9) rfl dX5_step_2 ?_
  refine va_put (ci := 5) (v := .int 0) (ty := .int) (C := RX5) (T := TX5) (N := 12) hx hb hts in_m_step_X5 tyX5 tyX5_ok nmX5 hown hK hP hD hS 0 rfl rfl 5 (by decide) (hts (.fieldLink RX5 59 "UnseenClock$Reader" "from" "I") (List.mem_of_getElem? (i := 2) rfl)) (fun _ h9 => h9) rfl (by decide +kernel) rfl rfl (Nat.le_of_ble_eq_true rfl) dX5_step_5 (fun H locs hP hD hS => ?_)
  have hP : va_P D vwCl [(h0, .inr (5, [.int 0, .int (-1), .ref h1, .int 0, .int 0, .int 0, .int 0, .int 0, .int 0, .int 0, .int 0, .ref h2]))] H := hP
  have hD : va_D A [(h0, .inr (5, [.int 0, .int (-1), .ref h1, .int 0, .int 0, .int 0, .int 0, .int 0, .int 0, .int 0, .int 0, .ref h2]))] := hD
  refine lv_aload_n hx hb dX5_step_8 rfl (lv_at hl 0 rfl) ?_
  refine va_get (ci := 5) (v := .int 0) (C := RX5) (T := TX5) (N := 12) hx hb hts in_m_step_X5 hown hK hP 0 rfl rfl 5 (by decide) (hts (.fieldLink RX5 59 "UnseenClock$Reader" "from" "I") (List.mem_of_getElem? (i := 2) rfl)) (fun _ h9 => h9) rfl dX5_step_9 ?_
  refine lv_aload_n hx hb dX5_step_12 rfl (lv_at hl 0 rfl) ?_
  refine va_get (ci := 5) (v := .int 0) (C := RX5) (T := TX5) (N := 12) hx hb hts in_m_step_X5 hown hK hP 0 rfl rfl 3 (by decide) (hts (.fieldLink RX5 21 "UnseenClock$Reader" "length" "I") (List.mem_of_getElem? (i := 3) rfl)) (fun _ h9 => h9) rfl dX5_step_13 ?_
  refine lv_icmp_ge (tgt := 60) hx hb dX5_step_16 (by decide) (fun _ => ?_) (fun h9 => absurd (by decide) h9)
  refine lv_aload_n hx hb dX5_step_60 rfl (lv_at hl 0 rfl) ?_
  refine lv_aload_n hx hb dX5_step_61 rfl (lv_at hl 0 rfl) ?_
  refine va_get (ci := 5) (v := .int 0) (C := RX5) (T := TX5) (N := 12) hx hb hts in_m_step_X5 hown hK hP 0 rfl rfl 5 (by decide) (hts (.fieldLink RX5 59 "UnseenClock$Reader" "from" "I") (List.mem_of_getElem? (i := 2) rfl)) (fun _ h9 => h9) rfl dX5_step_62 ?_
  refine va_put (ci := 5) (v := .int 0) (ty := .int) (C := RX5) (T := TX5) (N := 12) hx hb hts in_m_step_X5 tyX5 tyX5_ok nmX5 hown hK hP hD hS 0 rfl rfl 6 (by decide) (hts (.fieldLink RX5 40 "UnseenClock$Reader" "to" "I") (List.mem_of_getElem? (i := 1) rfl)) (fun _ h9 => h9) rfl (by decide +kernel) rfl rfl (Nat.le_of_ble_eq_true rfl) dX5_step_65 (fun H locs hP hD hS => ?_)
  have hP : va_P D vwCl [(h0, .inr (5, [.int 0, .int (-1), .ref h1, .int 0, .int 0, .int 0, .int 0, .int 0, .int 0, .int 0, .int 0, .ref h2]))] H := hP
  have hD : va_D A [(h0, .inr (5, [.int 0, .int (-1), .ref h1, .int 0, .int 0, .int 0, .int 0, .int 0, .int 0, .int 0, .int 0, .ref h2]))] := hD
  refine lv_aload_n hx hb dX5_step_68 rfl (lv_at hl 0 rfl) ?_
  refine lv_iconst (v := 0) hx hb dX5_step_69 (by decide) ?_
  refine va_put (ci := 5) (v := .int 0) (ty := .int) (C := RX5) (T := TX5) (N := 12) hx hb hts in_m_step_X5 tyX5 tyX5_ok nmX5 hown hK hP hD hS 0 rfl rfl 7 (by decide) (hts (.fieldLink RX5 62 "UnseenClock$Reader" "number" "I") (List.mem_of_getElem? (i := 4) rfl)) (fun _ h9 => h9) rfl (by decide +kernel) rfl rfl (Nat.le_of_ble_eq_true rfl) dX5_step_70 (fun H locs hP hD hS => ?_)
  have hP : va_P D vwCl [(h0, .inr (5, [.int 0, .int (-1), .ref h1, .int 0, .int 0, .int 0, .int 0, .int 0, .int 0, .int 0, .int 0, .ref h2]))] H := hP
  have hD : va_D A [(h0, .inr (5, [.int 0, .int (-1), .ref h1, .int 0, .int 0, .int 0, .int 0, .int 0, .int 0, .int 0, .int 0, .ref h2]))] := hD
  refine lv_aload_n hx hb dX5_step_73 rfl (lv_at hl 0 rfl) ?_
  refine va_get (ci := 5) (v := .int 0) (C := RX5) (T := TX5) (N := 12) hx hb hts in_m_step_X5 hown hK hP 0 rfl rfl 6 (by decide) (hts (.fieldLink RX5 40 "UnseenClock$Reader" "to" "I") (List.mem_of_getElem? (i := 1) rfl)) (fun _ h9 => h9) rfl dX5_step_74 ?_
  refine lv_aload_n hx hb dX5_step_77 rfl (lv_at hl 0 rfl) ?_
  refine va_get (ci := 5) (v := .int 0) (C := RX5) (T := TX5) (N := 12) hx hb hts in_m_step_X5 hown hK hP 0 rfl rfl 3 (by decide) (hts (.fieldLink RX5 21 "UnseenClock$Reader" "length" "I") (List.mem_of_getElem? (i := 3) rfl)) (fun _ h9 => h9) rfl dX5_step_78 ?_
  refine lv_icmp_ge (tgt := 125) hx hb dX5_step_81 (by decide) (fun _ => ?_) (fun h9 => absurd (by decide) h9)
  refine lv_aload_n hx hb dX5_step_125 rfl (lv_at hl 0 rfl) ?_
  refine va_get (ci := 5) (v := .int 0) (C := RX5) (T := TX5) (N := 12) hx hb hts in_m_step_X5 hown hK hP 0 rfl rfl 6 (by decide) (hts (.fieldLink RX5 40 "UnseenClock$Reader" "to" "I") (List.mem_of_getElem? (i := 1) rfl)) (fun _ h9 => h9) rfl dX5_step_126 ?_
  refine lv_aload_n hx hb dX5_step_129 rfl (lv_at hl 0 rfl) ?_
  refine va_get (ci := 5) (v := .int 0) (C := RX5) (T := TX5) (N := 12) hx hb hts in_m_step_X5 hown hK hP 0 rfl rfl 5 (by decide) (hts (.fieldLink RX5 59 "UnseenClock$Reader" "from" "I") (List.mem_of_getElem? (i := 2) rfl)) (fun _ h9 => h9) rfl dX5_step_130 ?_
  refine lv_icmp_le (tgt := 142) hx hb dX5_step_133 (by decide) (fun _ => ?_) (fun h9 => absurd (by decide) h9)
  refine lv_aload_n hx hb dX5_step_142 rfl (lv_at hl 0 rfl) ?_
  refine va_get (ci := 5) (v := .int 0) (C := RX5) (T := TX5) (N := 12) hx hb hts in_m_step_X5 hown hK hP 0 rfl rfl 6 (by decide) (hts (.fieldLink RX5 40 "UnseenClock$Reader" "to" "I") (List.mem_of_getElem? (i := 1) rfl)) (fun _ h9 => h9) rfl dX5_step_143 ?_
  refine lv_aload_n hx hb dX5_step_146 rfl (lv_at hl 0 rfl) ?_
  refine va_get (ci := 5) (v := .int 0) (C := RX5) (T := TX5) (N := 12) hx hb hts in_m_step_X5 hown hK hP 0 rfl rfl 3 (by decide) (hts (.fieldLink RX5 21 "UnseenClock$Reader" "length" "I") (List.mem_of_getElem? (i := 3) rfl)) (fun _ h9 => h9) rfl dX5_step_147 ?_
  refine lv_icmp_ge (tgt := 223) hx hb dX5_step_150 (by decide) (fun _ => ?_) (fun h9 => absurd (by decide) h9)
  refine lv_aload_n hx hb dX5_step_223 rfl (lv_at hl 0 rfl) ?_
  refine va_get (ci := 5) (v := .int 0) (C := RX5) (T := TX5) (N := 12) hx hb hts in_m_step_X5 hown hK hP 0 rfl rfl 6 (by decide) (hts (.fieldLink RX5 40 "UnseenClock$Reader" "to" "I") (List.mem_of_getElem? (i := 1) rfl)) (fun _ h9 => h9) rfl dX5_step_224 ?_
  refine lv_aload_n hx hb dX5_step_227 rfl (lv_at hl 0 rfl) ?_
  refine va_get (ci := 5) (v := .int 0) (C := RX5) (T := TX5) (N := 12) hx hb hts in_m_step_X5 hown hK hP 0 rfl rfl 5 (by decide) (hts (.fieldLink RX5 59 "UnseenClock$Reader" "from" "I") (List.mem_of_getElem? (i := 2) rfl)) (fun _ h9 => h9) rfl dX5_step_228 ?_
  refine lv_icmp_le (tgt := 242) hx hb dX5_step_231 (by decide) (fun _ => ?_) (fun h9 => absurd (by decide) h9)
  refine lv_aload_n hx hb dX5_step_242 rfl (lv_at hl 0 rfl) ?_
  refine va_get (ci := 5) (v := .int 0) (C := RX5) (T := TX5) (N := 12) hx hb hts in_m_step_X5 hown hK hP 0 rfl rfl 5 (by decide) (hts (.fieldLink RX5 59 "UnseenClock$Reader" "from" "I") (List.mem_of_getElem? (i := 2) rfl)) (fun _ h9 => h9) rfl dX5_step_243 ?_
  refine lv_aload_n hx hb dX5_step_246 rfl (lv_at hl 0 rfl) ?_
  refine va_get (ci := 5) (v := .int 0) (C := RX5) (T := TX5) (N := 12) hx hb hts in_m_step_X5 hown hK hP 0 rfl rfl 3 (by decide) (hts (.fieldLink RX5 21 "UnseenClock$Reader" "length" "I") (List.mem_of_getElem? (i := 3) rfl)) (fun _ h9 => h9) rfl dX5_step_247 ?_
  refine lv_icmp_lt (tgt := 261) hx hb dX5_step_250 (by decide) (fun h9 => absurd h9 (by decide)) (fun _ => ?_)
  refine lv_aload_n hx hb dX5_step_253 rfl (lv_at hl 0 rfl) ?_
  refine lv_iconst (v := 0) hx hb dX5_step_254 (by decide) ?_
  refine va_put (ci := 5) (v := .int 0) (ty := .int) (C := RX5) (T := TX5) (N := 12) hx hb hts in_m_step_X5 tyX5 tyX5_ok nmX5 hown hK hP hD hS 0 rfl rfl 4 (by decide) (hts (.fieldLink RX5 46 "UnseenClock$Reader" "kind" "I") (List.mem_of_getElem? (i := 5) rfl)) (fun _ h9 => h9) rfl (by decide +kernel) rfl rfl (Nat.le_of_ble_eq_true rfl) dX5_step_255 (fun H locs hP hD hS => ?_)
  have hP : va_P D vwCl [(h0, .inr (5, [.int 0, .int (-1), .ref h1, .int 0, .int 0, .int 0, .int 0, .int 0, .int 0, .int 0, .int 0, .ref h2]))] H := hP
  have hD : va_D A [(h0, .inr (5, [.int 0, .int (-1), .ref h1, .int 0, .int 0, .int 0, .int 0, .int 0, .int 0, .int 0, .int 0, .ref h2]))] := hD
  refine lv_goto (tgt := 294) hx hb dX5_step_258 (by decide) ?_
  exact e_v hx hb hr (()) trivial hP hD hS hlocks dX5_step_294

def v_m_readSquare : List Cond := .code yX5_readSquare cX5_readSquare 5 none :: ([.fieldLink RX5 9 "UnseenClock$Reader" "text" "[B", .methodLink RX5 15 Lib.Math.min.name, .static Lib.Math.min.name, .initialized "java/lang/Math", .code Lib.Math.min.name Lib.Math.min.code 2 (some .int), .fieldLink RX5 21 "UnseenClock$Reader" "length" "I", .fieldLink RX5 25 "UnseenClock$Reader" "plan" "LUnseenClock$Plan;", .fieldLink RX3 33 "UnseenClock$Plan" "wide" "I", .fieldLink RX3 37 "UnseenClock$Plan" "tall" "I", .fieldLink RX3 40 "UnseenClock$Plan" "minutes" "I", .fieldLink RX3 43 "UnseenClock$Plan" "lines" "I", .fieldLink RX3 46 "UnseenClock$Plan" "walls" "I", .fieldLink RX3 49 "UnseenClock$Plan" "clocks" "I", .fieldLink RX3 52 "UnseenClock$Plan" "people" "I", .fieldLink RX3 55 "UnseenClock$Plan" "away" "I", .fieldLink RX3 9 "UnseenClock$Plan" "cell" "[B", .code yJ7_fill_031fb cJ7_fill_031fb 4 none, .methodLink RX3 58 yJ7_fill_031fb, .static yJ7_fill_031fb, .initialized RJ7, .code yX3_clear cX3_clear 1 none, .methodLink RX5 29 yX3_clear, .instanceMethod yX3_clear, .selects RX3 yX3_clear yX3_clear, .initialized RX3, .fieldLink RX5 34 "UnseenClock$Reader" "fault" "I", .fieldLink RX5 37 "UnseenClock$Reader" "place" "I", .fieldLink RX5 40 "UnseenClock$Reader" "to" "I", .fieldLink RX5 59 "UnseenClock$Reader" "from" "I", .fieldLink RX5 62 "UnseenClock$Reader" "number" "I", .fieldLink RX5 46 "UnseenClock$Reader" "kind" "I", .code yX5_step cX5_step 1 none, .methodLink RX5 43 yX5_step, .instanceMethod yX5_step, .selects RX5 yX5_step yX5_step, .initialized RX5] ++ (wsX50 ++ (wsX30)))
theorem in_m_readSquare_X5 : ∀ w ∈ u_ws RX5 TX5 12, w ∈ v_m_readSquare := fun w h => List.mem_cons_of_mem _ (List.mem_append_right _ (List.mem_append_left _ h))
theorem in_m_readSquare_X3 : ∀ w ∈ u_ws RX3 TX3 12, w ∈ v_m_readSquare := fun w h => List.mem_cons_of_mem _ (List.mem_append_right _ (List.mem_append_right _ (h)))
set_option maxRecDepth 20000 in
theorem g_m_readSquare_m_clear : GoodIn v_m_readSquare (wsV RX5 29 RX3 yX3_clear v_m_clear) := g_rows _ [22, 23, 24, 25, 21, 8, 9, 10, 11, 12, 13, 14, 15, 16, 17, 18, 19, 20, 49, 50, 51, 52, 53, 54, 55, 56, 57, 58, 59, 60] rfl (by decide +kernel)
set_option maxRecDepth 20000 in
theorem g_m_readSquare_m_step : GoodIn v_m_readSquare (wsV RX5 43 RX5 yX5_step v_m_step) := g_rows _ [33, 34, 35, 36, 32, 28, 29, 6, 30, 31, 37, 38, 39, 40, 41, 42, 43, 44, 45, 46, 47, 48] rfl (by decide +kernel)
set_option maxHeartbeats 2000000 in
set_option maxRecDepth 100000 in
theorem m_readSquare (l : Launch) (D : va_G) (E : Nat → ClassId) (sz : Nat) (h0 h1 h2 h3 h4 hk hp : Nat) : Met l yX5_readSquare v_m_readSquare ({ frames := 2, cells := 0, slots := 0, locals := 43 }) (va_Pc [.ref h0, .ref h1, .int 0, .ref h2] (pre D E ([(h0, .inr (5, [.int 0, .int 0, .null, .int 0, .int 0, .int 0, .int 0, .int 0, .int 0, .int 0, .int 0, .null])), (h1, .inl (E 1, 2400, .inl (fun _ => 0))), (h2, .inr (3, [.int 0, .int 0, .int 0, .int 0, .int 0, .int 0, .int 0, .int 0, .ref h3, .ref hk, .ref hp, .ref h4])), (h3, .inl (E 1, 144, .inl (fun _ => 0)))]) sz)) (qV (S := Unit) (fun _ => True) (fun _ => [(h0, .inr (5, [.int 0, .int (-1), .ref h1, .int 0, .int 0, .int 0, .int 0, .int 0, .int 0, .int 0, .int 0, .ref h2])), (h2, .inr (3, [.int 0, .int 0, .int 0, .int 0, .int 0, .int 0, .int 0, .int 0, .ref h3, .ref hk, .ref hp, .ref h4]))]) D (va_A ([(h0, .inr (5, [.int 0, .int 0, .null, .int 0, .int 0, .int 0, .int 0, .int 0, .int 0, .int 0, .int 0, .null])), (h1, .inl (E 1, 2400, .inl (fun _ => 0))), (h2, .inr (3, [.int 0, .int 0, .int 0, .int 0, .int 0, .int 0, .int 0, .int 0, .ref h3, .ref hk, .ref hp, .ref h4])), (h3, .inl (E 1, 144, .inl (fun _ => 0)))]) sz)) 0 0 (va_A ([(h0, .inr (5, [.int 0, .int 0, .null, .int 0, .int 0, .int 0, .int 0, .int 0, .int 0, .int 0, .int 0, .null])), (h1, .inl (E 1, 2400, .inl (fun _ => 0))), (h2, .inr (3, [.int 0, .int 0, .int 0, .int 0, .int 0, .int 0, .int 0, .int 0, .ref h3, .ref hk, .ref hp, .ref h4])), (h3, .inl (E 1, 144, .inl (fun _ => 0)))]) sz) := by
  refine c_void (cc := cX5_readSquare) (maxL := 5) (ret := none) (by decide) rfl (Nat.le_of_ble_eq_true rfl) ?_
  intro p e s m below meth c ls A ⟨hx, hb, hr, hts, hown, hlocks, hin, hml⟩ hP hK hD hN hA hS hl
  have hown : s.vm.findClass RX5 = some m.cls := hown
  have hl : lv_has ls 5 [(0, .ref h0), (1, .ref h1), (2, .int 0), (3, .ref h2)] := hl
  refine lv_aload_n hx hb dX5_readSquare_0 rfl (lv_at hl 0 rfl) ?_
  refine lv_aload_n hx hb dX5_readSquare_1 rfl (lv_at hl 1 rfl) ?_
  refine va_put (ci := 5) (v := .ref h1) (ty := (.array .byte)) (C := RX5) (T := TX5) (N := 12) hx hb hts in_m_readSquare_X5 tyX5 tyX5_ok nmX5 hown hK hP hD hS 0 rfl rfl 2 (by decide) (hts (.fieldLink RX5 9 "UnseenClock$Reader" "text" "[B") (List.mem_of_getElem? (i := 1) rfl)) (fun _ h9 => h9) rfl (by decide +kernel) rfl rfl (Nat.le_of_ble_eq_true rfl) dX5_readSquare_2 (fun H locs hP hD hS => ?_)
  have hP : va_P D vwCl [(h0, .inr (5, [.int 0, .int 0, .ref h1, .int 0, .int 0, .int 0, .int 0, .int 0, .int 0, .int 0, .int 0, .null])), (h1, .inl (E 1, 2400, .inl (fun _ => 0))), (h2, .inr (3, [.int 0, .int 0, .int 0, .int 0, .int 0, .int 0, .int 0, .int 0, .ref h3, .ref hk, .ref hp, .ref h4])), (h3, .inl (E 1, 144, .inl (fun _ => 0)))] H := hP
  have hD : va_D A [(h0, .inr (5, [.int 0, .int 0, .ref h1, .int 0, .int 0, .int 0, .int 0, .int 0, .int 0, .int 0, .int 0, .null])), (h1, .inl (E 1, 2400, .inl (fun _ => 0))), (h2, .inr (3, [.int 0, .int 0, .int 0, .int 0, .int 0, .int 0, .int 0, .int 0, .ref h3, .ref hk, .ref hp, .ref h4])), (h3, .inl (E 1, 144, .inl (fun _ => 0)))] := hD
  refine lv_aload_n hx hb dX5_readSquare_5 rfl (lv_at hl 0 rfl) ?_
  refine lv_iload_n hx hb dX5_readSquare_6 rfl (lv_at hl 2 rfl) ?_
  refine lv_aload_n hx hb dX5_readSquare_7 rfl (lv_at hl 1 rfl) ?_
  refine va_alen (v := 2400) hx hb hK hP 1 1 rfl rfl rfl dX5_readSquare_8 ?_
  refine va_mmin hx hb (by rw [hml]; exact hl.1.symm) hown (hts (.methodLink RX5 15 Lib.Math.min.name) (List.mem_of_getElem? (i := 2) rfl)) (hts (.static Lib.Math.min.name) (List.mem_of_getElem? (i := 3) rfl)) (hts (.initialized "java/lang/Math") (List.mem_of_getElem? (i := 4) rfl)) (hts (.code Lib.Math.min.name Lib.Math.min.code 2 (some .int)) (List.mem_of_getElem? (i := 5) rfl)) (Nat.le_of_ble_eq_true rfl) (Nat.le_of_ble_eq_true rfl) (Nat.le_of_ble_eq_true rfl) (Nat.le_of_ble_eq_true rfl) dX5_readSquare_9 ?_
  refine lv_toc (y := 0) (by decide) ?_
  refine va_put (ci := 5) (v := .int 0) (ty := .int) (C := RX5) (T := TX5) (N := 12) hx hb hts in_m_readSquare_X5 tyX5 tyX5_ok nmX5 hown hK hP hD hS 0 rfl rfl 3 (by decide) (hts (.fieldLink RX5 21 "UnseenClock$Reader" "length" "I") (List.mem_of_getElem? (i := 6) rfl)) (fun _ h9 => h9) rfl (by decide +kernel) rfl rfl (Nat.le_of_ble_eq_true rfl) dX5_readSquare_12 (fun H locs hP hD hS => ?_)
  have hP : va_P D vwCl [(h0, .inr (5, [.int 0, .int 0, .ref h1, .int 0, .int 0, .int 0, .int 0, .int 0, .int 0, .int 0, .int 0, .null])), (h1, .inl (E 1, 2400, .inl (fun _ => 0))), (h2, .inr (3, [.int 0, .int 0, .int 0, .int 0, .int 0, .int 0, .int 0, .int 0, .ref h3, .ref hk, .ref hp, .ref h4])), (h3, .inl (E 1, 144, .inl (fun _ => 0)))] H := hP
  have hD : va_D A [(h0, .inr (5, [.int 0, .int 0, .ref h1, .int 0, .int 0, .int 0, .int 0, .int 0, .int 0, .int 0, .int 0, .null])), (h1, .inl (E 1, 2400, .inl (fun _ => 0))), (h2, .inr (3, [.int 0, .int 0, .int 0, .int 0, .int 0, .int 0, .int 0, .int 0, .ref h3, .ref hk, .ref hp, .ref h4])), (h3, .inl (E 1, 144, .inl (fun _ => 0)))] := hD
  refine lv_aload_n hx hb dX5_readSquare_15 rfl (lv_at hl 0 rfl) ?_
  refine lv_aload_n hx hb dX5_readSquare_16 rfl (lv_at hl 3 rfl) ?_
  refine va_put (ci := 5) (v := .ref h2) (ty := (.object "UnseenClock$Plan")) (C := RX5) (T := TX5) (N := 12) hx hb hts in_m_readSquare_X5 tyX5 tyX5_ok nmX5 hown hK hP hD hS 0 rfl rfl 11 (by decide) (hts (.fieldLink RX5 25 "UnseenClock$Reader" "plan" "LUnseenClock$Plan;") (List.mem_of_getElem? (i := 7) rfl)) (fun _ h9 => h9) rfl (by decide +kernel) rfl rfl (Nat.le_of_ble_eq_true rfl) dX5_readSquare_17 (fun H locs hP hD hS => ?_)
  have hP : va_P D vwCl [(h0, .inr (5, [.int 0, .int 0, .ref h1, .int 0, .int 0, .int 0, .int 0, .int 0, .int 0, .int 0, .int 0, .ref h2])), (h1, .inl (E 1, 2400, .inl (fun _ => 0))), (h2, .inr (3, [.int 0, .int 0, .int 0, .int 0, .int 0, .int 0, .int 0, .int 0, .ref h3, .ref hk, .ref hp, .ref h4])), (h3, .inl (E 1, 144, .inl (fun _ => 0)))] H := hP
  have hD : va_D A [(h0, .inr (5, [.int 0, .int 0, .ref h1, .int 0, .int 0, .int 0, .int 0, .int 0, .int 0, .int 0, .int 0, .ref h2])), (h1, .inl (E 1, 2400, .inl (fun _ => 0))), (h2, .inr (3, [.int 0, .int 0, .int 0, .int 0, .int 0, .int 0, .int 0, .int 0, .ref h3, .ref hk, .ref hp, .ref h4])), (h3, .inl (E 1, 144, .inl (fun _ => 0)))] := hD
  refine lv_aload_n hx hb dX5_readSquare_20 rfl (lv_at hl 0 rfl) ?_
  refine va_get (ci := 5) (v := .ref h2) (C := RX5) (T := TX5) (N := 12) hx hb hts in_m_readSquare_X5 hown hK hP 0 rfl rfl 11 (by decide) (hts (.fieldLink RX5 25 "UnseenClock$Reader" "plan" "LUnseenClock$Plan;") (List.mem_of_getElem? (i := 7) rfl)) (fun _ h9 => h9) rfl dX5_readSquare_21 ?_
  have hPc := hP.sub (ws' := [(h2, .inr (3, [.int 0, .int 0, .int 0, .int 0, .int 0, .int 0, .int 0, .int 0, .ref h3, .ref hk, .ref hp, .ref h4])), (h3, .inl (E 1, 144, .inl (fun _ => 0)))]) [2, 3] rfl
  have hDc := hD.sub (ws' := [(h2, .inr (3, [.int 0, .int 0, .int 0, .int 0, .int 0, .int 0, .int 0, .int 0, .ref h3, .ref hk, .ref hp, .ref h4])), (h3, .inl (E 1, 144, .inl (fun _ => 0)))]) [2, 3] (by decide) rfl
  refine k_v (wr := [(h0, .inr (5, [.int 0, .int 0, .ref h1, .int 0, .int 0, .int 0, .int 0, .int 0, .int 0, .int 0, .int 0, .ref h2])), (h1, .inl (E 1, 2400, .inl (fun _ => 0)))]) (va_runV (As := []) (rest := []) ⟨hx, hb, hml, hown, hts⟩ (m_clear l D E H.size h2 h3 h4 hk hp) (cwV 0 hts g_m_readSquare_m_clear rfl rfl rfl (by decide +kernel) ⟨Nat.le_of_ble_eq_true rfl, Nat.le_of_ble_eq_true rfl⟩) ⟨pre_blind, va_recv hK hPc (ci := 3) (q0 := 0) rfl rfl, pre_at hPc hK hDc hN⟩ rfl rfl hl.1 rfl (lv_room (Nat.le_of_ble_eq_true rfl)) dX5_readSquare_24 ⟨Nat.le_of_ble_eq_true rfl, Nat.le_of_ble_eq_true rfl⟩) hP hD hS hA [2, 3] [0, 1] rfl rfl (by decide +kernel) (by decide +kernel) (fun u_1 H locs hw hP hD hS => ?_)
  have hP : va_P D vwCl [(h0, .inr (5, [.int 0, .int 0, .ref h1, .int 0, .int 0, .int 0, .int 0, .int 0, .int 0, .int 0, .int 0, .ref h2])), (h1, .inl (E 1, 2400, .inl (fun _ => 0))), (h2, .inr (3, [.int 0, .int 0, .int 0, .int 0, .int 0, .int 0, .int 0, .int 0, .ref h3, .ref hk, .ref hp, .ref h4])), (h3, .inl (E 1, 144, .inl u_1))] H := hP
  have hD : va_D A [(h0, .inr (5, [.int 0, .int 0, .ref h1, .int 0, .int 0, .int 0, .int 0, .int 0, .int 0, .int 0, .int 0, .ref h2])), (h1, .inl (E 1, 2400, .inl (fun _ => 0))), (h2, .inr (3, [.int 0, .int 0, .int 0, .int 0, .int 0, .int 0, .int 0, .int 0, .ref h3, .ref hk, .ref hp, .ref h4])), (h3, .inl (E 1, 144, .inl u_1))] := hD
  refine lv_aload_n hx hb dX5_readSquare_27 rfl (lv_at hl 0 rfl) ?_
  refine lv_iconst (v := 0) hx hb dX5_readSquare_28 (by decide) ?_
  refine va_put (ci := 5) (v := .int 0) (ty := .int) (C := RX5) (T := TX5) (N := 12) hx hb hts in_m_readSquare_X5 tyX5 tyX5_ok nmX5 hown hK hP hD hS 0 rfl rfl 0 (by decide) (hts (.fieldLink RX5 34 "UnseenClock$Reader" "fault" "I") (List.mem_of_getElem? (i := 26) rfl)) (fun _ h9 => h9) rfl (by decide +kernel) rfl rfl (Nat.le_of_ble_eq_true rfl) dX5_readSquare_29 (fun H locs hP hD hS => ?_)
  have hP : va_P D vwCl [(h0, .inr (5, [.int 0, .int 0, .ref h1, .int 0, .int 0, .int 0, .int 0, .int 0, .int 0, .int 0, .int 0, .ref h2])), (h1, .inl (E 1, 2400, .inl (fun _ => 0))), (h2, .inr (3, [.int 0, .int 0, .int 0, .int 0, .int 0, .int 0, .int 0, .int 0, .ref h3, .ref hk, .ref hp, .ref h4])), (h3, .inl (E 1, 144, .inl u_1))] H := hP
  have hD : va_D A [(h0, .inr (5, [.int 0, .int 0, .ref h1, .int 0, .int 0, .int 0, .int 0, .int 0, .int 0, .int 0, .int 0, .ref h2])), (h1, .inl (E 1, 2400, .inl (fun _ => 0))), (h2, .inr (3, [.int 0, .int 0, .int 0, .int 0, .int 0, .int 0, .int 0, .int 0, .ref h3, .ref hk, .ref hp, .ref h4])), (h3, .inl (E 1, 144, .inl u_1))] := hD
  refine lv_aload_n hx hb dX5_readSquare_32 rfl (lv_at hl 0 rfl) ?_
  refine lv_iconst (v := (-1)) hx hb dX5_readSquare_33 (by decide) ?_
  refine va_put (ci := 5) (v := .int (-1)) (ty := .int) (C := RX5) (T := TX5) (N := 12) hx hb hts in_m_readSquare_X5 tyX5 tyX5_ok nmX5 hown hK hP hD hS 0 rfl rfl 1 (by decide) (hts (.fieldLink RX5 37 "UnseenClock$Reader" "place" "I") (List.mem_of_getElem? (i := 27) rfl)) (fun _ h9 => h9) rfl (by decide +kernel) rfl rfl (Nat.le_of_ble_eq_true rfl) dX5_readSquare_34 (fun H locs hP hD hS => ?_)
  have hP : va_P D vwCl [(h0, .inr (5, [.int 0, .int (-1), .ref h1, .int 0, .int 0, .int 0, .int 0, .int 0, .int 0, .int 0, .int 0, .ref h2])), (h1, .inl (E 1, 2400, .inl (fun _ => 0))), (h2, .inr (3, [.int 0, .int 0, .int 0, .int 0, .int 0, .int 0, .int 0, .int 0, .ref h3, .ref hk, .ref hp, .ref h4])), (h3, .inl (E 1, 144, .inl u_1))] H := hP
  have hD : va_D A [(h0, .inr (5, [.int 0, .int (-1), .ref h1, .int 0, .int 0, .int 0, .int 0, .int 0, .int 0, .int 0, .int 0, .ref h2])), (h1, .inl (E 1, 2400, .inl (fun _ => 0))), (h2, .inr (3, [.int 0, .int 0, .int 0, .int 0, .int 0, .int 0, .int 0, .int 0, .ref h3, .ref hk, .ref hp, .ref h4])), (h3, .inl (E 1, 144, .inl u_1))] := hD
  refine lv_aload_n hx hb dX5_readSquare_37 rfl (lv_at hl 0 rfl) ?_
  refine lv_iconst (v := 0) hx hb dX5_readSquare_38 (by decide) ?_
  refine va_put (ci := 5) (v := .int 0) (ty := .int) (C := RX5) (T := TX5) (N := 12) hx hb hts in_m_readSquare_X5 tyX5 tyX5_ok nmX5 hown hK hP hD hS 0 rfl rfl 6 (by decide) (hts (.fieldLink RX5 40 "UnseenClock$Reader" "to" "I") (List.mem_of_getElem? (i := 28) rfl)) (fun _ h9 => h9) rfl (by decide +kernel) rfl rfl (Nat.le_of_ble_eq_true rfl) dX5_readSquare_39 (fun H locs hP hD hS => ?_)
  have hP : va_P D vwCl [(h0, .inr (5, [.int 0, .int (-1), .ref h1, .int 0, .int 0, .int 0, .int 0, .int 0, .int 0, .int 0, .int 0, .ref h2])), (h1, .inl (E 1, 2400, .inl (fun _ => 0))), (h2, .inr (3, [.int 0, .int 0, .int 0, .int 0, .int 0, .int 0, .int 0, .int 0, .ref h3, .ref hk, .ref hp, .ref h4])), (h3, .inl (E 1, 144, .inl u_1))] H := hP
  have hD : va_D A [(h0, .inr (5, [.int 0, .int (-1), .ref h1, .int 0, .int 0, .int 0, .int 0, .int 0, .int 0, .int 0, .int 0, .ref h2])), (h1, .inl (E 1, 2400, .inl (fun _ => 0))), (h2, .inr (3, [.int 0, .int 0, .int 0, .int 0, .int 0, .int 0, .int 0, .int 0, .ref h3, .ref hk, .ref hp, .ref h4])), (h3, .inl (E 1, 144, .inl u_1))] := hD
  refine lv_aload_n hx hb dX5_readSquare_42 rfl (lv_at hl 0 rfl) ?_
  have hPc := hP.sub (ws' := [(h0, .inr (5, [.int 0, .int (-1), .ref h1, .int 0, .int 0, .int 0, .int 0, .int 0, .int 0, .int 0, .int 0, .ref h2]))]) [0] rfl
  have hDc := hD.sub (ws' := [(h0, .inr (5, [.int 0, .int (-1), .ref h1, .int 0, .int 0, .int 0, .int 0, .int 0, .int 0, .int 0, .int 0, .ref h2]))]) [0] (by decide) rfl
  refine k_v (wr := [(h1, .inl (E 1, 2400, .inl (fun _ => 0))), (h2, .inr (3, [.int 0, .int 0, .int 0, .int 0, .int 0, .int 0, .int 0, .int 0, .ref h3, .ref hk, .ref hp, .ref h4])), (h3, .inl (E 1, 144, .inl u_1))]) (va_runV (As := []) (rest := []) ⟨hx, hb, hml, hown, hts⟩ (m_step l D E H.size h0 h1 h2) (cwV 0 hts g_m_readSquare_m_step rfl rfl rfl (by decide +kernel) ⟨Nat.le_of_ble_eq_true rfl, Nat.le_of_ble_eq_true rfl⟩) ⟨pre_blind, va_recv hK hPc (ci := 5) (q0 := 0) rfl rfl, pre_at hPc hK hDc hN⟩ rfl rfl hl.1 rfl (lv_room (Nat.le_of_ble_eq_true rfl)) dX5_readSquare_43 ⟨Nat.le_of_ble_eq_true rfl, Nat.le_of_ble_eq_true rfl⟩) hP hD hS hA [0] [1, 2, 3] rfl rfl (by decide +kernel) (by decide +kernel) (fun u_3 H locs hw hP hD hS => ?_)
  have hP : va_P D vwCl [(h1, .inl (E 1, 2400, .inl (fun _ => 0))), (h2, .inr (3, [.int 0, .int 0, .int 0, .int 0, .int 0, .int 0, .int 0, .int 0, .ref h3, .ref hk, .ref hp, .ref h4])), (h3, .inl (E 1, 144, .inl u_1)), (h0, .inr (5, [.int 0, .int (-1), .ref h1, .int 0, .int 0, .int 0, .int 0, .int 0, .int 0, .int 0, .int 0, .ref h2]))] H := hP
  have hD : va_D A [(h1, .inl (E 1, 2400, .inl (fun _ => 0))), (h2, .inr (3, [.int 0, .int 0, .int 0, .int 0, .int 0, .int 0, .int 0, .int 0, .ref h3, .ref hk, .ref hp, .ref h4])), (h3, .inl (E 1, 144, .inl u_1)), (h0, .inr (5, [.int 0, .int (-1), .ref h1, .int 0, .int 0, .int 0, .int 0, .int 0, .int 0, .int 0, .int 0, .ref h2]))] := hD
  refine lv_iconst (v := 0) hx hb dX5_readSquare_46 (by decide) ?_
  refine lv_istore (lv' := [(4, .int 0), (0, .ref h0), (1, .ref h1), (2, .int 0), (3, .ref h2)]) hx hb dX5_readSquare_47 hl (by decide) rfl (fun ls hl => ?_)
  refine lv_iload hx hb dX5_readSquare_49 (lv_at hl 0 rfl) ?_
  refine lv_sipush (v := 2400) hx hb dX5_readSquare_51 (by decide) ?_
  refine lv_icmp_ge (tgt := 98) hx hb dX5_readSquare_54 (by decide) (fun h9 => absurd h9 (by decide)) (fun _ => ?_)
  refine lv_aload_n hx hb dX5_readSquare_57 rfl (lv_at hl 1 rfl) ?_
  refine va_get (ci := 5) (v := .int 0) (C := RX5) (T := TX5) (N := 12) hx hb hts in_m_readSquare_X5 hown hK hP 3 rfl rfl 4 (by decide) (hts (.fieldLink RX5 46 "UnseenClock$Reader" "kind" "I") (List.mem_of_getElem? (i := 31) rfl)) (fun _ h9 => h9) rfl dX5_readSquare_58 ?_
  refine lv_if_eq (tgt := 98) hx hb dX5_readSquare_61 (by decide) (fun _ => ?_) (fun h9 => absurd (by decide) h9)
  have hP := hP.sub (ws' := [(h0, .inr (5, [.int 0, .int (-1), .ref h1, .int 0, .int 0, .int 0, .int 0, .int 0, .int 0, .int 0, .int 0, .ref h2])), (h2, .inr (3, [.int 0, .int 0, .int 0, .int 0, .int 0, .int 0, .int 0, .int 0, .ref h3, .ref hk, .ref hp, .ref h4]))]) [3, 1] rfl
  have hD := hD.sub (ws' := [(h0, .inr (5, [.int 0, .int (-1), .ref h1, .int 0, .int 0, .int 0, .int 0, .int 0, .int 0, .int 0, .int 0, .ref h2])), (h2, .inr (3, [.int 0, .int 0, .int 0, .int 0, .int 0, .int 0, .int 0, .int 0, .ref h3, .ref hk, .ref hp, .ref h4]))]) [3, 1] (by decide) rfl
  exact e_v hx hb hr (()) trivial hP hD hS hlocks dX5_readSquare_98

def v_m_walkAll : List Cond := .code yX3_walkAll cX3_walkAll 3 none :: ([.fieldLink RX3 27 "UnseenClock$Plan" "seen" "[I", .code yJ7_fill_53178 cJ7_fill_53178 4 none, .methodLink RX3 105 yJ7_fill_53178, .static yJ7_fill_53178, .initialized RJ7, .fieldLink RX3 52 "UnseenClock$Plan" "people" "I"] ++ (wsX30))
theorem in_m_walkAll_X3 : ∀ w ∈ u_ws RX3 TX3 12, w ∈ v_m_walkAll := fun w h => List.mem_cons_of_mem _ (List.mem_append_right _ (h))
set_option maxRecDepth 20000 in
theorem g_m_walkAll_fI40 : GoodIn v_m_walkAll (va_wsS RX3 105 yJ7_fill_53178 v_fI40) := g_rows _ [3, 4, 5, 2] rfl (by decide +kernel)
set_option maxHeartbeats 2000000 in
set_option maxRecDepth 100000 in
theorem m_walkAll (l : Launch) (D : va_G) (E : Nat → ClassId) (sz : Nat) (h0 h1 h2 hk hp : Nat) : Met l yX3_walkAll v_m_walkAll ({ frames := 1, cells := 0, slots := 0, locals := 23 }) (va_Pc [.ref h0] (pre D E ([(h0, .inr (3, [.int 0, .int 0, .int 0, .int 0, .int 0, .int 0, .int 0, .int 0, .ref h1, .ref hk, .ref hp, .ref h2])), (h2, .inl (E 0, 40, .inl (fun _ => 0)))]) sz)) (qV (S := Unit) (fun _ => True) (fun _ => [(h0, .inr (3, [.int 0, .int 0, .int 0, .int 0, .int 0, .int 0, .int 0, .int 0, .ref h1, .ref hk, .ref hp, .ref h2]))]) D (va_A ([(h0, .inr (3, [.int 0, .int 0, .int 0, .int 0, .int 0, .int 0, .int 0, .int 0, .ref h1, .ref hk, .ref hp, .ref h2])), (h2, .inl (E 0, 40, .inl (fun _ => 0)))]) sz)) 0 0 (va_A ([(h0, .inr (3, [.int 0, .int 0, .int 0, .int 0, .int 0, .int 0, .int 0, .int 0, .ref h1, .ref hk, .ref hp, .ref h2])), (h2, .inl (E 0, 40, .inl (fun _ => 0)))]) sz) := by
  refine c_void (cc := cX3_walkAll) (maxL := 3) (ret := none) (by decide) rfl (Nat.le_of_ble_eq_true rfl) ?_
  intro p e s m below meth c ls A ⟨hx, hb, hr, hts, hown, hlocks, hin, hml⟩ hP hK hD hN hA hS hl
  have hown : s.vm.findClass RX3 = some m.cls := hown
  have hl : lv_has ls 3 [(0, .ref h0)] := hl
  refine lv_aload_n hx hb dX3_walkAll_0 rfl (lv_at hl 0 rfl) ?_
  refine va_get (ci := 3) (v := .ref h2) (C := RX3) (T := TX3) (N := 12) hx hb hts in_m_walkAll_X3 hown hK hP 0 rfl rfl 11 (by decide) (hts (.fieldLink RX3 27 "UnseenClock$Plan" "seen" "[I") (List.mem_of_getElem? (i := 1) rfl)) (fun _ h9 => h9) rfl dX3_walkAll_1 ?_
  refine lv_iconst (v := 0) hx hb dX3_walkAll_4 (by decide) ?_
  have hPc := hP.sub (ws' := [(h2, .inl (E 0, 40, .inl (fun _ => 0)))]) [1] rfl
  have hDc := hD.sub (ws' := [(h2, .inl (E 0, 40, .inl (fun _ => 0)))]) [1] (by decide) rfl
  refine k_v (wr := [(h0, .inr (3, [.int 0, .int 0, .int 0, .int 0, .int 0, .int 0, .int 0, .int 0, .ref h1, .ref hk, .ref hp, .ref h2]))]) (va_runS (As := [.ref h2, .int 0]) (rest := []) ⟨hx, hb, hml, hown, hts⟩ (fI40 l D E s.heap.size (h2) (fun _ => 0) 0) (va_cwS 2 hts g_m_walkAll_fI40 rfl rfl rfl (by decide +kernel) ⟨Nat.le_of_ble_eq_true rfl, Nat.le_of_ble_eq_true rfl⟩) ⟨pre_blind, pre_at hPc hK hDc hN⟩ rfl rfl hl.1 rfl (lv_room (Nat.le_of_ble_eq_true rfl)) dX3_walkAll_5 ⟨Nat.le_of_ble_eq_true rfl, Nat.le_of_ble_eq_true rfl⟩) hP hD hS hA [1] [0] rfl rfl (by decide +kernel) (by decide +kernel) (fun u_1 H locs hw hP hD hS => ?_)
  have hP : va_P D vwCl [(h0, .inr (3, [.int 0, .int 0, .int 0, .int 0, .int 0, .int 0, .int 0, .int 0, .ref h1, .ref hk, .ref hp, .ref h2])), (h2, .inl (E 0, 40, .inl u_1))] H := hP
  have hD : va_D A [(h0, .inr (3, [.int 0, .int 0, .int 0, .int 0, .int 0, .int 0, .int 0, .int 0, .ref h1, .ref hk, .ref hp, .ref h2])), (h2, .inl (E 0, 40, .inl u_1))] := hD
  refine lv_iconst (v := 0) hx hb dX3_walkAll_8 (by decide) ?_
  refine lv_istore_n (lv' := [(1, .int 0), (0, .ref h0)]) hx hb dX3_walkAll_9 rfl hl (by decide) rfl (fun ls hl => ?_)
  refine lv_iload_n hx hb dX3_walkAll_10 rfl (lv_at hl 0 rfl) ?_
  refine lv_aload_n hx hb dX3_walkAll_11 rfl (lv_at hl 1 rfl) ?_
  refine va_get (ci := 3) (v := .int 0) (C := RX3) (T := TX3) (N := 12) hx hb hts in_m_walkAll_X3 hown hK hP 0 rfl rfl 6 (by decide) (hts (.fieldLink RX3 52 "UnseenClock$Plan" "people" "I") (List.mem_of_getElem? (i := 6) rfl)) (fun _ h9 => h9) rfl dX3_walkAll_12 ?_
  refine lv_icmp_ge (tgt := 92) hx hb dX3_walkAll_15 (by decide) (fun _ => ?_) (fun h9 => absurd (by decide) h9)
  have hP := hP.sub (ws' := [(h0, .inr (3, [.int 0, .int 0, .int 0, .int 0, .int 0, .int 0, .int 0, .int 0, .ref h1, .ref hk, .ref hp, .ref h2]))]) [0] rfl
  have hD := hD.sub (ws' := [(h0, .inr (3, [.int 0, .int 0, .int 0, .int 0, .int 0, .int 0, .int 0, .int 0, .ref h1, .ref hk, .ref hp, .ref h2]))]) [0] (by decide) rfl
  exact e_v hx hb hr (()) trivial hP hD hS hlocks dX3_walkAll_92

def v_m_forget : List Cond := .code yX7_forgetCourses cX7_forgetCourses 1 none :: ([.fieldLink RX7 84 "UnseenClock" "plainStands" "Z", .fieldLink RX7 88 "UnseenClock" "branchesStand" "Z"] ++ (wsX70))
theorem in_m_forget_X7 : ∀ w ∈ u_ws RX7 TX7 14, w ∈ v_m_forget := fun w h => List.mem_cons_of_mem _ (List.mem_append_right _ (h))
set_option maxHeartbeats 2000000 in
set_option maxRecDepth 100000 in
theorem m_forget (l : Launch) (D : va_G) (E : Nat → ClassId) (sz : Nat) (h0 : Nat) (u : Nat → Nat) : Met l yX7_forgetCourses v_m_forget ({ frames := 0, cells := 0, slots := 0, locals := 0 }) (va_Pc [.ref h0] (pre D E ([(h0, .inr (7, [.ref (u 1), .int 0, .ref (u 2), .int 0, .int (-1), .ref (u 3), .ref (u 0), .ref (u 6), .ref (u 98), .int 0, .ref (u 7), .null, .int 0, .ref (u 15)]))]) sz)) (qV (S := Unit) (fun _ => True) (fun _ => [(h0, .inr (7, [.ref (u 1), .int 0, .ref (u 2), .int 0, .int (-1), .ref (u 3), .ref (u 0), .ref (u 6), .ref (u 98), .int 0, .ref (u 7), .null, .int 0, .ref (u 15)]))]) D (va_A ([(h0, .inr (7, [.ref (u 1), .int 0, .ref (u 2), .int 0, .int (-1), .ref (u 3), .ref (u 0), .ref (u 6), .ref (u 98), .int 0, .ref (u 7), .null, .int 0, .ref (u 15)]))]) sz)) 0 0 (va_A ([(h0, .inr (7, [.ref (u 1), .int 0, .ref (u 2), .int 0, .int (-1), .ref (u 3), .ref (u 0), .ref (u 6), .ref (u 98), .int 0, .ref (u 7), .null, .int 0, .ref (u 15)]))]) sz) := by
  refine c_void (cc := cX7_forgetCourses) (maxL := 1) (ret := none) (by decide) rfl (Nat.le_of_ble_eq_true rfl) ?_
  intro p e s m below meth c ls A ⟨hx, hb, hr, hts, hown, hlocks, hin, hml⟩ hP hK hD hN hA hS hl
  have hown : s.vm.findClass RX7 = some m.cls := hown
  have hl : lv_has ls 1 [(0, .ref h0)] := hl
  refine lv_aload_n hx hb dX7_forgetCourses_0 rfl (lv_at hl 0 rfl) ?_
  refine lv_iconst (v := 0) hx hb dX7_forgetCourses_1 (by decide) ?_
  refine va_put (ci := 7) (v := .int 0) (ty := .boolean) (C := RX7) (T := TX7) (N := 14) hx hb hts in_m_forget_X7 tyX7 tyX7_ok nmX7 hown hK hP hD hS 0 rfl rfl 9 (by decide) (hts (.fieldLink RX7 84 "UnseenClock" "plainStands" "Z") (List.mem_of_getElem? (i := 1) rfl)) (fun _ h9 => h9) rfl (by decide +kernel) rfl rfl (Nat.le_of_ble_eq_true rfl) dX7_forgetCourses_2 (fun H locs hP hD hS => ?_)
  have hP : va_P D vwCl [(h0, .inr (7, [.ref (u 1), .int 0, .ref (u 2), .int 0, .int (-1), .ref (u 3), .ref (u 0), .ref (u 6), .ref (u 98), .int 0, .ref (u 7), .null, .int 0, .ref (u 15)]))] H := hP
  have hD : va_D A [(h0, .inr (7, [.ref (u 1), .int 0, .ref (u 2), .int 0, .int (-1), .ref (u 3), .ref (u 0), .ref (u 6), .ref (u 98), .int 0, .ref (u 7), .null, .int 0, .ref (u 15)]))] := hD
  refine lv_aload_n hx hb dX7_forgetCourses_5 rfl (lv_at hl 0 rfl) ?_
  refine lv_iconst (v := 0) hx hb dX7_forgetCourses_6 (by decide) ?_
  refine va_put (ci := 7) (v := .int 0) (ty := .boolean) (C := RX7) (T := TX7) (N := 14) hx hb hts in_m_forget_X7 tyX7 tyX7_ok nmX7 hown hK hP hD hS 0 rfl rfl 12 (by decide) (hts (.fieldLink RX7 88 "UnseenClock" "branchesStand" "Z") (List.mem_of_getElem? (i := 2) rfl)) (fun _ h9 => h9) rfl (by decide +kernel) rfl rfl (Nat.le_of_ble_eq_true rfl) dX7_forgetCourses_7 (fun H locs hP hD hS => ?_)
  have hP : va_P D vwCl [(h0, .inr (7, [.ref (u 1), .int 0, .ref (u 2), .int 0, .int (-1), .ref (u 3), .ref (u 0), .ref (u 6), .ref (u 98), .int 0, .ref (u 7), .null, .int 0, .ref (u 15)]))] H := hP
  have hD : va_D A [(h0, .inr (7, [.ref (u 1), .int 0, .ref (u 2), .int 0, .int (-1), .ref (u 3), .ref (u 0), .ref (u 6), .ref (u 98), .int 0, .ref (u 7), .null, .int 0, .ref (u 15)]))] := hD
  exact e_v hx hb hr (()) trivial hP hD hS hlocks dX7_forgetCourses_10

def v_m_X_square : List Cond := .code yX7_square cX7_square 2 (some .int) :: ([.fieldLink RX7 16 "UnseenClock" "reader" "LUnseenClock$Reader;", .fieldLink RX7 9 "UnseenClock" "tape" "[B", .fieldLink RX7 55 "UnseenClock" "tapeLength" "I", .fieldLink RX7 31 "UnseenClock" "draft" "LUnseenClock$Plan;", .fieldLink RX5 9 "UnseenClock$Reader" "text" "[B", .methodLink RX5 15 Lib.Math.min.name, .static Lib.Math.min.name, .initialized "java/lang/Math", .code Lib.Math.min.name Lib.Math.min.code 2 (some .int), .fieldLink RX5 21 "UnseenClock$Reader" "length" "I", .fieldLink RX5 25 "UnseenClock$Reader" "plan" "LUnseenClock$Plan;", .fieldLink RX3 33 "UnseenClock$Plan" "wide" "I", .fieldLink RX3 37 "UnseenClock$Plan" "tall" "I", .fieldLink RX3 40 "UnseenClock$Plan" "minutes" "I", .fieldLink RX3 43 "UnseenClock$Plan" "lines" "I", .fieldLink RX3 46 "UnseenClock$Plan" "walls" "I", .fieldLink RX3 49 "UnseenClock$Plan" "clocks" "I", .fieldLink RX3 52 "UnseenClock$Plan" "people" "I", .fieldLink RX3 55 "UnseenClock$Plan" "away" "I", .fieldLink RX3 9 "UnseenClock$Plan" "cell" "[B", .code yJ7_fill_031fb cJ7_fill_031fb 4 none, .methodLink RX3 58 yJ7_fill_031fb, .static yJ7_fill_031fb, .initialized RJ7, .code yX3_clear cX3_clear 1 none, .methodLink RX5 29 yX3_clear, .instanceMethod yX3_clear, .selects RX3 yX3_clear yX3_clear, .initialized RX3, .fieldLink RX5 34 "UnseenClock$Reader" "fault" "I", .fieldLink RX5 37 "UnseenClock$Reader" "place" "I", .fieldLink RX5 40 "UnseenClock$Reader" "to" "I", .fieldLink RX5 59 "UnseenClock$Reader" "from" "I", .fieldLink RX5 62 "UnseenClock$Reader" "number" "I", .fieldLink RX5 46 "UnseenClock$Reader" "kind" "I", .code yX5_step cX5_step 1 none, .methodLink RX5 43 yX5_step, .instanceMethod yX5_step, .selects RX5 yX5_step yX5_step, .initialized RX5, .code yX5_readSquare cX5_readSquare 5 none, .methodLink RX7 62 yX5_readSquare, .instanceMethod yX5_readSquare, .selects RX5 yX5_readSquare yX5_readSquare, .fieldLink RX7 66 "UnseenClock$Reader" "fault" "I", .fieldLink RX7 69 "UnseenClock" "faultKind" "I", .fieldLink RX7 72 "UnseenClock$Reader" "place" "I", .fieldLink RX7 20 "UnseenClock" "faultPlace" "I", .fieldLink RX3 27 "UnseenClock$Plan" "seen" "[I", .code yJ7_fill_53178 cJ7_fill_53178 4 none, .methodLink RX3 105 yJ7_fill_53178, .static yJ7_fill_53178, .code yX3_walkAll cX3_walkAll 3 none, .methodLink RX7 75 yX3_walkAll, .instanceMethod yX3_walkAll, .selects RX3 yX3_walkAll yX3_walkAll, .fieldLink RX7 27 "UnseenClock" "plan" "LUnseenClock$Plan;", .fieldLink RX7 84 "UnseenClock" "plainStands" "Z", .fieldLink RX7 88 "UnseenClock" "branchesStand" "Z", .code yX7_forgetCourses cX7_forgetCourses 1 none, .methodLink RX7 78 yX7_forgetCourses, .instanceMethod yX7_forgetCourses, .selects RX7 yX7_forgetCourses yX7_forgetCourses, .initialized RX7, .fieldLink RX7 81 "UnseenClock$Plan" "lines" "I"] ++ (wsX70 ++ (wsX50 ++ (wsX30))))
theorem in_m_X_square_X7 : ∀ w ∈ u_ws RX7 TX7 14, w ∈ v_m_X_square := fun w h => List.mem_cons_of_mem _ (List.mem_append_right _ (List.mem_append_left _ h))
theorem in_m_X_square_X5 : ∀ w ∈ u_ws RX5 TX5 12, w ∈ v_m_X_square := fun w h => List.mem_cons_of_mem _ (List.mem_append_right _ (List.mem_append_right _ (List.mem_append_left _ h)))
theorem in_m_X_square_X3 : ∀ w ∈ u_ws RX3 TX3 12, w ∈ v_m_X_square := fun w h => List.mem_cons_of_mem _ (List.mem_append_right _ (List.mem_append_right _ (List.mem_append_right _ (h))))
set_option maxRecDepth 20000 in
theorem g_m_X_square_m_readSquare : GoodIn v_m_X_square (wsV RX7 62 RX5 yX5_readSquare v_m_readSquare) := g_rows _ [42, 43, 44, 40, 41, 5, 6, 7, 8, 9, 10, 11, 12, 13, 14, 15, 16, 17, 18, 19, 20, 21, 22, 23, 24, 25, 26, 27, 28, 29, 30, 31, 32, 33, 34, 35, 36, 37, 38, 39, 40, 80, 81, 82, 83, 84, 85, 86, 87, 88, 89, 90, 91, 92, 93, 94, 95, 96, 97, 98, 99, 100, 101, 102, 103] rfl (by decide +kernel)
set_option maxRecDepth 20000 in
theorem g_m_X_square_m_walkAll : GoodIn v_m_X_square (wsV RX7 75 RX3 yX3_walkAll v_m_walkAll) := g_rows _ [54, 55, 56, 29, 53, 49, 50, 51, 52, 24, 18, 92, 93, 94, 95, 96, 97, 98, 99, 100, 101, 102, 103] rfl (by decide +kernel)
set_option maxRecDepth 20000 in
theorem g_m_X_square_m_forget : GoodIn v_m_X_square (wsV RX7 78 RX7 yX7_forgetCourses v_m_forget) := g_rows _ [61, 62, 63, 64, 60, 58, 59, 66, 67, 68, 69, 70, 71, 72, 73, 74, 75, 76, 77, 78, 79] rfl (by decide +kernel)
set_option maxHeartbeats 2000000 in
set_option maxRecDepth 100000 in
theorem m_X_square (l : Launch) (D : va_G) (E : Nat → ClassId) (sz : Nat) (h0 : Nat) (u : Nat → Nat)  : Met l yX7_square v_m_X_square ({ frames := 3, cells := 0, slots := 0, locals := 67 }) (va_Pc [.ref h0] (pre D E (wX E h0 u) sz)) (qI (S := Unit) (fun r _ => r = 0) (fun _ => []) D (va_A (wX E h0 u) sz)) 0 0 (va_A (wX E h0 u) sz) := by
  refine c_int (cc := cX7_square) (maxL := 2) (ret := (some .int)) (by decide) rfl (Nat.le_of_ble_eq_true rfl) ?_
  intro p e s m below meth c ls A ⟨hx, hb, hr, hts, hown, hlocks, hin, hml⟩ hP hK hD hN hA hS hl
  have hown : s.vm.findClass RX7 = some m.cls := hown
  have hl : lv_has ls 2 [(0, .ref h0)] := hl
  have hP := hP.sub (ws' := [(h0, .inr (7, [.ref (u 1), .int 0, .ref (u 2), .int 0, .int (-1), .ref (u 0), .ref (u 3), .ref (u 6), .ref (u 98), .int 0, .ref (u 7), .null, .int 0, .ref (u 15)])), (u 1, .inl (E 1, 2400, .inl (fun _ => 0))), (u 2, .inr (5, [.int 0, .int 0, .null, .int 0, .int 0, .int 0, .int 0, .int 0, .int 0, .int 0, .int 0, .null])), (u 3, .inr (3, [.int 0, .int 0, .int 0, .int 0, .int 0, .int 0, .int 0, .int 0, .ref (u 4), .ref (u 96), .ref (u 97), .ref (u 5)])), (u 4, .inl (E 1, 144, .inl (fun _ => 0))), (u 5, .inl (E 0, 40, .inl (fun _ => 0)))]) [0, 2, 3, 4, 5, 6] rfl
  have hD := hD.sub (ws' := [(h0, .inr (7, [.ref (u 1), .int 0, .ref (u 2), .int 0, .int (-1), .ref (u 0), .ref (u 3), .ref (u 6), .ref (u 98), .int 0, .ref (u 7), .null, .int 0, .ref (u 15)])), (u 1, .inl (E 1, 2400, .inl (fun _ => 0))), (u 2, .inr (5, [.int 0, .int 0, .null, .int 0, .int 0, .int 0, .int 0, .int 0, .int 0, .int 0, .int 0, .null])), (u 3, .inr (3, [.int 0, .int 0, .int 0, .int 0, .int 0, .int 0, .int 0, .int 0, .ref (u 4), .ref (u 96), .ref (u 97), .ref (u 5)])), (u 4, .inl (E 1, 144, .inl (fun _ => 0))), (u 5, .inl (E 0, 40, .inl (fun _ => 0)))]) [0, 2, 3, 4, 5, 6] (by decide) rfl
  refine lv_aload_n hx hb dX7_square_0 rfl (lv_at hl 0 rfl) ?_
  refine va_get (ci := 7) (v := .ref (u 2)) (C := RX7) (T := TX7) (N := 14) hx hb hts in_m_X_square_X7 hown hK hP 0 rfl rfl 2 (by decide) (hts (.fieldLink RX7 16 "UnseenClock" "reader" "LUnseenClock$Reader;") (List.mem_of_getElem? (i := 1) rfl)) (fun _ h9 => h9) rfl dX7_square_1 ?_
  refine lv_aload_n hx hb dX7_square_4 rfl (lv_at hl 0 rfl) ?_
  refine va_get (ci := 7) (v := .ref (u 1)) (C := RX7) (T := TX7) (N := 14) hx hb hts in_m_X_square_X7 hown hK hP 0 rfl rfl 0 (by decide) (hts (.fieldLink RX7 9 "UnseenClock" "tape" "[B") (List.mem_of_getElem? (i := 2) rfl)) (fun _ h9 => h9) rfl dX7_square_5 ?_
  refine lv_aload_n hx hb dX7_square_8 rfl (lv_at hl 0 rfl) ?_
  refine va_get (ci := 7) (v := .int 0) (C := RX7) (T := TX7) (N := 14) hx hb hts in_m_X_square_X7 hown hK hP 0 rfl rfl 1 (by decide) (hts (.fieldLink RX7 55 "UnseenClock" "tapeLength" "I") (List.mem_of_getElem? (i := 3) rfl)) (fun _ h9 => h9) rfl dX7_square_9 ?_
  refine lv_aload_n hx hb dX7_square_12 rfl (lv_at hl 0 rfl) ?_
  refine va_get (ci := 7) (v := .ref (u 3)) (C := RX7) (T := TX7) (N := 14) hx hb hts in_m_X_square_X7 hown hK hP 0 rfl rfl 6 (by decide) (hts (.fieldLink RX7 31 "UnseenClock" "draft" "LUnseenClock$Plan;") (List.mem_of_getElem? (i := 4) rfl)) (fun _ h9 => h9) rfl dX7_square_13 ?_
  have hPc := hP.sub (ws' := [(u 2, .inr (5, [.int 0, .int 0, .null, .int 0, .int 0, .int 0, .int 0, .int 0, .int 0, .int 0, .int 0, .null])), (u 1, .inl (E 1, 2400, .inl (fun _ => 0))), (u 3, .inr (3, [.int 0, .int 0, .int 0, .int 0, .int 0, .int 0, .int 0, .int 0, .ref (u 4), .ref (u 96), .ref (u 97), .ref (u 5)])), (u 4, .inl (E 1, 144, .inl (fun _ => 0)))]) [2, 1, 3, 4] rfl
  have hDc := hD.sub (ws' := [(u 2, .inr (5, [.int 0, .int 0, .null, .int 0, .int 0, .int 0, .int 0, .int 0, .int 0, .int 0, .int 0, .null])), (u 1, .inl (E 1, 2400, .inl (fun _ => 0))), (u 3, .inr (3, [.int 0, .int 0, .int 0, .int 0, .int 0, .int 0, .int 0, .int 0, .ref (u 4), .ref (u 96), .ref (u 97), .ref (u 5)])), (u 4, .inl (E 1, 144, .inl (fun _ => 0)))]) [2, 1, 3, 4] (by decide) rfl
  refine k_v (wr := [(h0, .inr (7, [.ref (u 1), .int 0, .ref (u 2), .int 0, .int (-1), .ref (u 0), .ref (u 3), .ref (u 6), .ref (u 98), .int 0, .ref (u 7), .null, .int 0, .ref (u 15)])), (u 5, .inl (E 0, 40, .inl (fun _ => 0)))]) (va_runV (As := [.ref (u 1), .int 0, .ref (u 3)]) (rest := []) ⟨hx, hb, hml, hown, hts⟩ (m_readSquare l D E s.heap.size (u 2) (u 1) (u 3) (u 4) (u 5) (u 96) (u 97)) (cwV 3 hts g_m_X_square_m_readSquare rfl rfl rfl (by decide +kernel) ⟨Nat.le_of_ble_eq_true rfl, Nat.le_of_ble_eq_true rfl⟩) ⟨pre_blind, va_recv hK hPc (ci := 5) (q0 := 0) rfl rfl, pre_at hPc hK hDc hN⟩ rfl rfl hl.1 rfl (lv_room (Nat.le_of_ble_eq_true rfl)) dX7_square_16 ⟨Nat.le_of_ble_eq_true rfl, Nat.le_of_ble_eq_true rfl⟩) hP hD hS hA [2, 1, 3, 4] [0, 5] rfl rfl (by decide +kernel) (by decide +kernel) (fun u_1 H locs hw hP hD hS => ?_)
  have hP : va_P D vwCl [(h0, .inr (7, [.ref (u 1), .int 0, .ref (u 2), .int 0, .int (-1), .ref (u 0), .ref (u 3), .ref (u 6), .ref (u 98), .int 0, .ref (u 7), .null, .int 0, .ref (u 15)])), (u 5, .inl (E 0, 40, .inl (fun _ => 0))), (u 2, .inr (5, [.int 0, .int (-1), .ref (u 1), .int 0, .int 0, .int 0, .int 0, .int 0, .int 0, .int 0, .int 0, .ref (u 3)])), (u 3, .inr (3, [.int 0, .int 0, .int 0, .int 0, .int 0, .int 0, .int 0, .int 0, .ref (u 4), .ref (u 96), .ref (u 97), .ref (u 5)]))] H := hP
  have hD : va_D A [(h0, .inr (7, [.ref (u 1), .int 0, .ref (u 2), .int 0, .int (-1), .ref (u 0), .ref (u 3), .ref (u 6), .ref (u 98), .int 0, .ref (u 7), .null, .int 0, .ref (u 15)])), (u 5, .inl (E 0, 40, .inl (fun _ => 0))), (u 2, .inr (5, [.int 0, .int (-1), .ref (u 1), .int 0, .int 0, .int 0, .int 0, .int 0, .int 0, .int 0, .int 0, .ref (u 3)])), (u 3, .inr (3, [.int 0, .int 0, .int 0, .int 0, .int 0, .int 0, .int 0, .int 0, .ref (u 4), .ref (u 96), .ref (u 97), .ref (u 5)]))] := hD
  refine lv_aload_n hx hb dX7_square_19 rfl (lv_at hl 0 rfl) ?_
  refine lv_iconst (v := 0) hx hb dX7_square_20 (by decide) ?_
  refine va_put (ci := 7) (v := .int 0) (ty := .int) (C := RX7) (T := TX7) (N := 14) hx hb hts in_m_X_square_X7 tyX7 tyX7_ok nmX7 hown hK hP hD hS 0 rfl rfl 1 (by decide) (hts (.fieldLink RX7 55 "UnseenClock" "tapeLength" "I") (List.mem_of_getElem? (i := 3) rfl)) (fun _ h9 => h9) rfl (by decide +kernel) rfl rfl (Nat.le_of_ble_eq_true rfl) dX7_square_21 (fun H locs hP hD hS => ?_)
  have hP : va_P D vwCl [(h0, .inr (7, [.ref (u 1), .int 0, .ref (u 2), .int 0, .int (-1), .ref (u 0), .ref (u 3), .ref (u 6), .ref (u 98), .int 0, .ref (u 7), .null, .int 0, .ref (u 15)])), (u 5, .inl (E 0, 40, .inl (fun _ => 0))), (u 2, .inr (5, [.int 0, .int (-1), .ref (u 1), .int 0, .int 0, .int 0, .int 0, .int 0, .int 0, .int 0, .int 0, .ref (u 3)])), (u 3, .inr (3, [.int 0, .int 0, .int 0, .int 0, .int 0, .int 0, .int 0, .int 0, .ref (u 4), .ref (u 96), .ref (u 97), .ref (u 5)]))] H := hP
  have hD : va_D A [(h0, .inr (7, [.ref (u 1), .int 0, .ref (u 2), .int 0, .int (-1), .ref (u 0), .ref (u 3), .ref (u 6), .ref (u 98), .int 0, .ref (u 7), .null, .int 0, .ref (u 15)])), (u 5, .inl (E 0, 40, .inl (fun _ => 0))), (u 2, .inr (5, [.int 0, .int (-1), .ref (u 1), .int 0, .int 0, .int 0, .int 0, .int 0, .int 0, .int 0, .int 0, .ref (u 3)])), (u 3, .inr (3, [.int 0, .int 0, .int 0, .int 0, .int 0, .int 0, .int 0, .int 0, .ref (u 4), .ref (u 96), .ref (u 97), .ref (u 5)]))] := hD
  refine lv_aload_n hx hb dX7_square_24 rfl (lv_at hl 0 rfl) ?_
  refine lv_aload_n hx hb dX7_square_25 rfl (lv_at hl 0 rfl) ?_
  refine va_get (ci := 7) (v := .ref (u 2)) (C := RX7) (T := TX7) (N := 14) hx hb hts in_m_X_square_X7 hown hK hP 0 rfl rfl 2 (by decide) (hts (.fieldLink RX7 16 "UnseenClock" "reader" "LUnseenClock$Reader;") (List.mem_of_getElem? (i := 1) rfl)) (fun _ h9 => h9) rfl dX7_square_26 ?_
  refine va_get (ci := 5) (v := .int 0) (C := RX5) (T := TX5) (N := 12) hx hb hts in_m_X_square_X5 hown hK hP 2 rfl rfl 0 (by decide) (hts (.fieldLink RX7 66 "UnseenClock$Reader" "fault" "I") (List.mem_of_getElem? (i := 45) rfl)) (fun _ h9 => h9) rfl dX7_square_29 ?_
  refine va_put (ci := 7) (v := .int 0) (ty := .int) (C := RX7) (T := TX7) (N := 14) hx hb hts in_m_X_square_X7 tyX7 tyX7_ok nmX7 hown hK hP hD hS 0 rfl rfl 3 (by decide) (hts (.fieldLink RX7 69 "UnseenClock" "faultKind" "I") (List.mem_of_getElem? (i := 46) rfl)) (fun _ h9 => h9) rfl (by decide +kernel) rfl rfl (Nat.le_of_ble_eq_true rfl) dX7_square_32 (fun H locs hP hD hS => ?_)
  have hP : va_P D vwCl [(h0, .inr (7, [.ref (u 1), .int 0, .ref (u 2), .int 0, .int (-1), .ref (u 0), .ref (u 3), .ref (u 6), .ref (u 98), .int 0, .ref (u 7), .null, .int 0, .ref (u 15)])), (u 5, .inl (E 0, 40, .inl (fun _ => 0))), (u 2, .inr (5, [.int 0, .int (-1), .ref (u 1), .int 0, .int 0, .int 0, .int 0, .int 0, .int 0, .int 0, .int 0, .ref (u 3)])), (u 3, .inr (3, [.int 0, .int 0, .int 0, .int 0, .int 0, .int 0, .int 0, .int 0, .ref (u 4), .ref (u 96), .ref (u 97), .ref (u 5)]))] H := hP
  have hD : va_D A [(h0, .inr (7, [.ref (u 1), .int 0, .ref (u 2), .int 0, .int (-1), .ref (u 0), .ref (u 3), .ref (u 6), .ref (u 98), .int 0, .ref (u 7), .null, .int 0, .ref (u 15)])), (u 5, .inl (E 0, 40, .inl (fun _ => 0))), (u 2, .inr (5, [.int 0, .int (-1), .ref (u 1), .int 0, .int 0, .int 0, .int 0, .int 0, .int 0, .int 0, .int 0, .ref (u 3)])), (u 3, .inr (3, [.int 0, .int 0, .int 0, .int 0, .int 0, .int 0, .int 0, .int 0, .ref (u 4), .ref (u 96), .ref (u 97), .ref (u 5)]))] := hD
  refine lv_aload_n hx hb dX7_square_35 rfl (lv_at hl 0 rfl) ?_
  refine lv_aload_n hx hb dX7_square_36 rfl (lv_at hl 0 rfl) ?_
  refine va_get (ci := 7) (v := .ref (u 2)) (C := RX7) (T := TX7) (N := 14) hx hb hts in_m_X_square_X7 hown hK hP 0 rfl rfl 2 (by decide) (hts (.fieldLink RX7 16 "UnseenClock" "reader" "LUnseenClock$Reader;") (List.mem_of_getElem? (i := 1) rfl)) (fun _ h9 => h9) rfl dX7_square_37 ?_
  refine va_get (ci := 5) (v := .int (-1)) (C := RX5) (T := TX5) (N := 12) hx hb hts in_m_X_square_X5 hown hK hP 2 rfl rfl 1 (by decide) (hts (.fieldLink RX7 72 "UnseenClock$Reader" "place" "I") (List.mem_of_getElem? (i := 47) rfl)) (fun _ h9 => h9) rfl dX7_square_40 ?_
  refine va_put (ci := 7) (v := .int (-1)) (ty := .int) (C := RX7) (T := TX7) (N := 14) hx hb hts in_m_X_square_X7 tyX7 tyX7_ok nmX7 hown hK hP hD hS 0 rfl rfl 4 (by decide) (hts (.fieldLink RX7 20 "UnseenClock" "faultPlace" "I") (List.mem_of_getElem? (i := 48) rfl)) (fun _ h9 => h9) rfl (by decide +kernel) rfl rfl (Nat.le_of_ble_eq_true rfl) dX7_square_43 (fun H locs hP hD hS => ?_)
  have hP : va_P D vwCl [(h0, .inr (7, [.ref (u 1), .int 0, .ref (u 2), .int 0, .int (-1), .ref (u 0), .ref (u 3), .ref (u 6), .ref (u 98), .int 0, .ref (u 7), .null, .int 0, .ref (u 15)])), (u 5, .inl (E 0, 40, .inl (fun _ => 0))), (u 2, .inr (5, [.int 0, .int (-1), .ref (u 1), .int 0, .int 0, .int 0, .int 0, .int 0, .int 0, .int 0, .int 0, .ref (u 3)])), (u 3, .inr (3, [.int 0, .int 0, .int 0, .int 0, .int 0, .int 0, .int 0, .int 0, .ref (u 4), .ref (u 96), .ref (u 97), .ref (u 5)]))] H := hP
  have hD : va_D A [(h0, .inr (7, [.ref (u 1), .int 0, .ref (u 2), .int 0, .int (-1), .ref (u 0), .ref (u 3), .ref (u 6), .ref (u 98), .int 0, .ref (u 7), .null, .int 0, .ref (u 15)])), (u 5, .inl (E 0, 40, .inl (fun _ => 0))), (u 2, .inr (5, [.int 0, .int (-1), .ref (u 1), .int 0, .int 0, .int 0, .int 0, .int 0, .int 0, .int 0, .int 0, .ref (u 3)])), (u 3, .inr (3, [.int 0, .int 0, .int 0, .int 0, .int 0, .int 0, .int 0, .int 0, .ref (u 4), .ref (u 96), .ref (u 97), .ref (u 5)]))] := hD
  refine lv_aload_n hx hb dX7_square_46 rfl (lv_at hl 0 rfl) ?_
  refine va_get (ci := 7) (v := .int 0) (C := RX7) (T := TX7) (N := 14) hx hb hts in_m_X_square_X7 hown hK hP 0 rfl rfl 3 (by decide) (hts (.fieldLink RX7 69 "UnseenClock" "faultKind" "I") (List.mem_of_getElem? (i := 46) rfl)) (fun _ h9 => h9) rfl dX7_square_47 ?_
  refine lv_if_eq (tgt := 56) hx hb dX7_square_50 (by decide) (fun _ => ?_) (fun h9 => absurd (by decide) h9)
  refine lv_aload_n hx hb dX7_square_56 rfl (lv_at hl 0 rfl) ?_
  refine va_get (ci := 7) (v := .ref (u 3)) (C := RX7) (T := TX7) (N := 14) hx hb hts in_m_X_square_X7 hown hK hP 0 rfl rfl 6 (by decide) (hts (.fieldLink RX7 31 "UnseenClock" "draft" "LUnseenClock$Plan;") (List.mem_of_getElem? (i := 4) rfl)) (fun _ h9 => h9) rfl dX7_square_57 ?_
  have hPc := hP.sub (ws' := [(u 3, .inr (3, [.int 0, .int 0, .int 0, .int 0, .int 0, .int 0, .int 0, .int 0, .ref (u 4), .ref (u 96), .ref (u 97), .ref (u 5)])), (u 5, .inl (E 0, 40, .inl (fun _ => 0)))]) [3, 1] rfl
  have hDc := hD.sub (ws' := [(u 3, .inr (3, [.int 0, .int 0, .int 0, .int 0, .int 0, .int 0, .int 0, .int 0, .ref (u 4), .ref (u 96), .ref (u 97), .ref (u 5)])), (u 5, .inl (E 0, 40, .inl (fun _ => 0)))]) [3, 1] (by decide) rfl
  refine k_v (wr := [(h0, .inr (7, [.ref (u 1), .int 0, .ref (u 2), .int 0, .int (-1), .ref (u 0), .ref (u 3), .ref (u 6), .ref (u 98), .int 0, .ref (u 7), .null, .int 0, .ref (u 15)])), (u 2, .inr (5, [.int 0, .int (-1), .ref (u 1), .int 0, .int 0, .int 0, .int 0, .int 0, .int 0, .int 0, .int 0, .ref (u 3)]))]) (va_runV (As := []) (rest := []) ⟨hx, hb, hml, hown, hts⟩ (m_walkAll l D E H.size (u 3) (u 4) (u 5) (u 96) (u 97)) (cwV 0 hts g_m_X_square_m_walkAll rfl rfl rfl (by decide +kernel) ⟨Nat.le_of_ble_eq_true rfl, Nat.le_of_ble_eq_true rfl⟩) ⟨pre_blind, va_recv hK hPc (ci := 3) (q0 := 0) rfl rfl, pre_at hPc hK hDc hN⟩ rfl rfl hl.1 rfl (lv_room (Nat.le_of_ble_eq_true rfl)) dX7_square_60 ⟨Nat.le_of_ble_eq_true rfl, Nat.le_of_ble_eq_true rfl⟩) hP hD hS hA [3, 1] [0, 2] rfl rfl (by decide +kernel) (by decide +kernel) (fun u_4 H locs hw hP hD hS => ?_)
  have hP : va_P D vwCl [(h0, .inr (7, [.ref (u 1), .int 0, .ref (u 2), .int 0, .int (-1), .ref (u 0), .ref (u 3), .ref (u 6), .ref (u 98), .int 0, .ref (u 7), .null, .int 0, .ref (u 15)])), (u 2, .inr (5, [.int 0, .int (-1), .ref (u 1), .int 0, .int 0, .int 0, .int 0, .int 0, .int 0, .int 0, .int 0, .ref (u 3)])), (u 3, .inr (3, [.int 0, .int 0, .int 0, .int 0, .int 0, .int 0, .int 0, .int 0, .ref (u 4), .ref (u 96), .ref (u 97), .ref (u 5)]))] H := hP
  have hD : va_D A [(h0, .inr (7, [.ref (u 1), .int 0, .ref (u 2), .int 0, .int (-1), .ref (u 0), .ref (u 3), .ref (u 6), .ref (u 98), .int 0, .ref (u 7), .null, .int 0, .ref (u 15)])), (u 2, .inr (5, [.int 0, .int (-1), .ref (u 1), .int 0, .int 0, .int 0, .int 0, .int 0, .int 0, .int 0, .int 0, .ref (u 3)])), (u 3, .inr (3, [.int 0, .int 0, .int 0, .int 0, .int 0, .int 0, .int 0, .int 0, .ref (u 4), .ref (u 96), .ref (u 97), .ref (u 5)]))] := hD
  refine lv_aload_n hx hb dX7_square_63 rfl (lv_at hl 0 rfl) ?_
  refine va_get (ci := 7) (v := .ref (u 0)) (C := RX7) (T := TX7) (N := 14) hx hb hts in_m_X_square_X7 hown hK hP 0 rfl rfl 5 (by decide) (hts (.fieldLink RX7 27 "UnseenClock" "plan" "LUnseenClock$Plan;") (List.mem_of_getElem? (i := 57) rfl)) (fun _ h9 => h9) rfl dX7_square_64 ?_
  refine lv_astore_n (lv' := [(1, .ref (u 0)), (0, .ref h0)]) hx hb dX7_square_67 rfl hl (by decide) rfl (fun ls hl => ?_)
  refine lv_aload_n hx hb dX7_square_68 rfl (lv_at hl 1 rfl) ?_
  refine lv_aload_n hx hb dX7_square_69 rfl (lv_at hl 1 rfl) ?_
  refine va_get (ci := 7) (v := .ref (u 3)) (C := RX7) (T := TX7) (N := 14) hx hb hts in_m_X_square_X7 hown hK hP 0 rfl rfl 6 (by decide) (hts (.fieldLink RX7 31 "UnseenClock" "draft" "LUnseenClock$Plan;") (List.mem_of_getElem? (i := 4) rfl)) (fun _ h9 => h9) rfl dX7_square_70 ?_
  refine va_put (ci := 7) (v := .ref (u 3)) (ty := (.object "UnseenClock$Plan")) (C := RX7) (T := TX7) (N := 14) hx hb hts in_m_X_square_X7 tyX7 tyX7_ok nmX7 hown hK hP hD hS 0 rfl rfl 5 (by decide) (hts (.fieldLink RX7 27 "UnseenClock" "plan" "LUnseenClock$Plan;") (List.mem_of_getElem? (i := 57) rfl)) (fun _ h9 => h9) rfl (by decide +kernel) rfl rfl (Nat.le_of_ble_eq_true rfl) dX7_square_73 (fun H locs hP hD hS => ?_)
  have hP : va_P D vwCl [(h0, .inr (7, [.ref (u 1), .int 0, .ref (u 2), .int 0, .int (-1), .ref (u 3), .ref (u 3), .ref (u 6), .ref (u 98), .int 0, .ref (u 7), .null, .int 0, .ref (u 15)])), (u 2, .inr (5, [.int 0, .int (-1), .ref (u 1), .int 0, .int 0, .int 0, .int 0, .int 0, .int 0, .int 0, .int 0, .ref (u 3)])), (u 3, .inr (3, [.int 0, .int 0, .int 0, .int 0, .int 0, .int 0, .int 0, .int 0, .ref (u 4), .ref (u 96), .ref (u 97), .ref (u 5)]))] H := hP
  have hD : va_D A [(h0, .inr (7, [.ref (u 1), .int 0, .ref (u 2), .int 0, .int (-1), .ref (u 3), .ref (u 3), .ref (u 6), .ref (u 98), .int 0, .ref (u 7), .null, .int 0, .ref (u 15)])), (u 2, .inr (5, [.int 0, .int (-1), .ref (u 1), .int 0, .int 0, .int 0, .int 0, .int 0, .int 0, .int 0, .int 0, .ref (u 3)])), (u 3, .inr (3, [.int 0, .int 0, .int 0, .int 0, .int 0, .int 0, .int 0, .int 0, .ref (u 4), .ref (u 96), .ref (u 97), .ref (u 5)]))] := hD
  refine lv_aload_n hx hb dX7_square_76 rfl (lv_at hl 1 rfl) ?_
  refine lv_aload_n hx hb dX7_square_77 rfl (lv_at hl 0 rfl) ?_
  refine va_put (ci := 7) (v := .ref (u 0)) (ty := (.object "UnseenClock$Plan")) (C := RX7) (T := TX7) (N := 14) hx hb hts in_m_X_square_X7 tyX7 tyX7_ok nmX7 hown hK hP hD hS 0 rfl rfl 6 (by decide) (hts (.fieldLink RX7 31 "UnseenClock" "draft" "LUnseenClock$Plan;") (List.mem_of_getElem? (i := 4) rfl)) (fun _ h9 => h9) rfl (by decide +kernel) rfl rfl (Nat.le_of_ble_eq_true rfl) dX7_square_78 (fun H locs hP hD hS => ?_)
  have hP : va_P D vwCl [(h0, .inr (7, [.ref (u 1), .int 0, .ref (u 2), .int 0, .int (-1), .ref (u 3), .ref (u 0), .ref (u 6), .ref (u 98), .int 0, .ref (u 7), .null, .int 0, .ref (u 15)])), (u 2, .inr (5, [.int 0, .int (-1), .ref (u 1), .int 0, .int 0, .int 0, .int 0, .int 0, .int 0, .int 0, .int 0, .ref (u 3)])), (u 3, .inr (3, [.int 0, .int 0, .int 0, .int 0, .int 0, .int 0, .int 0, .int 0, .ref (u 4), .ref (u 96), .ref (u 97), .ref (u 5)]))] H := hP
  have hD : va_D A [(h0, .inr (7, [.ref (u 1), .int 0, .ref (u 2), .int 0, .int (-1), .ref (u 3), .ref (u 0), .ref (u 6), .ref (u 98), .int 0, .ref (u 7), .null, .int 0, .ref (u 15)])), (u 2, .inr (5, [.int 0, .int (-1), .ref (u 1), .int 0, .int 0, .int 0, .int 0, .int 0, .int 0, .int 0, .int 0, .ref (u 3)])), (u 3, .inr (3, [.int 0, .int 0, .int 0, .int 0, .int 0, .int 0, .int 0, .int 0, .ref (u 4), .ref (u 96), .ref (u 97), .ref (u 5)]))] := hD
  refine lv_aload_n hx hb dX7_square_81 rfl (lv_at hl 1 rfl) ?_
  have hPc := hP.sub (ws' := [(h0, .inr (7, [.ref (u 1), .int 0, .ref (u 2), .int 0, .int (-1), .ref (u 3), .ref (u 0), .ref (u 6), .ref (u 98), .int 0, .ref (u 7), .null, .int 0, .ref (u 15)]))]) [0] rfl
  have hDc := hD.sub (ws' := [(h0, .inr (7, [.ref (u 1), .int 0, .ref (u 2), .int 0, .int (-1), .ref (u 3), .ref (u 0), .ref (u 6), .ref (u 98), .int 0, .ref (u 7), .null, .int 0, .ref (u 15)]))]) [0] (by decide) rfl
  refine k_v (wr := [(u 2, .inr (5, [.int 0, .int (-1), .ref (u 1), .int 0, .int 0, .int 0, .int 0, .int 0, .int 0, .int 0, .int 0, .ref (u 3)])), (u 3, .inr (3, [.int 0, .int 0, .int 0, .int 0, .int 0, .int 0, .int 0, .int 0, .ref (u 4), .ref (u 96), .ref (u 97), .ref (u 5)]))]) (va_runV (As := []) (rest := []) ⟨hx, hb, hml, hown, hts⟩ (m_forget l D E H.size h0 u) (cwV 0 hts g_m_X_square_m_forget rfl rfl rfl (by decide +kernel) ⟨Nat.le_of_ble_eq_true rfl, Nat.le_of_ble_eq_true rfl⟩) ⟨pre_blind, va_recv hK hPc (ci := 7) (q0 := 0) rfl rfl, pre_at hPc hK hDc hN⟩ rfl rfl hl.1 rfl (lv_room (Nat.le_of_ble_eq_true rfl)) dX7_square_82 ⟨Nat.le_of_ble_eq_true rfl, Nat.le_of_ble_eq_true rfl⟩) hP hD hS hA [0] [1, 2] rfl rfl (by decide +kernel) (by decide +kernel) (fun u_6 H locs hw hP hD hS => ?_)
  have hP : va_P D vwCl [(u 2, .inr (5, [.int 0, .int (-1), .ref (u 1), .int 0, .int 0, .int 0, .int 0, .int 0, .int 0, .int 0, .int 0, .ref (u 3)])), (u 3, .inr (3, [.int 0, .int 0, .int 0, .int 0, .int 0, .int 0, .int 0, .int 0, .ref (u 4), .ref (u 96), .ref (u 97), .ref (u 5)])), (h0, .inr (7, [.ref (u 1), .int 0, .ref (u 2), .int 0, .int (-1), .ref (u 3), .ref (u 0), .ref (u 6), .ref (u 98), .int 0, .ref (u 7), .null, .int 0, .ref (u 15)]))] H := hP
  have hD : va_D A [(u 2, .inr (5, [.int 0, .int (-1), .ref (u 1), .int 0, .int 0, .int 0, .int 0, .int 0, .int 0, .int 0, .int 0, .ref (u 3)])), (u 3, .inr (3, [.int 0, .int 0, .int 0, .int 0, .int 0, .int 0, .int 0, .int 0, .ref (u 4), .ref (u 96), .ref (u 97), .ref (u 5)])), (h0, .inr (7, [.ref (u 1), .int 0, .ref (u 2), .int 0, .int (-1), .ref (u 3), .ref (u 0), .ref (u 6), .ref (u 98), .int 0, .ref (u 7), .null, .int 0, .ref (u 15)]))] := hD
  refine lv_aload_n hx hb dX7_square_85 rfl (lv_at hl 1 rfl) ?_
  refine va_get (ci := 7) (v := .ref (u 3)) (C := RX7) (T := TX7) (N := 14) hx hb hts in_m_X_square_X7 hown hK hP 2 rfl rfl 5 (by decide) (hts (.fieldLink RX7 27 "UnseenClock" "plan" "LUnseenClock$Plan;") (List.mem_of_getElem? (i := 57) rfl)) (fun _ h9 => h9) rfl dX7_square_86 ?_
  refine va_get (ci := 3) (v := .int 0) (C := RX3) (T := TX3) (N := 12) hx hb hts in_m_X_square_X3 hown hK hP 1 rfl rfl 3 (by decide) (hts (.fieldLink RX7 81 "UnseenClock$Plan" "lines" "I") (List.mem_of_getElem? (i := 65) rfl)) (fun _ h9 => h9) rfl dX7_square_89 ?_
  exact e_i (v := 0) hx hb hr rfl (()) rfl p_nil d_nil hS hlocks dX7_square_92

