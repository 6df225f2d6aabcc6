theorem dX0_init_0 : decode cX0_init 0 = .ok (.aload_n 0, 1) := by decide +kernel
theorem dX0_init_1 : decode cX0_init 1 = .ok (.invokespecial 1, 3) := by decide +kernel
theorem dX0_init_4 : decode cX0_init 4 = .ok (.return_, 1) := by decide +kernel
theorem dX5_init_0 : decode cX5_init 0 = .ok (.aload_n 0, 1) := by decide +kernel
theorem dX5_init_1 : decode cX5_init 1 = .ok (.invokespecial 3, 3) := by decide +kernel
theorem dX5_init_4 : decode cX5_init 4 = .ok (.return_, 1) := by decide +kernel
theorem dX2_init_0 : decode cX2_init 0 = .ok (.aload_n 0, 1) := by decide +kernel
theorem dX2_init_1 : decode cX2_init 1 = .ok (.invokespecial 3, 3) := by decide +kernel
theorem dX2_init_4 : decode cX2_init 4 = .ok (.aload_n 0, 1) := by decide +kernel
theorem dX2_init_5 : decode cX2_init 5 = .ok (.bipush 6, 2) := by decide +kernel
theorem dX2_init_7 : decode cX2_init 7 = .ok (.newarray .int, 2) := by decide +kernel
theorem dX2_init_9 : decode cX2_init 9 = .ok (.putfield 9, 3) := by decide +kernel
theorem dX2_init_12 : decode cX2_init 12 = .ok (.aload_n 0, 1) := by decide +kernel
theorem dX2_init_13 : decode cX2_init 13 = .ok (.bipush 6, 2) := by decide +kernel
theorem dX2_init_15 : decode cX2_init 15 = .ok (.newarray .int, 2) := by decide +kernel
theorem dX2_init_17 : decode cX2_init 17 = .ok (.putfield 15, 3) := by decide +kernel
theorem dX2_init_20 : decode cX2_init 20 = .ok (.aload_n 0, 1) := by decide +kernel
theorem dX2_init_21 : decode cX2_init 21 = .ok (.iconst 4, 1) := by decide +kernel
theorem dX2_init_22 : decode cX2_init 22 = .ok (.newarray .int, 2) := by decide +kernel
theorem dX2_init_24 : decode cX2_init 24 = .ok (.putfield 18, 3) := by decide +kernel
theorem dX2_init_27 : decode cX2_init 27 = .ok (.aload_n 0, 1) := by decide +kernel
theorem dX2_init_28 : decode cX2_init 28 = .ok (.iconst 4, 1) := by decide +kernel
theorem dX2_init_29 : decode cX2_init 29 = .ok (.newarray .int, 2) := by decide +kernel
theorem dX2_init_31 : decode cX2_init 31 = .ok (.putfield 21, 3) := by decide +kernel
theorem dX2_init_34 : decode cX2_init 34 = .ok (.aload_n 0, 1) := by decide +kernel
theorem dX2_init_35 : decode cX2_init 35 = .ok (.iconst 4, 1) := by decide +kernel
theorem dX2_init_36 : decode cX2_init 36 = .ok (.newarray .int, 2) := by decide +kernel
theorem dX2_init_38 : decode cX2_init 38 = .ok (.putfield 24, 3) := by decide +kernel
theorem dX2_init_41 : decode cX2_init 41 = .ok (.aload_n 0, 1) := by decide +kernel
theorem dX2_init_42 : decode cX2_init 42 = .ok (.iconst 4, 1) := by decide +kernel
theorem dX2_init_43 : decode cX2_init 43 = .ok (.newarray .int, 2) := by decide +kernel
theorem dX2_init_45 : decode cX2_init 45 = .ok (.putfield 27, 3) := by decide +kernel
theorem dX2_init_48 : decode cX2_init 48 = .ok (.aload_n 0, 1) := by decide +kernel
theorem dX2_init_49 : decode cX2_init 49 = .ok (.bipush 40, 2) := by decide +kernel
theorem dX2_init_51 : decode cX2_init 51 = .ok (.newarray .int, 2) := by decide +kernel
theorem dX2_init_53 : decode cX2_init 53 = .ok (.putfield 30, 3) := by decide +kernel
theorem dX2_init_56 : decode cX2_init 56 = .ok (.return_, 1) := by decide +kernel
theorem dX6_init_0 : decode cX6_init 0 = .ok (.aload_n 0, 1) := by decide +kernel
theorem dX6_init_1 : decode cX6_init 1 = .ok (.invokespecial 3, 3) := by decide +kernel
theorem dX6_init_4 : decode cX6_init 4 = .ok (.aload_n 0, 1) := by decide +kernel
theorem dX6_init_5 : decode cX6_init 5 = .ok (.iconst (-1), 1) := by decide +kernel
theorem dX6_init_6 : decode cX6_init 6 = .ok (.putfield 9, 3) := by decide +kernel
theorem dX6_init_9 : decode cX6_init 9 = .ok (.aload_n 0, 1) := by decide +kernel
theorem dX6_init_10 : decode cX6_init 10 = .ok (.bipush 60, 2) := by decide +kernel
theorem dX6_init_12 : decode cX6_init 12 = .ok (.newarray .long, 2) := by decide +kernel
theorem dX6_init_14 : decode cX6_init 14 = .ok (.putfield 15, 3) := by decide +kernel
theorem dX6_init_17 : decode cX6_init 17 = .ok (.return_, 1) := by decide +kernel
theorem dX4_init_0 : decode cX4_init 0 = .ok (.aload_n 0, 1) := by decide +kernel
theorem dX4_init_1 : decode cX4_init 1 = .ok (.invokespecial 3, 3) := by decide +kernel
theorem dX4_init_4 : decode cX4_init 4 = .ok (.aload_n 0, 1) := by decide +kernel
theorem dX4_init_5 : decode cX4_init 5 = .ok (.bipush 40, 2) := by decide +kernel
theorem dX4_init_7 : decode cX4_init 7 = .ok (.newarray .int, 2) := by decide +kernel
theorem dX4_init_9 : decode cX4_init 9 = .ok (.putfield 9, 3) := by decide +kernel
theorem dX4_init_12 : decode cX4_init 12 = .ok (.aload_n 0, 1) := by decide +kernel
theorem dX4_init_13 : decode cX4_init 13 = .ok (.bipush 40, 2) := by decide +kernel
theorem dX4_init_15 : decode cX4_init 15 = .ok (.newarray .int, 2) := by decide +kernel
theorem dX4_init_17 : decode cX4_init 17 = .ok (.putfield 15, 3) := by decide +kernel
theorem dX4_init_20 : decode cX4_init 20 = .ok (.aload_n 0, 1) := by decide +kernel
theorem dX4_init_21 : decode cX4_init 21 = .ok (.bipush 41, 2) := by decide +kernel
theorem dX4_init_23 : decode cX4_init 23 = .ok (.newarray .int, 2) := by decide +kernel
theorem dX4_init_25 : decode cX4_init 25 = .ok (.putfield 18, 3) := by decide +kernel
theorem dX4_init_28 : decode cX4_init 28 = .ok (.aload_n 0, 1) := by decide +kernel
theorem dX4_init_29 : decode cX4_init 29 = .ok (.iconst 4, 1) := by decide +kernel
theorem dX4_init_30 : decode cX4_init 30 = .ok (.newarray .int, 2) := by decide +kernel
theorem dX4_init_32 : decode cX4_init 32 = .ok (.putfield 21, 3) := by decide +kernel
theorem dX4_init_35 : decode cX4_init 35 = .ok (.aload_n 0, 1) := by decide +kernel
theorem dX4_init_36 : decode cX4_init 36 = .ok (.iconst 4, 1) := by decide +kernel
theorem dX4_init_37 : decode cX4_init 37 = .ok (.newarray .int, 2) := by decide +kernel
theorem dX4_init_39 : decode cX4_init 39 = .ok (.putfield 24, 3) := by decide +kernel
theorem dX4_init_42 : decode cX4_init 42 = .ok (.aload_n 0, 1) := by decide +kernel
theorem dX4_init_43 : decode cX4_init 43 = .ok (.iconst 4, 1) := by decide +kernel
theorem dX4_init_44 : decode cX4_init 44 = .ok (.newarray .int, 2) := by decide +kernel
theorem dX4_init_46 : decode cX4_init 46 = .ok (.putfield 27, 3) := by decide +kernel
theorem dX4_init_49 : decode cX4_init 49 = .ok (.aload_n 0, 1) := by decide +kernel
theorem dX4_init_50 : decode cX4_init 50 = .ok (.sipush 128, 3) := by decide +kernel
theorem dX4_init_53 : decode cX4_init 53 = .ok (.newarray .int, 2) := by decide +kernel
theorem dX4_init_55 : decode cX4_init 55 = .ok (.putfield 30, 3) := by decide +kernel
theorem dX4_init_58 : decode cX4_init 58 = .ok (.return_, 1) := by decide +kernel
theorem dX1_init_0 : decode cX1_init 0 = .ok (.aload_n 0, 1) := by decide +kernel
theorem dX1_init_1 : decode cX1_init 1 = .ok (.invokespecial 3, 3) := by decide +kernel
theorem dX1_init_4 : decode cX1_init 4 = .ok (.aload_n 0, 1) := by decide +kernel
theorem dX1_init_5 : decode cX1_init 5 = .ok (.sipush 5120, 3) := by decide +kernel
theorem dX1_init_8 : decode cX1_init 8 = .ok (.newarray .int, 2) := by decide +kernel
theorem dX1_init_10 : decode cX1_init 10 = .ok (.putfield 9, 3) := by decide +kernel
theorem dX1_init_13 : decode cX1_init 13 = .ok (.aload_n 0, 1) := by decide +kernel
theorem dX1_init_14 : decode cX1_init 14 = .ok (.sipush 5248, 3) := by decide +kernel
theorem dX1_init_17 : decode cX1_init 17 = .ok (.newarray .int, 2) := by decide +kernel
theorem dX1_init_19 : decode cX1_init 19 = .ok (.putfield 15, 3) := by decide +kernel
theorem dX1_init_22 : decode cX1_init 22 = .ok (.aload_n 0, 1) := by decide +kernel
theorem dX1_init_23 : decode cX1_init 23 = .ok (.sipush 1024, 3) := by decide +kernel
theorem dX1_init_26 : decode cX1_init 26 = .ok (.newarray .int, 2) := by decide +kernel
theorem dX1_init_28 : decode cX1_init 28 = .ok (.putfield 18, 3) := by decide +kernel
theorem dX1_init_31 : decode cX1_init 31 = .ok (.aload_n 0, 1) := by decide +kernel
theorem dX1_init_32 : decode cX1_init 32 = .ok (.sipush 128, 3) := by decide +kernel
theorem dX1_init_35 : decode cX1_init 35 = .ok (.newarray .int, 2) := by decide +kernel
theorem dX1_init_37 : decode cX1_init 37 = .ok (.putfield 21, 3) := by decide +kernel
theorem dX1_init_40 : decode cX1_init 40 = .ok (.aload_n 0, 1) := by decide +kernel
theorem dX1_init_41 : decode cX1_init 41 = .ok (.sipush 128, 3) := by decide +kernel
theorem dX1_init_44 : decode cX1_init 44 = .ok (.newarray .int, 2) := by decide +kernel
theorem dX1_init_46 : decode cX1_init 46 = .ok (.putfield 24, 3) := by decide +kernel
theorem dX1_init_49 : decode cX1_init 49 = .ok (.aload_n 0, 1) := by decide +kernel
theorem dX1_init_50 : decode cX1_init 50 = .ok (.sipush 128, 3) := by decide +kernel
theorem dX1_init_53 : decode cX1_init 53 = .ok (.newarray .int, 2) := by decide +kernel
theorem dX1_init_55 : decode cX1_init 55 = .ok (.putfield 27, 3) := by decide +kernel
theorem dX1_init_58 : decode cX1_init 58 = .ok (.return_, 1) := by decide +kernel
def v_c_Clock_init : List Cond := .code yX0_init cX0_init 1 none :: ([.methodLink RX0 1 objectInit, .instanceMethod objectInit, .code objectInit ⟨#[0xb1]⟩ 1 none])
set_option maxHeartbeats 2000000 in
set_option maxRecDepth 100000 in
/-- Clock(): a cell as it was -/
theorem c_Clock_init (l : Launch) (D : va_G) (E : Nat → ClassId) (sz : Nat) (h0 : Nat) : Met l yX0_init v_c_Clock_init ({ frames := 1, cells := 0, slots := 0, locals := 12 }) (va_Pc [.ref h0] (pre D E ([(h0, .inr (0, [.int 0, .int 0, .int 0, .int 0, .int 0, .int 0]))]) sz)) (qV (S := Nat → Nat) (fun _ => True) (fun u => [(h0, .inr (0, [.int 0, .int 0, .int 0, .int 0, .int 0, .int 0]))]) D (va_A ([(h0, .inr (0, [.int 0, .int 0, .int 0, .int 0, .int 0, .int 0]))]) sz)) 0 0 (va_A ([(h0, .inr (0, [.int 0, .int 0, .int 0, .int 0, .int 0, .int 0]))]) sz) := by
  refine c_void (cc := cX0_init) (maxL := 1) (ret := none) (by decide) rfl (Nat.le_of_ble_eq_true rfl) ?_
  intro p e s m below meth c ls A ⟨hx, hb, hr, hts, hown, hlocks, hin, hml⟩ hP hK hD hN hA hS hl
  have hown : s.vm.findClass RX0 = some m.cls := hown
  have hl : lv_has ls 1 [(0, .ref h0)] := hl
  refine lv_aload_n hx hb dX0_init_0 rfl (lv_at hl 0 rfl) ?_
  refine W.objInit hx hb hown (hts (.methodLink RX0 1 objectInit) (List.mem_of_getElem? (i := 1) rfl)) (hts (.instanceMethod objectInit) (List.mem_of_getElem? (i := 2) rfl)) (hts (.code objectInit ⟨#[0xb1]⟩ 1 none) (List.mem_of_getElem? (i := 3) rfl)) rfl (by rw [hml]; exact hl.1) rfl dX0_init_1 (Nat.le_of_ble_eq_true rfl) (Nat.le_of_ble_eq_true rfl) ?_
  refine W.eq (g2 := F0 m 4 ls []) rfl ?_
  exact e_v hx hb hr (fun k => ([] : List Nat).getD k 0) trivial hP hD hS hlocks dX0_init_4

def v_c_Reader_init : List Cond := .code yX5_init cX5_init 1 none :: ([.methodLink RX5 3 objectInit, .instanceMethod objectInit, .code objectInit ⟨#[0xb1]⟩ 1 none])
set_option maxHeartbeats 2000000 in
set_option maxRecDepth 100000 in
/-- Reader() -/
theorem c_Reader_init (l : Launch) (D : va_G) (E : Nat → ClassId) (sz : Nat) (h0 : Nat) : Met l yX5_init v_c_Reader_init ({ frames := 1, cells := 0, slots := 0, locals := 12 }) (va_Pc [.ref h0] (pre D E ([(h0, .inr (5, [.int 0, .int 0, .null, .int 0, .int 0, .int 0, .int 0, .int 0, .int 0, .int 0, .int 0, .null]))]) sz)) (qV (S := Nat → Nat) (fun _ => True) (fun u => [(h0, .inr (5, [.int 0, .int 0, .null, .int 0, .int 0, .int 0, .int 0, .int 0, .int 0, .int 0, .int 0, .null]))]) D (va_A ([(h0, .inr (5, [.int 0, .int 0, .null, .int 0, .int 0, .int 0, .int 0, .int 0, .int 0, .int 0, .int 0, .null]))]) sz)) 0 0 (va_A ([(h0, .inr (5, [.int 0, .int 0, .null, .int 0, .int 0, .int 0, .int 0, .int 0, .int 0, .int 0, .int 0, .null]))]) sz) := by
  refine c_void (cc := cX5_init) (maxL := 1) (ret := none) (by decide) rfl (Nat.le_of_ble_eq_true rfl) ?_
  intro p e s m below meth c ls A ⟨hx, hb, hr, hts, hown, hlocks, hin, hml⟩ hP hK hD hN hA hS hl
  have hown : s.vm.findClass RX5 = some m.cls := hown
  have hl : lv_has ls 1 [(0, .ref h0)] := hl
  refine lv_aload_n hx hb dX5_init_0 rfl (lv_at hl 0 rfl) ?_
  refine W.objInit hx hb hown (hts (.methodLink RX5 3 objectInit) (List.mem_of_getElem? (i := 1) rfl)) (hts (.instanceMethod objectInit) (List.mem_of_getElem? (i := 2) rfl)) (hts (.code objectInit ⟨#[0xb1]⟩ 1 none) (List.mem_of_getElem? (i := 3) rfl)) rfl (by rw [hml]; exact hl.1) rfl dX5_init_1 (Nat.le_of_ble_eq_true rfl) (Nat.le_of_ble_eq_true rfl) ?_
  refine W.eq (g2 := F0 m 4 ls []) rfl ?_
  exact e_v hx hb hr (fun k => ([] : List Nat).getD k 0) trivial hP hD hS hlocks dX5_init_4

def v_c_Person_init : List Cond := .code yX2_init cX2_init 1 none :: ([.methodLink RX2 3 objectInit, .instanceMethod objectInit, .code objectInit ⟨#[0xb1]⟩ 1 none, .arrayClass .int, .fieldLink RX2 9 "UnseenClock$Person" "way" "[I", .fieldLink RX2 15 "UnseenClock$Person" "steps" "[I", .fieldLink RX2 18 "UnseenClock$Person" "target" "[I", .fieldLink RX2 21 "UnseenClock$Person" "habit" "[I", .fieldLink RX2 24 "UnseenClock$Person" "first" "[I", .fieldLink RX2 27 "UnseenClock$Person" "second" "[I", .fieldLink RX2 30 "UnseenClock$Person" "place" "[I"] ++ (wsX20))
theorem in_c_Person_init_X2 : ∀ w ∈ u_ws RX2 TX2 12, w ∈ v_c_Person_init := fun w h => List.mem_cons_of_mem _ (List.mem_append_right _ (h))
set_option maxHeartbeats 2000000 in
set_option maxRecDepth 100000 in
/-- Person(): seven rows -/
theorem c_Person_init (l : Launch) (D : va_G) (E : Nat → ClassId) (sz : Nat) (h0 : Nat) : Met l yX2_init v_c_Person_init ({ frames := 1, cells := 7, slots := 68, locals := 12 }) (va_Pc [.ref h0] (pre D E ([(h0, .inr (2, [.int 0, .int 0, .int 0, .int 0, .int 0, .null, .null, .null, .null, .null, .null, .null]))]) sz)) (qV (S := Nat → Nat) (fun _ => True) (fun u => [(h0, .inr (2, [.int 0, .int 0, .int 0, .int 0, .int 0, .ref (u 0), .ref (u 1), .ref (u 2), .ref (u 3), .ref (u 4), .ref (u 5), .ref (u 6)])), (u 0, .inl (E 0, 6, .inl (fun _ => 0))), (u 1, .inl (E 0, 6, .inl (fun _ => 0))), (u 2, .inl (E 0, 4, .inl (fun _ => 0))), (u 3, .inl (E 0, 4, .inl (fun _ => 0))), (u 4, .inl (E 0, 4, .inl (fun _ => 0))), (u 5, .inl (E 0, 4, .inl (fun _ => 0))), (u 6, .inl (E 0, 40, .inl (fun _ => 0)))]) D (va_A ([(h0, .inr (2, [.int 0, .int 0, .int 0, .int 0, .int 0, .null, .null, .null, .null, .null, .null, .null]))]) sz)) 7 68 (va_A ([(h0, .inr (2, [.int 0, .int 0, .int 0, .int 0, .int 0, .null, .null, .null, .null, .null, .null, .null]))]) sz) := by
  refine c_void (cc := cX2_init) (maxL := 1) (ret := none) (by decide) rfl (Nat.le_of_ble_eq_true rfl) ?_
  intro p e s m below meth c ls A ⟨hx, hb, hr, hts, hown, hlocks, hin, hml⟩ hP hK hD hN hA hS hl
  have hown : s.vm.findClass RX2 = some m.cls := hown
  have hl : lv_has ls 1 [(0, .ref h0)] := hl
  refine lv_aload_n hx hb dX2_init_0 rfl (lv_at hl 0 rfl) ?_
  refine W.objInit hx hb hown (hts (.methodLink RX2 3 objectInit) (List.mem_of_getElem? (i := 1) rfl)) (hts (.instanceMethod objectInit) (List.mem_of_getElem? (i := 2) rfl)) (hts (.code objectInit ⟨#[0xb1]⟩ 1 none) (List.mem_of_getElem? (i := 3) rfl)) rfl (by rw [hml]; exact hl.1) rfl dX2_init_1 (Nat.le_of_ble_eq_true rfl) (Nat.le_of_ble_eq_true rfl) ?_
  refine W.eq (g2 := F0 m 4 ls []) rfl ?_
  refine lv_aload_n hx hb dX2_init_4 rfl (lv_at hl 0 rfl) ?_
  refine lv_bipush (v := 6) hx hb dX2_init_5 (by decide) ?_
  refine k_newa (atype := .int) (a0 := (6, .inl (fun _ => 0))) (ty := .int) hx hb (hts (.arrayClass .int) (List.mem_of_getElem? (i := 4) rfl)) rfl hK hP hD hS hA (fun _ => rfl) (by decide) (N' := 6) (by decide) (by decide +kernel) (by decide +kernel) (by decide +kernel) dX2_init_7 0 rfl (fun q_1 H hP hD hS => ?_)
  have hP : va_P D vwCl [(h0, .inr (2, [.int 0, .int 0, .int 0, .int 0, .int 0, .null, .null, .null, .null, .null, .null, .null])), (q_1, .inl (E 0, 6, .inl (fun _ => 0)))] H := hP
  have hD : va_D A [(h0, .inr (2, [.int 0, .int 0, .int 0, .int 0, .int 0, .null, .null, .null, .null, .null, .null, .null])), (q_1, .inl (E 0, 6, .inl (fun _ => 0)))] := hD
  refine va_putF (ci := 2) (v := .ref q_1) (ty := (.array .int)) (C := RX2) (T := TX2) (N := 12) hx hb hts in_c_Person_init_X2 tyX2 tyX2_ok nmX2 hown hK hP hD hS 0 rfl rfl 5 (by decide) (hts (.fieldLink RX2 9 "UnseenClock$Person" "way" "[I") (List.mem_of_getElem? (i := 5) rfl)) (fun _ h9 => h9) rfl hin rfl (by decide +kernel) rfl rfl (Nat.le_of_ble_eq_true rfl) dX2_init_9 (fun H locs hP hD hS => ?_)
  have hP : va_P D vwCl [(h0, .inr (2, [.int 0, .int 0, .int 0, .int 0, .int 0, .ref q_1, .null, .null, .null, .null, .null, .null])), (q_1, .inl (E 0, 6, .inl (fun _ => 0)))] H := hP
  have hD : va_D A [(h0, .inr (2, [.int 0, .int 0, .int 0, .int 0, .int 0, .ref q_1, .null, .null, .null, .null, .null, .null])), (q_1, .inl (E 0, 6, .inl (fun _ => 0)))] := hD
  refine lv_aload_n hx hb dX2_init_12 rfl (lv_at hl 0 rfl) ?_
  refine lv_bipush (v := 6) hx hb dX2_init_13 (by decide) ?_
  refine k_newa (atype := .int) (a0 := (6, .inl (fun _ => 0))) (ty := .int) hx hb (hts (.arrayClass .int) (List.mem_of_getElem? (i := 4) rfl)) rfl hK hP hD hS hA (fun _ => rfl) (by decide) (N' := 6) (by decide) (by decide +kernel) (by decide +kernel) (by decide +kernel) dX2_init_15 0 rfl (fun q_2 H hP hD hS => ?_)
  have hP : va_P D vwCl [(h0, .inr (2, [.int 0, .int 0, .int 0, .int 0, .int 0, .ref q_1, .null, .null, .null, .null, .null, .null])), (q_1, .inl (E 0, 6, .inl (fun _ => 0))), (q_2, .inl (E 0, 6, .inl (fun _ => 0)))] H := hP
  have hD : va_D A [(h0, .inr (2, [.int 0, .int 0, .int 0, .int 0, .int 0, .ref q_1, .null, .null, .null, .null, .null, .null])), (q_1, .inl (E 0, 6, .inl (fun _ => 0))), (q_2, .inl (E 0, 6, .inl (fun _ => 0)))] := hD
  refine va_putF (ci := 2) (v := .ref q_2) (ty := (.array .int)) (C := RX2) (T := TX2) (N := 12) hx hb hts in_c_Person_init_X2 tyX2 tyX2_ok nmX2 hown hK hP hD hS 0 rfl rfl 6 (by decide) (hts (.fieldLink RX2 15 "UnseenClock$Person" "steps" "[I") (List.mem_of_getElem? (i := 6) rfl)) (fun _ h9 => h9) rfl hin rfl (by decide +kernel) rfl rfl (Nat.le_of_ble_eq_true rfl) dX2_init_17 (fun H locs hP hD hS => ?_)
  have hP : va_P D vwCl [(h0, .inr (2, [.int 0, .int 0, .int 0, .int 0, .int 0, .ref q_1, .ref q_2, .null, .null, .null, .null, .null])), (q_1, .inl (E 0, 6, .inl (fun _ => 0))), (q_2, .inl (E 0, 6, .inl (fun _ => 0)))] H := hP
  have hD : va_D A [(h0, .inr (2, [.int 0, .int 0, .int 0, .int 0, .int 0, .ref q_1, .ref q_2, .null, .null, .null, .null, .null])), (q_1, .inl (E 0, 6, .inl (fun _ => 0))), (q_2, .inl (E 0, 6, .inl (fun _ => 0)))] := hD
  refine lv_aload_n hx hb dX2_init_20 rfl (lv_at hl 0 rfl) ?_
  refine lv_iconst (v := 4) hx hb dX2_init_21 (by decide) ?_
  refine k_newa (atype := .int) (a0 := (4, .inl (fun _ => 0))) (ty := .int) hx hb (hts (.arrayClass .int) (List.mem_of_getElem? (i := 4) rfl)) rfl hK hP hD hS hA (fun _ => rfl) (by decide) (N' := 4) (by decide) (by decide +kernel) (by decide +kernel) (by decide +kernel) dX2_init_22 0 rfl (fun q_3 H hP hD hS => ?_)
  have hP : va_P D vwCl [(h0, .inr (2, [.int 0, .int 0, .int 0, .int 0, .int 0, .ref q_1, .ref q_2, .null, .null, .null, .null, .null])), (q_1, .inl (E 0, 6, .inl (fun _ => 0))), (q_2, .inl (E 0, 6, .inl (fun _ => 0))), (q_3, .inl (E 0, 4, .inl (fun _ => 0)))] H := hP
  have hD : va_D A [(h0, .inr (2, [.int 0, .int 0, .int 0, .int 0, .int 0, .ref q_1, .ref q_2, .null, .null, .null, .null, .null])), (q_1, .inl (E 0, 6, .inl (fun _ => 0))), (q_2, .inl (E 0, 6, .inl (fun _ => 0))), (q_3, .inl (E 0, 4, .inl (fun _ => 0)))] := hD
  refine va_putF (ci := 2) (v := .ref q_3) (ty := (.array .int)) (C := RX2) (T := TX2) (N := 12) hx hb hts in_c_Person_init_X2 tyX2 tyX2_ok nmX2 hown hK hP hD hS 0 rfl rfl 7 (by decide) (hts (.fieldLink RX2 18 "UnseenClock$Person" "target" "[I") (List.mem_of_getElem? (i := 7) rfl)) (fun _ h9 => h9) rfl hin rfl (by decide +kernel) rfl rfl (Nat.le_of_ble_eq_true rfl) dX2_init_24 (fun H locs hP hD hS => ?_)
  have hP : va_P D vwCl [(h0, .inr (2, [.int 0, .int 0, .int 0, .int 0, .int 0, .ref q_1, .ref q_2, .ref q_3, .null, .null, .null, .null])), (q_1, .inl (E 0, 6, .inl (fun _ => 0))), (q_2, .inl (E 0, 6, .inl (fun _ => 0))), (q_3, .inl (E 0, 4, .inl (fun _ => 0)))] H := hP
  have hD : va_D A [(h0, .inr (2, [.int 0, .int 0, .int 0, .int 0, .int 0, .ref q_1, .ref q_2, .ref q_3, .null, .null, .null, .null])), (q_1, .inl (E 0, 6, .inl (fun _ => 0))), (q_2, .inl (E 0, 6, .inl (fun _ => 0))), (q_3, .inl (E 0, 4, .inl (fun _ => 0)))] := hD
  refine lv_aload_n hx hb dX2_init_27 rfl (lv_at hl 0 rfl) ?_
  refine lv_iconst (v := 4) hx hb dX2_init_28 (by decide) ?_
  refine k_newa (atype := .int) (a0 := (4, .inl (fun _ => 0))) (ty := .int) hx hb (hts (.arrayClass .int) (List.mem_of_getElem? (i := 4) rfl)) rfl hK hP hD hS hA (fun _ => rfl) (by decide) (N' := 4) (by decide) (by decide +kernel) (by decide +kernel) (by decide +kernel) dX2_init_29 0 rfl (fun q_4 H hP hD hS => ?_)
  have hP : va_P D vwCl [(h0, .inr (2, [.int 0, .int 0, .int 0, .int 0, .int 0, .ref q_1, .ref q_2, .ref q_3, .null, .null, .null, .null])), (q_1, .inl (E 0, 6, .inl (fun _ => 0))), (q_2, .inl (E 0, 6, .inl (fun _ => 0))), (q_3, .inl (E 0, 4, .inl (fun _ => 0))), (q_4, .inl (E 0, 4, .inl (fun _ => 0)))] H := hP
  have hD : va_D A [(h0, .inr (2, [.int 0, .int 0, .int 0, .int 0, .int 0, .ref q_1, .ref q_2, .ref q_3, .null, .null, .null, .null])), (q_1, .inl (E 0, 6, .inl (fun _ => 0))), (q_2, .inl (E 0, 6, .inl (fun _ => 0))), (q_3, .inl (E 0, 4, .inl (fun _ => 0))), (q_4, .inl (E 0, 4, .inl (fun _ => 0)))] := hD
  refine va_putF (ci := 2) (v := .ref q_4) (ty := (.array .int)) (C := RX2) (T := TX2) (N := 12) hx hb hts in_c_Person_init_X2 tyX2 tyX2_ok nmX2 hown hK hP hD hS 0 rfl rfl 8 (by decide) (hts (.fieldLink RX2 21 "UnseenClock$Person" "habit" "[I") (List.mem_of_getElem? (i := 8) rfl)) (fun _ h9 => h9) rfl hin rfl (by decide +kernel) rfl rfl (Nat.le_of_ble_eq_true rfl) dX2_init_31 (fun H locs hP hD hS => ?_)
  have hP : va_P D vwCl [(h0, .inr (2, [.int 0, .int 0, .int 0, .int 0, .int 0, .ref q_1, .ref q_2, .ref q_3, .ref q_4, .null, .null, .null])), (q_1, .inl (E 0, 6, .inl (fun _ => 0))), (q_2, .inl (E 0, 6, .inl (fun _ => 0))), (q_3, .inl (E 0, 4, .inl (fun _ => 0))), (q_4, .inl (E 0, 4, .inl (fun _ => 0)))] H := hP
  have hD : va_D A [(h0, .inr (2, [.int 0, .int 0, .int 0, .int 0, .int 0, .ref q_1, .ref q_2, .ref q_3, .ref q_4, .null, .null, .null])), (q_1, .inl (E 0, 6, .inl (fun _ => 0))), (q_2, .inl (E 0, 6, .inl (fun _ => 0))), (q_3, .inl (E 0, 4, .inl (fun _ => 0))), (q_4, .inl (E 0, 4, .inl (fun _ => 0)))] := hD
  refine lv_aload_n hx hb dX2_init_34 rfl (lv_at hl 0 rfl) ?_
  refine lv_iconst (v := 4) hx hb dX2_init_35 (by decide) ?_
  refine k_newa (atype := .int) (a0 := (4, .inl (fun _ => 0))) (ty := .int) hx hb (hts (.arrayClass .int) (List.mem_of_getElem? (i := 4) rfl)) rfl hK hP hD hS hA (fun _ => rfl) (by decide) (N' := 4) (by decide) (by decide +kernel) (by decide +kernel) (by decide +kernel) dX2_init_36 0 rfl (fun q_5 H hP hD hS => ?_)
  have hP : va_P D vwCl [(h0, .inr (2, [.int 0, .int 0, .int 0, .int 0, .int 0, .ref q_1, .ref q_2, .ref q_3, .ref q_4, .null, .null, .null])), (q_1, .inl (E 0, 6, .inl (fun _ => 0))), (q_2, .inl (E 0, 6, .inl (fun _ => 0))), (q_3, .inl (E 0, 4, .inl (fun _ => 0))), (q_4, .inl (E 0, 4, .inl (fun _ => 0))), (q_5, .inl (E 0, 4, .inl (fun _ => 0)))] H := hP
  have hD : va_D A [(h0, .inr (2, [.int 0, .int 0, .int 0, .int 0, .int 0, .ref q_1, .ref q_2, .ref q_3, .ref q_4, .null, .null, .null])), (q_1, .inl (E 0, 6, .inl (fun _ => 0))), (q_2, .inl (E 0, 6, .inl (fun _ => 0))), (q_3, .inl (E 0, 4, .inl (fun _ => 0))), (q_4, .inl (E 0, 4, .inl (fun _ => 0))), (q_5, .inl (E 0, 4, .inl (fun _ => 0)))] := hD
  refine va_putF (ci := 2) (v := .ref q_5) (ty := (.array .int)) (C := RX2) (T := TX2) (N := 12) hx hb hts in_c_Person_init_X2 tyX2 tyX2_ok nmX2 hown hK hP hD hS 0 rfl rfl 9 (by decide) (hts (.fieldLink RX2 24 "UnseenClock$Person" "first" "[I") (List.mem_of_getElem? (i := 9) rfl)) (fun _ h9 => h9) rfl hin rfl (by decide +kernel) rfl rfl (Nat.le_of_ble_eq_true rfl) dX2_init_38 (fun H locs hP hD hS => ?_)
  have hP : va_P D vwCl [(h0, .inr (2, [.int 0, .int 0, .int 0, .int 0, .int 0, .ref q_1, .ref q_2, .ref q_3, .ref q_4, .ref q_5, .null, .null])), (q_1, .inl (E 0, 6, .inl (fun _ => 0))), (q_2, .inl (E 0, 6, .inl (fun _ => 0))), (q_3, .inl (E 0, 4, .inl (fun _ => 0))), (q_4, .inl (E 0, 4, .inl (fun _ => 0))), (q_5, .inl (E 0, 4, .inl (fun _ => 0)))] H := hP
  have hD : va_D A [(h0, .inr (2, [.int 0, .int 0, .int 0, .int 0, .int 0, .ref q_1, .ref q_2, .ref q_3, .ref q_4, .ref q_5, .null, .null])), (q_1, .inl (E 0, 6, .inl (fun _ => 0))), (q_2, .inl (E 0, 6, .inl (fun _ => 0))), (q_3, .inl (E 0, 4, .inl (fun _ => 0))), (q_4, .inl (E 0, 4, .inl (fun _ => 0))), (q_5, .inl (E 0, 4, .inl (fun _ => 0)))] := hD
  refine lv_aload_n hx hb dX2_init_41 rfl (lv_at hl 0 rfl) ?_
  refine lv_iconst (v := 4) hx hb dX2_init_42 (by decide) ?_
  refine k_newa (atype := .int) (a0 := (4, .inl (fun _ => 0))) (ty := .int) hx hb (hts (.arrayClass .int) (List.mem_of_getElem? (i := 4) rfl)) rfl hK hP hD hS hA (fun _ => rfl) (by decide) (N' := 4) (by decide) (by decide +kernel) (by decide +kernel) (by decide +kernel) dX2_init_43 0 rfl (fun q_6 H hP hD hS => ?_)
  have hP : va_P D vwCl [(h0, .inr (2, [.int 0, .int 0, .int 0, .int 0, .int 0, .ref q_1, .ref q_2, .ref q_3, .ref q_4, .ref q_5, .null, .null])), (q_1, .inl (E 0, 6, .inl (fun _ => 0))), (q_2, .inl (E 0, 6, .inl (fun _ => 0))), (q_3, .inl (E 0, 4, .inl (fun _ => 0))), (q_4, .inl (E 0, 4, .inl (fun _ => 0))), (q_5, .inl (E 0, 4, .inl (fun _ => 0))), (q_6, .inl (E 0, 4, .inl (fun _ => 0)))] H := hP
  have hD : va_D A [(h0, .inr (2, [.int 0, .int 0, .int 0, .int 0, .int 0, .ref q_1, .ref q_2, .ref q_3, .ref q_4, .ref q_5, .null, .null])), (q_1, .inl (E 0, 6, .inl (fun _ => 0))), (q_2, .inl (E 0, 6, .inl (fun _ => 0))), (q_3, .inl (E 0, 4, .inl (fun _ => 0))), (q_4, .inl (E 0, 4, .inl (fun _ => 0))), (q_5, .inl (E 0, 4, .inl (fun _ => 0))), (q_6, .inl (E 0, 4, .inl (fun _ => 0)))] := hD
  refine va_putF (ci := 2) (v := .ref q_6) (ty := (.array .int)) (C := RX2) (T := TX2) (N := 12) hx hb hts in_c_Person_init_X2 tyX2 tyX2_ok nmX2 hown hK hP hD hS 0 rfl rfl 10 (by decide) (hts (.fieldLink RX2 27 "UnseenClock$Person" "second" "[I") (List.mem_of_getElem? (i := 10) rfl)) (fun _ h9 => h9) rfl hin rfl (by decide +kernel) rfl rfl (Nat.le_of_ble_eq_true rfl) dX2_init_45 (fun H locs hP hD hS => ?_)
  have hP : va_P D vwCl [(h0, .inr (2, [.int 0, .int 0, .int 0, .int 0, .int 0, .ref q_1, .ref q_2, .ref q_3, .ref q_4, .ref q_5, .ref q_6, .null])), (q_1, .inl (E 0, 6, .inl (fun _ => 0))), (q_2, .inl (E 0, 6, .inl (fun _ => 0))), (q_3, .inl (E 0, 4, .inl (fun _ => 0))), (q_4, .inl (E 0, 4, .inl (fun _ => 0))), (q_5, .inl (E 0, 4, .inl (fun _ => 0))), (q_6, .inl (E 0, 4, .inl (fun _ => 0)))] H := hP
  have hD : va_D A [(h0, .inr (2, [.int 0, .int 0, .int 0, .int 0, .int 0, .ref q_1, .ref q_2, .ref q_3, .ref q_4, .ref q_5, .ref q_6, .null])), (q_1, .inl (E 0, 6, .inl (fun _ => 0))), (q_2, .inl (E 0, 6, .inl (fun _ => 0))), (q_3, .inl (E 0, 4, .inl (fun _ => 0))), (q_4, .inl (E 0, 4, .inl (fun _ => 0))), (q_5, .inl (E 0, 4, .inl (fun _ => 0))), (q_6, .inl (E 0, 4, .inl (fun _ => 0)))] := hD
  refine lv_aload_n hx hb dX2_init_48 rfl (lv_at hl 0 rfl) ?_
  refine lv_bipush (v := 40) hx hb dX2_init_49 (by decide) ?_
  refine k_newa (atype := .int) (a0 := (40, .inl (fun _ => 0))) (ty := .int) hx hb (hts (.arrayClass .int) (List.mem_of_getElem? (i := 4) rfl)) rfl hK hP hD hS hA (fun _ => rfl) (by decide) (N' := 40) (by decide) (by decide +kernel) (by decide +kernel) (by decide +kernel) dX2_init_51 0 rfl (fun q_7 H hP hD hS => ?_)
  have hP : va_P D vwCl [(h0, .inr (2, [.int 0, .int 0, .int 0, .int 0, .int 0, .ref q_1, .ref q_2, .ref q_3, .ref q_4, .ref q_5, .ref q_6, .null])), (q_1, .inl (E 0, 6, .inl (fun _ => 0))), (q_2, .inl (E 0, 6, .inl (fun _ => 0))), (q_3, .inl (E 0, 4, .inl (fun _ => 0))), (q_4, .inl (E 0, 4, .inl (fun _ => 0))), (q_5, .inl (E 0, 4, .inl (fun _ => 0))), (q_6, .inl (E 0, 4, .inl (fun _ => 0))), (q_7, .inl (E 0, 40, .inl (fun _ => 0)))] H := hP
  have hD : va_D A [(h0, .inr (2, [.int 0, .int 0, .int 0, .int 0, .int 0, .ref q_1, .ref q_2, .ref q_3, .ref q_4, .ref q_5, .ref q_6, .null])), (q_1, .inl (E 0, 6, .inl (fun _ => 0))), (q_2, .inl (E 0, 6, .inl (fun _ => 0))), (q_3, .inl (E 0, 4, .inl (fun _ => 0))), (q_4, .inl (E 0, 4, .inl (fun _ => 0))), (q_5, .inl (E 0, 4, .inl (fun _ => 0))), (q_6, .inl (E 0, 4, .inl (fun _ => 0))), (q_7, .inl (E 0, 40, .inl (fun _ => 0)))] := hD
  refine va_putF (ci := 2) (v := .ref q_7) (ty := (.array .int)) (C := RX2) (T := TX2) (N := 12) hx hb hts in_c_Person_init_X2 tyX2 tyX2_ok nmX2 hown hK hP hD hS 0 rfl rfl 11 (by decide) (hts (.fieldLink RX2 30 "UnseenClock$Person" "place" "[I") (List.mem_of_getElem? (i := 11) rfl)) (fun _ h9 => h9) rfl hin rfl (by decide +kernel) rfl rfl (Nat.le_of_ble_eq_true rfl) dX2_init_53 (fun H locs hP hD hS => ?_)
  have hP : va_P D vwCl [(h0, .inr (2, [.int 0, .int 0, .int 0, .int 0, .int 0, .ref q_1, .ref q_2, .ref q_3, .ref q_4, .ref q_5, .ref q_6, .ref q_7])), (q_1, .inl (E 0, 6, .inl (fun _ => 0))), (q_2, .inl (E 0, 6, .inl (fun _ => 0))), (q_3, .inl (E 0, 4, .inl (fun _ => 0))), (q_4, .inl (E 0, 4, .inl (fun _ => 0))), (q_5, .inl (E 0, 4, .inl (fun _ => 0))), (q_6, .inl (E 0, 4, .inl (fun _ => 0))), (q_7, .inl (E 0, 40, .inl (fun _ => 0)))] H := hP
  have hD : va_D A [(h0, .inr (2, [.int 0, .int 0, .int 0, .int 0, .int 0, .ref q_1, .ref q_2, .ref q_3, .ref q_4, .ref q_5, .ref q_6, .ref q_7])), (q_1, .inl (E 0, 6, .inl (fun _ => 0))), (q_2, .inl (E 0, 6, .inl (fun _ => 0))), (q_3, .inl (E 0, 4, .inl (fun _ => 0))), (q_4, .inl (E 0, 4, .inl (fun _ => 0))), (q_5, .inl (E 0, 4, .inl (fun _ => 0))), (q_6, .inl (E 0, 4, .inl (fun _ => 0))), (q_7, .inl (E 0, 40, .inl (fun _ => 0)))] := hD
  refine W.widen (k := 7) (n := 68) (Nat.le_of_ble_eq_true rfl) (Nat.le_of_ble_eq_true rfl) ?_
  exact e_v hx hb hr (fun k => ([q_1, q_2, q_3, q_4, q_5, q_6, q_7] : List Nat).getD k 0) trivial hP hD hS hlocks dX2_init_56

def v_c_Row_init : List Cond := .code yX6_init cX6_init 1 none :: ([.methodLink RX6 3 objectInit, .instanceMethod objectInit, .code objectInit ⟨#[0xb1]⟩ 1 none, .fieldLink RX6 9 "UnseenClock$Row" "length" "I", .arrayClass .long, .fieldLink RX6 15 "UnseenClock$Row" "number" "[J"] ++ (wsX60))
theorem in_c_Row_init_X6 : ∀ w ∈ u_ws RX6 TX6 3, w ∈ v_c_Row_init := fun w h => List.mem_cons_of_mem _ (List.mem_append_right _ (h))
set_option maxHeartbeats 2000000 in
set_option maxRecDepth 100000 in
/-- Row() -/
theorem c_Row_init (l : Launch) (D : va_G) (E : Nat → ClassId) (sz : Nat) (h0 : Nat) : Met l yX6_init v_c_Row_init ({ frames := 1, cells := 1, slots := 60, locals := 12 }) (va_Pc [.ref h0] (pre D E ([(h0, .inr (6, [.int 0, .int 0, .null]))]) sz)) (qV (S := Nat → Nat) (fun _ => True) (fun u => [(h0, .inr (6, [.int 0, .int (-1), .ref (u 0)])), (u 0, .inl (E 2, 60, .inr (.inl (fun _ => 0))))]) D (va_A ([(h0, .inr (6, [.int 0, .int 0, .null]))]) sz)) 1 60 (va_A ([(h0, .inr (6, [.int 0, .int 0, .null]))]) sz) := by
  refine c_void (cc := cX6_init) (maxL := 1) (ret := none) (by decide) rfl (Nat.le_of_ble_eq_true rfl) ?_
  intro p e s m below meth c ls A ⟨hx, hb, hr, hts, hown, hlocks, hin, hml⟩ hP hK hD hN hA hS hl
  have hown : s.vm.findClass RX6 = some m.cls := hown
  have hl : lv_has ls 1 [(0, .ref h0)] := hl
  refine lv_aload_n hx hb dX6_init_0 rfl (lv_at hl 0 rfl) ?_
  refine W.objInit hx hb hown (hts (.methodLink RX6 3 objectInit) (List.mem_of_getElem? (i := 1) rfl)) (hts (.instanceMethod objectInit) (List.mem_of_getElem? (i := 2) rfl)) (hts (.code objectInit ⟨#[0xb1]⟩ 1 none) (List.mem_of_getElem? (i := 3) rfl)) rfl (by rw [hml]; exact hl.1) rfl dX6_init_1 (Nat.le_of_ble_eq_true rfl) (Nat.le_of_ble_eq_true rfl) ?_
  refine W.eq (g2 := F0 m 4 ls []) rfl ?_
  refine lv_aload_n hx hb dX6_init_4 rfl (lv_at hl 0 rfl) ?_
  refine lv_iconst (v := (-1)) hx hb dX6_init_5 (by decide) ?_
  refine va_put (ci := 6) (v := .int (-1)) (ty := .int) (C := RX6) (T := TX6) (N := 3) hx hb hts in_c_Row_init_X6 tyX6 tyX6_ok nmX6 hown hK hP hD hS 0 rfl rfl 1 (by decide) (hts (.fieldLink RX6 9 "UnseenClock$Row" "length" "I") (List.mem_of_getElem? (i := 4) rfl)) (fun _ h9 => h9) rfl (by decide +kernel) rfl rfl (Nat.le_of_ble_eq_true rfl) dX6_init_6 (fun H locs hP hD hS => ?_)
  have hP : va_P D vwCl [(h0, .inr (6, [.int 0, .int (-1), .null]))] H := hP
  have hD : va_D A [(h0, .inr (6, [.int 0, .int (-1), .null]))] := hD
  refine lv_aload_n hx hb dX6_init_9 rfl (lv_at hl 0 rfl) ?_
  refine lv_bipush (v := 60) hx hb dX6_init_10 (by decide) ?_
  refine k_newa (atype := .long) (a0 := (60, .inr (.inl (fun _ => 0)))) (ty := .long) hx hb (hts (.arrayClass .long) (List.mem_of_getElem? (i := 5) rfl)) rfl hK hP hD hS hA (fun _ => rfl) (by decide) (N' := 60) (by decide) (by decide +kernel) (by decide +kernel) (by decide +kernel) dX6_init_12 2 rfl (fun q_1 H hP hD hS => ?_)
  have hP : va_P D vwCl [(h0, .inr (6, [.int 0, .int (-1), .null])), (q_1, .inl (E 2, 60, .inr (.inl (fun _ => 0))))] H := hP
  have hD : va_D A [(h0, .inr (6, [.int 0, .int (-1), .null])), (q_1, .inl (E 2, 60, .inr (.inl (fun _ => 0))))] := hD
  refine va_putF (ci := 6) (v := .ref q_1) (ty := (.array .long)) (C := RX6) (T := TX6) (N := 3) hx hb hts in_c_Row_init_X6 tyX6 tyX6_ok nmX6 hown hK hP hD hS 0 rfl rfl 2 (by decide) (hts (.fieldLink RX6 15 "UnseenClock$Row" "number" "[J") (List.mem_of_getElem? (i := 6) rfl)) (fun _ h9 => h9) rfl hin rfl (by decide +kernel) rfl rfl (Nat.le_of_ble_eq_true rfl) dX6_init_14 (fun H locs hP hD hS => ?_)
  have hP : va_P D vwCl [(h0, .inr (6, [.int 0, .int (-1), .ref q_1])), (q_1, .inl (E 2, 60, .inr (.inl (fun _ => 0))))] H := hP
  have hD : va_D A [(h0, .inr (6, [.int 0, .int (-1), .ref q_1])), (q_1, .inl (E 2, 60, .inr (.inl (fun _ => 0))))] := hD
  refine W.widen (k := 1) (n := 60) (Nat.le_of_ble_eq_true rfl) (Nat.le_of_ble_eq_true rfl) ?_
  exact e_v hx hb hr (fun k => ([q_1] : List Nat).getD k 0) trivial hP hD hS hlocks dX6_init_17

def v_c_Play_init : List Cond := .code yX4_init cX4_init 1 none :: ([.methodLink RX4 3 objectInit, .instanceMethod objectInit, .code objectInit ⟨#[0xb1]⟩ 1 none, .arrayClass .int, .fieldLink RX4 9 "UnseenClock$Play" "looked" "[I", .fieldLink RX4 15 "UnseenClock$Play" "opened" "[I", .fieldLink RX4 18 "UnseenClock$Play" "faces" "[I", .fieldLink RX4 21 "UnseenClock$Play" "keeper" "[I", .fieldLink RX4 24 "UnseenClock$Play" "keptLast" "[I", .fieldLink RX4 27 "UnseenClock$Play" "parts" "[I", .fieldLink RX4 30 "UnseenClock$Play" "choice" "[I"] ++ (wsX40))
theorem in_c_Play_init_X4 : ∀ w ∈ u_ws RX4 TX4 15, w ∈ v_c_Play_init := fun w h => List.mem_cons_of_mem _ (List.mem_append_right _ (h))
set_option maxHeartbeats 2000000 in
set_option maxRecDepth 100000 in
/-- Play(): seven rows -/
theorem c_Play_init (l : Launch) (D : va_G) (E : Nat → ClassId) (sz : Nat) (h0 : Nat) : Met l yX4_init v_c_Play_init ({ frames := 1, cells := 7, slots := 261, locals := 12 }) (va_Pc [.ref h0] (pre D E ([(h0, .inr (4, [.null, .null, .null, .null, .null, .int 0, .null, .null, .int 0, .null, .int 0, .int 0, .long 0, .int 0, .int 0]))]) sz)) (qV (S := Nat → Nat) (fun _ => True) (fun u => [(h0, .inr (4, [.ref (u 0), .ref (u 1), .ref (u 2), .ref (u 3), .ref (u 4), .int 0, .ref (u 5), .ref (u 6), .int 0, .null, .int 0, .int 0, .long 0, .int 0, .int 0])), (u 0, .inl (E 0, 40, .inl (fun _ => 0))), (u 1, .inl (E 0, 40, .inl (fun _ => 0))), (u 2, .inl (E 0, 41, .inl (fun _ => 0))), (u 3, .inl (E 0, 4, .inl (fun _ => 0))), (u 4, .inl (E 0, 4, .inl (fun _ => 0))), (u 5, .inl (E 0, 4, .inl (fun _ => 0))), (u 6, .inl (E 0, 128, .inl (fun _ => 0)))]) D (va_A ([(h0, .inr (4, [.null, .null, .null, .null, .null, .int 0, .null, .null, .int 0, .null, .int 0, .int 0, .long 0, .int 0, .int 0]))]) sz)) 7 261 (va_A ([(h0, .inr (4, [.null, .null, .null, .null, .null, .int 0, .null, .null, .int 0, .null, .int 0, .int 0, .long 0, .int 0, .int 0]))]) sz) := by
  refine c_void (cc := cX4_init) (maxL := 1) (ret := none) (by decide) rfl (Nat.le_of_ble_eq_true rfl) ?_
  intro p e s m below meth c ls A ⟨hx, hb, hr, hts, hown, hlocks, hin, hml⟩ hP hK hD hN hA hS hl
  have hown : s.vm.findClass RX4 = some m.cls := hown
  have hl : lv_has ls 1 [(0, .ref h0)] := hl
  refine lv_aload_n hx hb dX4_init_0 rfl (lv_at hl 0 rfl) ?_
  refine W.objInit hx hb hown (hts (.methodLink RX4 3 objectInit) (List.mem_of_getElem? (i := 1) rfl)) (hts (.instanceMethod objectInit) (List.mem_of_getElem? (i := 2) rfl)) (hts (.code objectInit ⟨#[0xb1]⟩ 1 none) (List.mem_of_getElem? (i := 3) rfl)) rfl (by rw [hml]; exact hl.1) rfl dX4_init_1 (Nat.le_of_ble_eq_true rfl) (Nat.le_of_ble_eq_true rfl) ?_
  refine W.eq (g2 := F0 m 4 ls []) rfl ?_
  refine lv_aload_n hx hb dX4_init_4 rfl (lv_at hl 0 rfl) ?_
  refine lv_bipush (v := 40) hx hb dX4_init_5 (by decide) ?_
  refine k_newa (atype := .int) (a0 := (40, .inl (fun _ => 0))) (ty := .int) hx hb (hts (.arrayClass .int) (List.mem_of_getElem? (i := 4) rfl)) rfl hK hP hD hS hA (fun _ => rfl) (by decide) (N' := 40) (by decide) (by decide +kernel) (by decide +kernel) (by decide +kernel) dX4_init_7 0 rfl (fun q_1 H hP hD hS => ?_)
  have hP : va_P D vwCl [(h0, .inr (4, [.null, .null, .null, .null, .null, .int 0, .null, .null, .int 0, .null, .int 0, .int 0, .long 0, .int 0, .int 0])), (q_1, .inl (E 0, 40, .inl (fun _ => 0)))] H := hP
  have hD : va_D A [(h0, .inr (4, [.null, .null, .null, .null, .null, .int 0, .null, .null, .int 0, .null, .int 0, .int 0, .long 0, .int 0, .int 0])), (q_1, .inl (E 0, 40, .inl (fun _ => 0)))] := hD
  refine va_putF (ci := 4) (v := .ref q_1) (ty := (.array .int)) (C := RX4) (T := TX4) (N := 15) hx hb hts in_c_Play_init_X4 tyX4 tyX4_ok nmX4 hown hK hP hD hS 0 rfl rfl 0 (by decide) (hts (.fieldLink RX4 9 "UnseenClock$Play" "looked" "[I") (List.mem_of_getElem? (i := 5) rfl)) (fun _ h9 => h9) rfl hin rfl (by decide +kernel) rfl rfl (Nat.le_of_ble_eq_true rfl) dX4_init_9 (fun H locs hP hD hS => ?_)
  have hP : va_P D vwCl [(h0, .inr (4, [.ref q_1, .null, .null, .null, .null, .int 0, .null, .null, .int 0, .null, .int 0, .int 0, .long 0, .int 0, .int 0])), (q_1, .inl (E 0, 40, .inl (fun _ => 0)))] H := hP
  have hD : va_D A [(h0, .inr (4, [.ref q_1, .null, .null, .null, .null, .int 0, .null, .null, .int 0, .null, .int 0, .int 0, .long 0, .int 0, .int 0])), (q_1, .inl (E 0, 40, .inl (fun _ => 0)))] := hD
  refine lv_aload_n hx hb dX4_init_12 rfl (lv_at hl 0 rfl) ?_
  refine lv_bipush (v := 40) hx hb dX4_init_13 (by decide) ?_
  refine k_newa (atype := .int) (a0 := (40, .inl (fun _ => 0))) (ty := .int) hx hb (hts (.arrayClass .int) (List.mem_of_getElem? (i := 4) rfl)) rfl hK hP hD hS hA (fun _ => rfl) (by decide) (N' := 40) (by decide) (by decide +kernel) (by decide +kernel) (by decide +kernel) dX4_init_15 0 rfl (fun q_2 H hP hD hS => ?_)
  have hP : va_P D vwCl [(h0, .inr (4, [.ref q_1, .null, .null, .null, .null, .int 0, .null, .null, .int 0, .null, .int 0, .int 0, .long 0, .int 0, .int 0])), (q_1, .inl (E 0, 40, .inl (fun _ => 0))), (q_2, .inl (E 0, 40, .inl (fun _ => 0)))] H := hP
  have hD : va_D A [(h0, .inr (4, [.ref q_1, .null, .null, .null, .null, .int 0, .null, .null, .int 0, .null, .int 0, .int 0, .long 0, .int 0, .int 0])), (q_1, .inl (E 0, 40, .inl (fun _ => 0))), (q_2, .inl (E 0, 40, .inl (fun _ => 0)))] := hD
  refine va_putF (ci := 4) (v := .ref q_2) (ty := (.array .int)) (C := RX4) (T := TX4) (N := 15) hx hb hts in_c_Play_init_X4 tyX4 tyX4_ok nmX4 hown hK hP hD hS 0 rfl rfl 1 (by decide) (hts (.fieldLink RX4 15 "UnseenClock$Play" "opened" "[I") (List.mem_of_getElem? (i := 6) rfl)) (fun _ h9 => h9) rfl hin rfl (by decide +kernel) rfl rfl (Nat.le_of_ble_eq_true rfl) dX4_init_17 (fun H locs hP hD hS => ?_)
  have hP : va_P D vwCl [(h0, .inr (4, [.ref q_1, .ref q_2, .null, .null, .null, .int 0, .null, .null, .int 0, .null, .int 0, .int 0, .long 0, .int 0, .int 0])), (q_1, .inl (E 0, 40, .inl (fun _ => 0))), (q_2, .inl (E 0, 40, .inl (fun _ => 0)))] H := hP
  have hD : va_D A [(h0, .inr (4, [.ref q_1, .ref q_2, .null, .null, .null, .int 0, .null, .null, .int 0, .null, .int 0, .int 0, .long 0, .int 0, .int 0])), (q_1, .inl (E 0, 40, .inl (fun _ => 0))), (q_2, .inl (E 0, 40, .inl (fun _ => 0)))] := hD
  refine lv_aload_n hx hb dX4_init_20 rfl (lv_at hl 0 rfl) ?_
  refine lv_bipush (v := 41) hx hb dX4_init_21 (by decide) ?_
  refine k_newa (atype := .int) (a0 := (41, .inl (fun _ => 0))) (ty := .int) hx hb (hts (.arrayClass .int) (List.mem_of_getElem? (i := 4) rfl)) rfl hK hP hD hS hA (fun _ => rfl) (by decide) (N' := 41) (by decide) (by decide +kernel) (by decide +kernel) (by decide +kernel) dX4_init_23 0 rfl (fun q_3 H hP hD hS => ?_)
  have hP : va_P D vwCl [(h0, .inr (4, [.ref q_1, .ref q_2, .null, .null, .null, .int 0, .null, .null, .int 0, .null, .int 0, .int 0, .long 0, .int 0, .int 0])), (q_1, .inl (E 0, 40, .inl (fun _ => 0))), (q_2, .inl (E 0, 40, .inl (fun _ => 0))), (q_3, .inl (E 0, 41, .inl (fun _ => 0)))] H := hP
  have hD : va_D A [(h0, .inr (4, [.ref q_1, .ref q_2, .null, .null, .null, .int 0, .null, .null, .int 0, .null, .int 0, .int 0, .long 0, .int 0, .int 0])), (q_1, .inl (E 0, 40, .inl (fun _ => 0))), (q_2, .inl (E 0, 40, .inl (fun _ => 0))), (q_3, .inl (E 0, 41, .inl (fun _ => 0)))] := hD
  refine va_putF (ci := 4) (v := .ref q_3) (ty := (.array .int)) (C := RX4) (T := TX4) (N := 15) hx hb hts in_c_Play_init_X4 tyX4 tyX4_ok nmX4 hown hK hP hD hS 0 rfl rfl 2 (by decide) (hts (.fieldLink RX4 18 "UnseenClock$Play" "faces" "[I") (List.mem_of_getElem? (i := 7) rfl)) (fun _ h9 => h9) rfl hin rfl (by decide +kernel) rfl rfl (Nat.le_of_ble_eq_true rfl) dX4_init_25 (fun H locs hP hD hS => ?_)
  have hP : va_P D vwCl [(h0, .inr (4, [.ref q_1, .ref q_2, .ref q_3, .null, .null, .int 0, .null, .null, .int 0, .null, .int 0, .int 0, .long 0, .int 0, .int 0])), (q_1, .inl (E 0, 40, .inl (fun _ => 0))), (q_2, .inl (E 0, 40, .inl (fun _ => 0))), (q_3, .inl (E 0, 41, .inl (fun _ => 0)))] H := hP
  have hD : va_D A [(h0, .inr (4, [.ref q_1, .ref q_2, .ref q_3, .null, .null, .int 0, .null, .null, .int 0, .null, .int 0, .int 0, .long 0, .int 0, .int 0])), (q_1, .inl (E 0, 40, .inl (fun _ => 0))), (q_2, .inl (E 0, 40, .inl (fun _ => 0))), (q_3, .inl (E 0, 41, .inl (fun _ => 0)))] := hD
  refine lv_aload_n hx hb dX4_init_28 rfl (lv_at hl 0 rfl) ?_
  refine lv_iconst (v := 4) hx hb dX4_init_29 (by decide) ?_
  refine k_newa (atype := .int) (a0 := (4, .inl (fun _ => 0))) (ty := .int) hx hb (hts (.arrayClass .int) (List.mem_of_getElem? (i := 4) rfl)) rfl hK hP hD hS hA (fun _ => rfl) (by decide) (N' := 4) (by decide) (by decide +kernel) (by decide +kernel) (by decide +kernel) dX4_init_30 0 rfl (fun q_4 H hP hD hS => ?_)
  have hP : va_P D vwCl [(h0, .inr (4, [.ref q_1, .ref q_2, .ref q_3, .null, .null, .int 0, .null, .null, .int 0, .null, .int 0, .int 0, .long 0, .int 0, .int 0])), (q_1, .inl (E 0, 40, .inl (fun _ => 0))), (q_2, .inl (E 0, 40, .inl (fun _ => 0))), (q_3, .inl (E 0, 41, .inl (fun _ => 0))), (q_4, .inl (E 0, 4, .inl (fun _ => 0)))] H := hP
  have hD : va_D A [(h0, .inr (4, [.ref q_1, .ref q_2, .ref q_3, .null, .null, .int 0, .null, .null, .int 0, .null, .int 0, .int 0, .long 0, .int 0, .int 0])), (q_1, .inl (E 0, 40, .inl (fun _ => 0))), (q_2, .inl (E 0, 40, .inl (fun _ => 0))), (q_3, .inl (E 0, 41, .inl (fun _ => 0))), (q_4, .inl (E 0, 4, .inl (fun _ => 0)))] := hD
  refine va_putF (ci := 4) (v := .ref q_4) (ty := (.array .int)) (C := RX4) (T := TX4) (N := 15) hx hb hts in_c_Play_init_X4 tyX4 tyX4_ok nmX4 hown hK hP hD hS 0 rfl rfl 3 (by decide) (hts (.fieldLink RX4 21 "UnseenClock$Play" "keeper" "[I") (List.mem_of_getElem? (i := 8) rfl)) (fun _ h9 => h9) rfl hin rfl (by decide +kernel) rfl rfl (Nat.le_of_ble_eq_true rfl) dX4_init_32 (fun H locs hP hD hS => ?_)
  have hP : va_P D vwCl [(h0, .inr (4, [.ref q_1, .ref q_2, .ref q_3, .ref q_4, .null, .int 0, .null, .null, .int 0, .null, .int 0, .int 0, .long 0, .int 0, .int 0])), (q_1, .inl (E 0, 40, .inl (fun _ => 0))), (q_2, .inl (E 0, 40, .inl (fun _ => 0))), (q_3, .inl (E 0, 41, .inl (fun _ => 0))), (q_4, .inl (E 0, 4, .inl (fun _ => 0)))] H := hP
  have hD : va_D A [(h0, .inr (4, [.ref q_1, .ref q_2, .ref q_3, .ref q_4, .null, .int 0, .null, .null, .int 0, .null, .int 0, .int 0, .long 0, .int 0, .int 0])), (q_1, .inl (E 0, 40, .inl (fun _ => 0))), (q_2, .inl (E 0, 40, .inl (fun _ => 0))), (q_3, .inl (E 0, 41, .inl (fun _ => 0))), (q_4, .inl (E 0, 4, .inl (fun _ => 0)))] := hD
  refine lv_aload_n hx hb dX4_init_35 rfl (lv_at hl 0 rfl) ?_
  refine lv_iconst (v := 4) hx hb dX4_init_36 (by decide) ?_
  refine k_newa (atype := .int) (a0 := (4, .inl (fun _ => 0))) (ty := .int) hx hb (hts (.arrayClass .int) (List.mem_of_getElem? (i := 4) rfl)) rfl hK hP hD hS hA (fun _ => rfl) (by decide) (N' := 4) (by decide) (by decide +kernel) (by decide +kernel) (by decide +kernel) dX4_init_37 0 rfl (fun q_5 H hP hD hS => ?_)
  have hP : va_P D vwCl [(h0, .inr (4, [.ref q_1, .ref q_2, .ref q_3, .ref q_4, .null, .int 0, .null, .null, .int 0, .null, .int 0, .int 0, .long 0, .int 0, .int 0])), (q_1, .inl (E 0, 40, .inl (fun _ => 0))), (q_2, .inl (E 0, 40, .inl (fun _ => 0))), (q_3, .inl (E 0, 41, .inl (fun _ => 0))), (q_4, .inl (E 0, 4, .inl (fun _ => 0))), (q_5, .inl (E 0, 4, .inl (fun _ => 0)))] H := hP
  have hD : va_D A [(h0, .inr (4, [.ref q_1, .ref q_2, .ref q_3, .ref q_4, .null, .int 0, .null, .null, .int 0, .null, .int 0, .int 0, .long 0, .int 0, .int 0])), (q_1, .inl (E 0, 40, .inl (fun _ => 0))), (q_2, .inl (E 0, 40, .inl (fun _ => 0))), (q_3, .inl (E 0, 41, .inl (fun _ => 0))), (q_4, .inl (E 0, 4, .inl (fun _ => 0))), (q_5, .inl (E 0, 4, .inl (fun _ => 0)))] := hD
  refine va_putF (ci := 4) (v := .ref q_5) (ty := (.array .int)) (C := RX4) (T := TX4) (N := 15) hx hb hts in_c_Play_init_X4 tyX4 tyX4_ok nmX4 hown hK hP hD hS 0 rfl rfl 4 (by decide) (hts (.fieldLink RX4 24 "UnseenClock$Play" "keptLast" "[I") (List.mem_of_getElem? (i := 9) rfl)) (fun _ h9 => h9) rfl hin rfl (by decide +kernel) rfl rfl (Nat.le_of_ble_eq_true rfl) dX4_init_39 (fun H locs hP hD hS => ?_)
  have hP : va_P D vwCl [(h0, .inr (4, [.ref q_1, .ref q_2, .ref q_3, .ref q_4, .ref q_5, .int 0, .null, .null, .int 0, .null, .int 0, .int 0, .long 0, .int 0, .int 0])), (q_1, .inl (E 0, 40, .inl (fun _ => 0))), (q_2, .inl (E 0, 40, .inl (fun _ => 0))), (q_3, .inl (E 0, 41, .inl (fun _ => 0))), (q_4, .inl (E 0, 4, .inl (fun _ => 0))), (q_5, .inl (E 0, 4, .inl (fun _ => 0)))] H := hP
  have hD : va_D A [(h0, .inr (4, [.ref q_1, .ref q_2, .ref q_3, .ref q_4, .ref q_5, .int 0, .null, .null, .int 0, .null, .int 0, .int 0, .long 0, .int 0, .int 0])), (q_1, .inl (E 0, 40, .inl (fun _ => 0))), (q_2, .inl (E 0, 40, .inl (fun _ => 0))), (q_3, .inl (E 0, 41, .inl (fun _ => 0))), (q_4, .inl (E 0, 4, .inl (fun _ => 0))), (q_5, .inl (E 0, 4, .inl (fun _ => 0)))] := hD
  refine lv_aload_n hx hb dX4_init_42 rfl (lv_at hl 0 rfl) ?_
  refine lv_iconst (v := 4) hx hb dX4_init_43 (by decide) ?_
  refine k_newa (atype := .int) (a0 := (4, .inl (fun _ => 0))) (ty := .int) hx hb (hts (.arrayClass .int) (List.mem_of_getElem? (i := 4) rfl)) rfl hK hP hD hS hA (fun _ => rfl) (by decide) (N' := 4) (by decide) (by decide +kernel) (by decide +kernel) (by decide +kernel) dX4_init_44 0 rfl (fun q_6 H hP hD hS => ?_)
  have hP : va_P D vwCl [(h0, .inr (4, [.ref q_1, .ref q_2, .ref q_3, .ref q_4, .ref q_5, .int 0, .null, .null, .int 0, .null, .int 0, .int 0, .long 0, .int 0, .int 0])), (q_1, .inl (E 0, 40, .inl (fun _ => 0))), (q_2, .inl (E 0, 40, .inl (fun _ => 0))), (q_3, .inl (E 0, 41, .inl (fun _ => 0))), (q_4, .inl (E 0, 4, .inl (fun _ => 0))), (q_5, .inl (E 0, 4, .inl (fun _ => 0))), (q_6, .inl (E 0, 4, .inl (fun _ => 0)))] H := hP
  have hD : va_D A [(h0, .inr (4, [.ref q_1, .ref q_2, .ref q_3, .ref q_4, .ref q_5, .int 0, .null, .null, .int 0, .null, .int 0, .int 0, .long 0, .int 0, .int 0])), (q_1, .inl (E 0, 40, .inl (fun _ => 0))), (q_2, .inl (E 0, 40, .inl (fun _ => 0))), (q_3, .inl (E 0, 41, .inl (fun _ => 0))), (q_4, .inl (E 0, 4, .inl (fun _ => 0))), (q_5, .inl (E 0, 4, .inl (fun _ => 0))), (q_6, .inl (E 0, 4, .inl (fun _ => 0)))] := hD
  refine va_putF (ci := 4) (v := .ref q_6) (ty := (.array .int)) (C := RX4) (T := TX4) (N := 15) hx hb hts in_c_Play_init_X4 tyX4 tyX4_ok nmX4 hown hK hP hD hS 0 rfl rfl 6 (by decide) (hts (.fieldLink RX4 27 "UnseenClock$Play" "parts" "[I") (List.mem_of_getElem? (i := 10) rfl)) (fun _ h9 => h9) rfl hin rfl (by decide +kernel) rfl rfl (Nat.le_of_ble_eq_true rfl) dX4_init_46 (fun H locs hP hD hS => ?_)
  have hP : va_P D vwCl [(h0, .inr (4, [.ref q_1, .ref q_2, .ref q_3, .ref q_4, .ref q_5, .int 0, .ref q_6, .null, .int 0, .null, .int 0, .int 0, .long 0, .int 0, .int 0])), (q_1, .inl (E 0, 40, .inl (fun _ => 0))), (q_2, .inl (E 0, 40, .inl (fun _ => 0))), (q_3, .inl (E 0, 41, .inl (fun _ => 0))), (q_4, .inl (E 0, 4, .inl (fun _ => 0))), (q_5, .inl (E 0, 4, .inl (fun _ => 0))), (q_6, .inl (E 0, 4, .inl (fun _ => 0)))] H := hP
  have hD : va_D A [(h0, .inr (4, [.ref q_1, .ref q_2, .ref q_3, .ref q_4, .ref q_5, .int 0, .ref q_6, .null, .int 0, .null, .int 0, .int 0, .long 0, .int 0, .int 0])), (q_1, .inl (E 0, 40, .inl (fun _ => 0))), (q_2, .inl (E 0, 40, .inl (fun _ => 0))), (q_3, .inl (E 0, 41, .inl (fun _ => 0))), (q_4, .inl (E 0, 4, .inl (fun _ => 0))), (q_5, .inl (E 0, 4, .inl (fun _ => 0))), (q_6, .inl (E 0, 4, .inl (fun _ => 0)))] := hD
  refine lv_aload_n hx hb dX4_init_49 rfl (lv_at hl 0 rfl) ?_
  refine lv_sipush (v := 128) hx hb dX4_init_50 (by decide) ?_
  refine k_newa (atype := .int) (a0 := (128, .inl (fun _ => 0))) (ty := .int) hx hb (hts (.arrayClass .int) (List.mem_of_getElem? (i := 4) rfl)) rfl hK hP hD hS hA (fun _ => rfl) (by decide) (N' := 128) (by decide) (by decide +kernel) (by decide +kernel) (by decide +kernel) dX4_init_53 0 rfl (fun q_7 H hP hD hS => ?_)
  have hP : va_P D vwCl [(h0, .inr (4, [.ref q_1, .ref q_2, .ref q_3, .ref q_4, .ref q_5, .int 0, .ref q_6, .null, .int 0, .null, .int 0, .int 0, .long 0, .int 0, .int 0])), (q_1, .inl (E 0, 40, .inl (fun _ => 0))), (q_2, .inl (E 0, 40, .inl (fun _ => 0))), (q_3, .inl (E 0, 41, .inl (fun _ => 0))), (q_4, .inl (E 0, 4, .inl (fun _ => 0))), (q_5, .inl (E 0, 4, .inl (fun _ => 0))), (q_6, .inl (E 0, 4, .inl (fun _ => 0))), (q_7, .inl (E 0, 128, .inl (fun _ => 0)))] H := hP
  have hD : va_D A [(h0, .inr (4, [.ref q_1, .ref q_2, .ref q_3, .ref q_4, .ref q_5, .int 0, .ref q_6, .null, .int 0, .null, .int 0, .int 0, .long 0, .int 0, .int 0])), (q_1, .inl (E 0, 40, .inl (fun _ => 0))), (q_2, .inl (E 0, 40, .inl (fun _ => 0))), (q_3, .inl (E 0, 41, .inl (fun _ => 0))), (q_4, .inl (E 0, 4, .inl (fun _ => 0))), (q_5, .inl (E 0, 4, .inl (fun _ => 0))), (q_6, .inl (E 0, 4, .inl (fun _ => 0))), (q_7, .inl (E 0, 128, .inl (fun _ => 0)))] := hD
  refine va_putF (ci := 4) (v := .ref q_7) (ty := (.array .int)) (C := RX4) (T := TX4) (N := 15) hx hb hts in_c_Play_init_X4 tyX4 tyX4_ok nmX4 hown hK hP hD hS 0 rfl rfl 7 (by decide) (hts (.fieldLink RX4 30 "UnseenClock$Play" "choice" "[I") (List.mem_of_getElem? (i := 11) rfl)) (fun _ h9 => h9) rfl hin rfl (by decide +kernel) rfl rfl (Nat.le_of_ble_eq_true rfl) dX4_init_55 (fun H locs hP hD hS => ?_)
  have hP : va_P D vwCl [(h0, .inr (4, [.ref q_1, .ref q_2, .ref q_3, .ref q_4, .ref q_5, .int 0, .ref q_6, .ref q_7, .int 0, .null, .int 0, .int 0, .long 0, .int 0, .int 0])), (q_1, .inl (E 0, 40, .inl (fun _ => 0))), (q_2, .inl (E 0, 40, .inl (fun _ => 0))), (q_3, .inl (E 0, 41, .inl (fun _ => 0))), (q_4, .inl (E 0, 4, .inl (fun _ => 0))), (q_5, .inl (E 0, 4, .inl (fun _ => 0))), (q_6, .inl (E 0, 4, .inl (fun _ => 0))), (q_7, .inl (E 0, 128, .inl (fun _ => 0)))] H := hP
  have hD : va_D A [(h0, .inr (4, [.ref q_1, .ref q_2, .ref q_3, .ref q_4, .ref q_5, .int 0, .ref q_6, .ref q_7, .int 0, .null, .int 0, .int 0, .long 0, .int 0, .int 0])), (q_1, .inl (E 0, 40, .inl (fun _ => 0))), (q_2, .inl (E 0, 40, .inl (fun _ => 0))), (q_3, .inl (E 0, 41, .inl (fun _ => 0))), (q_4, .inl (E 0, 4, .inl (fun _ => 0))), (q_5, .inl (E 0, 4, .inl (fun _ => 0))), (q_6, .inl (E 0, 4, .inl (fun _ => 0))), (q_7, .inl (E 0, 128, .inl (fun _ => 0)))] := hD
  refine W.widen (k := 7) (n := 261) (Nat.le_of_ble_eq_true rfl) (Nat.le_of_ble_eq_true rfl) ?_
  exact e_v hx hb hr (fun k => ([q_1, q_2, q_3, q_4, q_5, q_6, q_7] : List Nat).getD k 0) trivial hP hD hS hlocks dX4_init_58

def v_c_Course_init : List Cond := .code yX1_init cX1_init 1 none :: ([.methodLink RX1 3 objectInit, .instanceMethod objectInit, .code objectInit ⟨#[0xb1]⟩ 1 none, .arrayClass .int, .fieldLink RX1 9 "UnseenClock$CourseSet" "looked" "[I", .fieldLink RX1 15 "UnseenClock$CourseSet" "faces" "[I", .fieldLink RX1 18 "UnseenClock$CourseSet" "sight" "[I", .fieldLink RX1 21 "UnseenClock$CourseSet" "met" "[I", .fieldLink RX1 24 "UnseenClock$CourseSet" "mark" "[I", .fieldLink RX1 27 "UnseenClock$CourseSet" "queue" "[I"] ++ (wsX10))
theorem in_c_Course_init_X1 : ∀ w ∈ u_ws RX1 TX1 10, w ∈ v_c_Course_init := fun w h => List.mem_cons_of_mem _ (List.mem_append_right _ (h))
set_option maxHeartbeats 2000000 in
set_option maxRecDepth 100000 in
/-- CourseSet(): six rows -/
theorem c_Course_init (l : Launch) (D : va_G) (E : Nat → ClassId) (sz : Nat) (h0 : Nat) : Met l yX1_init v_c_Course_init ({ frames := 1, cells := 6, slots := 11776, locals := 12 }) (va_Pc [.ref h0] (pre D E ([(h0, .inr (1, [.int 0, .int 0, .int 0, .int 0, .null, .null, .null, .null, .null, .null]))]) sz)) (qV (S := Nat → Nat) (fun _ => True) (fun u => [(h0, .inr (1, [.int 0, .int 0, .int 0, .int 0, .ref (u 0), .ref (u 1), .ref (u 2), .ref (u 3), .ref (u 4), .ref (u 5)])), (u 0, .inl (E 0, 5120, .inl (fun _ => 0))), (u 1, .inl (E 0, 5248, .inl (fun _ => 0))), (u 2, .inl (E 0, 1024, .inl (fun _ => 0))), (u 3, .inl (E 0, 128, .inl (fun _ => 0))), (u 4, .inl (E 0, 128, .inl (fun _ => 0))), (u 5, .inl (E 0, 128, .inl (fun _ => 0)))]) D (va_A ([(h0, .inr (1, [.int 0, .int 0, .int 0, .int 0, .null, .null, .null, .null, .null, .null]))]) sz)) 6 11776 (va_A ([(h0, .inr (1, [.int 0, .int 0, .int 0, .int 0, .null, .null, .null, .null, .null, .null]))]) sz) := by
  refine c_void (cc := cX1_init) (maxL := 1) (ret := none) (by decide) rfl (Nat.le_of_ble_eq_true rfl) ?_
  intro p e s m below meth c ls A ⟨hx, hb, hr, hts, hown, hlocks, hin, hml⟩ hP hK hD hN hA hS hl
  have hown : s.vm.findClass RX1 = some m.cls := hown
  have hl : lv_has ls 1 [(0, .ref h0)] := hl
  refine lv_aload_n hx hb dX1_init_0 rfl (lv_at hl 0 rfl) ?_
  refine W.objInit hx hb hown (hts (.methodLink RX1 3 objectInit) (List.mem_of_getElem? (i := 1) rfl)) (hts (.instanceMethod objectInit) (List.mem_of_getElem? (i := 2) rfl)) (hts (.code objectInit ⟨#[0xb1]⟩ 1 none) (List.mem_of_getElem? (i := 3) rfl)) rfl (by rw [hml]; exact hl.1) rfl dX1_init_1 (Nat.le_of_ble_eq_true rfl) (Nat.le_of_ble_eq_true rfl) ?_
  refine W.eq (g2 := F0 m 4 ls []) rfl ?_
  refine lv_aload_n hx hb dX1_init_4 rfl (lv_at hl 0 rfl) ?_
  refine lv_sipush (v := 5120) hx hb dX1_init_5 (by decide) ?_
  refine k_newa (atype := .int) (a0 := (5120, .inl (fun _ => 0))) (ty := .int) hx hb (hts (.arrayClass .int) (List.mem_of_getElem? (i := 4) rfl)) rfl hK hP hD hS hA (fun _ => rfl) (by decide) (N' := 5120) (by decide) (by decide +kernel) (by decide +kernel) (by decide +kernel) dX1_init_8 0 rfl (fun q_1 H hP hD hS => ?_)
  have hP : va_P D vwCl [(h0, .inr (1, [.int 0, .int 0, .int 0, .int 0, .null, .null, .null, .null, .null, .null])), (q_1, .inl (E 0, 5120, .inl (fun _ => 0)))] H := hP
  have hD : va_D A [(h0, .inr (1, [.int 0, .int 0, .int 0, .int 0, .null, .null, .null, .null, .null, .null])), (q_1, .inl (E 0, 5120, .inl (fun _ => 0)))] := hD
  refine va_putF (ci := 1) (v := .ref q_1) (ty := (.array .int)) (C := RX1) (T := TX1) (N := 10) hx hb hts in_c_Course_init_X1 tyX1 tyX1_ok nmX1 hown hK hP hD hS 0 rfl rfl 4 (by decide) (hts (.fieldLink RX1 9 "UnseenClock$CourseSet" "looked" "[I") (List.mem_of_getElem? (i := 5) rfl)) (fun _ h9 => h9) rfl hin rfl (by decide +kernel) rfl rfl (Nat.le_of_ble_eq_true rfl) dX1_init_10 (fun H locs hP hD hS => ?_)
  have hP : va_P D vwCl [(h0, .inr (1, [.int 0, .int 0, .int 0, .int 0, .ref q_1, .null, .null, .null, .null, .null])), (q_1, .inl (E 0, 5120, .inl (fun _ => 0)))] H := hP
  have hD : va_D A [(h0, .inr (1, [.int 0, .int 0, .int 0, .int 0, .ref q_1, .null, .null, .null, .null, .null])), (q_1, .inl (E 0, 5120, .inl (fun _ => 0)))] := hD
  refine lv_aload_n hx hb dX1_init_13 rfl (lv_at hl 0 rfl) ?_
  refine lv_sipush (v := 5248) hx hb dX1_init_14 (by decide) ?_
  refine k_newa (atype := .int) (a0 := (5248, .inl (fun _ => 0))) (ty := .int) hx hb (hts (.arrayClass .int) (List.mem_of_getElem? (i := 4) rfl)) rfl hK hP hD hS hA (fun _ => rfl) (by decide) (N' := 5248) (by decide) (by decide +kernel) (by decide +kernel) (by decide +kernel) dX1_init_17 0 rfl (fun q_2 H hP hD hS => ?_)
  have hP : va_P D vwCl [(h0, .inr (1, [.int 0, .int 0, .int 0, .int 0, .ref q_1, .null, .null, .null, .null, .null])), (q_1, .inl (E 0, 5120, .inl (fun _ => 0))), (q_2, .inl (E 0, 5248, .inl (fun _ => 0)))] H := hP
  have hD : va_D A [(h0, .inr (1, [.int 0, .int 0, .int 0, .int 0, .ref q_1, .null, .null, .null, .null, .null])), (q_1, .inl (E 0, 5120, .inl (fun _ => 0))), (q_2, .inl (E 0, 5248, .inl (fun _ => 0)))] := hD
  refine va_putF (ci := 1) (v := .ref q_2) (ty := (.array .int)) (C := RX1) (T := TX1) (N := 10) hx hb hts in_c_Course_init_X1 tyX1 tyX1_ok nmX1 hown hK hP hD hS 0 rfl rfl 5 (by decide) (hts (.fieldLink RX1 15 "UnseenClock$CourseSet" "faces" "[I") (List.mem_of_getElem? (i := 6) rfl)) (fun _ h9 => h9) rfl hin rfl (by decide +kernel) rfl rfl (Nat.le_of_ble_eq_true rfl) dX1_init_19 (fun H locs hP hD hS => ?_)
  have hP : va_P D vwCl [(h0, .inr (1, [.int 0, .int 0, .int 0, .int 0, .ref q_1, .ref q_2, .null, .null, .null, .null])), (q_1, .inl (E 0, 5120, .inl (fun _ => 0))), (q_2, .inl (E 0, 5248, .inl (fun _ => 0)))] H := hP
  have hD : va_D A [(h0, .inr (1, [.int 0, .int 0, .int 0, .int 0, .ref q_1, .ref q_2, .null, .null, .null, .null])), (q_1, .inl (E 0, 5120, .inl (fun _ => 0))), (q_2, .inl (E 0, 5248, .inl (fun _ => 0)))] := hD
  refine lv_aload_n hx hb dX1_init_22 rfl (lv_at hl 0 rfl) ?_
  refine lv_sipush (v := 1024) hx hb dX1_init_23 (by decide) ?_
  refine k_newa (atype := .int) (a0 := (1024, .inl (fun _ => 0))) (ty := .int) hx hb (hts (.arrayClass .int) (List.mem_of_getElem? (i := 4) rfl)) rfl hK hP hD hS hA (fun _ => rfl) (by decide) (N' := 1024) (by decide) (by decide +kernel) (by decide +kernel) (by decide +kernel) dX1_init_26 0 rfl (fun q_3 H hP hD hS => ?_)
  have hP : va_P D vwCl [(h0, .inr (1, [.int 0, .int 0, .int 0, .int 0, .ref q_1, .ref q_2, .null, .null, .null, .null])), (q_1, .inl (E 0, 5120, .inl (fun _ => 0))), (q_2, .inl (E 0, 5248, .inl (fun _ => 0))), (q_3, .inl (E 0, 1024, .inl (fun _ => 0)))] H := hP
  have hD : va_D A [(h0, .inr (1, [.int 0, .int 0, .int 0, .int 0, .ref q_1, .ref q_2, .null, .null, .null, .null])), (q_1, .inl (E 0, 5120, .inl (fun _ => 0))), (q_2, .inl (E 0, 5248, .inl (fun _ => 0))), (q_3, .inl (E 0, 1024, .inl (fun _ => 0)))] := hD
  refine va_putF (ci := 1) (v := .ref q_3) (ty := (.array .int)) (C := RX1) (T := TX1) (N := 10) hx hb hts in_c_Course_init_X1 tyX1 tyX1_ok nmX1 hown hK hP hD hS 0 rfl rfl 6 (by decide) (hts (.fieldLink RX1 18 "UnseenClock$CourseSet" "sight" "[I") (List.mem_of_getElem? (i := 7) rfl)) (fun _ h9 => h9) rfl hin rfl (by decide +kernel) rfl rfl (Nat.le_of_ble_eq_true rfl) dX1_init_28 (fun H locs hP hD hS => ?_)
  have hP : va_P D vwCl [(h0, .inr (1, [.int 0, .int 0, .int 0, .int 0, .ref q_1, .ref q_2, .ref q_3, .null, .null, .null])), (q_1, .inl (E 0, 5120, .inl (fun _ => 0))), (q_2, .inl (E 0, 5248, .inl (fun _ => 0))), (q_3, .inl (E 0, 1024, .inl (fun _ => 0)))] H := hP
  have hD : va_D A [(h0, .inr (1, [.int 0, .int 0, .int 0, .int 0, .ref q_1, .ref q_2, .ref q_3, .null, .null, .null])), (q_1, .inl (E 0, 5120, .inl (fun _ => 0))), (q_2, .inl (E 0, 5248, .inl (fun _ => 0))), (q_3, .inl (E 0, 1024, .inl (fun _ => 0)))] := hD
  refine lv_aload_n hx hb dX1_init_31 rfl (lv_at hl 0 rfl) ?_
  refine lv_sipush (v := 128) hx hb dX1_init_32 (by decide) ?_
  refine k_newa (atype := .int) (a0 := (128, .inl (fun _ => 0))) (ty := .int) hx hb (hts (.arrayClass .int) (List.mem_of_getElem? (i := 4) rfl)) rfl hK hP hD hS hA (fun _ => rfl) (by decide) (N' := 128) (by decide) (by decide +kernel) (by decide +kernel) (by decide +kernel) dX1_init_35 0 rfl (fun q_4 H hP hD hS => ?_)
  have hP : va_P D vwCl [(h0, .inr (1, [.int 0, .int 0, .int 0, .int 0, .ref q_1, .ref q_2, .ref q_3, .null, .null, .null])), (q_1, .inl (E 0, 5120, .inl (fun _ => 0))), (q_2, .inl (E 0, 5248, .inl (fun _ => 0))), (q_3, .inl (E 0, 1024, .inl (fun _ => 0))), (q_4, .inl (E 0, 128, .inl (fun _ => 0)))] H := hP
  have hD : va_D A [(h0, .inr (1, [.int 0, .int 0, .int 0, .int 0, .ref q_1, .ref q_2, .ref q_3, .null, .null, .null])), (q_1, .inl (E 0, 5120, .inl (fun _ => 0))), (q_2, .inl (E 0, 5248, .inl (fun _ => 0))), (q_3, .inl (E 0, 1024, .inl (fun _ => 0))), (q_4, .inl (E 0, 128, .inl (fun _ => 0)))] := hD
  refine va_putF (ci := 1) (v := .ref q_4) (ty := (.array .int)) (C := RX1) (T := TX1) (N := 10) hx hb hts in_c_Course_init_X1 tyX1 tyX1_ok nmX1 hown hK hP hD hS 0 rfl rfl 7 (by decide) (hts (.fieldLink RX1 21 "UnseenClock$CourseSet" "met" "[I") (List.mem_of_getElem? (i := 8) rfl)) (fun _ h9 => h9) rfl hin rfl (by decide +kernel) rfl rfl (Nat.le_of_ble_eq_true rfl) dX1_init_37 (fun H locs hP hD hS => ?_)
  have hP : va_P D vwCl [(h0, .inr (1, [.int 0, .int 0, .int 0, .int 0, .ref q_1, .ref q_2, .ref q_3, .ref q_4, .null, .null])), (q_1, .inl (E 0, 5120, .inl (fun _ => 0))), (q_2, .inl (E 0, 5248, .inl (fun _ => 0))), (q_3, .inl (E 0, 1024, .inl (fun _ => 0))), (q_4, .inl (E 0, 128, .inl (fun _ => 0)))] H := hP
  have hD : va_D A [(h0, .inr (1, [.int 0, .int 0, .int 0, .int 0, .ref q_1, .ref q_2, .ref q_3, .ref q_4, .null, .null])), (q_1, .inl (E 0, 5120, .inl (fun _ => 0))), (q_2, .inl (E 0, 5248, .inl (fun _ => 0))), (q_3, .inl (E 0, 1024, .inl (fun _ => 0))), (q_4, .inl (E 0, 128, .inl (fun _ => 0)))] := hD
  refine lv_aload_n hx hb dX1_init_40 rfl (lv_at hl 0 rfl) ?_
  refine lv_sipush (v := 128) hx hb dX1_init_41 (by decide) ?_
  refine k_newa (atype := .int) (a0 := (128, .inl (fun _ => 0))) (ty := .int) hx hb (hts (.arrayClass .int) (List.mem_of_getElem? (i := 4) rfl)) rfl hK hP hD hS hA (fun _ => rfl) (by decide) (N' := 128) (by decide) (by decide +kernel) (by decide +kernel) (by decide +kernel) dX1_init_44 0 rfl (fun q_5 H hP hD hS => ?_)
  have hP : va_P D vwCl [(h0, .inr (1, [.int 0, .int 0, .int 0, .int 0, .ref q_1, .ref q_2, .ref q_3, .ref q_4, .null, .null])), (q_1, .inl (E 0, 5120, .inl (fun _ => 0))), (q_2, .inl (E 0, 5248, .inl (fun _ => 0))), (q_3, .inl (E 0, 1024, .inl (fun _ => 0))), (q_4, .inl (E 0, 128, .inl (fun _ => 0))), (q_5, .inl (E 0, 128, .inl (fun _ => 0)))] H := hP
  have hD : va_D A [(h0, .inr (1, [.int 0, .int 0, .int 0, .int 0, .ref q_1, .ref q_2, .ref q_3, .ref q_4, .null, .null])), (q_1, .inl (E 0, 5120, .inl (fun _ => 0))), (q_2, .inl (E 0, 5248, .inl (fun _ => 0))), (q_3, .inl (E 0, 1024, .inl (fun _ => 0))), (q_4, .inl (E 0, 128, .inl (fun _ => 0))), (q_5, .inl (E 0, 128, .inl (fun _ => 0)))] := hD
  refine va_putF (ci := 1) (v := .ref q_5) (ty := (.array .int)) (C := RX1) (T := TX1) (N := 10) hx hb hts in_c_Course_init_X1 tyX1 tyX1_ok nmX1 hown hK hP hD hS 0 rfl rfl 8 (by decide) (hts (.fieldLink RX1 24 "UnseenClock$CourseSet" "mark" "[I") (List.mem_of_getElem? (i := 9) rfl)) (fun _ h9 => h9) rfl hin rfl (by decide +kernel) rfl rfl (Nat.le_of_ble_eq_true rfl) dX1_init_46 (fun H locs hP hD hS => ?_)
  have hP : va_P D vwCl [(h0, .inr (1, [.int 0, .int 0, .int 0, .int 0, .ref q_1, .ref q_2, .ref q_3, .ref q_4, .ref q_5, .null])), (q_1, .inl (E 0, 5120, .inl (fun _ => 0))), (q_2, .inl (E 0, 5248, .inl (fun _ => 0))), (q_3, .inl (E 0, 1024, .inl (fun _ => 0))), (q_4, .inl (E 0, 128, .inl (fun _ => 0))), (q_5, .inl (E 0, 128, .inl (fun _ => 0)))] H := hP
  have hD : va_D A [(h0, .inr (1, [.int 0, .int 0, .int 0, .int 0, .ref q_1, .ref q_2, .ref q_3, .ref q_4, .ref q_5, .null])), (q_1, .inl (E 0, 5120, .inl (fun _ => 0))), (q_2, .inl (E 0, 5248, .inl (fun _ => 0))), (q_3, .inl (E 0, 1024, .inl (fun _ => 0))), (q_4, .inl (E 0, 128, .inl (fun _ => 0))), (q_5, .inl (E 0, 128, .inl (fun _ => 0)))] := hD
  refine lv_aload_n hx hb dX1_init_49 rfl (lv_at hl 0 rfl) ?_
  refine lv_sipush (v := 128) hx hb dX1_init_50 (by decide) ?_
  refine k_newa (atype := .int) (a0 := (128, .inl (fun _ => 0))) (ty := .int) hx hb (hts (.arrayClass .int) (List.mem_of_getElem? (i := 4) rfl)) rfl hK hP hD hS hA (fun _ => rfl) (by decide) (N' := 128) (by decide) (by decide +kernel) (by decide +kernel) (by decide +kernel) dX1_init_53 0 rfl (fun q_6 H hP hD hS => ?_)
  have hP : va_P D vwCl [(h0, .inr (1, [.int 0, .int 0, .int 0, .int 0, .ref q_1, .ref q_2, .ref q_3, .ref q_4, .ref q_5, .null])), (q_1, .inl (E 0, 5120, .inl (fun _ => 0))), (q_2, .inl (E 0, 5248, .inl (fun _ => 0))), (q_3, .inl (E 0, 1024, .inl (fun _ => 0))), (q_4, .inl (E 0, 128, .inl (fun _ => 0))), (q_5, .inl (E 0, 128, .inl (fun _ => 0))), (q_6, .inl (E 0, 128, .inl (fun _ => 0)))] H := hP
  have hD : va_D A [(h0, .inr (1, [.int 0, .int 0, .int 0, .int 0, .ref q_1, .ref q_2, .ref q_3, .ref q_4, .ref q_5, .null])), (q_1, .inl (E 0, 5120, .inl (fun _ => 0))), (q_2, .inl (E 0, 5248, .inl (fun _ => 0))), (q_3, .inl (E 0, 1024, .inl (fun _ => 0))), (q_4, .inl (E 0, 128, .inl (fun _ => 0))), (q_5, .inl (E 0, 128, .inl (fun _ => 0))), (q_6, .inl (E 0, 128, .inl (fun _ => 0)))] := hD
  refine va_putF (ci := 1) (v := .ref q_6) (ty := (.array .int)) (C := RX1) (T := TX1) (N := 10) hx hb hts in_c_Course_init_X1 tyX1 tyX1_ok nmX1 hown hK hP hD hS 0 rfl rfl 9 (by decide) (hts (.fieldLink RX1 27 "UnseenClock$CourseSet" "queue" "[I") (List.mem_of_getElem? (i := 10) rfl)) (fun _ h9 => h9) rfl hin rfl (by decide +kernel) rfl rfl (Nat.le_of_ble_eq_true rfl) dX1_init_55 (fun H locs hP hD hS => ?_)
  have hP : va_P D vwCl [(h0, .inr (1, [.int 0, .int 0, .int 0, .int 0, .ref q_1, .ref q_2, .ref q_3, .ref q_4, .ref q_5, .ref q_6])), (q_1, .inl (E 0, 5120, .inl (fun _ => 0))), (q_2, .inl (E 0, 5248, .inl (fun _ => 0))), (q_3, .inl (E 0, 1024, .inl (fun _ => 0))), (q_4, .inl (E 0, 128, .inl (fun _ => 0))), (q_5, .inl (E 0, 128, .inl (fun _ => 0))), (q_6, .inl (E 0, 128, .inl (fun _ => 0)))] H := hP
  have hD : va_D A [(h0, .inr (1, [.int 0, .int 0, .int 0, .int 0, .ref q_1, .ref q_2, .ref q_3, .ref q_4, .ref q_5, .ref q_6])), (q_1, .inl (E 0, 5120, .inl (fun _ => 0))), (q_2, .inl (E 0, 5248, .inl (fun _ => 0))), (q_3, .inl (E 0, 1024, .inl (fun _ => 0))), (q_4, .inl (E 0, 128, .inl (fun _ => 0))), (q_5, .inl (E 0, 128, .inl (fun _ => 0))), (q_6, .inl (E 0, 128, .inl (fun _ => 0)))] := hD
  refine W.widen (k := 6) (n := 11776) (Nat.le_of_ble_eq_true rfl) (Nat.le_of_ble_eq_true rfl) ?_
  exact e_v hx hb hr (fun k => ([q_1, q_2, q_3, q_4, q_5, q_6] : List Nat).getD k 0) trivial hP hD hS hlocks dX1_init_58

