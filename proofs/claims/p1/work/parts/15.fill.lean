theorem dJ7_fill_53178_0 : decode cJ7_fill_53178 0 = .ok (.iconst 0, 1) := by decide +kernel
theorem dJ7_fill_53178_1 : decode cJ7_fill_53178 1 = .ok (.istore_n 2, 1) := by decide +kernel
theorem dJ7_fill_53178_2 : decode cJ7_fill_53178 2 = .ok (.aload_n 0, 1) := by decide +kernel
theorem dJ7_fill_53178_3 : decode cJ7_fill_53178 3 = .ok (.arraylength, 1) := by decide +kernel
theorem dJ7_fill_53178_4 : decode cJ7_fill_53178 4 = .ok (.istore_n 3, 1) := by decide +kernel
theorem dJ7_fill_53178_5 : decode cJ7_fill_53178 5 = .ok (.iload_n 2, 1) := by decide +kernel
theorem dJ7_fill_53178_6 : decode cJ7_fill_53178 6 = .ok (.iload_n 3, 1) := by decide +kernel
theorem dJ7_fill_53178_7 : decode cJ7_fill_53178 7 = .ok (.if_icmp .ge 13, 3) := by decide +kernel
theorem dJ7_fill_53178_10 : decode cJ7_fill_53178 10 = .ok (.aload_n 0, 1) := by decide +kernel
theorem dJ7_fill_53178_11 : decode cJ7_fill_53178 11 = .ok (.iload_n 2, 1) := by decide +kernel
theorem dJ7_fill_53178_12 : decode cJ7_fill_53178 12 = .ok (.iload_n 1, 1) := by decide +kernel
theorem dJ7_fill_53178_13 : decode cJ7_fill_53178 13 = .ok (.iastore, 1) := by decide +kernel
theorem dJ7_fill_53178_14 : decode cJ7_fill_53178 14 = .ok (.iinc 2 1, 3) := by decide +kernel
theorem dJ7_fill_53178_17 : decode cJ7_fill_53178 17 = .ok (.goto (-12), 3) := by decide +kernel
theorem dJ7_fill_53178_20 : decode cJ7_fill_53178 20 = .ok (.return_, 1) := by decide +kernel
theorem dJ7_fill_031fb_0 : decode cJ7_fill_031fb 0 = .ok (.iconst 0, 1) := by decide +kernel
theorem dJ7_fill_031fb_1 : decode cJ7_fill_031fb 1 = .ok (.istore_n 2, 1) := by decide +kernel
theorem dJ7_fill_031fb_2 : decode cJ7_fill_031fb 2 = .ok (.aload_n 0, 1) := by decide +kernel
theorem dJ7_fill_031fb_3 : decode cJ7_fill_031fb 3 = .ok (.arraylength, 1) := by decide +kernel
theorem dJ7_fill_031fb_4 : decode cJ7_fill_031fb 4 = .ok (.istore_n 3, 1) := by decide +kernel
theorem dJ7_fill_031fb_5 : decode cJ7_fill_031fb 5 = .ok (.iload_n 2, 1) := by decide +kernel
theorem dJ7_fill_031fb_6 : decode cJ7_fill_031fb 6 = .ok (.iload_n 3, 1) := by decide +kernel
theorem dJ7_fill_031fb_7 : decode cJ7_fill_031fb 7 = .ok (.if_icmp .ge 13, 3) := by decide +kernel
theorem dJ7_fill_031fb_10 : decode cJ7_fill_031fb 10 = .ok (.aload_n 0, 1) := by decide +kernel
theorem dJ7_fill_031fb_11 : decode cJ7_fill_031fb 11 = .ok (.iload_n 2, 1) := by decide +kernel
theorem dJ7_fill_031fb_12 : decode cJ7_fill_031fb 12 = .ok (.iload_n 1, 1) := by decide +kernel
theorem dJ7_fill_031fb_13 : decode cJ7_fill_031fb 13 = .ok (.bastore, 1) := by decide +kernel
theorem dJ7_fill_031fb_14 : decode cJ7_fill_031fb 14 = .ok (.iinc 2 1, 3) := by decide +kernel
theorem dJ7_fill_031fb_17 : decode cJ7_fill_031fb 17 = .ok (.goto (-12), 3) := by decide +kernel
theorem dJ7_fill_031fb_20 : decode cJ7_fill_031fb 20 = .ok (.return_, 1) := by decide +kernel
theorem dJ7_fill_d0a16_0 : decode cJ7_fill_d0a16 0 = .ok (.iconst 0, 1) := by decide +kernel
theorem dJ7_fill_d0a16_1 : decode cJ7_fill_d0a16 1 = .ok (.istore_n 3, 1) := by decide +kernel
theorem dJ7_fill_d0a16_2 : decode cJ7_fill_d0a16 2 = .ok (.aload_n 0, 1) := by decide +kernel
theorem dJ7_fill_d0a16_3 : decode cJ7_fill_d0a16 3 = .ok (.arraylength, 1) := by decide +kernel
theorem dJ7_fill_d0a16_4 : decode cJ7_fill_d0a16 4 = .ok (.istore 4, 2) := by decide +kernel
theorem dJ7_fill_d0a16_6 : decode cJ7_fill_d0a16 6 = .ok (.iload_n 3, 1) := by decide +kernel
theorem dJ7_fill_d0a16_7 : decode cJ7_fill_d0a16 7 = .ok (.iload 4, 2) := by decide +kernel
theorem dJ7_fill_d0a16_9 : decode cJ7_fill_d0a16 9 = .ok (.if_icmp .ge 13, 3) := by decide +kernel
theorem dJ7_fill_d0a16_12 : decode cJ7_fill_d0a16 12 = .ok (.aload_n 0, 1) := by decide +kernel
theorem dJ7_fill_d0a16_13 : decode cJ7_fill_d0a16 13 = .ok (.iload_n 3, 1) := by decide +kernel
theorem dJ7_fill_d0a16_14 : decode cJ7_fill_d0a16 14 = .ok (.lload_n 1, 1) := by decide +kernel
theorem dJ7_fill_d0a16_15 : decode cJ7_fill_d0a16 15 = .ok (.lastore, 1) := by decide +kernel
theorem dJ7_fill_d0a16_16 : decode cJ7_fill_d0a16 16 = .ok (.iinc 3 1, 3) := by decide +kernel
theorem dJ7_fill_d0a16_19 : decode cJ7_fill_d0a16 19 = .ok (.goto (-13), 3) := by decide +kernel
theorem dJ7_fill_d0a16_22 : decode cJ7_fill_d0a16 22 = .ok (.return_, 1) := by decide +kernel
theorem upd_z {g : Nat → Int32} {k : Nat} (h : ∀ j, g j = 0) : ∀ j, upd g k 0 j = 0 := by
  intro j
  by_cases q : j = k
  · subst q; exact pk_us
  · rw [pk_un q]; exact h j
theorem in_in {x : Int32} {n : Int} {hi : Int64} (hh : hi.toInt = n) (h : 0 ≤ x.toInt ∧ x.toInt ≤ n) : (if (0 : Int64).toInt ≤ x.toInt64.toInt ∧ x.toInt64.toInt ≤ hi.toInt then (1 : Int32) else 0) = 1 := by
  rw [if_pos]
  rw [z64, hh, t64]
  exact h
/-- what row answers on a fresh object -/
def rowA (a b c : Int32) : Int32 := if (0 ≤ a.toInt ∧ a.toInt ≤ 3) ∧ (0 ≤ b.toInt ∧ b.toInt ≤ 3) ∧ c ≤ 60 then (if 0 ≤ c then 0 else -3) else -2
theorem row_a {a b c : Int32} (h : ¬ (0 ≤ a.toInt ∧ a.toInt ≤ 3)) : -2 = rowA a b c := (if_neg (fun q => h q.1)).symm
theorem row_b {a b c : Int32} (h : ¬ (0 ≤ b.toInt ∧ b.toInt ≤ 3)) : -2 = rowA a b c := (if_neg (fun q => h q.2.1)).symm
theorem row_c {a b c : Int32} (h : ¬ c ≤ 60) : -2 = rowA a b c := (if_neg (fun q => h q.2.2)).symm
theorem row_d {a b c : Int32} (h1 : 0 ≤ a.toInt ∧ a.toInt ≤ 3) (h2 : 0 ≤ b.toInt ∧ b.toInt ≤ 3) (h3 : c ≤ 60) (h4 : ¬ 0 ≤ c) : -3 = rowA a b c := by
  unfold rowA; rw [if_pos ⟨h1, h2, h3⟩, if_neg h4]
theorem row_e {a b c : Int32} (h1 : 0 ≤ a.toInt ∧ a.toInt ≤ 3) (h2 : 0 ≤ b.toInt ∧ b.toInt ≤ 3) (h3 : c ≤ 60) (h4 : 0 ≤ c) : 0 = rowA a b c := by
  unfold rowA; rw [if_pos ⟨h1, h2, h3⟩, if_pos h4]
theorem in_nlt {x : Int32} (h : 0 ≤ x.toInt ∧ x.toInt ≤ 3) : ¬ x < 0 := by
  rw [lt32, z32]; omega
theorem in_ngt {x : Int32} (h : 0 ≤ x.toInt ∧ x.toInt ≤ 3) : ¬ 3 < x := by
  rw [lt32, show (3 : Int32).toInt = 3 by decide]; omega
theorem out_gt {x : Int32} (h : ¬ (0 ≤ x.toInt ∧ x.toInt ≤ 3)) (h1 : ¬ x < 0) : 3 < x := by
  rw [lt32, z32] at h1
  rw [lt32, show (3 : Int32).toInt = 3 by decide]; omega

def v_fI40 : List Cond := .code yJ7_fill_53178 cJ7_fill_53178 4 none :: ([])
set_option maxHeartbeats 2000000 in
set_option maxRecDepth 100000 in
/-- Arrays.fill over 40 -/
theorem fI40 (l : Launch) (D : va_G) (E : Nat → ClassId) (sz : Nat) (h0 : Nat) (f : Nat → Int32) (a1 : Int32) : Met l yJ7_fill_53178 v_fI40 ({ frames := 0, cells := 0, slots := 0, locals := 0 }) (va_Pc [.ref h0, .int a1] (pre D E ([(h0, .inl (E 0, 40, .inl f))]) sz)) (qV (S := Nat → Int32) (fun _ => True) (fun f => [(h0, .inl (E 0, 40, .inl f))]) D (va_A ([(h0, .inl (E 0, 40, .inl f))]) sz)) 0 0 (va_A ([(h0, .inl (E 0, 40, .inl f))]) sz) := by
  refine c_void (cc := cJ7_fill_53178) (maxL := 4) (ret := none) (by decide) rfl (Nat.le_of_ble_eq_true rfl) ?_
  intro p e s m below meth c ls A ⟨hx, hb, hr, hts, hown, hlocks, hin, hml⟩ hP hK hD hN hA hS hl
  have hown : s.vm.findClass RJ7 = some m.cls := hown
  have hl : lv_has ls 4 [(0, .ref h0), (1, .int a1)] := hl
  refine lv_iconst (v := 0) hx hb dJ7_fill_53178_0 (by decide) ?_
  refine lv_istore_n (lv' := [(2, .int 0), (0, .ref h0), (1, .int a1)]) hx hb dJ7_fill_53178_1 rfl hl (by decide) rfl (fun ls hl => ?_)
  refine lv_aload_n hx hb dJ7_fill_53178_2 rfl (lv_at hl 1 rfl) ?_
  refine va_alen (v := 40) hx hb hK hP 0 0 rfl rfl rfl dJ7_fill_53178_3 ?_
  refine lv_istore_n (lv' := [(3, .int 40), (2, .int 0), (0, .ref h0), (1, .int a1)]) hx hb dJ7_fill_53178_4 rfl hl (by decide) rfl (fun ls hl => ?_)
  have loopk_1 : ∀ (nk_1 ik_1 : Nat), ik_1 ≤ 40 → 41 ≤ ik_1 + nk_1 → ∀ (g : Nat → Int32) (H : Heap) (locs : List Loc), va_P D vwCl [(h0, .inl (E 0, 40, .inl g))] H → va_D A [(h0, .inl (E 0, 40, .inl g))] → va_S A s.heap H locs → ∀ (ls : Array Slot), lv_has ls 4 [(2, .int (nI ik_1)), (3, .int 40), (0, .ref h0), (1, .int a1)] → W p l e (headSpec v_fI40 ({ frames := 0, cells := 0, slots := 0, locals := 0 })).room s m ([.ref h0, .int a1].toArray) below meth c H locs 0 0 (MQ below (qV (S := Nat → Int32) (fun _ => True) (fun f => [(h0, .inl (E 0, 40, .inl f))]) D A) ([.ref h0, .int a1].toArray) s 0 0 A) (F0 m 5 ls []) := by
    intro nk_1
    induction nk_1 with
    | zero => intro ik_1 h1 h2; exact absurd h2 (by omega)
    | succ nk_1 ihk_1 =>
      intro ik_1 hik_1 hnk_1 g H locs hP hD hS ls hl
      refine lv_iload_n hx hb dJ7_fill_53178_5 rfl (lv_at hl 0 rfl) ?_
      refine lv_iload_n hx hb dJ7_fill_53178_6 rfl (lv_at hl 1 rfl) ?_
      refine lv_icmp_ge (tgt := 20) hx hb dJ7_fill_53178_7 (by decide) (fun h_2 => ?_) (fun h_2 => ?_)
      · exact e_v hx hb hr (g) trivial hP hD hS hlocks dJ7_fill_53178_20
      · have hltik_1 : ik_1 < 40 := lt_nI (B := 40) (c := 40) (by decide) (by decide) hik_1 h_2
        refine lv_aload_n hx hb dJ7_fill_53178_10 rfl (lv_at hl 2 rfl) ?_
        refine lv_iload_n hx hb dJ7_fill_53178_11 rfl (lv_at hl 0 rfl) ?_
        refine lv_iload_n hx hb dJ7_fill_53178_12 rfl (lv_at hl 3 rfl) ?_
        refine va_iast hx hb hK hP hD hS 0 0 rfl rfl (vp_in_nI (by omega) (by omega)) dJ7_fill_53178_13 (fun H locs hP hD hS => ?_)
        have hP : va_P D vwCl [(h0, .inl (E 0, 40, .inl (upd g (Int32.toNatClampNeg (nI ik_1)) a1)))] H := hP
        have hD : va_D A [(h0, .inl (E 0, 40, .inl (upd g (Int32.toNatClampNeg (nI ik_1)) a1)))] := hD
        refine lv_iinc (v := nI (ik_1 + 1)) (lv' := [(2, .int (nI (ik_1 + 1))), (3, .int 40), (0, .ref h0), (1, .int a1)]) hx hb dJ7_fill_53178_14 hl (k := 0) rfl (by rw [← nI_1]; rfl) (by decide) rfl (fun ls hl => ?_)
        refine lv_goto (tgt := 5) hx hb dJ7_fill_53178_17 (by decide) ?_
        exact ihk_1 (ik_1 + 1) (by omega) (by omega) _ _ _ hP hD hS ls (lv_sub hl [0, 1, 2, 3] rfl)
  exact loopk_1 41 0 (Nat.zero_le _) (by omega) _ _ _ hP hD hS ls (lv_sub hl [1, 0, 2, 3] rfl)

def v_fI4 : List Cond := .code yJ7_fill_53178 cJ7_fill_53178 4 none :: ([])
set_option maxHeartbeats 2000000 in
set_option maxRecDepth 100000 in
/-- Arrays.fill over 4 -/
theorem fI4 (l : Launch) (D : va_G) (E : Nat → ClassId) (sz : Nat) (h0 : Nat) (f : Nat → Int32) (a1 : Int32) : Met l yJ7_fill_53178 v_fI4 ({ frames := 0, cells := 0, slots := 0, locals := 0 }) (va_Pc [.ref h0, .int a1] (pre D E ([(h0, .inl (E 0, 4, .inl f))]) sz)) (qV (S := Nat → Int32) (fun _ => True) (fun f => [(h0, .inl (E 0, 4, .inl f))]) D (va_A ([(h0, .inl (E 0, 4, .inl f))]) sz)) 0 0 (va_A ([(h0, .inl (E 0, 4, .inl f))]) sz) := by
  refine c_void (cc := cJ7_fill_53178) (maxL := 4) (ret := none) (by decide) rfl (Nat.le_of_ble_eq_true rfl) ?_
  intro p e s m below meth c ls A ⟨hx, hb, hr, hts, hown, hlocks, hin, hml⟩ hP hK hD hN hA hS hl
  have hown : s.vm.findClass RJ7 = some m.cls := hown
  have hl : lv_has ls 4 [(0, .ref h0), (1, .int a1)] := hl
  refine lv_iconst (v := 0) hx hb dJ7_fill_53178_0 (by decide) ?_
  refine lv_istore_n (lv' := [(2, .int 0), (0, .ref h0), (1, .int a1)]) hx hb dJ7_fill_53178_1 rfl hl (by decide) rfl (fun ls hl => ?_)
  refine lv_aload_n hx hb dJ7_fill_53178_2 rfl (lv_at hl 1 rfl) ?_
  refine va_alen (v := 4) hx hb hK hP 0 0 rfl rfl rfl dJ7_fill_53178_3 ?_
  refine lv_istore_n (lv' := [(3, .int 4), (2, .int 0), (0, .ref h0), (1, .int a1)]) hx hb dJ7_fill_53178_4 rfl hl (by decide) rfl (fun ls hl => ?_)
  have loopk_1 : ∀ (nk_1 ik_1 : Nat), ik_1 ≤ 4 → 5 ≤ ik_1 + nk_1 → ∀ (g : Nat → Int32) (H : Heap) (locs : List Loc), va_P D vwCl [(h0, .inl (E 0, 4, .inl g))] H → va_D A [(h0, .inl (E 0, 4, .inl g))] → va_S A s.heap H locs → ∀ (ls : Array Slot), lv_has ls 4 [(2, .int (nI ik_1)), (3, .int 4), (0, .ref h0), (1, .int a1)] → W p l e (headSpec v_fI4 ({ frames := 0, cells := 0, slots := 0, locals := 0 })).room s m ([.ref h0, .int a1].toArray) below meth c H locs 0 0 (MQ below (qV (S := Nat → Int32) (fun _ => True) (fun f => [(h0, .inl (E 0, 4, .inl f))]) D A) ([.ref h0, .int a1].toArray) s 0 0 A) (F0 m 5 ls []) := by
    intro nk_1
    induction nk_1 with
    | zero => intro ik_1 h1 h2; exact absurd h2 (by omega)
    | succ nk_1 ihk_1 =>
      intro ik_1 hik_1 hnk_1 g H locs hP hD hS ls hl
      refine lv_iload_n hx hb dJ7_fill_53178_5 rfl (lv_at hl 0 rfl) ?_
      refine lv_iload_n hx hb dJ7_fill_53178_6 rfl (lv_at hl 1 rfl) ?_
      refine lv_icmp_ge (tgt := 20) hx hb dJ7_fill_53178_7 (by decide) (fun h_2 => ?_) (fun h_2 => ?_)
      · exact e_v hx hb hr (g) trivial hP hD hS hlocks dJ7_fill_53178_20
      · have hltik_1 : ik_1 < 4 := lt_nI (B := 4) (c := 4) (by decide) (by decide) hik_1 h_2
        refine lv_aload_n hx hb dJ7_fill_53178_10 rfl (lv_at hl 2 rfl) ?_
        refine lv_iload_n hx hb dJ7_fill_53178_11 rfl (lv_at hl 0 rfl) ?_
        refine lv_iload_n hx hb dJ7_fill_53178_12 rfl (lv_at hl 3 rfl) ?_
        refine va_iast hx hb hK hP hD hS 0 0 rfl rfl (vp_in_nI (by omega) (by omega)) dJ7_fill_53178_13 (fun H locs hP hD hS => ?_)
        have hP : va_P D vwCl [(h0, .inl (E 0, 4, .inl (upd g (Int32.toNatClampNeg (nI ik_1)) a1)))] H := hP
        have hD : va_D A [(h0, .inl (E 0, 4, .inl (upd g (Int32.toNatClampNeg (nI ik_1)) a1)))] := hD
        refine lv_iinc (v := nI (ik_1 + 1)) (lv' := [(2, .int (nI (ik_1 + 1))), (3, .int 4), (0, .ref h0), (1, .int a1)]) hx hb dJ7_fill_53178_14 hl (k := 0) rfl (by rw [← nI_1]; rfl) (by decide) rfl (fun ls hl => ?_)
        refine lv_goto (tgt := 5) hx hb dJ7_fill_53178_17 (by decide) ?_
        exact ihk_1 (ik_1 + 1) (by omega) (by omega) _ _ _ hP hD hS ls (lv_sub hl [0, 1, 2, 3] rfl)
  exact loopk_1 5 0 (Nat.zero_le _) (by omega) _ _ _ hP hD hS ls (lv_sub hl [1, 0, 2, 3] rfl)

def v_fB144 : List Cond := .code yJ7_fill_031fb cJ7_fill_031fb 4 none :: ([])
set_option maxHeartbeats 2000000 in
set_option maxRecDepth 100000 in
/-- Arrays.fill over 144 -/
theorem fB144 (l : Launch) (D : va_G) (E : Nat → ClassId) (sz : Nat) (h0 : Nat) (f : Nat → Int32) (a1 : Int32) : Met l yJ7_fill_031fb v_fB144 ({ frames := 0, cells := 0, slots := 0, locals := 0 }) (va_Pc [.ref h0, .int a1] (pre D E ([(h0, .inl (E 1, 144, .inl f))]) sz)) (qV (S := Nat → Int32) (fun _ => True) (fun f => [(h0, .inl (E 1, 144, .inl f))]) D (va_A ([(h0, .inl (E 1, 144, .inl f))]) sz)) 0 0 (va_A ([(h0, .inl (E 1, 144, .inl f))]) sz) := by
  refine c_void (cc := cJ7_fill_031fb) (maxL := 4) (ret := none) (by decide) rfl (Nat.le_of_ble_eq_true rfl) ?_
  intro p e s m below meth c ls A ⟨hx, hb, hr, hts, hown, hlocks, hin, hml⟩ hP hK hD hN hA hS hl
  have hown : s.vm.findClass RJ7 = some m.cls := hown
  have hl : lv_has ls 4 [(0, .ref h0), (1, .int a1)] := hl
  refine lv_iconst (v := 0) hx hb dJ7_fill_031fb_0 (by decide) ?_
  refine lv_istore_n (lv' := [(2, .int 0), (0, .ref h0), (1, .int a1)]) hx hb dJ7_fill_031fb_1 rfl hl (by decide) rfl (fun ls hl => ?_)
  refine lv_aload_n hx hb dJ7_fill_031fb_2 rfl (lv_at hl 1 rfl) ?_
  refine va_alen (v := 144) hx hb hK hP 0 1 rfl rfl rfl dJ7_fill_031fb_3 ?_
  refine lv_istore_n (lv' := [(3, .int 144), (2, .int 0), (0, .ref h0), (1, .int a1)]) hx hb dJ7_fill_031fb_4 rfl hl (by decide) rfl (fun ls hl => ?_)
  have loopk_1 : ∀ (nk_1 ik_1 : Nat), ik_1 ≤ 144 → 145 ≤ ik_1 + nk_1 → ∀ (g : Nat → Int32) (H : Heap) (locs : List Loc), va_P D vwCl [(h0, .inl (E 1, 144, .inl g))] H → va_D A [(h0, .inl (E 1, 144, .inl g))] → va_S A s.heap H locs → ∀ (ls : Array Slot), lv_has ls 4 [(2, .int (nI ik_1)), (3, .int 144), (0, .ref h0), (1, .int a1)] → W p l e (headSpec v_fB144 ({ frames := 0, cells := 0, slots := 0, locals := 0 })).room s m ([.ref h0, .int a1].toArray) below meth c H locs 0 0 (MQ below (qV (S := Nat → Int32) (fun _ => True) (fun f => [(h0, .inl (E 1, 144, .inl f))]) D A) ([.ref h0, .int a1].toArray) s 0 0 A) (F0 m 5 ls []) := by
    intro nk_1
    induction nk_1 with
    | zero => intro ik_1 h1 h2; exact absurd h2 (by omega)
    | succ nk_1 ihk_1 =>
      intro ik_1 hik_1 hnk_1 g H locs hP hD hS ls hl
      refine lv_iload_n hx hb dJ7_fill_031fb_5 rfl (lv_at hl 0 rfl) ?_
      refine lv_iload_n hx hb dJ7_fill_031fb_6 rfl (lv_at hl 1 rfl) ?_
      refine lv_icmp_ge (tgt := 20) hx hb dJ7_fill_031fb_7 (by decide) (fun h_2 => ?_) (fun h_2 => ?_)
      · exact e_v hx hb hr (g) trivial hP hD hS hlocks dJ7_fill_031fb_20
      · have hltik_1 : ik_1 < 144 := lt_nI (B := 144) (c := 144) (by decide) (by decide) hik_1 h_2
        refine lv_aload_n hx hb dJ7_fill_031fb_10 rfl (lv_at hl 2 rfl) ?_
        refine lv_iload_n hx hb dJ7_fill_031fb_11 rfl (lv_at hl 0 rfl) ?_
        refine lv_iload_n hx hb dJ7_fill_031fb_12 rfl (lv_at hl 3 rfl) ?_
        refine va_bast hx hb hK hP hD hS 0 1 rfl rfl (vp_in_nI (by omega) (by omega)) dJ7_fill_031fb_13 (fun H locs hP hD hS => ?_)
        have hP : va_P D vwCl [(h0, .inl (E 1, 144, .inl (upd g (Int32.toNatClampNeg (nI ik_1)) (vp_nar .byte a1))))] H := hP
        have hD : va_D A [(h0, .inl (E 1, 144, .inl (upd g (Int32.toNatClampNeg (nI ik_1)) (vp_nar .byte a1))))] := hD
        refine lv_iinc (v := nI (ik_1 + 1)) (lv' := [(2, .int (nI (ik_1 + 1))), (3, .int 144), (0, .ref h0), (1, .int a1)]) hx hb dJ7_fill_031fb_14 hl (k := 0) rfl (by rw [← nI_1]; rfl) (by decide) rfl (fun ls hl => ?_)
        refine lv_goto (tgt := 5) hx hb dJ7_fill_031fb_17 (by decide) ?_
        exact ihk_1 (ik_1 + 1) (by omega) (by omega) _ _ _ hP hD hS ls (lv_sub hl [0, 1, 2, 3] rfl)
  exact loopk_1 145 0 (Nat.zero_le _) (by omega) _ _ _ hP hD hS ls (lv_sub hl [1, 0, 2, 3] rfl)

def v_fL60 : List Cond := .code yJ7_fill_d0a16 cJ7_fill_d0a16 5 none :: ([])
set_option maxHeartbeats 2000000 in
set_option maxRecDepth 100000 in
/-- Arrays.fill over 60 -/
theorem fL60 (l : Launch) (D : va_G) (E : Nat → ClassId) (sz : Nat) (h0 : Nat) (f : Nat → Int64) (a1 : Int64) : Met l yJ7_fill_d0a16 v_fL60 ({ frames := 0, cells := 0, slots := 0, locals := 0 }) (va_Pc [.ref h0, .long a1] (pre D E ([(h0, .inl (E 2, 60, .inr (.inl f)))]) sz)) (qV (S := Nat → Int64) (fun _ => True) (fun f => [(h0, .inl (E 2, 60, .inr (.inl f)))]) D (va_A ([(h0, .inl (E 2, 60, .inr (.inl f)))]) sz)) 0 0 (va_A ([(h0, .inl (E 2, 60, .inr (.inl f)))]) sz) := by
  refine c_void (cc := cJ7_fill_d0a16) (maxL := 5) (ret := none) (by decide) rfl (Nat.le_of_ble_eq_true rfl) ?_
  intro p e s m below meth c ls A ⟨hx, hb, hr, hts, hown, hlocks, hin, hml⟩ hP hK hD hN hA hS hl
  have hown : s.vm.findClass RJ7 = some m.cls := hown
  have hl : lv_has ls 5 [(0, .ref h0), (1, .long a1)] := hl
  refine lv_iconst (v := 0) hx hb dJ7_fill_d0a16_0 (by decide) ?_
  refine lv_istore_n (lv' := [(3, .int 0), (0, .ref h0), (1, .long a1)]) hx hb dJ7_fill_d0a16_1 rfl hl (by decide) rfl (fun ls hl => ?_)
  refine lv_aload_n hx hb dJ7_fill_d0a16_2 rfl (lv_at hl 1 rfl) ?_
  refine va_alen (v := 60) hx hb hK hP 0 2 rfl rfl rfl dJ7_fill_d0a16_3 ?_
  refine lv_istore (lv' := [(4, .int 60), (3, .int 0), (0, .ref h0), (1, .long a1)]) hx hb dJ7_fill_d0a16_4 hl (by decide) rfl (fun ls hl => ?_)
  have loopk_1 : ∀ (nk_1 ik_1 : Nat), ik_1 ≤ 60 → 61 ≤ ik_1 + nk_1 → ∀ (g : Nat → Int64) (H : Heap) (locs : List Loc), va_P D vwCl [(h0, .inl (E 2, 60, .inr (.inl g)))] H → va_D A [(h0, .inl (E 2, 60, .inr (.inl g)))] → va_S A s.heap H locs → ∀ (ls : Array Slot), lv_has ls 5 [(3, .int (nI ik_1)), (4, .int 60), (0, .ref h0), (1, .long a1)] → W p l e (headSpec v_fL60 ({ frames := 0, cells := 0, slots := 0, locals := 0 })).room s m ([.ref h0, .long a1].toArray) below meth c H locs 0 0 (MQ below (qV (S := Nat → Int64) (fun _ => True) (fun f => [(h0, .inl (E 2, 60, .inr (.inl f)))]) D A) ([.ref h0, .long a1].toArray) s 0 0 A) (F0 m 6 ls []) := by
    intro nk_1
    induction nk_1 with
    | zero => intro ik_1 h1 h2; exact absurd h2 (by omega)
    | succ nk_1 ihk_1 =>
      intro ik_1 hik_1 hnk_1 g H locs hP hD hS ls hl
      refine lv_iload_n hx hb dJ7_fill_d0a16_6 rfl (lv_at hl 0 rfl) ?_
      refine lv_iload hx hb dJ7_fill_d0a16_7 (lv_at hl 1 rfl) ?_
      refine lv_icmp_ge (tgt := 22) hx hb dJ7_fill_d0a16_9 (by decide) (fun h_2 => ?_) (fun h_2 => ?_)
      · exact e_v hx hb hr (g) trivial hP hD hS hlocks dJ7_fill_d0a16_22
      · have hltik_1 : ik_1 < 60 := lt_nI (B := 60) (c := 60) (by decide) (by decide) hik_1 h_2
        refine lv_aload_n hx hb dJ7_fill_d0a16_12 rfl (lv_at hl 2 rfl) ?_
        refine lv_iload_n hx hb dJ7_fill_d0a16_13 rfl (lv_at hl 0 rfl) ?_
        refine lv_lload_n hx hb dJ7_fill_d0a16_14 rfl (lv_at hl 3 rfl) ?_
        refine va_last hx hb hK hP hD hS 0 2 rfl rfl (vp_in_nI (by omega) (by omega)) dJ7_fill_d0a16_15 (fun H locs hP hD hS => ?_)
        have hP : va_P D vwCl [(h0, .inl (E 2, 60, .inr (.inl (vp_updL g (Int32.toNatClampNeg (nI ik_1)) a1))))] H := hP
        have hD : va_D A [(h0, .inl (E 2, 60, .inr (.inl (vp_updL g (Int32.toNatClampNeg (nI ik_1)) a1))))] := hD
        refine lv_iinc (v := nI (ik_1 + 1)) (lv' := [(3, .int (nI (ik_1 + 1))), (4, .int 60), (0, .ref h0), (1, .long a1)]) hx hb dJ7_fill_d0a16_16 hl (k := 0) rfl (by rw [← nI_1]; rfl) (by decide) rfl (fun ls hl => ?_)
        refine lv_goto (tgt := 6) hx hb dJ7_fill_d0a16_19 (by decide) ?_
        exact ihk_1 (ik_1 + 1) (by omega) (by omega) _ _ _ hP hD hS ls (lv_sub hl [0, 1, 2, 3] rfl)
  exact loopk_1 61 0 (Nat.zero_le _) (by omega) _ _ _ hP hD hS ls (lv_sub hl [1, 0, 2, 3] rfl)

