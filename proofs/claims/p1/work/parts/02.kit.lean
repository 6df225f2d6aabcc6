/-- the classes of the rows: int, byte, long, boolean, Clock, Person, Plan, Row -/
def tyE (E : Nat → ClassId) : List (ClassId × FieldType) := [(E 0, .int), (E 1, .byte), (E 2, .long), (E 3, .boolean), (E 4, .object RX0), (E 5, .object RX2), (E 6, .object RX3), (E 7, .object RX6)]
/-- words that the tables have, but that are no good words: links across the nest, arrays of own classes -/
def nw (U : State) : Prop := va_Nw (.methodLinkNest RX7 15 yX5_init RX7) U ∧ va_Nw (.methodLinkNest RX3 31 yX0_init RX7) U ∧ va_Nw (.methodLinkNest RX3 32 yX2_init RX7) U ∧ va_Nw (.methodLinkNest RX7 40 yX4_init RX7) U ∧ va_Nw (.methodLinkNest RX7 54 yX6_init RX7) U ∧ va_Nw (.methodLinkNest RX4 37 yX7_pairsOf RX7) U ∧ va_Nw (.methodLinkNest RX7 110 yX1_init RX7) U ∧ va_AO RX0 U ∧ va_AO RX2 U ∧ va_AO RX3 U ∧ va_AO RX6 U
theorem nw_same {u U : State} (h : u.vm = U.vm) (z : nw u) : nw U := by
  obtain ⟨z1, z2, z3, z4, z5, z6, z7, z8, z9, z10, z11⟩ := z
  have ha : u.vm.Alike U.vm := by rw [h]; exact Vm.Alike.refl _
  exact ⟨va_Nw.same rfl h z1, va_Nw.same rfl h z2, va_Nw.same rfl h z3, va_Nw.same rfl h z4, va_Nw.same rfl h z5, va_Nw.same rfl h z6, va_Nw.same rfl h z7, z8.moved ha, z9.moved ha, z10.moved ha, z11.moved ha⟩
theorem nw_warm {s U : State} (hW : s.WarmedH U.vm) (z : nw s) : nw U := by
  obtain ⟨z1, z2, z3, z4, z5, z6, z7, z8, z9, z10, z11⟩ := z
  exact ⟨z1.warmM hW, z2.warmM hW, z3.warmM hW, z4.warmM hW, z5.warmM hW, z6.warmM hW, z7.warmM hW, z8.moved hW.alike, z9.moved hW.alike, z10.moved hW.alike, z11.moved hW.alike⟩
/-- a contract's start: the heap has sz cells, it holds ws, they are apart -/
def pre (D : va_G) (E : Nat → ClassId) (ws : va_W) (sz : Nat) (U : State) : Prop := U.heap.size = sz ∧ va_P D vwCl ws U.heap ∧ va_K D vwCl (tyE E) U ∧ va_D (fun _ => True) ws ∧ nw U
theorem pre_blind {av : List Value} {D : va_G} {E : Nat → ClassId} {ws : va_W} {sz : Nat} : FrameBlind (va_Pc av (pre D E ws sz)) := fun a U g mk q => by
  obtain ⟨q0, q1, qP, qK, qD, qN⟩ := q
  exact ⟨q0, q1, qP, va_K.moved (u := U) (U := U.calling g mk a) (Vm.Alike.refl U.vm) qK, qD, nw_same (u := U) (U := U.calling g mk a) rfl qN⟩
theorem pre_at {av : List Value} {D : va_G} {E : Nat → ClassId} {wc : va_W} {H : Heap} {s : State} {A : Nat → Prop} (hP : va_P D vwCl wc H) (hK : va_K D vwCl (tyE E) s) (hD : va_D A wc) (hN : nw s) : ∀ U : State, U.heap = H → s.WarmedH U.vm → va_Pc av (pre D E wc H.size) av.toArray U := fun U hU hW => ⟨rfl, by rw [hU], by rw [hU]; exact hP, va_K.moved hW.alike hK, hD.weaken (fun _ _ _ _ => trivial), nw_warm hW hN⟩
/-- a contract's end: post of answer and u, and the heap holds w1 u -/
def qI {S : Type} (post : Int32 → S → Prop) (w1 : S → va_W) (D : va_G) (A : Nat → Prop) : Array Value → State → Outcome → State → Prop := va_Qi post (fun u t => va_P D vwCl (w1 u) t.heap ∧ va_D A (w1 u)) A
def qV {S : Type} (post : S → Prop) (w1 : S → va_W) (D : va_G) (A : Nat → Prop) : Array Value → State → Outcome → State → Prop := va_Qv post (fun u t => va_P D vwCl (w1 u) t.heap ∧ va_D A (w1 u)) A
def qR {S : Type} (post : S → Prop) (w1 : S → Nat → va_W) (D : va_G) (A : Nat → Prop) : Array Value → State → Outcome → State → Prop := va_Qr post (fun u a t => va_P D vwCl (w1 u a) t.heap ∧ va_D A (w1 u a)) A
theorem p_nil {D : va_G} {H : Heap} : va_P D vwCl [] H := fun k q h => by simp at h
theorem d_nil {A : Nat → Prop} : va_D A [] := ⟨fun i j p q h => by simp at h, fun k q h => by simp at h⟩
theorem k_same {D : va_G} {cl : List vw_C} {tys : List (ClassId × FieldType)} {s : State} {cA c1 : ClassId} {ty : FieldType} (i : Nat) (hK : va_K D cl (tys ++ [(cA, ty)]) s) (h : tys[i]? = some (c1, ty)) : cA = c1 := by
  have h1 := (hK.2 tys.length (cA, ty) (by simp)).2
  have h2 := (hK.2 i (c1, ty) (by rw [List.getElem?_append_left ((List.getElem?_eq_some_iff.mp h).1)]; exact h)).2
  have f : ∀ c : ClassId, va_RA s c ty → s.vm.findClass ("[" ++ ty.toString) = some c := by
    intro c hc
    cases ty with
    | object C => obtain ⟨_, _, _, _, _, h⟩ := hc; exact h
    | _ => exact hc
  exact Option.some.inj ((f _ h1).symm.trans (f _ h2))
theorem g_rows {big : List Cond} (ws : List Cond) (ps : List Nat) (hp : ws = ps.filterMap (fun i => big[i]?)) (h : ws.all goodWord = true) : GoodIn big ws := by
  intro w hw
  have h1 := List.all_eq_true.mp h w hw
  rw [hp] at hw
  obtain ⟨i, -, hi⟩ := List.mem_filterMap.mp hw
  exact ⟨List.mem_of_getElem? hi, good_of_word h1⟩
section KW
variable {p : Program} {l : Launch} {e : Env} {R : Room} {s : State} {m : MethodId} {args : Array Value} {below : List Frame} {meth : Method} {c : Code} {H : Heap} {locs : List Loc} {cells slots : Nat} {Q : State → Prop}
variable {cc : ByteArray} {pc : Nat} {ls : Array Slot} {rest st0 : List Value} {D : va_G} {cl : List vw_C} {A : Nat → Prop} {a : Nat} {av : Array Value} {tys : List (ClassId × FieldType)} {ws wc wr : va_W} {H0 : Heap} {mc ms : Nat}
theorem lv_toc {x y : Int32} (h : x = y) (k : W p l e R s m args below meth c H locs cells slots Q (F0 m pc ls (.int y :: rest))) : W p l e R s m args below meth c H locs cells slots Q (F0 m pc ls (.int x :: rest)) := by rw [h]; exact k
theorem lv_tol {x y : Int64} (h : x = y) (k : W p l e R s m args below meth c H locs cells slots Q (F0 m pc ls (.long y :: rest))) : W p l e R s m args below meth c H locs cells slots Q (F0 m pc ls (.long x :: rest)) := by rw [h]; exact k
theorem lv_tov {x y : Value} (h : x = y) (k : W p l e R s m args below meth c H locs cells slots Q (F0 m pc ls (y :: rest))) : W p l e R s m args below meth c H locs cells slots Q (F0 m pc ls (x :: rest)) := by rw [h]; exact k
theorem k_newa (hexec : p.tables.exec = Jvm.exec) (hb : c.code = cc) {atype : ArrayType} (harr : (Cond.arrayClass (newarray.typeOf atype)).before args s = true) {ty : FieldType} (hty : newarray.typeOf atype = ty) (hK : va_K D cl tys s) (hP : va_P D cl ws H) (hD : va_D A ws) (hS : va_S A H0 H locs) (hA : ∀ q, H0.size ≤ q → A q)
    {n : Int32} {N' : Nat} {a0 : vp_A} (ha : ∀ cA : ClassId, vp_cell cA a0 = arrV cA N' (fun _ => defaultValue ty)) (hn : ¬ n < 0) (hN : n.toNatClampNeg = N') (hbytes : N' * componentBytes ty ≤ 536870912) (hcells : cells + 1 ≤ R.cells) (hslots : slots + N' ≤ R.slots) (hdg : decode cc pc = .ok (.newarray atype, 2)) (i : Nat) {c1 : ClassId} (hi : tys[i]? = some (c1, ty))
    (kk : ∀ (q : Nat) (H1 : Heap), va_P D cl (ws ++ [(q, .inl (c1, a0))]) H1 → va_D A (ws ++ [(q, .inl (c1, a0))]) → va_S A H0 H1 locs →
      W p l e R s m args below meth c H1 locs (cells + 1) (slots + N') Q (F0 m (pc + 2) ls (.ref q :: rest))) : W p l e R s m args below meth c H locs cells slots Q (F0 m pc ls (.int n :: rest)) :=
  va_newa hexec hb harr hty hK hP hD hS hA ha hn hN hbytes hcells hslots hdg (fun q cA H1 hK' hP' hD' hS' => by
    obtain rfl := k_same i hK' hi
    exact kk q H1 hP' hD' hS')
theorem k_newq (hexec : p.tables.exec = Jvm.exec) (hb : c.code = cc) {own C : String} {index : Nat} (hown : s.vm.findClass own = some m.cls) (hclink : (Cond.classLink own index C).before args s = true) (hover : va_AO C s) (hK : va_K D cl tys s) (hP : va_P D cl ws H) (hD : va_D A ws) (hS : va_S A H0 H locs) (hA : ∀ q, H0.size ≤ q → A q)
    {n : Int32} {N' : Nat} (hn : ¬ n < 0) (hN : n.toNatClampNeg = N') (hbytes : N' * 4 ≤ 536870912) (hcells : cells + 1 ≤ R.cells) (hslots : slots + N' ≤ R.slots) (hdg : decode cc pc = .ok (.anewarray index, 3)) (i : Nat) {c1 : ClassId} (hi : tys[i]? = some (c1, .object C))
    (kk : ∀ (q : Nat) (H1 : Heap), va_P D cl (ws ++ [(q, .inl (c1, N', .inr (.inr (.inr (.inr (fun _ => none))))))]) H1 → va_D A (ws ++ [(q, .inl (c1, N', .inr (.inr (.inr (.inr (fun _ => none))))))]) → va_S A H0 H1 locs →
      W p l e R s m args below meth c H1 locs (cells + 1) (slots + N') Q (F0 m (pc + 3) ls (.ref q :: rest))) : W p l e R s m args below meth c H locs cells slots Q (F0 m pc ls (.int n :: rest)) :=
  va_newq hexec hb hown hclink hover hK hP hD hS hA hn hN hbytes hcells hslots hdg (fun q cA H1 hK' hP' hD' hS' => by
    obtain rfl := k_same i hK' hi
    exact kk q H1 hP' hD' hS')
/-- a call: the callee's cells are cut out, and joined to the rest behind it -/
theorem k_v {S : Type} {post : S → Prop} {w1 : S → va_W} (hr : va_Run p l e R s m args below meth c H locs cells slots mc ms (F0 m pc ls st0) rest (qV post w1 D (va_A wc H.size) av) (va_A wc H.size))
    (hP : va_P D vwCl ws H) (hD : va_D A ws) (hS : va_S A H0 H locs) (hA : ∀ q, H0.size ≤ q → A q) (isC isR : List Nat) (hC : isC.map (fun i => ws[i]?) = wc.map some) (hR : isR.map (fun i => ws[i]?) = wr.map some) (hn : va_nd isR = true) (hdis : ∀ i ∈ isR, i ∉ isC)
    (kk : ∀ (u : S) (H1 : Heap) (locs1 : List Loc), post u → va_P D vwCl (wr ++ w1 u) H1 → va_D A (wr ++ w1 u) → va_S A H0 H1 locs1 → W p l e R s m args below meth c H1 locs1 (cells + mc) (slots + ms) Q (F0 m (pc + 3) ls rest)) : W p l e R s m args below meth c H locs cells slots Q (F0 m pc ls st0) := by
  have hF := va_free (wc := wc) hD hS hA isC hC
  refine va_callv hr hS (fun q _ h => hF q h) hF (fun u t H1 locs1 ht hvm hw hB hz1 hk1 hS1 => ?_)
  obtain ⟨hP1, hD1⟩ := hB
  rw [ht] at hP1
  obtain ⟨hP2, hD2⟩ := va_join (wr := wr) (w1 := w1 u) hP hD isC isR hC hR hn hdis hk1 hF hP1 hD1
  exact kk u H1 locs1 hw hP2 hD2 hS1
theorem k_i {S : Type} {post : Int32 → S → Prop} {w1 : S → va_W} (hr : va_Run p l e R s m args below meth c H locs cells slots mc ms (F0 m pc ls st0) rest (qI post w1 D (va_A wc H.size) av) (va_A wc H.size))
    (hP : va_P D vwCl ws H) (hD : va_D A ws) (hS : va_S A H0 H locs) (hA : ∀ q, H0.size ≤ q → A q) (isC isR : List Nat) (hC : isC.map (fun i => ws[i]?) = wc.map some) (hR : isR.map (fun i => ws[i]?) = wr.map some) (hn : va_nd isR = true) (hdis : ∀ i ∈ isR, i ∉ isC)
    (kk : ∀ (r : Int32) (u : S) (H1 : Heap) (locs1 : List Loc), post r u → va_P D vwCl (wr ++ w1 u) H1 → va_D A (wr ++ w1 u) → va_S A H0 H1 locs1 → W p l e R s m args below meth c H1 locs1 (cells + mc) (slots + ms) Q (F0 m (pc + 3) ls (.int r :: rest))) : W p l e R s m args below meth c H locs cells slots Q (F0 m pc ls st0) := by
  have hF := va_free (wc := wc) hD hS hA isC hC
  refine va_calli hr hS (fun q _ h => hF q h) hF (fun r u t H1 locs1 ht hvm hw hB hz1 hk1 hS1 => ?_)
  obtain ⟨hP1, hD1⟩ := hB
  rw [ht] at hP1
  obtain ⟨hP2, hD2⟩ := va_join (wr := wr) (w1 := w1 u) hP hD isC isR hC hR hn hdis hk1 hF hP1 hD1
  exact kk r u H1 locs1 hw hP2 hD2 hS1
theorem k_r {S : Type} {post : S → Prop} {w1 : S → Nat → va_W} (hr : va_Run p l e R s m args below meth c H locs cells slots mc ms (F0 m pc ls st0) rest (qR post w1 D (va_A wc H.size) av) (va_A wc H.size))
    (hP : va_P D vwCl ws H) (hD : va_D A ws) (hS : va_S A H0 H locs) (hA : ∀ q, H0.size ≤ q → A q) (isC isR : List Nat) (hC : isC.map (fun i => ws[i]?) = wc.map some) (hR : isR.map (fun i => ws[i]?) = wr.map some) (hn : va_nd isR = true) (hdis : ∀ i ∈ isR, i ∉ isC)
    (kk : ∀ (u : S) (ra : Nat) (H1 : Heap) (locs1 : List Loc), post u → va_P D vwCl (wr ++ w1 u ra) H1 → va_D A (wr ++ w1 u ra) → va_S A H0 H1 locs1 → W p l e R s m args below meth c H1 locs1 (cells + mc) (slots + ms) Q (F0 m (pc + 3) ls (.ref ra :: rest))) : W p l e R s m args below meth c H locs cells slots Q (F0 m pc ls st0) := by
  have hF := va_free (wc := wc) hD hS hA isC hC
  refine va_callr hr hS (fun q _ h => hF q h) hF (fun u ra t H1 locs1 ht hvm hw hB hz1 hk1 hS1 => ?_)
  obtain ⟨hP1, hD1⟩ := hB
  rw [ht] at hP1
  obtain ⟨hP2, hD2⟩ := va_join (wr := wr) (w1 := w1 u ra) hP hD isC isR hC hR hn hdis hk1 hF hP1 hD1
  exact kk u ra H1 locs1 hw hP2 hD2 hS1
/-- a method's ends -/
theorem e_i {S : Type} {post : Int32 → S → Prop} {w1 : S → va_W} {v : Int32} {ty : FieldType} (hx : p.tables.exec = Jvm.exec) (hb : c.code = cc) (hr : meth.sig.returnType = some ty) (hn : narrow ty (.int v) = .int v) (u : S) (hp : post v u) (hP : va_P D vwCl (w1 u) H) (hD : va_D A (w1 u)) (hS : va_S A s.heap H locs) (hlocks : meth.locks = false) (hdg : decode cc pc = .ok (.ireturn, 1)) : W p l e R s m args below meth c H locs cells slots (MQ below (qI post w1 D A) args s cells slots A) (F0 m pc ls [.int v]) :=
  W.zret hx hb hr hn (fun t ht hW => ⟨⟨v, u, rfl, hp, by rw [ht]; exact hP, hD⟩, hS.F ht⟩) hS.2.2 hdg hlocks
theorem e_v {S : Type} {post : S → Prop} {w1 : S → va_W} (hx : p.tables.exec = Jvm.exec) (hb : c.code = cc) (hr : meth.sig.returnType = none) (u : S) (hp : post u) (hP : va_P D vwCl (w1 u) H) (hD : va_D A (w1 u)) (hS : va_S A s.heap H locs) (hlocks : meth.locks = false) (hdg : decode cc pc = .ok (.return_, 1)) : W p l e R s m args below meth c H locs cells slots (MQ below (qV post w1 D A) args s cells slots A) (F0 m pc ls []) :=
  W.vret hx hb hr (fun t ht hW => ⟨⟨u, rfl, hp, by rw [ht]; exact hP, hD⟩, hS.F ht⟩) hS.2.2 hdg hlocks
theorem e_r {S : Type} {post : S → Prop} {w1 : S → Nat → va_W} {n : String} (hx : p.tables.exec = Jvm.exec) (hb : c.code = cc) (hr : meth.sig.returnType = some (.object n)) (u : S) (hp : post u) (hP : va_P D vwCl (w1 u a) H) (hD : va_D A (w1 u a)) (hS : va_S A s.heap H locs) (hlocks : meth.locks = false) (hdg : decode cc pc = .ok (.areturn, 1)) : W p l e R s m args below meth c H locs cells slots (MQ below (qR post w1 D A) args s cells slots A) (F0 m pc ls [.ref a]) :=
  W.aret hx hb hr (Or.inl ⟨n, rfl⟩) (Or.inr ⟨a, rfl⟩) (fun t ht hW => ⟨⟨u, a, rfl, hp, by rw [ht]; exact hP, hD⟩, hS.F ht⟩) hS.2.2 hdg hlocks
/-- an end of a method that only reads -/
theorem e_s {post : Int32 → Prop} {v : Int32} {ty : FieldType} (hx : p.tables.exec = Jvm.exec) (hb : c.code = cc) (hr : meth.sig.returnType = some ty) (hn : narrow ty (.int v) = .int v) (hp : post v) (hlocks : meth.locks = false) (hdg : decode cc pc = .ok (.ireturn, 1)) : W p l e R s m args below meth c s.heap [] cells slots (MQ below (vp_Si post) args s cells slots (fun _ => False)) (F0 m pc ls [.int v]) :=
  W.zret hx hb hr hn (fun t ht hW => ⟨v, rfl, hp, ht⟩) (fun q h => by cases h) hdg hlocks
end KW
/-- what a body has at its entry -/
def ent (p : Program) (s : State) (m : MethodId) (args : Array Value) (meth : Method) (c : Code) (y : MethodName) (v : List Cond) (cc : ByteArray) (maxL : Nat) (ret : Option FieldType) : Prop :=
  p.tables.exec = Jvm.exec ∧ c.code = cc ∧ meth.sig.returnType = ret ∧ (∀ w ∈ v, w.before args s = true) ∧ s.vm.findClass y.cls = some m.cls ∧ meth.locks = false ∧ meth.name = y.name ∧ c.maxLocals = maxL
theorem c_int {l : Launch} {S : Type} {post : Int32 → S → Prop} {w1 : S → va_W} {y : MethodName} {v v' : List Cond} {rm : Room} {cc : ByteArray} {maxL : Nat} {ret : Option FieldType} {av : List Value} {D : va_G} {E : Nat → ClassId} {ws : va_W} {sz mc ms : Nat} (hy : plainName y.cls = true) (hw : v = .code y cc maxL ret :: v') (hlen : (lg_sl av).length ≤ maxL)
    (body : ∀ (p : Program) (e : Env) (s : State) (m : MethodId) (below : List Frame) (meth : Method) (c : Code) (ls : Array Slot) (A : Nat → Prop), ent p s m av.toArray meth c y v cc maxL ret → va_P D vwCl ws s.heap → va_K D vwCl (tyE E) s → va_D A ws → nw s → (∀ q : Nat, s.heap.size ≤ q → A q) → va_S A s.heap s.heap [] → lv_has ls maxL (lv_args 0 av) → W p l e (headSpec v rm).room s m av.toArray below meth c s.heap [] 0 0 (MQ below (qI post w1 D A) av.toArray s mc ms A) (F0 m 0 ls [])) :
    Met l y v rm (va_Pc av (pre D E ws sz)) (qI post w1 D (va_A ws sz)) mc ms (va_A ws sz) := by
  refine Met.ofW (cc := cc) (maxL := maxL) (ret := ret) hy hw ?_
  intro p e s m args below meth c s₁ B hml hv
  obtain ⟨rfl, hsz, hP, hK, hD0, hN⟩ := hv
  subst hsz
  have hD := hD0.self (sz := s.heap.size)
  have hl := lv_entry av (n := maxL) hlen
  rw [lg_entry_eq]
  generalize (lg_sl av ++ List.replicate (maxL - (lg_sl av).length) Slot.unset).toArray = ls at hl ⊢
  exact body p e s m below meth c ls _ ⟨B.exec, B.bytes, B.returns, atoms_spec (ws := v) B.pre, findClass_of_methodNamed B.named, B.notSynchronized, (name_of_methodNamed B.named B.method).1, hml⟩ hP hK hD hN (fun q h => Or.inr h) va_S.rf hl
theorem c_void {l : Launch} {S : Type} {post : S → Prop} {w1 : S → va_W} {y : MethodName} {v v' : List Cond} {rm : Room} {cc : ByteArray} {maxL : Nat} {ret : Option FieldType} {av : List Value} {D : va_G} {E : Nat → ClassId} {ws : va_W} {sz mc ms : Nat} (hy : plainName y.cls = true) (hw : v = .code y cc maxL ret :: v') (hlen : (lg_sl av).length ≤ maxL)
    (body : ∀ (p : Program) (e : Env) (s : State) (m : MethodId) (below : List Frame) (meth : Method) (c : Code) (ls : Array Slot) (A : Nat → Prop), ent p s m av.toArray meth c y v cc maxL ret → va_P D vwCl ws s.heap → va_K D vwCl (tyE E) s → va_D A ws → nw s → (∀ q : Nat, s.heap.size ≤ q → A q) → va_S A s.heap s.heap [] → lv_has ls maxL (lv_args 0 av) → W p l e (headSpec v rm).room s m av.toArray below meth c s.heap [] 0 0 (MQ below (qV post w1 D A) av.toArray s mc ms A) (F0 m 0 ls [])) :
    Met l y v rm (va_Pc av (pre D E ws sz)) (qV post w1 D (va_A ws sz)) mc ms (va_A ws sz) := by
  refine Met.ofW (cc := cc) (maxL := maxL) (ret := ret) hy hw ?_
  intro p e s m args below meth c s₁ B hml hv
  obtain ⟨rfl, hsz, hP, hK, hD0, hN⟩ := hv
  subst hsz
  have hD := hD0.self (sz := s.heap.size)
  have hl := lv_entry av (n := maxL) hlen
  rw [lg_entry_eq]
  generalize (lg_sl av ++ List.replicate (maxL - (lg_sl av).length) Slot.unset).toArray = ls at hl ⊢
  exact body p e s m below meth c ls _ ⟨B.exec, B.bytes, B.returns, atoms_spec (ws := v) B.pre, findClass_of_methodNamed B.named, B.notSynchronized, (name_of_methodNamed B.named B.method).1, hml⟩ hP hK hD hN (fun q h => Or.inr h) va_S.rf hl
theorem c_ref {l : Launch} {S : Type} {post : S → Prop} {w1 : S → Nat → va_W} {y : MethodName} {v v' : List Cond} {rm : Room} {cc : ByteArray} {maxL : Nat} {ret : Option FieldType} {av : List Value} {D : va_G} {E : Nat → ClassId} {ws : va_W} {sz mc ms : Nat} (hy : plainName y.cls = true) (hw : v = .code y cc maxL ret :: v') (hlen : (lg_sl av).length ≤ maxL)
    (body : ∀ (p : Program) (e : Env) (s : State) (m : MethodId) (below : List Frame) (meth : Method) (c : Code) (ls : Array Slot) (A : Nat → Prop), ent p s m av.toArray meth c y v cc maxL ret → va_P D vwCl ws s.heap → va_K D vwCl (tyE E) s → va_D A ws → nw s → (∀ q : Nat, s.heap.size ≤ q → A q) → va_S A s.heap s.heap [] → lv_has ls maxL (lv_args 0 av) → W p l e (headSpec v rm).room s m av.toArray below meth c s.heap [] 0 0 (MQ below (qR post w1 D A) av.toArray s mc ms A) (F0 m 0 ls [])) :
    Met l y v rm (va_Pc av (pre D E ws sz)) (qR post w1 D (va_A ws sz)) mc ms (va_A ws sz) := by
  refine Met.ofW (cc := cc) (maxL := maxL) (ret := ret) hy hw ?_
  intro p e s m args below meth c s₁ B hml hv
  obtain ⟨rfl, hsz, hP, hK, hD0, hN⟩ := hv
  subst hsz
  have hD := hD0.self (sz := s.heap.size)
  have hl := lv_entry av (n := maxL) hlen
  rw [lg_entry_eq]
  generalize (lg_sl av ++ List.replicate (maxL - (lg_sl av).length) Slot.unset).toArray = ls at hl ⊢
  exact body p e s m below meth c ls _ ⟨B.exec, B.bytes, B.returns, atoms_spec (ws := v) B.pre, findClass_of_methodNamed B.named, B.notSynchronized, (name_of_methodNamed B.named B.method).1, hml⟩ hP hK hD hN (fun q h => Or.inr h) va_S.rf hl
/-- a contract of a method that only reads: its answer, the heap as it was -/
theorem c_read {l : Launch} {post : Int32 → Prop} {y : MethodName} {v v' : List Cond} {rm : Room} {cc : ByteArray} {maxL : Nat} {ret : Option FieldType} {av : List Value} {D : va_G} {E : Nat → ClassId} {ws : va_W} {sz : Nat} (hy : plainName y.cls = true) (hw : v = .code y cc maxL ret :: v') (hlen : (lg_sl av).length ≤ maxL)
    (body : ∀ (p : Program) (e : Env) (s : State) (m : MethodId) (below : List Frame) (meth : Method) (c : Code) (ls : Array Slot), ent p s m av.toArray meth c y v cc maxL ret → va_P D vwCl ws s.heap → va_K D vwCl (tyE E) s → va_D (fun _ => True) ws → nw s → lv_has ls maxL (lv_args 0 av) → W p l e (headSpec v rm).room s m av.toArray below meth c s.heap [] 0 0 (MQ below (vp_Si post) av.toArray s 0 0 (fun _ => False)) (F0 m 0 ls [])) :
    Met l y v rm (va_Pc av (pre D E ws sz)) (vp_Si post) 0 0 (fun _ => False) := by
  refine Met.ofW (cc := cc) (maxL := maxL) (ret := ret) hy hw ?_
  intro p e s m args below meth c s₁ B hml hv
  obtain ⟨rfl, hsz, hP, hK, hD0, hN⟩ := hv
  have hl := lv_entry av (n := maxL) hlen
  rw [lg_entry_eq]
  generalize (lg_sl av ++ List.replicate (maxL - (lg_sl av).length) Slot.unset).toArray = ls at hl ⊢
  exact body p e s m below meth c ls ⟨B.exec, B.bytes, B.returns, atoms_spec (ws := v) B.pre, findClass_of_methodNamed B.named, B.notSynchronized, (name_of_methodNamed B.named B.method).1, hml⟩ hP hK hD0 hN hl
