/-! THE LAW FROM ITS ENTRY -/
theorem lt_1 {w : Cond} (h : w ∈ tables_1) : w ∈ lw_tbl := List.mem_append_right _ h
theorem q_n11 : Cond.methodLinkNest RX3 11 yX0_init RX3 ∈ lw_tbl := lt_1 (List.mem_of_getElem? (i := 19) (by decide +kernel))
theorem q_n18 : Cond.methodLinkNest RX3 18 yX2_init RX3 ∈ lw_tbl := lt_1 (List.mem_of_getElem? (i := 72) (by decide +kernel))
theorem q_n25 : Cond.methodLinkNest RX3 25 yX1_init RX3 ∈ lw_tbl := lt_1 (List.mem_of_getElem? (i := 94) (by decide +kernel))
theorem q_ao : Cond.arrayOver (.object RX0) ∈ lw_tbl := lt_1 (List.mem_of_getElem? (i := 107) (by decide +kernel))
theorem q_n19 : Cond.methodLinkNest RX1 19 yX3_isLetter RX3 ∈ lw_tbl := lt_1 (List.mem_of_getElem? (i := 141) (by decide +kernel))
theorem q_n60 : Cond.methodLinkNest RX0 60 yX3_isNumber RX3 ∈ lw_tbl := lt_1 (List.mem_of_getElem? (i := 273) (by decide +kernel))
theorem q_c3 : Cond.classLink RL 7 RX3 ∈ lw_tbl := iwsL_law_r1 _ (List.mem_of_getElem? (i := 0) rfl)
theorem q_i3 : Cond.instantiable RX3 7 ∈ lw_tbl := iwsL_law_r1 _ (List.mem_of_getElem? (i := 1) rfl)
theorem q_z3 : Cond.initialized RX3 ∈ lw_tbl := iwsL_law_r1 _ (List.mem_of_getElem? (i := 2) rfl)
theorem q_c4 : Cond.classLink RL 10 RX4 ∈ lw_tbl := iwsL_law_r1 _ (List.mem_of_getElem? (i := 3) rfl)
theorem q_i4 : Cond.instantiable RX4 12 ∈ lw_tbl := iwsL_law_r1 _ (List.mem_of_getElem? (i := 4) rfl)
theorem q_z4 : Cond.initialized RX4 ∈ lw_tbl := iwsL_law_r1 _ (List.mem_of_getElem? (i := 5) rfl)
theorem q_m3 : Cond.methodLink RL 9 yX3_init ∈ lw_tbl := iwsL_law_r1 _ (List.mem_of_getElem? (i := 6) rfl)
theorem q_y3 : Cond.instanceMethod yX3_init ∈ lw_tbl := iwsL_law_r1 _ (List.mem_of_getElem? (i := 7) rfl)
theorem q_i0 : Cond.instantiable RX0 11 ∈ lw_tbl := iwsL_law_r1 _ (List.mem_of_getElem? (i := 13) rfl)
theorem q_i2 : Cond.instantiable RX2 4 ∈ lw_tbl := iwsL_law_r1 _ (List.mem_of_getElem? (i := 17) rfl)
theorem q_i1 : Cond.instantiable RX1 2 ∈ lw_tbl := iwsL_law_r1 _ (List.mem_of_getElem? (i := 21) rfl)
theorem q_m4 : Cond.methodLink RL 12 yX4_init ∈ lw_tbl := iwsL_law_r3 _ (List.mem_of_getElem? (i := 1) rfl)
theorem q_y4 : Cond.instanceMethod yX4_init ∈ lw_tbl := iwsL_law_r3 _ (List.mem_of_getElem? (i := 2) rfl)
theorem hd_X3_init : yX3_init.cls ≠ "java/lang/invoke/MethodHandle" ∧ yX3_init.cls ≠ "java/lang/invoke/VarHandle" ∧ (parseMethodDescriptor yX3_init.desc).map (fun d => d.parameters.length) = some 0 := by decide +kernel
theorem hd_X4_init : yX4_init.cls ≠ "java/lang/invoke/MethodHandle" ∧ yX4_init.cls ≠ "java/lang/invoke/VarHandle" ∧ (parseMethodDescriptor yX4_init.desc).map (fun d => d.parameters.length) = some 0 := by decide +kernel
/-- the last cell of a list, for a call on it alone: what the callee may write is ours, and is apart from the other cells -/
theorem ca_last {D : va_G} {cl : List vw_C} {A : Nat → Prop} {ws : va_W} {x : Nat × va_E} {H H0 : Heap} {locs : List Loc} (hP : va_P D cl (ws ++ [x]) H) (hD : va_D A (ws ++ [x])) (hS : va_S A H0 H locs) (hA : ∀ q, H0.size ≤ q → A q) : va_P D cl [x] H ∧ va_D (fun _ => True) [x] ∧ (∀ a, va_A [x] H.size a → A a) ∧ va_P D cl ws H ∧ va_D A ws ∧ ∀ (k : Nat) (w : Nat × va_E), ws[k]? = some w → w.1 < H.size ∧ ¬ va_A [x] H.size w.1 := by
  have hq : (ws ++ [x])[ws.length]? = some x := by simp
  have hlt : ∀ (k : Nat) (w : Nat × va_E), ws[k]? = some w → (ws ++ [x])[k]? = some w := fun k w h => by
    rw [List.getElem?_append_left (List.getElem?_eq_some_iff.mp h).1]
    exact h
  refine ⟨fun k w h => ?_, ⟨fun i j a b hi hj _ => ?_, fun _ _ _ => trivial⟩, fun a h => ?_, fun k w h => hP k w (hlt k w h), ⟨fun i j a b hi hj e => hD.1 i j a b (hlt i a hi) (hlt j b hj) e, fun k w h => hD.2 k w (hlt k w h)⟩, fun k w h => ⟨(hP k w (hlt k w h)).lt, fun hh => ?_⟩⟩
  · have hk : k < 1 := (List.getElem?_eq_some_iff.mp h).1
    rw [show k = 0 by omega] at h
    cases h
    exact hP _ _ hq
  · have h1 : i < 1 := (List.getElem?_eq_some_iff.mp hi).1
    have h2 : j < 1 := (List.getElem?_eq_some_iff.mp hj).1
    omega
  · rcases h with ⟨k, e, h⟩ | h
    · have hk : k < 1 := (List.getElem?_eq_some_iff.mp h).1
      rw [show k = 0 by omega] at h
      have e1 : x = (a, e) := by cases h; rfl
      have := hD.2 _ _ hq
      rw [e1] at this
      exact this
    · exact hA a (Nat.le_trans hS.1 h)
  · rcases hh with ⟨k2, e2, h2⟩ | h2
    · have hk : k2 < 1 := (List.getElem?_eq_some_iff.mp h2).1
      rw [show k2 = 0 by omega] at h2
      have e3 : x.1 = w.1 := by cases h2; rfl
      have := hD.1 k ws.length w _ (hlt k w h) hq e3.symm
      have h4 := (List.getElem?_eq_some_iff.mp h).1
      omega
    · have := (hP k w (hlt k w h)).lt
      omega
set_option maxHeartbeats 8000000 in
set_option maxRecDepth 100000 in
/-- from the entry to the loop -/
theorem lw_start {p : Program} {e : Env} {s : State} {m : MethodId} {below : List Frame} {meth : Method} {c : Code} (l : Launch) {b L : Nat} {xs : Nat → Int32} (hL : L ≤ 2048) (hx : p.tables.exec = Jvm.exec) (hb : c.code = code) (hr : meth.sig.returnType = ret) (hml : c.maxLocals = 4) (hown : s.vm.findClass RL = some m.cls) (hts : ∀ w ∈ lw_tbl, w.before #[Value.ref b] s = true) (hX : va_X b L xs s s.heap) (hbl : b < s.heap.size) (hlocks : meth.locks = false) {Q : State → Prop} {ls : Array Slot} (hl : lv_has ls 4 [(0, .ref b)])
    (hend : ∀ (H : Heap) (locs : List Loc) (ls : Array Slot), va_S (fun q : Nat => s.heap.size ≤ q) s.heap H locs → W p l e room_1 s m #[Value.ref b] below meth c H locs (0 + 1 + 43 + 1 + 8) (0 + 7 + 1414 + 12 + 1621) Q (F0 m 675 ls [])) : W p l e room_1 s m #[Value.ref b] below meth c s.heap [] 0 0 Q (F0 m 0 ls []) := by
  have S : CallFix p m c cL_law 4 s #[Value.ref b] wsL_law RL := ⟨hx, hb, hml, hown, fun w h => hts w (wsL_law_in w h)⟩
  have hA : ∀ q : Nat, s.heap.size ≤ q → (fun q : Nat => s.heap.size ≤ q) q := fun _ h => h
  obtain ⟨c0, iS0, hKn0⟩ := u_known (C := RX0) (T := TX0) (N := 11) (n := 11) hts inX0 (hts _ q_i0)
  obtain ⟨c1, iS1, hKn1⟩ := u_known (C := RX1) (T := TX1) (N := 2) (n := 2) hts inX1 (hts _ q_i1)
  obtain ⟨c2, iS2, hKn2⟩ := u_known (C := RX2) (T := TX2) (N := 4) (n := 4) hts inX2 (hts _ q_i2)
  obtain ⟨c3, iS3, hKn3⟩ := u_known (C := RX3) (T := TX3) (N := 7) (n := 7) hts inX3 (hts _ q_i3)
  obtain ⟨c4, iS4, hKn4⟩ := u_known (C := RX4) (T := TX4) (N := 12) (n := 12) hts inX4 (hts _ q_i4)
  obtain ⟨D, hKc⟩ : ∃ D : va_G, ∀ (k : Nat) (q : vw_C), vwCl[k]? = some q → u_Kn s q.1 q.2.1 q.2.2 (D.1 k) (D.2 k) := by
    refine ⟨(fun k => if k = 0 then c0 else if k = 1 then c1 else if k = 2 then c2 else if k = 3 then c3 else c4, fun k => if k = 0 then iS0 else if k = 1 then iS1 else if k = 2 then iS2 else if k = 3 then iS3 else iS4), ?_⟩
    intro k q hq
    match k, hq with
    | 0, hq => cases hq; exact hKn0
    | 1, hq => cases hq; exact hKn1
    | 2, hq => cases hq; exact hKn2
    | 3, hq => cases hq; exact hKn3
    | 4, hq => cases hq; exact hKn4
    | k + 5, hq => simp [vwCl] at hq
  have hS : va_S (fun q : Nat => s.heap.size ≤ q) s.heap s.heap [] := va_S.rf
  have hK : va_K D vwCl [] s := ⟨hKc, fun k q h => by simp at h⟩
  have hP : va_P D vwCl [] s.heap := fun k q h => by simp at h
  have hD : va_D (fun q : Nat => s.heap.size ≤ q) [] := ⟨fun i j p q h => by simp at h, fun k q h => by simp at h⟩
  have hN11 : va_Nw (.methodLinkNest RX3 11 yX0_init RX3) s := va_Nw.of rfl (hts _ q_n11)
  have hN18 : va_Nw (.methodLinkNest RX3 18 yX2_init RX3) s := va_Nw.of rfl (hts _ q_n18)
  have hN25 : va_Nw (.methodLinkNest RX3 25 yX1_init RX3) s := va_Nw.of rfl (hts _ q_n25)
  have hN19 : va_Nw (.methodLinkNest RX1 19 yX3_isLetter RX3) s := va_Nw.of rfl (hts _ q_n19)
  have hN60 : va_Nw (.methodLinkNest RX0 60 yX3_isNumber RX3) s := va_Nw.of rfl (hts _ q_n60)
  have hAO : va_AO RX0 s := va_AO.of (hts _ q_ao)
  refine va_new (ci := 3) (fs := [.null, .null, .null, .null, .null, .int 0, .int 0]) (C := RX3) (T := TX3) (N := 7) hx hb hts inX3 tyX3 tyX3_ok hown (hts _ q_c3) (hts _ q_i3) (hts _ q_z3) hK hP hD hS hA rfl (fun j hj => by
    have : j = 0 ∨ j = 1 ∨ j = 2 ∨ j = 3 ∨ j = 4 ∨ j = 5 ∨ j = 6 := by omega
    rcases this with rfl | rfl | rfl | rfl | rfl | rfl | rfl <;> rfl) (Nat.le_of_ble_eq_true rfl) (Nat.le_of_ble_eq_true rfl) dL_law_0 (fun h0 H hP hD hS => ?_)
  obtain ⟨hPc, hDc, hFc, -, -, -⟩ := ca_last (ws := []) hP hD hS hA
  refine lv_dup hx hb dL_law_3 rfl ?_
  have hKe : va_K D vwCl [] s := hK
  refine va_callv (va_runI (As := []) (rest := [.ref h0]) S (c_X3_init l D h0 H.size) (cwI 0 S.2.2.2.2 gL_law_X3_init rfl rfl rfl (hts _ q_z3) (hts _ q_m3) (hts _ q_y3) rfl hd_X3_init ⟨Nat.le_of_ble_eq_true rfl, Nat.le_of_ble_eq_true rfl⟩) ⟨fun a U g mk q => by
    obtain ⟨q0, q1, qP, qK, ⟨n1, n2, n3, n4⟩, qD⟩ := q
    exact ⟨q0, q1, qP, va_K.moved (u := U) (U := U.calling g mk a) (Vm.Alike.refl U.vm) qK, ⟨va_Nw.same (u := U) rfl rfl n1, va_Nw.same (u := U) rfl rfl n2, va_Nw.same (u := U) rfl rfl n3, va_AO.moved (u := U) (Vm.Alike.refl U.vm) n4⟩, qD⟩, fun U hU hW => ⟨rfl, by rw [hU], by rw [hU]; exact hPc, va_K.moved hW.alike hKe, ⟨va_Nw.warmM hW hN11, va_Nw.warmM hW hN18, va_Nw.warmM hW hN25, va_AO.moved hW.alike hAO⟩, hDc⟩⟩ rfl rfl hl.1 rfl (lv_room (Nat.le_of_ble_eq_true rfl)) dL_law_4 ⟨Nat.le_of_ble_eq_true rfl, Nat.le_of_ble_eq_true rfl⟩) hS (fun q _ h => hFc q h) hFc (fun u t H1 locs1 ht hvm hw hB hz1 hk1 hS => ?_)
  obtain ⟨ad, cI, cB, cH, rfl, hP1, hK1, hD1⟩ := hB
  rw [ht] at hP1
  have hK1 := va_K.moved hvm.symm hK1
  have hD2 := hD1.weaken (fun k w _ h => hFc w.1 h)
  have hZ : zK D (ad, cI, cB, cH) s := ⟨hK1, hN19, hN60⟩
  clear hP hD hPc hDc hFc hk1 hz1 hD1
  refine lv_astore_n (lv' := [(1, .ref (ad 42)), (0, .ref b)]) hx hb dL_law_7 rfl hl (by decide) rfl (fun ls hl => ?_)
  refine va_new (ci := 4) (fs := mdNew) (C := RX4) (T := TX4) (N := 12) hx hb hts inX4 tyX4 tyX4_ok hown (hts _ q_c4) (hts _ q_i4) (hts _ q_z4) hK hP1 hD2 hS hA rfl (fun j hj => by
    have : j = 0 ∨ j = 1 ∨ j = 2 ∨ j = 3 ∨ j = 4 ∨ j = 5 ∨ j = 6 ∨ j = 7 ∨ j = 8 ∨ j = 9 ∨ j = 10 ∨ j = 11 := by omega
    rcases this with rfl | rfl | rfl | rfl | rfl | rfl | rfl | rfl | rfl | rfl | rfl | rfl <;> rfl) (Nat.le_of_ble_eq_true rfl) (Nat.le_of_ble_eq_true rfl) dL_law_8 (fun m0 H2 hP hD hS => ?_)
  obtain ⟨hPc, hDc, hFc, hPw, hDw, apart⟩ := ca_last hP hD hS hA
  refine lv_dup hx hb dL_law_11 rfl ?_
  refine va_callv (va_runI (As := []) (rest := [.ref m0]) S (c_X4_init l D (ad, cI, cB, cH) m0 H2.size) (cwI 0 S.2.2.2.2 gL_law_X4_init rfl rfl rfl (hts _ q_z4) (hts _ q_m4) (hts _ q_y4) rfl hd_X4_init ⟨Nat.le_of_ble_eq_true rfl, Nat.le_of_ble_eq_true rfl⟩) ⟨fun a U g mk q => by
    obtain ⟨q0, q1, qP, qZ, qD⟩ := q
    exact ⟨q0, q1, qP, zK.same (s := U) rfl qZ, qD⟩, fun U hU hW => ⟨rfl, by rw [hU], by rw [hU]; exact hPc, hZ.warm hW, hDc⟩⟩ rfl rfl hl.1 rfl (lv_room (Nat.le_of_ble_eq_true rfl)) dL_law_12 ⟨Nat.le_of_ble_eq_true rfl, Nat.le_of_ble_eq_true rfl⟩) hS (fun q _ h => hFc q h) hFc (fun u t H3 locs3 ht hvm hw hB hz1 hk1 hS => ?_)
  obtain ⟨ad2, mm, rfl, J, hP3, hD3⟩ := hB
  rw [ht] at hP3
  have hPx : va_P D vwCl (zw_ws 44 ad (zc shC (ad, cI, cB, cH) zS0)) H3 := fun k w h => by
    obtain ⟨g1, g2⟩ := apart k w h
    exact (hPw k w h).kept (hk1 w.1 g1 g2)
  have hZ2 : zK D (ad2, cI, cB, cH) s := hZ
  have XX : LX 44 (ad, cI, cB, cH) 9 (ad2, cI, cB, cH) s := by
    refine ⟨fun i j hi hj e => ?_, fun i hi => ?_, fun j hj => ?_⟩
    · exact (apart i _ (zw_get hi rfl)).2 (by
        have h5 := hD3.2 j _ (zw_get hj rfl)
        show va_A _ _ (ad i)
        rw [show ad i = ad2 j from e]
        exact h5)
    · exact hDw.2 i _ (zw_get hi rfl)
    · exact hFc _ (hD3.2 j _ (zw_get hj rfl))
  refine lv_astore_n (lv' := [(2, .ref (ad2 0)), (1, .ref (ad 42)), (0, .ref b)]) hx hb dL_law_15 rfl hl (by decide) rfl (fun ls hl => ?_)
  refine lv_iconst (v := nI 0) hx hb dL_law_16 (by decide) ?_
  refine lv_istore_n (lv' := [(3, .int (nI 0)), (2, .ref (ad2 0)), (1, .ref (ad 42)), (0, .ref b)]) hx hb dL_law_17 rfl hl (by decide) rfl (fun ls hl => ?_)
  exact lw_loop (X1 := (ad, cI, cB, cH)) (X2 := (ad2, cI, cB, cH)) S hZ hZ2 (zw_Di hDw) (zw_Di hD3) XX hX hbl hL ⟨Nat.le_of_ble_eq_true rfl, Nat.le_of_ble_eq_true rfl⟩ hend (L + 4) 0 ls zS0 mm H3 locs3 (by omega) (by omega) (lv_sub hl [3, 2, 1, 0] rfl) J ⟨hPx, hP3, hS⟩
