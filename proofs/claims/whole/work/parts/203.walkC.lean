/-! SoldLetters.addWords: a walk -/
theorem hd_X3_addWords : yX3_addWords.cls = RX3 ∧ yX3_addWords.cls ≠ "java/lang/invoke/MethodHandle" ∧ yX3_addWords.cls ≠ "java/lang/invoke/VarHandle" ∧ (parseMethodDescriptor yX3_addWords.desc).map (fun d => d.parameters.length) = some 0 := by decide +kernel
theorem m0_X3_addWords : Cond.fieldLink RX3 26 RX3 (TX3 2).2.1 (TX3 2).2.2.1 ∈ wsX3_addWords := by decide +kernel
theorem m1_X3_addWords : ∀ w ∈ u_ws RX3 TX3 7, w ∈ wsX3_addWords := by decide +kernel
theorem m2_X3_addWords : Cond.fieldLink RX3 12 RX3 (TX3 0).2.1 (TX3 0).2.2.1 ∈ wsX3_addWords := by decide +kernel
theorem m3_X3_addWords : Cond.fieldLink RX3 85 RX0 (TX0 5).2.1 (TX0 5).2.2.1 ∈ wsX3_addWords := by decide +kernel
theorem m4_X3_addWords : ∀ w ∈ u_ws RX0 TX0 11, w ∈ wsX3_addWords := by decide +kernel
theorem m5_X3_addWords : Cond.fieldLink RX3 88 RX1 (TX1 1).2.1 (TX1 1).2.2.1 ∈ wsX3_addWords := by decide +kernel
theorem m6_X3_addWords : ∀ w ∈ u_ws RX1 TX1 2, w ∈ wsX3_addWords := by decide +kernel
set_option maxHeartbeats 4000000 in
set_option maxRecDepth 100000 in
theorem tl_X3_addWords_52 {l : Launch} {D : va_G} {X : zE} {p : Program} {e : Env} {s : State} {m : MethodId} {args : Array Value} {below : List Frame} {meth : Method} {c : Code} (S : zS p m meth c cX3_addWords 4 (some .int) s args wsX3_addWords RX3 D 44 X) {r : Int32} {z1 : zV} : ∀ (n_ : Nat), ∀ (z0 : zV) (x2 : Int32) (x3 : Int32), l_X3_addWords_52 n_ z0 x2 x3 = some (r, z1) → Zj true D 44 X p l e (zrm 4 104) s m args below meth c (MQ below (zQw D 44 X (zc shC X z1) (some (.int r))) args s 0 0 (zw_A 44 X.1)) 4 52 [(0, .ref (X.1 42)), (2, .int x2), (3, .int x3)] [] (zc shC X z0) := by
  intro n_
  induction n_ with
  | zero =>
    intro z0 x2 x3 h
    cases h
  | succ n_ ih =>
    intro z0 x2 x3 h
    rw [l_X3_addWords_52] at h
    refine z_iload_n S 2 dX3_addWords_52 rfl rfl ?_
    refine z_aload_n S 0 dX3_addWords_53 rfl rfl ?_
    refine z_get S (C := RX3) (T := TX3) (N := 7) (ci := 3) 2 m0_X3_addWords m1_X3_addWords (Nat.le_of_ble_eq_true rfl) (cC_42 X z0) rfl (Nat.le_of_ble_eq_true rfl) rfl rfl dX3_addWords_54 ?_
    refine z_get S (C := RX1) (T := TX1) (N := 2) (ci := 1) 1 m5_X3_addWords m6_X3_addWords (Nat.le_of_ble_eq_true rfl) (cC_40 X z0) rfl (Nat.le_of_ble_eq_true rfl) rfl rfl dX3_addWords_57 ?_
    refine z_icmp_ge S (tgt := 93) dX3_addWords_60 (by decide) h (fun h => ?_) (fun h => ?_)
    · refine z_iload_n S 1 dX3_addWords_93 rfl rfl ?_
      exact z_iret_w S dX3_addWords_94 h
    · refine z_aload_n S 0 dX3_addWords_63 rfl rfl ?_
      refine z_get S (C := RX3) (T := TX3) (N := 7) (ci := 3) 2 m0_X3_addWords m1_X3_addWords (Nat.le_of_ble_eq_true rfl) (cC_42 X z0) rfl (Nat.le_of_ble_eq_true rfl) rfl rfl dX3_addWords_64 ?_
      refine z_iload_n S 2 dX3_addWords_67 rfl rfl ?_
      obtain ⟨v_68, hv_68, h⟩ := ob_some h
      refine z_callV_r (As := [.int x3]) S (c_X1_startsWord l D X _ _ S.2.2.1 hv_68) (cwV 1 S.1.2.2.2.2 gX3_addWords_X1_startsWord rfl rfl rfl hd_X1_startsWord ⟨Nat.le_of_ble_eq_true rfl, Nat.le_of_ble_eq_true rfl⟩) (Nat.le_of_ble_eq_true rfl) (cC_40 X z0) rfl rfl rfl (Nat.le_of_ble_eq_true rfl) rfl dX3_addWords_68 ?_
      refine z_if_eq S (tgt := 87) dX3_addWords_71 (by decide) h (fun h => ?_) (fun h => ?_)
      · refine z_iinc S 2 [(3, .int (x3 + nI 1)), (0, .ref (X.1 42)), (2, .int x2)] dX3_addWords_87 rfl rfl (Nat.le_of_ble_eq_true rfl) rfl ?_
        refine z_goto S (tgt := 52) dX3_addWords_90 (by decide) ?_
        exact z_lv [1, 2, 0] rfl (ih _ _ _ h)
      · refine z_aload_n S 0 dX3_addWords_74 rfl rfl ?_
        refine z_iload_n S 2 dX3_addWords_75 rfl rfl ?_
        obtain ⟨v_76, hv_76, h⟩ := ob_some h
        refine z_callV_r (As := [.int x3]) S (c_X3_isListed l D X _ _ S.2.2.1 hv_76) (cwV 1 S.1.2.2.2.2 gX3_addWords_X3_isListed rfl rfl rfl hd_X3_isListed ⟨Nat.le_of_ble_eq_true rfl, Nat.le_of_ble_eq_true rfl⟩) (Nat.le_of_ble_eq_true rfl) (cC_42 X z0) rfl rfl rfl (Nat.le_of_ble_eq_true rfl) rfl dX3_addWords_76 ?_
        refine z_if_ne S (tgt := 87) dX3_addWords_79 (by decide) h (fun h => ?_) (fun h => ?_)
        · refine z_iinc S 2 [(3, .int (x3 + nI 1)), (0, .ref (X.1 42)), (2, .int x2)] dX3_addWords_87 rfl rfl (Nat.le_of_ble_eq_true rfl) rfl ?_
          refine z_goto S (tgt := 52) dX3_addWords_90 (by decide) ?_
          exact z_lv [1, 2, 0] rfl (ih _ _ _ h)
        · refine z_aload_n S 0 dX3_addWords_82 rfl rfl ?_
          refine z_iload_n S 2 dX3_addWords_83 rfl rfl ?_
          obtain ⟨z_84, hv_84, h⟩ := ob_some h
          refine z_callV_w (As := [.int x3]) S (c_X3_appendToList l D X _ _ S.2.2.1 hv_84) (cwV 1 S.1.2.2.2.2 gX3_addWords_X3_appendToList rfl rfl rfl hd_X3_appendToList ⟨Nat.le_of_ble_eq_true rfl, Nat.le_of_ble_eq_true rfl⟩) (Nat.le_of_ble_eq_true rfl) (cC_42 X z0) rfl rfl rfl (Nat.le_of_ble_eq_true rfl) rfl dX3_addWords_84 ?_
          refine z_iinc S 2 [(3, .int (x3 + nI 1)), (0, .ref (X.1 42)), (2, .int x2)] dX3_addWords_87 rfl rfl (Nat.le_of_ble_eq_true rfl) rfl ?_
          refine z_goto S (tgt := 52) dX3_addWords_90 (by decide) ?_
          exact z_lv [1, 2, 0] rfl (ih _ _ _ h)
set_option maxHeartbeats 4000000 in
set_option maxRecDepth 100000 in
theorem c_X3_addWords (l : Launch) (D : va_G) (X : zE) (z0 : zV) (hinj : zw_inj 44 X.1) {r : Int32} {z1 : zV} (h : f_X3_addWords z0 = some (r, z1)) : zMw l yX3_addWords wsX3_addWords (zrm 4 104) D 44 X (zc shC X z0) [.ref (X.1 42)] (some (.int r)) (zc shC X z1) := by
  rw [f_X3_addWords] at h
  refine z_start_w (cc := cX3_addWords) (maxL := 4) (ret := (some .int)) (by decide) rfl (Nat.le_of_ble_eq_true rfl) hinj ?_
  intro p e s m below meth c S
  refine z_aload_n S 0 dX3_addWords_0 rfl rfl ?_
  refine z_get S (C := RX3) (T := TX3) (N := 7) (ci := 3) 2 m0_X3_addWords m1_X3_addWords (Nat.le_of_ble_eq_true rfl) (cC_42 X z0) rfl (Nat.le_of_ble_eq_true rfl) rfl rfl dX3_addWords_1 ?_
  obtain ⟨v_4, hv_4, h⟩ := ob_some h
  refine z_callV_r (As := []) S (c_X1_faultAsWords l D X _ S.2.2.1 hv_4) (cwV 0 S.1.2.2.2.2 gX3_addWords_X1_faultAsWords rfl rfl rfl hd_X1_faultAsWords ⟨Nat.le_of_ble_eq_true rfl, Nat.le_of_ble_eq_true rfl⟩) (Nat.le_of_ble_eq_true rfl) (cC_40 X z0) rfl rfl rfl (Nat.le_of_ble_eq_true rfl) rfl dX3_addWords_4 ?_
  refine z_istore_n S [(1, .int v_4), (0, .ref (X.1 42))] dX3_addWords_7 rfl (Nat.le_of_ble_eq_true rfl) rfl ?_
  refine z_iload_n S 0 dX3_addWords_8 rfl rfl ?_
  refine z_if_lt S (tgt := 17) dX3_addWords_9 (by decide) h (fun h => ?_) (fun h => ?_)
  · refine z_aload_n S 1 dX3_addWords_17 rfl rfl ?_
    obtain ⟨v_18, hv_18, h⟩ := ob_some h
    refine z_callV_r (As := []) S (c_X3_newWordsInText l D X _ S.2.2.1 hv_18) (cwV 0 S.1.2.2.2.2 gX3_addWords_X3_newWordsInText rfl rfl rfl hd_X3_newWordsInText ⟨Nat.le_of_ble_eq_true rfl, Nat.le_of_ble_eq_true rfl⟩) (Nat.le_of_ble_eq_true rfl) (cC_42 X z0) rfl rfl rfl (Nat.le_of_ble_eq_true rfl) rfl dX3_addWords_18 ?_
    refine z_istore_n S [(2, .int v_18), (1, .int v_4), (0, .ref (X.1 42))] dX3_addWords_21 rfl (Nat.le_of_ble_eq_true rfl) rfl ?_
    refine z_aload_n S 2 dX3_addWords_22 rfl rfl ?_
    refine z_get S (C := RX3) (T := TX3) (N := 7) (ci := 3) 0 m2_X3_addWords m1_X3_addWords (Nat.le_of_ble_eq_true rfl) (cC_42 X z0) rfl (Nat.le_of_ble_eq_true rfl) rfl rfl dX3_addWords_23 ?_
    refine z_get S (C := RX0) (T := TX0) (N := 11) (ci := 0) 5 m3_X3_addWords m4_X3_addWords (Nat.le_of_ble_eq_true rfl) (cC_0 X z0) rfl (Nat.le_of_ble_eq_true rfl) rfl rfl dX3_addWords_26 ?_
    refine z_iload_n S 0 dX3_addWords_29 rfl rfl ?_
    refine z_iadd S dX3_addWords_30 ?_
    refine z_bipush (v := (nI 12)) S dX3_addWords_31 (by decide) ?_
    refine z_icmp_le S (tgt := 39) dX3_addWords_33 (by decide) h (fun h => ?_) (fun h => ?_)
    · refine z_iload_n S 0 dX3_addWords_39 rfl rfl ?_
      refine z_if_ne S (tgt := 46) dX3_addWords_40 (by decide) h (fun h => ?_) (fun h => ?_)
      · refine z_aload_n S 2 dX3_addWords_46 rfl rfl ?_
        obtain ⟨z_47, hv_47, h⟩ := ob_some h
        refine z_callV_w (As := []) S (c_X3_remember l D X _ S.2.2.1 hv_47) (cwV 0 S.1.2.2.2.2 gX3_addWords_X3_remember rfl rfl rfl hd_X3_remember ⟨Nat.le_of_ble_eq_true rfl, Nat.le_of_ble_eq_true rfl⟩) (Nat.le_of_ble_eq_true rfl) (cC_42 X z0) rfl rfl rfl (Nat.le_of_ble_eq_true rfl) rfl dX3_addWords_47 ?_
        refine z_iconst (v := (nI 0)) S dX3_addWords_50 (by decide) ?_
        refine z_istore_n S [(3, .int (nI 0)), (2, .int v_18), (1, .int v_4), (0, .ref (X.1 42))] dX3_addWords_51 rfl (Nat.le_of_ble_eq_true rfl) rfl ?_
        exact z_lv [3, 1, 0] rfl (tl_X3_addWords_52 S _ _ _ _ h)
      · refine z_bipush (v := (-5)) S dX3_addWords_43 (by decide) ?_
        exact z_iret_w S dX3_addWords_45 h
    · refine z_bipush (v := (-3)) S dX3_addWords_36 (by decide) ?_
      exact z_iret_w S dX3_addWords_38 h
  · refine z_bipush (v := (-100)) S dX3_addWords_12 (by decide) ?_
    refine z_iload_n S 0 dX3_addWords_14 rfl rfl ?_
    refine z_isub S dX3_addWords_15 ?_
    exact z_iret_w S dX3_addWords_16 h
/-! SoldLetters.isInList: a walk -/
theorem hd_X3_isInList : yX3_isInList.cls = RX3 ∧ yX3_isInList.cls ≠ "java/lang/invoke/MethodHandle" ∧ yX3_isInList.cls ≠ "java/lang/invoke/VarHandle" ∧ (parseMethodDescriptor yX3_isInList.desc).map (fun d => d.parameters.length) = some 1 := by decide +kernel
theorem m0_X3_isInList : Cond.fieldLink RX3 12 RX3 (TX3 0).2.1 (TX3 0).2.2.1 ∈ wsX3_isInList := by decide +kernel
theorem m1_X3_isInList : ∀ w ∈ u_ws RX3 TX3 7, w ∈ wsX3_isInList := by decide +kernel
theorem m2_X3_isInList : Cond.fieldLink RX3 85 RX0 (TX0 5).2.1 (TX0 5).2.2.1 ∈ wsX3_isInList := by decide +kernel
theorem m3_X3_isInList : ∀ w ∈ u_ws RX0 TX0 11, w ∈ wsX3_isInList := by decide +kernel
set_option maxHeartbeats 4000000 in
set_option maxRecDepth 100000 in
theorem c_X3_isInList (l : Launch) (D : va_G) (X : zE) (z0 : zV) (a0 : Int32) (hinj : zw_inj 44 X.1) {r : Int32} (h : f_X3_isInList z0 a0 = some r) : zMr l yX3_isInList wsX3_isInList (zrm 0 0) D 44 X (zc shC X z0) [.ref (X.1 42), .int a0] (some (.int r)) := by
  rw [f_X3_isInList] at h
  refine z_start_r (cc := cX3_isInList) (maxL := 2) (ret := (some .boolean)) (by decide) rfl (Nat.le_of_ble_eq_true rfl) hinj ?_
  intro p e s m below meth c S
  refine z_iload_n S 1 dX3_isInList_0 rfl rfl ?_
  refine z_if_lt S (tgt := 19) dX3_isInList_1 (by decide) h (fun h => ?_) (fun h => ?_)
  · refine z_iconst (v := (nI 0)) S dX3_isInList_19 (by decide) ?_
    exact z_zret_r S dX3_isInList_20 h
  · refine z_iload_n S 1 dX3_isInList_4 rfl rfl ?_
    refine z_aload_n S 0 dX3_isInList_5 rfl rfl ?_
    refine z_get S (C := RX3) (T := TX3) (N := 7) (ci := 3) 0 m0_X3_isInList m1_X3_isInList (Nat.le_of_ble_eq_true rfl) (cC_42 X z0) rfl (Nat.le_of_ble_eq_true rfl) rfl rfl dX3_isInList_6 ?_
    refine z_get S (C := RX0) (T := TX0) (N := 11) (ci := 0) 5 m2_X3_isInList m3_X3_isInList (Nat.le_of_ble_eq_true rfl) (cC_0 X z0) rfl (Nat.le_of_ble_eq_true rfl) rfl rfl dX3_isInList_9 ?_
    refine z_icmp_ge S (tgt := 19) dX3_isInList_12 (by decide) h (fun h => ?_) (fun h => ?_)
    · refine z_iconst (v := (nI 0)) S dX3_isInList_19 (by decide) ?_
      exact z_zret_r S dX3_isInList_20 h
    · refine z_iconst (v := (nI 1)) S dX3_isInList_15 (by decide) ?_
      refine z_goto S (tgt := 20) dX3_isInList_16 (by decide) ?_
      exact z_zret_r S dX3_isInList_20 h
/-! SoldLetters$State.removeListed: a walk -/
theorem hd_X0_removeListed : yX0_removeListed.cls = RX0 ∧ yX0_removeListed.cls ≠ "java/lang/invoke/MethodHandle" ∧ yX0_removeListed.cls ≠ "java/lang/invoke/VarHandle" ∧ (parseMethodDescriptor yX0_removeListed.desc).map (fun d => d.parameters.length) = some 1 := by decide +kernel
theorem m0_X0_removeListed : Cond.fieldLink RX0 44 RX0 (TX0 5).2.1 (TX0 5).2.2.1 ∈ wsX0_removeListed := by decide +kernel
theorem m1_X0_removeListed : ∀ w ∈ u_ws RX0 TX0 11, w ∈ wsX0_removeListed := by decide +kernel
theorem m2_X0_removeListed : Cond.fieldLink RX0 22 RX0 (TX0 3).2.1 (TX0 3).2.2.1 ∈ wsX0_removeListed := by decide +kernel
theorem m3_X0_removeListed : Cond.methodLink RX0 38 arraycopyName ∈ wsX0_removeListed := by decide +kernel
theorem m4_X0_removeListed : Cond.native arraycopyName ∈ wsX0_removeListed := by decide +kernel
theorem m5_X0_removeListed : Cond.static arraycopyName ∈ wsX0_removeListed := by decide +kernel
theorem m6_X0_removeListed : Cond.initialized "java/lang/System" ∈ wsX0_removeListed := by decide +kernel
theorem m7_X0_removeListed : Cond.fieldLink RX0 25 RX0 (TX0 4).2.1 (TX0 4).2.2.1 ∈ wsX0_removeListed := by decide +kernel
set_option maxHeartbeats 4000000 in
set_option maxRecDepth 100000 in
theorem tl_X0_removeListed_12 {l : Launch} {D : va_G} {X : zE} {p : Program} {e : Env} {s : State} {m : MethodId} {args : Array Value} {below : List Frame} {meth : Method} {c : Code} (S : zS p m meth c cX0_removeListed 3 none s args wsX0_removeListed RX0 D 44 X) {z1 : zV} : ∀ (n_ : Nat), ∀ (z0 : zV) (x2 : Int32), l_X0_removeListed_12 n_ z0 x2 = some z1 → Zj true D 44 X p l e (zrm 1 60) s m args below meth c (MQ below (zQw D 44 X (zc shC X z1) none) args s 0 0 (zw_A 44 X.1)) 3 12 [(0, .ref (X.1 0)), (2, .int x2)] [] (zc shC X z0) := by
  intro n_
  induction n_ with
  | zero =>
    intro z0 x2 h
    cases h
  | succ n_ ih =>
    intro z0 x2 h
    rw [l_X0_removeListed_12] at h
    refine z_iload_n S 1 dX0_removeListed_12 rfl rfl ?_
    refine z_aload_n S 0 dX0_removeListed_13 rfl rfl ?_
    refine z_get S (C := RX0) (T := TX0) (N := 11) (ci := 0) 5 m0_X0_removeListed m1_X0_removeListed (Nat.le_of_ble_eq_true rfl) (cC_0 X z0) rfl (Nat.le_of_ble_eq_true rfl) rfl rfl dX0_removeListed_14 ?_
    refine z_icmp_ge S (tgt := 63) dX0_removeListed_17 (by decide) h (fun h => ?_) (fun h => ?_)
    · exact z_vret_w S dX0_removeListed_63 h
    · refine z_aload_n S 0 dX0_removeListed_20 rfl rfl ?_
      refine z_get S (C := RX0) (T := TX0) (N := 11) (ci := 0) 3 m2_X0_removeListed m1_X0_removeListed (Nat.le_of_ble_eq_true rfl) (cC_0 X z0) rfl (Nat.le_of_ble_eq_true rfl) rfl rfl dX0_removeListed_21 ?_
      refine z_iload_n S 1 dX0_removeListed_24 rfl rfl ?_
      refine z_iconst (v := (nI 1)) S dX0_removeListed_25 (by decide) ?_
      refine z_iadd S dX0_removeListed_26 ?_
      refine z_bipush (v := (nI 7)) S dX0_removeListed_27 (by decide) ?_
      refine z_imul S dX0_removeListed_29 ?_
      refine z_aload_n S 0 dX0_removeListed_30 rfl rfl ?_
      refine z_get S (C := RX0) (T := TX0) (N := 11) (ci := 0) 3 m2_X0_removeListed m1_X0_removeListed (Nat.le_of_ble_eq_true rfl) (cC_0 X z0) rfl (Nat.le_of_ble_eq_true rfl) rfl rfl dX0_removeListed_31 ?_
      refine z_iload_n S 1 dX0_removeListed_34 rfl rfl ?_
      refine z_bipush (v := (nI 7)) S dX0_removeListed_35 (by decide) ?_
      refine z_imul S dX0_removeListed_37 ?_
      refine z_bipush (v := (nI 7)) S dX0_removeListed_38 (by decide) ?_
      refine z_copy S (Nat.le_of_ble_eq_true rfl) (Nat.le_of_ble_eq_true rfl) (cC_4 X z0) (fun _ => rfl) rfl m3_X0_removeListed m4_X0_removeListed m5_X0_removeListed m6_X0_removeListed (Nat.le_of_ble_eq_true rfl) (Nat.le_of_ble_eq_true rfl) dX0_removeListed_40 h (fun z_40 h => ?_)
      refine z_aload_n S 0 dX0_removeListed_43 rfl rfl ?_
      refine z_get S (C := RX0) (T := TX0) (N := 11) (ci := 0) 4 m7_X0_removeListed m1_X0_removeListed (Nat.le_of_ble_eq_true rfl) (cC_0 X z_40) rfl (Nat.le_of_ble_eq_true rfl) rfl rfl dX0_removeListed_44 ?_
      refine z_iload_n S 1 dX0_removeListed_47 rfl rfl ?_
      refine z_aload_n S 0 dX0_removeListed_48 rfl rfl ?_
      refine z_get S (C := RX0) (T := TX0) (N := 11) (ci := 0) 4 m7_X0_removeListed m1_X0_removeListed (Nat.le_of_ble_eq_true rfl) (cC_0 X z_40) rfl (Nat.le_of_ble_eq_true rfl) rfl rfl dX0_removeListed_49 ?_
      refine z_iload_n S 1 dX0_removeListed_52 rfl rfl ?_
      refine z_iconst (v := (nI 1)) S dX0_removeListed_53 (by decide) ?_
      refine z_iadd S dX0_removeListed_54 ?_
      refine z_iald S (Nat.le_of_ble_eq_true rfl) (cC_5 X z_40) dX0_removeListed_55 h (fun v_55 h => ?_)
      refine z_iast S (Nat.le_of_ble_eq_true rfl) (fun _ => rfl) dX0_removeListed_56 h (fun z_56 h => ?_)
      refine z_iinc S 1 [(2, .int (x2 + nI 1)), (0, .ref (X.1 0))] dX0_removeListed_57 rfl rfl (Nat.le_of_ble_eq_true rfl) rfl ?_
      refine z_goto S (tgt := 12) dX0_removeListed_60 (by decide) ?_
      exact z_lv [1, 0] rfl (ih _ _ h)
set_option maxHeartbeats 4000000 in
set_option maxRecDepth 100000 in
theorem c_X0_removeListed (l : Launch) (D : va_G) (X : zE) (z0 : zV) (a0 : Int32) (hinj : zw_inj 44 X.1) {z1 : zV} (h : f_X0_removeListed z0 a0 = some z1) : zMw l yX0_removeListed wsX0_removeListed (zrm 1 60) D 44 X (zc shC X z0) [.ref (X.1 0), .int a0] none (zc shC X z1) := by
  rw [f_X0_removeListed] at h
  refine z_start_w (cc := cX0_removeListed) (maxL := 3) (ret := none) (by decide) rfl (Nat.le_of_ble_eq_true rfl) hinj ?_
  intro p e s m below meth c S
  refine z_aload_n S 0 dX0_removeListed_0 rfl rfl ?_
  refine z_dup S dX0_removeListed_1 rfl ?_
  refine z_get S (C := RX0) (T := TX0) (N := 11) (ci := 0) 5 m0_X0_removeListed m1_X0_removeListed (Nat.le_of_ble_eq_true rfl) (cC_0 X z0) rfl (Nat.le_of_ble_eq_true rfl) rfl rfl dX0_removeListed_2 ?_
  refine z_iconst (v := (nI 1)) S dX0_removeListed_5 (by decide) ?_
  refine z_isub S dX0_removeListed_6 ?_
  refine z_put S (C := RX0) (T := TX0) (N := 11) (ci := 0) 5 tyX0_ok nmX0 m0_X0_removeListed m1_X0_removeListed (Nat.le_of_ble_eq_true rfl) (cC_0 X z0) rfl (Nat.le_of_ble_eq_true rfl) rfl rfl rfl rfl (Nat.le_of_ble_eq_true rfl) rfl dX0_removeListed_7 h (fun z_7 h => ?_)
  refine z_iload_n S 1 dX0_removeListed_10 rfl rfl ?_
  refine z_istore_n S [(2, .int a0), (0, .ref (X.1 0)), (1, .int a0)] dX0_removeListed_11 rfl (Nat.le_of_ble_eq_true rfl) rfl ?_
  exact z_lv [1, 0] rfl (tl_X0_removeListed_12 S _ _ _ h)
/-! SoldLetters.dropWord: a walk -/
theorem hd_X3_dropWord : yX3_dropWord.cls = RX3 ∧ yX3_dropWord.cls ≠ "java/lang/invoke/MethodHandle" ∧ yX3_dropWord.cls ≠ "java/lang/invoke/VarHandle" ∧ (parseMethodDescriptor yX3_dropWord.desc).map (fun d => d.parameters.length) = some 1 := by decide +kernel
theorem m0_X3_dropWord : Cond.fieldLink RX3 12 RX3 (TX3 0).2.1 (TX3 0).2.2.1 ∈ wsX3_dropWord := by decide +kernel
theorem m1_X3_dropWord : ∀ w ∈ u_ws RX3 TX3 7, w ∈ wsX3_dropWord := by decide +kernel
theorem m2_X3_dropWord : Cond.fieldLink RX3 85 RX0 (TX0 5).2.1 (TX0 5).2.2.1 ∈ wsX3_dropWord := by decide +kernel
theorem m3_X3_dropWord : ∀ w ∈ u_ws RX0 TX0 11, w ∈ wsX3_dropWord := by decide +kernel
set_option maxHeartbeats 4000000 in
set_option maxRecDepth 100000 in
theorem c_X3_dropWord (l : Launch) (D : va_G) (X : zE) (z0 : zV) (a0 : Int32) (hinj : zw_inj 44 X.1) {r : Int32} {z1 : zV} (h : f_X3_dropWord z0 a0 = some (r, z1)) : zMw l yX3_dropWord wsX3_dropWord (zrm 3 104) D 44 X (zc shC X z0) [.ref (X.1 42), .int a0] (some (.int r)) (zc shC X z1) := by
  rw [f_X3_dropWord] at h
  refine z_start_w (cc := cX3_dropWord) (maxL := 2) (ret := (some .int)) (by decide) rfl (Nat.le_of_ble_eq_true rfl) hinj ?_
  intro p e s m below meth c S
  refine z_aload_n S 0 dX3_dropWord_0 rfl rfl ?_
  refine z_iload_n S 1 dX3_dropWord_1 rfl rfl ?_
  obtain ⟨v_2, hv_2, h⟩ := ob_some h
  refine z_callV_r (As := [.int a0]) S (c_X3_isInList l D X _ _ S.2.2.1 hv_2) (cwV 1 S.1.2.2.2.2 gX3_dropWord_X3_isInList rfl rfl rfl hd_X3_isInList ⟨Nat.le_of_ble_eq_true rfl, Nat.le_of_ble_eq_true rfl⟩) (Nat.le_of_ble_eq_true rfl) (cC_42 X z0) rfl rfl rfl (Nat.le_of_ble_eq_true rfl) rfl dX3_dropWord_2 ?_
  refine z_if_ne S (tgt := 10) dX3_dropWord_5 (by decide) h (fun h => ?_) (fun h => ?_)
  · refine z_aload_n S 0 dX3_dropWord_10 rfl rfl ?_
    obtain ⟨z_11, hv_11, h⟩ := ob_some h
    refine z_callV_w (As := []) S (c_X3_remember l D X _ S.2.2.1 hv_11) (cwV 0 S.1.2.2.2.2 gX3_dropWord_X3_remember rfl rfl rfl hd_X3_remember ⟨Nat.le_of_ble_eq_true rfl, Nat.le_of_ble_eq_true rfl⟩) (Nat.le_of_ble_eq_true rfl) (cC_42 X z0) rfl rfl rfl (Nat.le_of_ble_eq_true rfl) rfl dX3_dropWord_11 ?_
    refine z_aload_n S 0 dX3_dropWord_14 rfl rfl ?_
    refine z_get S (C := RX3) (T := TX3) (N := 7) (ci := 3) 0 m0_X3_dropWord m1_X3_dropWord (Nat.le_of_ble_eq_true rfl) (cC_42 X z_11) rfl (Nat.le_of_ble_eq_true rfl) rfl rfl dX3_dropWord_15 ?_
    refine z_iload_n S 1 dX3_dropWord_18 rfl rfl ?_
    obtain ⟨z_19, hv_19, h⟩ := ob_some h
    refine z_callV_w (As := [.int a0]) S (c_X0_removeListed l D X _ _ S.2.2.1 hv_19) (cwV 1 S.1.2.2.2.2 gX3_dropWord_X0_removeListed rfl rfl rfl hd_X0_removeListed ⟨Nat.le_of_ble_eq_true rfl, Nat.le_of_ble_eq_true rfl⟩) (Nat.le_of_ble_eq_true rfl) (cC_0 X z_11) rfl rfl rfl (Nat.le_of_ble_eq_true rfl) rfl dX3_dropWord_19 ?_
    refine z_aload_n S 0 dX3_dropWord_22 rfl rfl ?_
    refine z_get S (C := RX3) (T := TX3) (N := 7) (ci := 3) 0 m0_X3_dropWord m1_X3_dropWord (Nat.le_of_ble_eq_true rfl) (cC_42 X z_19) rfl (Nat.le_of_ble_eq_true rfl) rfl rfl dX3_dropWord_23 ?_
    refine z_get S (C := RX0) (T := TX0) (N := 11) (ci := 0) 5 m2_X3_dropWord m3_X3_dropWord (Nat.le_of_ble_eq_true rfl) (cC_0 X z_19) rfl (Nat.le_of_ble_eq_true rfl) rfl rfl dX3_dropWord_26 ?_
    exact z_iret_w S dX3_dropWord_29 h
  · refine z_iconst (v := (-1)) S dX3_dropWord_8 (by decide) ?_
    exact z_iret_w S dX3_dropWord_9 h
/-! SoldLetters.isNumber: a walk -/
theorem hd_X3_isNumber : yX3_isNumber.cls ≠ "java/lang/invoke/MethodHandle" ∧ yX3_isNumber.cls ≠ "java/lang/invoke/VarHandle" ∧ (parseMethodDescriptor yX3_isNumber.desc).map (fun d => d.parameters.length) = some 1 := by decide +kernel
set_option maxHeartbeats 4000000 in
set_option maxRecDepth 100000 in
theorem c_X3_isNumber (l : Launch) (D : va_G) (X : zE) (z0 : zV) (a0 : Int32) (hinj : zw_inj 44 X.1) {r : Int32} (h : f_X3_isNumber z0 a0 = some r) : zMr l yX3_isNumber wsX3_isNumber (zrm 0 0) D 44 X (zc shC X z0) [.int a0] (some (.int r)) := by
  rw [f_X3_isNumber] at h
  refine z_start_r (cc := cX3_isNumber) (maxL := 1) (ret := (some .boolean)) (by decide) rfl (Nat.le_of_ble_eq_true rfl) hinj ?_
  intro p e s m below meth c S
  refine z_iload_n S 0 dX3_isNumber_0 rfl rfl ?_
  refine z_iconst (v := (nI 1)) S dX3_isNumber_1 (by decide) ?_
  refine z_icmp_lt S (tgt := 15) dX3_isNumber_2 (by decide) h (fun h => ?_) (fun h => ?_)
  · refine z_iconst (v := (nI 0)) S dX3_isNumber_15 (by decide) ?_
    exact z_zret_r S dX3_isNumber_16 h
  · refine z_iload_n S 0 dX3_isNumber_5 rfl rfl ?_
    refine z_bipush (v := (nI 26)) S dX3_isNumber_6 (by decide) ?_
    refine z_icmp_gt S (tgt := 15) dX3_isNumber_8 (by decide) h (fun h => ?_) (fun h => ?_)
    · refine z_iconst (v := (nI 0)) S dX3_isNumber_15 (by decide) ?_
      exact z_zret_r S dX3_isNumber_16 h
    · refine z_iconst (v := (nI 1)) S dX3_isNumber_11 (by decide) ?_
      refine z_goto S (tgt := 16) dX3_isNumber_12 (by decide) ?_
      exact z_zret_r S dX3_isNumber_16 h
/-! SoldLetters$State.numberGuessedAs: a walk -/
theorem hd_X0_numberGuessedAs : yX0_numberGuessedAs.cls = RX0 ∧ yX0_numberGuessedAs.cls ≠ "java/lang/invoke/MethodHandle" ∧ yX0_numberGuessedAs.cls ≠ "java/lang/invoke/VarHandle" ∧ (parseMethodDescriptor yX0_numberGuessedAs.desc).map (fun d => d.parameters.length) = some 1 := by decide +kernel
theorem m0_X0_numberGuessedAs : Cond.fieldLink RX0 15 RX0 (TX0 1).2.1 (TX0 1).2.2.1 ∈ wsX0_numberGuessedAs := by decide +kernel
theorem m1_X0_numberGuessedAs : ∀ w ∈ u_ws RX0 TX0 11, w ∈ wsX0_numberGuessedAs := by decide +kernel
set_option maxHeartbeats 4000000 in
set_option maxRecDepth 100000 in
theorem tl_X0_numberGuessedAs_8 {l : Launch} {D : va_G} {X : zE} {p : Program} {e : Env} {s : State} {m : MethodId} {args : Array Value} {below : List Frame} {meth : Method} {c : Code} (S : zS p m meth c cX0_numberGuessedAs 3 (some .int) s args wsX0_numberGuessedAs RX0 D 44 X) {z0 : zV} {r : Int32} : ∀ (n_ : Nat), ∀ (x1 : Int32) (x2 : Int32), l_X0_numberGuessedAs_8 z0 n_ x1 x2 = some r → Zj false D 44 X p l e (zrm 0 0) s m args below meth c (MQ below (zQr (some (.int r))) args s 0 0 (fun _ => False)) 3 8 [(0, .ref (X.1 0)), (1, .int x1), (2, .int x2)] [] (zc shC X z0) := by
  intro n_
  induction n_ with
  | zero =>
    intro x1 x2 h
    cases h
  | succ n_ ih =>
    intro x1 x2 h
    rw [l_X0_numberGuessedAs_8] at h
    refine z_iload_n S 2 dX0_numberGuessedAs_8 rfl rfl ?_
    refine z_bipush (v := (nI 26)) S dX0_numberGuessedAs_9 (by decide) ?_
    refine z_icmp_gt S (tgt := 32) dX0_numberGuessedAs_11 (by decide) h (fun h => ?_) (fun h => ?_)
    · refine z_iconst (v := (nI 0)) S dX0_numberGuessedAs_32 (by decide) ?_
      exact z_iret_r S dX0_numberGuessedAs_33 h
    · refine z_aload_n S 0 dX0_numberGuessedAs_14 rfl rfl ?_
      refine z_get S (C := RX0) (T := TX0) (N := 11) (ci := 0) 1 m0_X0_numberGuessedAs m1_X0_numberGuessedAs (Nat.le_of_ble_eq_true rfl) (cC_0 X z0) rfl (Nat.le_of_ble_eq_true rfl) rfl rfl dX0_numberGuessedAs_15 ?_
      refine z_iload_n S 2 dX0_numberGuessedAs_18 rfl rfl ?_
      refine z_iald S (Nat.le_of_ble_eq_true rfl) (cC_2 X z0) dX0_numberGuessedAs_19 h (fun v_19 h => ?_)
      refine z_iload_n S 1 dX0_numberGuessedAs_20 rfl rfl ?_
      refine z_icmp_ne S (tgt := 26) dX0_numberGuessedAs_21 (by decide) h (fun h => ?_) (fun h => ?_)
      · refine z_iinc S 2 [(2, .int (x2 + nI 1)), (0, .ref (X.1 0)), (1, .int x1)] dX0_numberGuessedAs_26 rfl rfl (Nat.le_of_ble_eq_true rfl) rfl ?_
        refine z_goto S (tgt := 8) dX0_numberGuessedAs_29 (by decide) ?_
        exact z_lv [1, 2, 0] rfl (ih _ _ h)
      · refine z_iload_n S 2 dX0_numberGuessedAs_24 rfl rfl ?_
        exact z_iret_r S dX0_numberGuessedAs_25 h
set_option maxHeartbeats 4000000 in
set_option maxRecDepth 100000 in
theorem c_X0_numberGuessedAs (l : Launch) (D : va_G) (X : zE) (z0 : zV) (a0 : Int32) (hinj : zw_inj 44 X.1) {r : Int32} (h : f_X0_numberGuessedAs z0 a0 = some r) : zMr l yX0_numberGuessedAs wsX0_numberGuessedAs (zrm 0 0) D 44 X (zc shC X z0) [.ref (X.1 0), .int a0] (some (.int r)) := by
  rw [f_X0_numberGuessedAs] at h
  refine z_start_r (cc := cX0_numberGuessedAs) (maxL := 3) (ret := (some .int)) (by decide) rfl (Nat.le_of_ble_eq_true rfl) hinj ?_
  intro p e s m below meth c S
  refine z_iload_n S 1 dX0_numberGuessedAs_0 rfl rfl ?_
  refine z_if_ne S (tgt := 6) dX0_numberGuessedAs_1 (by decide) h (fun h => ?_) (fun h => ?_)
  · refine z_iconst (v := (nI 1)) S dX0_numberGuessedAs_6 (by decide) ?_
    refine z_istore_n S [(2, .int (nI 1)), (0, .ref (X.1 0)), (1, .int a0)] dX0_numberGuessedAs_7 rfl (Nat.le_of_ble_eq_true rfl) rfl ?_
    exact z_lv [1, 2, 0] rfl (tl_X0_numberGuessedAs_8 S _ _ _ h)
  · refine z_iconst (v := (nI 0)) S dX0_numberGuessedAs_4 (by decide) ?_
    exact z_iret_r S dX0_numberGuessedAs_5 h
/-! SoldLetters.isGuessOfAnother: a walk -/
theorem hd_X3_isGuessOfAnother : yX3_isGuessOfAnother.cls = RX3 ∧ yX3_isGuessOfAnother.cls ≠ "java/lang/invoke/MethodHandle" ∧ yX3_isGuessOfAnother.cls ≠ "java/lang/invoke/VarHandle" ∧ (parseMethodDescriptor yX3_isGuessOfAnother.desc).map (fun d => d.parameters.length) = some 2 := by decide +kernel
theorem m0_X3_isGuessOfAnother : Cond.fieldLink RX3 12 RX3 (TX3 0).2.1 (TX3 0).2.2.1 ∈ wsX3_isGuessOfAnother := by decide +kernel
theorem m1_X3_isGuessOfAnother : ∀ w ∈ u_ws RX3 TX3 7, w ∈ wsX3_isGuessOfAnother := by decide +kernel
set_option maxHeartbeats 4000000 in
set_option maxRecDepth 100000 in
theorem c_X3_isGuessOfAnother (l : Launch) (D : va_G) (X : zE) (z0 : zV) (a0 : Int32) (a1 : Int32) (hinj : zw_inj 44 X.1) {r : Int32} (h : f_X3_isGuessOfAnother z0 a0 a1 = some r) : zMr l yX3_isGuessOfAnother wsX3_isGuessOfAnother (zrm 1 22) D 44 X (zc shC X z0) [.ref (X.1 42), .int a0, .int a1] (some (.int r)) := by
  rw [f_X3_isGuessOfAnother] at h
  refine z_start_r (cc := cX3_isGuessOfAnother) (maxL := 4) (ret := (some .boolean)) (by decide) rfl (Nat.le_of_ble_eq_true rfl) hinj ?_
  intro p e s m below meth c S
  refine z_aload_n S 0 dX3_isGuessOfAnother_0 rfl rfl ?_
  refine z_get S (C := RX3) (T := TX3) (N := 7) (ci := 3) 0 m0_X3_isGuessOfAnother m1_X3_isGuessOfAnother (Nat.le_of_ble_eq_true rfl) (cC_42 X z0) rfl (Nat.le_of_ble_eq_true rfl) rfl rfl dX3_isGuessOfAnother_1 ?_
  refine z_iload_n S 1 dX3_isGuessOfAnother_4 rfl rfl ?_
  obtain ⟨v_5, hv_5, h⟩ := ob_some h
  refine z_callV_r (As := [.int a0]) S (c_X0_numberGuessedAs l D X _ _ S.2.2.1 hv_5) (cwV 1 S.1.2.2.2.2 gX3_isGuessOfAnother_X0_numberGuessedAs rfl rfl rfl hd_X0_numberGuessedAs ⟨Nat.le_of_ble_eq_true rfl, Nat.le_of_ble_eq_true rfl⟩) (Nat.le_of_ble_eq_true rfl) (cC_0 X z0) rfl rfl rfl (Nat.le_of_ble_eq_true rfl) rfl dX3_isGuessOfAnother_5 ?_
  refine z_istore_n S [(3, .int v_5), (0, .ref (X.1 42)), (1, .int a0), (2, .int a1)] dX3_isGuessOfAnother_8 rfl (Nat.le_of_ble_eq_true rfl) rfl ?_
  refine z_iload_n S 0 dX3_isGuessOfAnother_9 rfl rfl ?_
  refine z_if_eq S (tgt := 22) dX3_isGuessOfAnother_10 (by decide) h (fun h => ?_) (fun h => ?_)
  · refine z_iconst (v := (nI 0)) S dX3_isGuessOfAnother_22 (by decide) ?_
    exact z_zret_r S dX3_isGuessOfAnother_23 h
  · refine z_iload_n S 0 dX3_isGuessOfAnother_13 rfl rfl ?_
    refine z_iload_n S 3 dX3_isGuessOfAnother_14 rfl rfl ?_
    refine z_icmp_eq S (tgt := 22) dX3_isGuessOfAnother_15 (by decide) h (fun h => ?_) (fun h => ?_)
    · refine z_iconst (v := (nI 0)) S dX3_isGuessOfAnother_22 (by decide) ?_
      exact z_zret_r S dX3_isGuessOfAnother_23 h
    · refine z_iconst (v := (nI 1)) S dX3_isGuessOfAnother_18 (by decide) ?_
      refine z_goto S (tgt := 23) dX3_isGuessOfAnother_19 (by decide) ?_
      exact z_zret_r S dX3_isGuessOfAnother_23 h
/-! SoldLetters$State.numberAt: a walk -/
theorem hd_X0_numberAt : yX0_numberAt.cls = RX0 ∧ yX0_numberAt.cls ≠ "java/lang/invoke/MethodHandle" ∧ yX0_numberAt.cls ≠ "java/lang/invoke/VarHandle" ∧ (parseMethodDescriptor yX0_numberAt.desc).map (fun d => d.parameters.length) = some 1 := by decide +kernel
theorem m0_X0_numberAt : Cond.fieldLink RX0 9 RX0 (TX0 0).2.1 (TX0 0).2.2.1 ∈ wsX0_numberAt := by decide +kernel
theorem m1_X0_numberAt : ∀ w ∈ u_ws RX0 TX0 11, w ∈ wsX0_numberAt := by decide +kernel
set_option maxHeartbeats 4000000 in
set_option maxRecDepth 100000 in
theorem c_X0_numberAt (l : Launch) (D : va_G) (X : zE) (z0 : zV) (a0 : Int32) (hinj : zw_inj 44 X.1) {r : Int32} (h : f_X0_numberAt z0 a0 = some r) : zMr l yX0_numberAt wsX0_numberAt (zrm 1 21) D 44 X (zc shC X z0) [.ref (X.1 0), .int a0] (some (.int r)) := by
  rw [f_X0_numberAt] at h
  refine z_start_r (cc := cX0_numberAt) (maxL := 2) (ret := (some .int)) (by decide) rfl (Nat.le_of_ble_eq_true rfl) hinj ?_
  intro p e s m below meth c S
  refine z_aload_n S 0 dX0_numberAt_0 rfl rfl ?_
  refine z_get S (C := RX0) (T := TX0) (N := 11) (ci := 0) 0 m0_X0_numberAt m1_X0_numberAt (Nat.le_of_ble_eq_true rfl) (cC_0 X z0) rfl (Nat.le_of_ble_eq_true rfl) rfl rfl dX0_numberAt_1 ?_
  refine z_iload_n S 1 dX0_numberAt_4 rfl rfl ?_
  refine z_iald S (Nat.le_of_ble_eq_true rfl) (cC_1 X z0) dX0_numberAt_5 h (fun v_5 h => ?_)
  refine z_if_ne S (tgt := 13) dX0_numberAt_6 (by decide) h (fun h => ?_) (fun h => ?_)
  · refine z_aload_n S 0 dX0_numberAt_13 rfl rfl ?_
    refine z_aload_n S 0 dX0_numberAt_14 rfl rfl ?_
    refine z_get S (C := RX0) (T := TX0) (N := 11) (ci := 0) 0 m0_X0_numberAt m1_X0_numberAt (Nat.le_of_ble_eq_true rfl) (cC_0 X z0) rfl (Nat.le_of_ble_eq_true rfl) rfl rfl dX0_numberAt_15 ?_
    refine z_iload_n S 1 dX0_numberAt_18 rfl rfl ?_
    refine z_iald S (Nat.le_of_ble_eq_true rfl) (cC_1 X z0) dX0_numberAt_19 h (fun v_19 h => ?_)
    obtain ⟨v_20, hv_20, h⟩ := ob_some h
    refine z_callV_r (As := [.int v_19]) S (c_X0_numberOf l D X _ _ S.2.2.1 hv_20) (cwV 1 S.1.2.2.2.2 gX0_numberAt_X0_numberOf rfl rfl rfl hd_X0_numberOf ⟨Nat.le_of_ble_eq_true rfl, Nat.le_of_ble_eq_true rfl⟩) (Nat.le_of_ble_eq_true rfl) (cC_0 X z0) rfl rfl rfl (Nat.le_of_ble_eq_true rfl) rfl dX0_numberAt_20 ?_
    exact z_iret_r S dX0_numberAt_23 h
  · refine z_iconst (v := (nI 0)) S dX0_numberAt_9 (by decide) ?_
    refine z_goto S (tgt := 23) dX0_numberAt_10 (by decide) ?_
    exact z_iret_r S dX0_numberAt_23 h
/-! SoldLetters$State.guessAt: a walk -/
theorem hd_X0_guessAt : yX0_guessAt.cls = RX0 ∧ yX0_guessAt.cls ≠ "java/lang/invoke/MethodHandle" ∧ yX0_guessAt.cls ≠ "java/lang/invoke/VarHandle" ∧ (parseMethodDescriptor yX0_guessAt.desc).map (fun d => d.parameters.length) = some 1 := by decide +kernel
theorem m0_X0_guessAt : Cond.static yX3_isNumber ∈ wsX0_guessAt := by decide +kernel
theorem m1_X0_guessAt : Cond.initialized RX3 ∈ wsX0_guessAt := by decide +kernel
theorem m2_X0_guessAt : Cond.fieldLink RX0 15 RX0 (TX0 1).2.1 (TX0 1).2.2.1 ∈ wsX0_guessAt := by decide +kernel
theorem m3_X0_guessAt : ∀ w ∈ u_ws RX0 TX0 11, w ∈ wsX0_guessAt := by decide +kernel
set_option maxHeartbeats 4000000 in
set_option maxRecDepth 100000 in
theorem c_X0_guessAt (l : Launch) (D : va_G) (X : zE) (z0 : zV) (a0 : Int32) (hinj : zw_inj 44 X.1) {r : Int32} (h : f_X0_guessAt z0 a0 = some r) : zMr l yX0_guessAt wsX0_guessAt (zrm 2 42) D 44 X (zc shC X z0) [.ref (X.1 0), .int a0] (some (.int r)) := by
  rw [f_X0_guessAt] at h
  refine z_start_r (cc := cX0_guessAt) (maxL := 3) (ret := (some .int)) (by decide) rfl (Nat.le_of_ble_eq_true rfl) hinj ?_
  intro p e s m below meth c S
  refine z_aload_n S 0 dX0_guessAt_0 rfl rfl ?_
  refine z_iload_n S 1 dX0_guessAt_1 rfl rfl ?_
  obtain ⟨v_2, hv_2, h⟩ := ob_some h
  refine z_callV_r (As := [.int a0]) S (c_X0_numberAt l D X _ _ S.2.2.1 hv_2) (cwV 1 S.1.2.2.2.2 gX0_guessAt_X0_numberAt rfl rfl rfl hd_X0_numberAt ⟨Nat.le_of_ble_eq_true rfl, Nat.le_of_ble_eq_true rfl⟩) (Nat.le_of_ble_eq_true rfl) (cC_0 X z0) rfl rfl rfl (Nat.le_of_ble_eq_true rfl) rfl dX0_guessAt_2 ?_
  refine z_istore_n S [(2, .int v_2), (0, .ref (X.1 0)), (1, .int a0)] dX0_guessAt_5 rfl (Nat.le_of_ble_eq_true rfl) rfl ?_
  refine z_iload_n S 0 dX0_guessAt_6 rfl rfl ?_
  obtain ⟨v_7, hv_7, h⟩ := ob_some h
  refine z_callSN_r (As := [.int v_2]) S (c_X3_isNumber l D X _ _ S.2.2.1 hv_7) ⟨va_cnB 1 S.1.2.2.2.2 gX0_guessAt_X3_isNumber_n60 rfl rfl rfl S.2.1.2.2 (S.1.2.2.2.2 _ m1_X0_guessAt) hd_X3_isNumber ⟨Nat.le_of_ble_eq_true rfl, Nat.le_of_ble_eq_true rfl⟩, S.1.2.2.2.2 _ m0_X0_guessAt, trivial⟩ rfl rfl (Nat.le_of_ble_eq_true rfl) rfl dX0_guessAt_7 ?_
  refine z_if_eq S (tgt := 22) dX0_guessAt_10 (by decide) h (fun h => ?_) (fun h => ?_)
  · refine z_iconst (v := (nI 0)) S dX0_guessAt_22 (by decide) ?_
    exact z_iret_r S dX0_guessAt_23 h
  · refine z_aload_n S 1 dX0_guessAt_13 rfl rfl ?_
    refine z_get S (C := RX0) (T := TX0) (N := 11) (ci := 0) 1 m2_X0_guessAt m3_X0_guessAt (Nat.le_of_ble_eq_true rfl) (cC_0 X z0) rfl (Nat.le_of_ble_eq_true rfl) rfl rfl dX0_guessAt_14 ?_
    refine z_iload_n S 0 dX0_guessAt_17 rfl rfl ?_
    refine z_iald S (Nat.le_of_ble_eq_true rfl) (cC_2 X z0) dX0_guessAt_18 h (fun v_18 h => ?_)
    refine z_goto S (tgt := 23) dX0_guessAt_19 (by decide) ?_
    exact z_iret_r S dX0_guessAt_23 h
/-! SoldLetters$State.guessedCells: a walk -/
theorem hd_X0_guessedCells : yX0_guessedCells.cls = RX0 ∧ yX0_guessedCells.cls ≠ "java/lang/invoke/MethodHandle" ∧ yX0_guessedCells.cls ≠ "java/lang/invoke/VarHandle" ∧ (parseMethodDescriptor yX0_guessedCells.desc).map (fun d => d.parameters.length) = some 0 := by decide +kernel
set_option maxHeartbeats 4000000 in
set_option maxRecDepth 100000 in
theorem tl_X0_guessedCells_4 {l : Launch} {D : va_G} {X : zE} {p : Program} {e : Env} {s : State} {m : MethodId} {args : Array Value} {below : List Frame} {meth : Method} {c : Code} (S : zS p m meth c cX0_guessedCells 3 (some .int) s args wsX0_guessedCells RX0 D 44 X) {z0 : zV} {r : Int32} : ∀ (n_ : Nat), ∀ (x1 : Int32) (x2 : Int32), l_X0_guessedCells_4 z0 n_ x1 x2 = some r → Zj false D 44 X p l e (zrm 3 64) s m args below meth c (MQ below (zQr (some (.int r))) args s 0 0 (fun _ => False)) 3 4 [(0, .ref (X.1 0)), (1, .int x1), (2, .int x2)] [] (zc shC X z0) := by
  intro n_
  induction n_ with
  | zero =>
    intro x1 x2 h
    cases h
  | succ n_ ih =>
    intro x1 x2 h
    rw [l_X0_guessedCells_4] at h
    refine z_iload_n S 2 dX0_guessedCells_4 rfl rfl ?_
    refine z_bipush (v := (nI 49)) S dX0_guessedCells_5 (by decide) ?_
    refine z_icmp_ge S (tgt := 27) dX0_guessedCells_7 (by decide) h (fun h => ?_) (fun h => ?_)
    · refine z_iload_n S 1 dX0_guessedCells_27 rfl rfl ?_
      exact z_iret_r S dX0_guessedCells_28 h
    · refine z_aload_n S 0 dX0_guessedCells_10 rfl rfl ?_
      refine z_iload_n S 2 dX0_guessedCells_11 rfl rfl ?_
      obtain ⟨v_12, hv_12, h⟩ := ob_some h
      refine z_callV_r (As := [.int x2]) S (c_X0_guessAt l D X _ _ S.2.2.1 hv_12) (cwV 1 S.1.2.2.2.2 gX0_guessedCells_X0_guessAt rfl rfl rfl hd_X0_guessAt ⟨Nat.le_of_ble_eq_true rfl, Nat.le_of_ble_eq_true rfl⟩) (Nat.le_of_ble_eq_true rfl) (cC_0 X z0) rfl rfl rfl (Nat.le_of_ble_eq_true rfl) rfl dX0_guessedCells_12 ?_
      refine z_if_eq S (tgt := 21) dX0_guessedCells_15 (by decide) h (fun h => ?_) (fun h => ?_)
      · refine z_iinc S 2 [(2, .int (x2 + nI 1)), (0, .ref (X.1 0)), (1, .int x1)] dX0_guessedCells_21 rfl rfl (Nat.le_of_ble_eq_true rfl) rfl ?_
        refine z_goto S (tgt := 4) dX0_guessedCells_24 (by decide) ?_
        exact z_lv [1, 2, 0] rfl (ih _ _ h)
      · refine z_iinc S 1 [(1, .int (x1 + nI 1)), (0, .ref (X.1 0)), (2, .int x2)] dX0_guessedCells_18 rfl rfl (Nat.le_of_ble_eq_true rfl) rfl ?_
        refine z_iinc S 2 [(2, .int (x2 + nI 1)), (1, .int (x1 + nI 1)), (0, .ref (X.1 0))] dX0_guessedCells_21 rfl rfl (Nat.le_of_ble_eq_true rfl) rfl ?_
        refine z_goto S (tgt := 4) dX0_guessedCells_24 (by decide) ?_
        exact z_lv [2, 1, 0] rfl (ih _ _ h)
set_option maxHeartbeats 4000000 in
set_option maxRecDepth 100000 in
theorem c_X0_guessedCells (l : Launch) (D : va_G) (X : zE) (z0 : zV) (hinj : zw_inj 44 X.1) {r : Int32} (h : f_X0_guessedCells z0 = some r) : zMr l yX0_guessedCells wsX0_guessedCells (zrm 3 64) D 44 X (zc shC X z0) [.ref (X.1 0)] (some (.int r)) := by
  rw [f_X0_guessedCells] at h
  refine z_start_r (cc := cX0_guessedCells) (maxL := 3) (ret := (some .int)) (by decide) rfl (Nat.le_of_ble_eq_true rfl) hinj ?_
  intro p e s m below meth c S
  refine z_iconst (v := (nI 0)) S dX0_guessedCells_0 (by decide) ?_
  refine z_istore_n S [(1, .int (nI 0)), (0, .ref (X.1 0))] dX0_guessedCells_1 rfl (Nat.le_of_ble_eq_true rfl) rfl ?_
  refine z_iconst (v := (nI 0)) S dX0_guessedCells_2 (by decide) ?_
  refine z_istore_n S [(2, .int (nI 0)), (1, .int (nI 0)), (0, .ref (X.1 0))] dX0_guessedCells_3 rfl (Nat.le_of_ble_eq_true rfl) rfl ?_
  exact z_lv [2, 1, 0] rfl (tl_X0_guessedCells_4 S _ _ _ h)
/-! SoldLetters.guess: a walk -/
theorem hd_X3_guess : yX3_guess.cls = RX3 ∧ yX3_guess.cls ≠ "java/lang/invoke/MethodHandle" ∧ yX3_guess.cls ≠ "java/lang/invoke/VarHandle" ∧ (parseMethodDescriptor yX3_guess.desc).map (fun d => d.parameters.length) = some 2 := by decide +kernel
theorem m0_X3_guess : Cond.fieldLink RX3 12 RX3 (TX3 0).2.1 (TX3 0).2.2.1 ∈ wsX3_guess := by decide +kernel
theorem m1_X3_guess : ∀ w ∈ u_ws RX3 TX3 7, w ∈ wsX3_guess := by decide +kernel
theorem m2_X3_guess : Cond.fieldLink RX3 113 RX0 (TX0 2).2.1 (TX0 2).2.2.1 ∈ wsX3_guess := by decide +kernel
theorem m3_X3_guess : ∀ w ∈ u_ws RX0 TX0 11, w ∈ wsX3_guess := by decide +kernel
theorem m4_X3_guess : Cond.fieldLink RX3 121 RX0 (TX0 1).2.1 (TX0 1).2.2.1 ∈ wsX3_guess := by decide +kernel
set_option maxHeartbeats 4000000 in
set_option maxRecDepth 100000 in
theorem tj_X3_guess_36 {l : Launch} {D : va_G} {X : zE} {p : Program} {e : Env} {s : State} {m : MethodId} {args : Array Value} {below : List Frame} {meth : Method} {c : Code} (S : zS p m meth c cX3_guess 4 (some .int) s args wsX3_guess RX3 D 44 X) {r : Int32} {z1 : zV} : ∀ (z0 : zV) (x1 : Int32) (y0 : Int32), j_X3_guess_36 z0 x1 y0 = some (r, z1) → Zj true D 44 X p l e (zrm 4 104) s m args below meth c (MQ below (zQw D 44 X (zc shC X z1) (some (.int r))) args s 0 0 (zw_A 44 X.1)) 4 36 [(0, .ref (X.1 42)), (1, .int x1)] [.int y0] (zc shC X z0) := by
  intro z0 x1 y0 h
  rw [j_X3_guess_36] at h
  refine z_istore_n S [(3, .int y0), (0, .ref (X.1 42)), (1, .int x1)] dX3_guess_36 rfl (Nat.le_of_ble_eq_true rfl) rfl ?_
  refine z_aload_n S 1 dX3_guess_37 rfl rfl ?_
  refine z_get S (C := RX3) (T := TX3) (N := 7) (ci := 3) 0 m0_X3_guess m1_X3_guess (Nat.le_of_ble_eq_true rfl) (cC_42 X z0) rfl (Nat.le_of_ble_eq_true rfl) rfl rfl dX3_guess_38 ?_
  refine z_get S (C := RX0) (T := TX0) (N := 11) (ci := 0) 2 m2_X3_guess m3_X3_guess (Nat.le_of_ble_eq_true rfl) (cC_0 X z0) rfl (Nat.le_of_ble_eq_true rfl) rfl rfl dX3_guess_41 ?_
  refine z_iload_n S 2 dX3_guess_44 rfl rfl ?_
  refine z_zald S (Nat.le_of_ble_eq_true rfl) (cC_3 X z0) dX3_guess_45 h (fun v_45 h => ?_)
  refine z_if_ne S (tgt := 58) dX3_guess_46 (by decide) h (fun h => ?_) (fun h => ?_)
  · refine z_bipush (v := (-4)) S dX3_guess_58 (by decide) ?_
    exact z_iret_w S dX3_guess_60 h
  · refine z_aload_n S 1 dX3_guess_49 rfl rfl ?_
    refine z_iload_n S 0 dX3_guess_50 rfl rfl ?_
    refine z_iload_n S 2 dX3_guess_51 rfl rfl ?_
    obtain ⟨v_52, hv_52, h⟩ := ob_some h
    refine z_callV_r (As := [.int y0, .int x1]) S (c_X3_isGuessOfAnother l D X _ _ _ S.2.2.1 hv_52) (cwV 2 S.1.2.2.2.2 gX3_guess_X3_isGuessOfAnother rfl rfl rfl hd_X3_isGuessOfAnother ⟨Nat.le_of_ble_eq_true rfl, Nat.le_of_ble_eq_true rfl⟩) (Nat.le_of_ble_eq_true rfl) (cC_42 X z0) rfl rfl rfl (Nat.le_of_ble_eq_true rfl) rfl dX3_guess_52 ?_
    refine z_if_eq S (tgt := 61) dX3_guess_55 (by decide) h (fun h => ?_) (fun h => ?_)
    · refine z_aload_n S 1 dX3_guess_61 rfl rfl ?_
      refine z_get S (C := RX3) (T := TX3) (N := 7) (ci := 3) 0 m0_X3_guess m1_X3_guess (Nat.le_of_ble_eq_true rfl) (cC_42 X z0) rfl (Nat.le_of_ble_eq_true rfl) rfl rfl dX3_guess_62 ?_
      refine z_get S (C := RX0) (T := TX0) (N := 11) (ci := 0) 1 m4_X3_guess m3_X3_guess (Nat.le_of_ble_eq_true rfl) (cC_0 X z0) rfl (Nat.le_of_ble_eq_true rfl) rfl rfl dX3_guess_65 ?_
      refine z_iload_n S 2 dX3_guess_68 rfl rfl ?_
      refine z_iald S (Nat.le_of_ble_eq_true rfl) (cC_2 X z0) dX3_guess_69 h (fun v_69 h => ?_)
      refine z_iload_n S 0 dX3_guess_70 rfl rfl ?_
      refine z_icmp_ne S (tgt := 77) dX3_guess_71 (by decide) h (fun h => ?_) (fun h => ?_)
      · refine z_aload_n S 1 dX3_guess_77 rfl rfl ?_
        obtain ⟨z_78, hv_78, h⟩ := ob_some h
        refine z_callV_w (As := []) S (c_X3_remember l D X _ S.2.2.1 hv_78) (cwV 0 S.1.2.2.2.2 gX3_guess_X3_remember rfl rfl rfl hd_X3_remember ⟨Nat.le_of_ble_eq_true rfl, Nat.le_of_ble_eq_true rfl⟩) (Nat.le_of_ble_eq_true rfl) (cC_42 X z0) rfl rfl rfl (Nat.le_of_ble_eq_true rfl) rfl dX3_guess_78 ?_
        refine z_aload_n S 1 dX3_guess_81 rfl rfl ?_
        refine z_get S (C := RX3) (T := TX3) (N := 7) (ci := 3) 0 m0_X3_guess m1_X3_guess (Nat.le_of_ble_eq_true rfl) (cC_42 X z_78) rfl (Nat.le_of_ble_eq_true rfl) rfl rfl dX3_guess_82 ?_
        refine z_get S (C := RX0) (T := TX0) (N := 11) (ci := 0) 1 m4_X3_guess m3_X3_guess (Nat.le_of_ble_eq_true rfl) (cC_0 X z_78) rfl (Nat.le_of_ble_eq_true rfl) rfl rfl dX3_guess_85 ?_
        refine z_iload_n S 2 dX3_guess_88 rfl rfl ?_
        refine z_iload_n S 0 dX3_guess_89 rfl rfl ?_
        refine z_iast S (Nat.le_of_ble_eq_true rfl) (fun _ => rfl) dX3_guess_90 h (fun z_90 h => ?_)
        refine z_aload_n S 1 dX3_guess_91 rfl rfl ?_
        refine z_get S (C := RX3) (T := TX3) (N := 7) (ci := 3) 0 m0_X3_guess m1_X3_guess (Nat.le_of_ble_eq_true rfl) (cC_42 X z_90) rfl (Nat.le_of_ble_eq_true rfl) rfl rfl dX3_guess_92 ?_
        obtain ⟨v_95, hv_95, h⟩ := ob_some h
        refine z_callV_r (As := []) S (c_X0_guessedCells l D X _ S.2.2.1 hv_95) (cwV 0 S.1.2.2.2.2 gX3_guess_X0_guessedCells rfl rfl rfl hd_X0_guessedCells ⟨Nat.le_of_ble_eq_true rfl, Nat.le_of_ble_eq_true rfl⟩) (Nat.le_of_ble_eq_true rfl) (cC_0 X z_90) rfl rfl rfl (Nat.le_of_ble_eq_true rfl) rfl dX3_guess_95 ?_
        exact z_iret_w S dX3_guess_98 h
      · refine z_bipush (v := (-5)) S dX3_guess_74 (by decide) ?_
        exact z_iret_w S dX3_guess_76 h
    · refine z_bipush (v := (-4)) S dX3_guess_58 (by decide) ?_
      exact z_iret_w S dX3_guess_60 h
set_option maxHeartbeats 4000000 in
set_option maxRecDepth 100000 in
theorem tj_X3_guess_25 {l : Launch} {D : va_G} {X : zE} {p : Program} {e : Env} {s : State} {m : MethodId} {args : Array Value} {below : List Frame} {meth : Method} {c : Code} (S : zS p m meth c cX3_guess 4 (some .int) s args wsX3_guess RX3 D 44 X) {r : Int32} {z1 : zV} : ∀ (z0 : zV) (x1 : Int32) (x2 : Int32), j_X3_guess_25 z0 x1 x2 = some (r, z1) → Zj true D 44 X p l e (zrm 4 104) s m args below meth c (MQ below (zQw D 44 X (zc shC X z1) (some (.int r))) args s 0 0 (zw_A 44 X.1)) 4 25 [(0, .ref (X.1 42)), (1, .int x1), (2, .int x2)] [] (zc shC X z0) := by
  intro z0 x1 x2 h
  rw [j_X3_guess_25] at h
  refine z_iload_n S 2 dX3_guess_25 rfl rfl ?_
  refine z_bipush (v := (nI 46)) S dX3_guess_26 (by decide) ?_
  refine z_icmp_ne S (tgt := 35) dX3_guess_28 (by decide) h (fun h => ?_) (fun h => ?_)
  · refine z_iload_n S 2 dX3_guess_35 rfl rfl ?_
    exact z_lv [0, 1] rfl (tj_X3_guess_36 S _ _ _ h)
  · refine z_iconst (v := (nI 0)) S dX3_guess_31 (by decide) ?_
    refine z_goto S (tgt := 36) dX3_guess_32 (by decide) ?_
    exact z_lv [0, 1] rfl (tj_X3_guess_36 S _ _ _ h)
set_option maxHeartbeats 4000000 in
set_option maxRecDepth 100000 in
theorem c_X3_guess (l : Launch) (D : va_G) (X : zE) (z0 : zV) (a0 : Int32) (a1 : Int32) (hinj : zw_inj 44 X.1) {r : Int32} {z1 : zV} (h : f_X3_guess z0 a0 a1 = some (r, z1)) : zMw l yX3_guess wsX3_guess (zrm 4 104) D 44 X (zc shC X z0) [.ref (X.1 42), .int a0, .int a1] (some (.int r)) (zc shC X z1) := by
  rw [f_X3_guess] at h
  refine z_start_w (cc := cX3_guess) (maxL := 4) (ret := (some .int)) (by decide) rfl (Nat.le_of_ble_eq_true rfl) hinj ?_
  intro p e s m below meth c S
  refine z_iload_n S 1 dX3_guess_0 rfl rfl ?_
  obtain ⟨v_1, hv_1, h⟩ := ob_some h
  refine z_callS_r (As := [.int a0]) S (c_X3_isNumber l D X _ _ S.2.2.1 hv_1) (va_cwS 1 S.1.2.2.2.2 gX3_guess_X3_isNumber rfl rfl rfl hd_X3_isNumber ⟨Nat.le_of_ble_eq_true rfl, Nat.le_of_ble_eq_true rfl⟩) rfl rfl (Nat.le_of_ble_eq_true rfl) rfl dX3_guess_1 ?_
  refine z_if_ne S (tgt := 9) dX3_guess_4 (by decide) h (fun h => ?_) (fun h => ?_)
  · refine z_iload_n S 2 dX3_guess_9 rfl rfl ?_
    refine z_bipush (v := (nI 46)) S dX3_guess_10 (by decide) ?_
    refine z_icmp_eq S (tgt := 25) dX3_guess_12 (by decide) h (fun h => ?_) (fun h => ?_)
    · exact z_lv [0, 1, 2] rfl (tj_X3_guess_25 S _ _ _ h)
    · refine z_iload_n S 2 dX3_guess_15 rfl rfl ?_
      obtain ⟨v_16, hv_16, h⟩ := ob_some h
      refine z_callS_r (As := [.int a1]) S (c_X3_isLetter l D X _ _ S.2.2.1 hv_16) (va_cwS 1 S.1.2.2.2.2 gX3_guess_X3_isLetter rfl rfl rfl hd_X3_isLetter ⟨Nat.le_of_ble_eq_true rfl, Nat.le_of_ble_eq_true rfl⟩) rfl rfl (Nat.le_of_ble_eq_true rfl) rfl dX3_guess_16 ?_
      refine z_if_ne S (tgt := 25) dX3_guess_19 (by decide) h (fun h => ?_) (fun h => ?_)
      · exact z_lv [0, 1, 2] rfl (tj_X3_guess_25 S _ _ _ h)
      · refine z_bipush (v := (-2)) S dX3_guess_22 (by decide) ?_
        exact z_iret_w S dX3_guess_24 h
  · refine z_iconst (v := (-1)) S dX3_guess_7 (by decide) ?_
    exact z_iret_w S dX3_guess_8 h
