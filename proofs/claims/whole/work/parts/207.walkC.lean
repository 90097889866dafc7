/-! SoldLetters.number: a walk -/
theorem hd_X3_number : yX3_number.cls = RX3 ∧ yX3_number.cls ≠ "java/lang/invoke/MethodHandle" ∧ yX3_number.cls ≠ "java/lang/invoke/VarHandle" ∧ (parseMethodDescriptor yX3_number.desc).map (fun d => d.parameters.length) = some 2 := by decide +kernel
theorem m0_X3_number : Cond.fieldLink RX3 12 RX3 (TX3 0).2.1 (TX3 0).2.2.1 ∈ wsX3_number := by decide +kernel
theorem m1_X3_number : ∀ w ∈ u_ws RX3 TX3 7, w ∈ wsX3_number := by decide +kernel
theorem m2_X3_number : Cond.fieldLink RX3 121 RX0 (TX0 1).2.1 (TX0 1).2.2.1 ∈ wsX3_number := by decide +kernel
theorem m3_X3_number : ∀ w ∈ u_ws RX0 TX0 11, w ∈ wsX3_number := by decide +kernel
theorem m4_X3_number : Cond.fieldLink RX3 113 RX0 (TX0 2).2.1 (TX0 2).2.2.1 ∈ wsX3_number := by decide +kernel
set_option maxHeartbeats 4000000 in
set_option maxRecDepth 100000 in
theorem c_X3_number (l : Launch) (D : va_G) (X : zE) (z0 : zV) (a0 : Int32) (a1 : Int32) (hinj : zw_inj 44 X.1) {r : Int32} (h : f_X3_number z0 a0 a1 = some r) : zMr l yX3_number wsX3_number (zrm 6 132) D 44 X (zc shC X z0) [.ref (X.1 42), .int a0, .int a1] (some (.int r)) := by
  rw [f_X3_number] at h
  refine z_start_r (cc := cX3_number) (maxL := 3) (ret := (some .int)) (by decide) rfl (Nat.le_of_ble_eq_true rfl) hinj ?_
  intro p e s m below meth c S
  refine z_iload_n S 1 dX3_number_0 rfl rfl ?_
  obtain ⟨v_1, hv_1, h⟩ := ob_some h
  refine z_callS_r (As := [.int a0]) S (c_X3_isNumber l D X _ _ S.2.2.1 hv_1) (va_cwS 1 S.1.2.2.2.2 gX3_number_X3_isNumber rfl rfl rfl hd_X3_isNumber ⟨Nat.le_of_ble_eq_true rfl, Nat.le_of_ble_eq_true rfl⟩) rfl rfl (Nat.le_of_ble_eq_true rfl) rfl dX3_number_1 ?_
  refine z_if_ne S (tgt := 9) dX3_number_4 (by decide) h (fun h => ?_) (fun h => ?_)
  · refine z_iload_n S 2 dX3_number_9 rfl rfl ?_
    by_cases c0 : a1 = nI 0
    · have h := (zif h).1 c0
      refine z_tableIn S (tgt := 44) c0 dX3_number_10 (by decide) (by decide) rfl (by decide) ?_
      refine z_aload_n S 0 dX3_number_44 rfl rfl ?_
      refine z_get S (C := RX3) (T := TX3) (N := 7) (ci := 3) 0 m0_X3_number m1_X3_number (Nat.le_of_ble_eq_true rfl) (cC_42 X z0) rfl (Nat.le_of_ble_eq_true rfl) rfl rfl dX3_number_45 ?_
      refine z_iload_n S 1 dX3_number_48 rfl rfl ?_
      obtain ⟨v_49, hv_49, h⟩ := ob_some h
      refine z_callV_r (As := [.int a0]) S (c_X0_cellsWith l D X _ _ S.2.2.1 hv_49) (cwV 1 S.1.2.2.2.2 gX3_number_X0_cellsWith rfl rfl rfl hd_X0_cellsWith ⟨Nat.le_of_ble_eq_true rfl, Nat.le_of_ble_eq_true rfl⟩) (Nat.le_of_ble_eq_true rfl) (cC_0 X z0) rfl rfl rfl (Nat.le_of_ble_eq_true rfl) rfl dX3_number_49 ?_
      exact z_iret_r S dX3_number_52 h
    have h := (zif h).2 c0
    by_cases c1 : a1 = nI 1
    · have h := (zif h).1 c1
      refine z_tableIn S (tgt := 53) c1 dX3_number_10 (by decide) (by decide) rfl (by decide) ?_
      refine z_aload_n S 0 dX3_number_53 rfl rfl ?_
      refine z_get S (C := RX3) (T := TX3) (N := 7) (ci := 3) 0 m0_X3_number m1_X3_number (Nat.le_of_ble_eq_true rfl) (cC_42 X z0) rfl (Nat.le_of_ble_eq_true rfl) rfl rfl dX3_number_54 ?_
      refine z_get S (C := RX0) (T := TX0) (N := 11) (ci := 0) 1 m2_X3_number m3_X3_number (Nat.le_of_ble_eq_true rfl) (cC_0 X z0) rfl (Nat.le_of_ble_eq_true rfl) rfl rfl dX3_number_57 ?_
      refine z_iload_n S 1 dX3_number_60 rfl rfl ?_
      refine z_iald S (Nat.le_of_ble_eq_true rfl) (cC_2 X z0) dX3_number_61 h (fun v_61 h => ?_)
      obtain ⟨v_62, hv_62, h⟩ := ob_some h
      refine z_callS_r (As := [.int v_61]) S (c_X3_orNone l D X _ _ S.2.2.1 hv_62) (va_cwS 1 S.1.2.2.2.2 gX3_number_X3_orNone rfl rfl rfl hd_X3_orNone ⟨Nat.le_of_ble_eq_true rfl, Nat.le_of_ble_eq_true rfl⟩) rfl rfl (Nat.le_of_ble_eq_true rfl) rfl dX3_number_62 ?_
      exact z_iret_r S dX3_number_65 h
    have h := (zif h).2 c1
    by_cases c2 : a1 = nI 2
    · have h := (zif h).1 c2
      refine z_tableIn S (tgt := 66) c2 dX3_number_10 (by decide) (by decide) rfl (by decide) ?_
      refine z_aload_n S 0 dX3_number_66 rfl rfl ?_
      refine z_get S (C := RX3) (T := TX3) (N := 7) (ci := 3) 0 m0_X3_number m1_X3_number (Nat.le_of_ble_eq_true rfl) (cC_42 X z0) rfl (Nat.le_of_ble_eq_true rfl) rfl rfl dX3_number_67 ?_
      refine z_iload_n S 1 dX3_number_70 rfl rfl ?_
      obtain ⟨v_71, hv_71, h⟩ := ob_some h
      refine z_callV_r (As := [.int a0]) S (c_X0_priceOf l D X _ _ S.2.2.1 hv_71) (cwV 1 S.1.2.2.2.2 gX3_number_X0_priceOf rfl rfl rfl hd_X0_priceOf ⟨Nat.le_of_ble_eq_true rfl, Nat.le_of_ble_eq_true rfl⟩) (Nat.le_of_ble_eq_true rfl) (cC_0 X z0) rfl rfl rfl (Nat.le_of_ble_eq_true rfl) rfl dX3_number_71 ?_
      exact z_iret_r S dX3_number_74 h
    have h := (zif h).2 c2
    by_cases c3 : a1 = nI 3
    · have h := (zif h).1 c3
      refine z_tableIn S (tgt := 75) c3 dX3_number_10 (by decide) (by decide) rfl (by decide) ?_
      refine z_aload_n S 0 dX3_number_75 rfl rfl ?_
      refine z_get S (C := RX3) (T := TX3) (N := 7) (ci := 3) 0 m0_X3_number m1_X3_number (Nat.le_of_ble_eq_true rfl) (cC_42 X z0) rfl (Nat.le_of_ble_eq_true rfl) rfl rfl dX3_number_76 ?_
      refine z_get S (C := RX0) (T := TX0) (N := 11) (ci := 0) 2 m4_X3_number m3_X3_number (Nat.le_of_ble_eq_true rfl) (cC_0 X z0) rfl (Nat.le_of_ble_eq_true rfl) rfl rfl dX3_number_79 ?_
      refine z_iload_n S 1 dX3_number_82 rfl rfl ?_
      refine z_zald S (Nat.le_of_ble_eq_true rfl) (cC_3 X z0) dX3_number_83 h (fun v_83 h => ?_)
      obtain ⟨v_84, hv_84, h⟩ := ob_some h
      refine z_callS_r (As := [.int v_83]) S (c_X3_oneIf l D X _ _ S.2.2.1 hv_84) (va_cwS 1 S.1.2.2.2.2 gX3_number_X3_oneIf rfl rfl rfl hd_X3_oneIf ⟨Nat.le_of_ble_eq_true rfl, Nat.le_of_ble_eq_true rfl⟩) rfl rfl (Nat.le_of_ble_eq_true rfl) rfl dX3_number_84 ?_
      exact z_iret_r S dX3_number_87 h
    have h := (zif h).2 c3
    by_cases c4 : a1 = nI 4
    · have h := (zif h).1 c4
      refine z_tableIn S (tgt := 88) c4 dX3_number_10 (by decide) (by decide) rfl (by decide) ?_
      refine z_aload_n S 0 dX3_number_88 rfl rfl ?_
      refine z_iload_n S 1 dX3_number_89 rfl rfl ?_
      obtain ⟨v_90, hv_90, h⟩ := ob_some h
      refine z_callV_r (As := [.int a0]) S (c_X3_wordsWith l D X _ _ S.2.2.1 hv_90) (cwV 1 S.1.2.2.2.2 gX3_number_X3_wordsWith rfl rfl rfl hd_X3_wordsWith ⟨Nat.le_of_ble_eq_true rfl, Nat.le_of_ble_eq_true rfl⟩) (Nat.le_of_ble_eq_true rfl) (cC_42 X z0) rfl rfl rfl (Nat.le_of_ble_eq_true rfl) rfl dX3_number_90 ?_
      exact z_iret_r S dX3_number_93 h
    have h := (zif h).2 c4
    have e0 := lv_neT (a := 0) c0 rfl
    have e1 := lv_neT (a := 1) c1 rfl
    have e2 := lv_neT (a := 2) c2 rfl
    have e3 := lv_neT (a := 3) c3 rfl
    have e4 := lv_neT (a := 4) c4 rfl
    refine z_tableOut S (tgt := 94) dX3_number_10 (by omega) (by decide) ?_
    refine z_bipush (v := (-2)) S dX3_number_94 (by decide) ?_
    exact z_iret_r S dX3_number_96 h
  · refine z_iconst (v := (-1)) S dX3_number_7 (by decide) ?_
    exact z_iret_r S dX3_number_8 h
/-! SoldLetters.listedThatFit: a walk -/
theorem hd_X3_listedThatFit : yX3_listedThatFit.cls = RX3 ∧ yX3_listedThatFit.cls ≠ "java/lang/invoke/MethodHandle" ∧ yX3_listedThatFit.cls ≠ "java/lang/invoke/VarHandle" ∧ (parseMethodDescriptor yX3_listedThatFit.desc).map (fun d => d.parameters.length) = some 1 := by decide +kernel
theorem m0_X3_listedThatFit : Cond.fieldLink RX3 12 RX3 (TX3 0).2.1 (TX3 0).2.2.1 ∈ wsX3_listedThatFit := by decide +kernel
theorem m1_X3_listedThatFit : ∀ w ∈ u_ws RX3 TX3 7, w ∈ wsX3_listedThatFit := by decide +kernel
theorem m2_X3_listedThatFit : Cond.fieldLink RX3 85 RX0 (TX0 5).2.1 (TX0 5).2.2.1 ∈ wsX3_listedThatFit := by decide +kernel
theorem m3_X3_listedThatFit : ∀ w ∈ u_ws RX0 TX0 11, w ∈ wsX3_listedThatFit := by decide +kernel
set_option maxHeartbeats 4000000 in
set_option maxRecDepth 100000 in
theorem tl_X3_listedThatFit_4 {l : Launch} {D : va_G} {X : zE} {p : Program} {e : Env} {s : State} {m : MethodId} {args : Array Value} {below : List Frame} {meth : Method} {c : Code} (S : zS p m meth c cX3_listedThatFit 4 (some .int) s args wsX3_listedThatFit RX3 D 44 X) {z0 : zV} {r : Int32} : ∀ (n_ : Nat), ∀ (x1 : Int32) (x2 : Int32) (x3 : Int32), l_X3_listedThatFit_4 z0 n_ x1 x2 x3 = some r → Zj false D 44 X p l e (zrm 4 89) s m args below meth c (MQ below (zQr (some (.int r))) args s 0 0 (fun _ => False)) 4 4 [(0, .ref (X.1 42)), (1, .int x1), (2, .int x2), (3, .int x3)] [] (zc shC X z0) := by
  intro n_
  induction n_ with
  | zero =>
    intro x1 x2 x3 h
    cases h
  | succ n_ ih =>
    intro x1 x2 x3 h
    rw [l_X3_listedThatFit_4] at h
    refine z_iload_n S 3 dX3_listedThatFit_4 rfl rfl ?_
    refine z_aload_n S 0 dX3_listedThatFit_5 rfl rfl ?_
    refine z_get S (C := RX3) (T := TX3) (N := 7) (ci := 3) 0 m0_X3_listedThatFit m1_X3_listedThatFit (Nat.le_of_ble_eq_true rfl) (cC_42 X z0) rfl (Nat.le_of_ble_eq_true rfl) rfl rfl dX3_listedThatFit_6 ?_
    refine z_get S (C := RX0) (T := TX0) (N := 11) (ci := 0) 5 m2_X3_listedThatFit m3_X3_listedThatFit (Nat.le_of_ble_eq_true rfl) (cC_0 X z0) rfl (Nat.le_of_ble_eq_true rfl) rfl rfl dX3_listedThatFit_9 ?_
    refine z_icmp_ge S (tgt := 33) dX3_listedThatFit_12 (by decide) h (fun h => ?_) (fun h => ?_)
    · refine z_iload_n S 2 dX3_listedThatFit_33 rfl rfl ?_
      exact z_iret_r S dX3_listedThatFit_34 h
    · refine z_aload_n S 0 dX3_listedThatFit_15 rfl rfl ?_
      refine z_iload_n S 1 dX3_listedThatFit_16 rfl rfl ?_
      refine z_iload_n S 3 dX3_listedThatFit_17 rfl rfl ?_
      obtain ⟨v_18, hv_18, h⟩ := ob_some h
      refine z_callV_r (As := [.int x1, .int x3]) S (c_X3_isFitting l D X _ _ _ S.2.2.1 hv_18) (cwV 2 S.1.2.2.2.2 gX3_listedThatFit_X3_isFitting rfl rfl rfl hd_X3_isFitting ⟨Nat.le_of_ble_eq_true rfl, Nat.le_of_ble_eq_true rfl⟩) (Nat.le_of_ble_eq_true rfl) (cC_42 X z0) rfl rfl rfl (Nat.le_of_ble_eq_true rfl) rfl dX3_listedThatFit_18 ?_
      refine z_if_eq S (tgt := 27) dX3_listedThatFit_21 (by decide) h (fun h => ?_) (fun h => ?_)
      · refine z_iinc S 3 [(3, .int (x3 + nI 1)), (0, .ref (X.1 42)), (1, .int x1), (2, .int x2)] dX3_listedThatFit_27 rfl rfl (Nat.le_of_ble_eq_true rfl) rfl ?_
        refine z_goto S (tgt := 4) dX3_listedThatFit_30 (by decide) ?_
        exact z_lv [1, 2, 3, 0] rfl (ih _ _ _ h)
      · refine z_iinc S 2 [(2, .int (x2 + nI 1)), (0, .ref (X.1 42)), (1, .int x1), (3, .int x3)] dX3_listedThatFit_24 rfl rfl (Nat.le_of_ble_eq_true rfl) rfl ?_
        refine z_iinc S 3 [(3, .int (x3 + nI 1)), (2, .int (x2 + nI 1)), (0, .ref (X.1 42)), (1, .int x1)] dX3_listedThatFit_27 rfl rfl (Nat.le_of_ble_eq_true rfl) rfl ?_
        refine z_goto S (tgt := 4) dX3_listedThatFit_30 (by decide) ?_
        exact z_lv [2, 3, 1, 0] rfl (ih _ _ _ h)
set_option maxHeartbeats 4000000 in
set_option maxRecDepth 100000 in
theorem c_X3_listedThatFit (l : Launch) (D : va_G) (X : zE) (z0 : zV) (a0 : Int32) (hinj : zw_inj 44 X.1) {r : Int32} (h : f_X3_listedThatFit z0 a0 = some r) : zMr l yX3_listedThatFit wsX3_listedThatFit (zrm 4 89) D 44 X (zc shC X z0) [.ref (X.1 42), .int a0] (some (.int r)) := by
  rw [f_X3_listedThatFit] at h
  refine z_start_r (cc := cX3_listedThatFit) (maxL := 4) (ret := (some .int)) (by decide) rfl (Nat.le_of_ble_eq_true rfl) hinj ?_
  intro p e s m below meth c S
  refine z_iconst (v := (nI 0)) S dX3_listedThatFit_0 (by decide) ?_
  refine z_istore_n S [(2, .int (nI 0)), (0, .ref (X.1 42)), (1, .int a0)] dX3_listedThatFit_1 rfl (Nat.le_of_ble_eq_true rfl) rfl ?_
  refine z_iconst (v := (nI 0)) S dX3_listedThatFit_2 (by decide) ?_
  refine z_istore_n S [(3, .int (nI 0)), (2, .int (nI 0)), (0, .ref (X.1 42)), (1, .int a0)] dX3_listedThatFit_3 rfl (Nat.le_of_ble_eq_true rfl) rfl ?_
  exact z_lv [2, 3, 1, 0] rfl (tl_X3_listedThatFit_4 S _ _ _ _ h)
/-! SoldLetters.firstListedThatFits: a walk -/
theorem hd_X3_firstListedThatFits : yX3_firstListedThatFits.cls = RX3 ∧ yX3_firstListedThatFits.cls ≠ "java/lang/invoke/MethodHandle" ∧ yX3_firstListedThatFits.cls ≠ "java/lang/invoke/VarHandle" ∧ (parseMethodDescriptor yX3_firstListedThatFits.desc).map (fun d => d.parameters.length) = some 1 := by decide +kernel
theorem m0_X3_firstListedThatFits : Cond.fieldLink RX3 12 RX3 (TX3 0).2.1 (TX3 0).2.2.1 ∈ wsX3_firstListedThatFits := by decide +kernel
theorem m1_X3_firstListedThatFits : ∀ w ∈ u_ws RX3 TX3 7, w ∈ wsX3_firstListedThatFits := by decide +kernel
theorem m2_X3_firstListedThatFits : Cond.fieldLink RX3 85 RX0 (TX0 5).2.1 (TX0 5).2.2.1 ∈ wsX3_firstListedThatFits := by decide +kernel
theorem m3_X3_firstListedThatFits : ∀ w ∈ u_ws RX0 TX0 11, w ∈ wsX3_firstListedThatFits := by decide +kernel
set_option maxHeartbeats 4000000 in
set_option maxRecDepth 100000 in
theorem tl_X3_firstListedThatFits_2 {l : Launch} {D : va_G} {X : zE} {p : Program} {e : Env} {s : State} {m : MethodId} {args : Array Value} {below : List Frame} {meth : Method} {c : Code} (S : zS p m meth c cX3_firstListedThatFits 3 (some .int) s args wsX3_firstListedThatFits RX3 D 44 X) {z0 : zV} {r : Int32} : ∀ (n_ : Nat), ∀ (x1 : Int32) (x2 : Int32), l_X3_firstListedThatFits_2 z0 n_ x1 x2 = some r → Zj false D 44 X p l e (zrm 4 89) s m args below meth c (MQ below (zQr (some (.int r))) args s 0 0 (fun _ => False)) 3 2 [(0, .ref (X.1 42)), (1, .int x1), (2, .int x2)] [] (zc shC X z0) := by
  intro n_
  induction n_ with
  | zero =>
    intro x1 x2 h
    cases h
  | succ n_ ih =>
    intro x1 x2 h
    rw [l_X3_firstListedThatFits_2] at h
    refine z_iload_n S 2 dX3_firstListedThatFits_2 rfl rfl ?_
    refine z_aload_n S 0 dX3_firstListedThatFits_3 rfl rfl ?_
    refine z_get S (C := RX3) (T := TX3) (N := 7) (ci := 3) 0 m0_X3_firstListedThatFits m1_X3_firstListedThatFits (Nat.le_of_ble_eq_true rfl) (cC_42 X z0) rfl (Nat.le_of_ble_eq_true rfl) rfl rfl dX3_firstListedThatFits_4 ?_
    refine z_get S (C := RX0) (T := TX0) (N := 11) (ci := 0) 5 m2_X3_firstListedThatFits m3_X3_firstListedThatFits (Nat.le_of_ble_eq_true rfl) (cC_0 X z0) rfl (Nat.le_of_ble_eq_true rfl) rfl rfl dX3_firstListedThatFits_7 ?_
    refine z_icmp_ge S (tgt := 30) dX3_firstListedThatFits_10 (by decide) h (fun h => ?_) (fun h => ?_)
    · refine z_bipush (v := (-5)) S dX3_firstListedThatFits_30 (by decide) ?_
      exact z_iret_r S dX3_firstListedThatFits_32 h
    · refine z_aload_n S 0 dX3_firstListedThatFits_13 rfl rfl ?_
      refine z_iload_n S 1 dX3_firstListedThatFits_14 rfl rfl ?_
      refine z_iload_n S 2 dX3_firstListedThatFits_15 rfl rfl ?_
      obtain ⟨v_16, hv_16, h⟩ := ob_some h
      refine z_callV_r (As := [.int x1, .int x2]) S (c_X3_isFitting l D X _ _ _ S.2.2.1 hv_16) (cwV 2 S.1.2.2.2.2 gX3_firstListedThatFits_X3_isFitting rfl rfl rfl hd_X3_isFitting ⟨Nat.le_of_ble_eq_true rfl, Nat.le_of_ble_eq_true rfl⟩) (Nat.le_of_ble_eq_true rfl) (cC_42 X z0) rfl rfl rfl (Nat.le_of_ble_eq_true rfl) rfl dX3_firstListedThatFits_16 ?_
      refine z_if_eq S (tgt := 24) dX3_firstListedThatFits_19 (by decide) h (fun h => ?_) (fun h => ?_)
      · refine z_iinc S 2 [(2, .int (x2 + nI 1)), (0, .ref (X.1 42)), (1, .int x1)] dX3_firstListedThatFits_24 rfl rfl (Nat.le_of_ble_eq_true rfl) rfl ?_
        refine z_goto S (tgt := 2) dX3_firstListedThatFits_27 (by decide) ?_
        exact z_lv [1, 2, 0] rfl (ih _ _ h)
      · refine z_iload_n S 2 dX3_firstListedThatFits_22 rfl rfl ?_
        exact z_iret_r S dX3_firstListedThatFits_23 h
set_option maxHeartbeats 4000000 in
set_option maxRecDepth 100000 in
theorem c_X3_firstListedThatFits (l : Launch) (D : va_G) (X : zE) (z0 : zV) (a0 : Int32) (hinj : zw_inj 44 X.1) {r : Int32} (h : f_X3_firstListedThatFits z0 a0 = some r) : zMr l yX3_firstListedThatFits wsX3_firstListedThatFits (zrm 4 89) D 44 X (zc shC X z0) [.ref (X.1 42), .int a0] (some (.int r)) := by
  rw [f_X3_firstListedThatFits] at h
  refine z_start_r (cc := cX3_firstListedThatFits) (maxL := 3) (ret := (some .int)) (by decide) rfl (Nat.le_of_ble_eq_true rfl) hinj ?_
  intro p e s m below meth c S
  refine z_iconst (v := (nI 0)) S dX3_firstListedThatFits_0 (by decide) ?_
  refine z_istore_n S [(2, .int (nI 0)), (0, .ref (X.1 42)), (1, .int a0)] dX3_firstListedThatFits_1 rfl (Nat.le_of_ble_eq_true rfl) rfl ?_
  exact z_lv [1, 2, 0] rfl (tl_X3_firstListedThatFits_2 S _ _ _ h)
/-! SoldLetters.word: a walk -/
theorem hd_X3_word : yX3_word.cls = RX3 ∧ yX3_word.cls ≠ "java/lang/invoke/MethodHandle" ∧ yX3_word.cls ≠ "java/lang/invoke/VarHandle" ∧ (parseMethodDescriptor yX3_word.desc).map (fun d => d.parameters.length) = some 2 := by decide +kernel
theorem m0_X3_word : Cond.fieldLink RX3 19 RX3 (TX3 1).2.1 (TX3 1).2.2.1 ∈ wsX3_word := by decide +kernel
theorem m1_X3_word : ∀ w ∈ u_ws RX3 TX3 7, w ∈ wsX3_word := by decide +kernel
theorem m2_X3_word : Cond.fieldLink RX3 215 RX2 (TX2 0).2.1 (TX2 0).2.2.1 ∈ wsX3_word := by decide +kernel
theorem m3_X3_word : ∀ w ∈ u_ws RX2 TX2 4, w ∈ wsX3_word := by decide +kernel
theorem m4_X3_word : Cond.fieldLink RX3 136 RX2 (TX2 1).2.1 (TX2 1).2.2.1 ∈ wsX3_word := by decide +kernel
set_option maxHeartbeats 4000000 in
set_option maxRecDepth 100000 in
theorem c_X3_word (l : Launch) (D : va_G) (X : zE) (z0 : zV) (a0 : Int32) (a1 : Int32) (hinj : zw_inj 44 X.1) {r : Int32} (h : f_X3_word z0 a0 a1 = some r) : zMr l yX3_word wsX3_word (zrm 5 112) D 44 X (zc shC X z0) [.ref (X.1 42), .int a0, .int a1] (some (.int r)) := by
  rw [f_X3_word] at h
  refine z_start_r (cc := cX3_word) (maxL := 3) (ret := (some .int)) (by decide) rfl (Nat.le_of_ble_eq_true rfl) hinj ?_
  intro p e s m below meth c S
  refine z_aload_n S 0 dX3_word_0 rfl rfl ?_
  refine z_iload_n S 1 dX3_word_1 rfl rfl ?_
  obtain ⟨v_2, hv_2, h⟩ := ob_some h
  refine z_callV_r (As := [.int a0]) S (c_X3_isWord l D X _ _ S.2.2.1 hv_2) (cwV 1 S.1.2.2.2.2 gX3_word_X3_isWord rfl rfl rfl hd_X3_isWord ⟨Nat.le_of_ble_eq_true rfl, Nat.le_of_ble_eq_true rfl⟩) (Nat.le_of_ble_eq_true rfl) (cC_42 X z0) rfl rfl rfl (Nat.le_of_ble_eq_true rfl) rfl dX3_word_2 ?_
  refine z_if_ne S (tgt := 10) dX3_word_5 (by decide) h (fun h => ?_) (fun h => ?_)
  · refine z_iload_n S 2 dX3_word_10 rfl rfl ?_
    by_cases c0 : a1 = nI 0
    · have h := (zif h).1 c0
      refine z_tableIn S (tgt := 52) c0 dX3_word_11 (by decide) (by decide) rfl (by decide) ?_
      refine z_aload_n S 0 dX3_word_52 rfl rfl ?_
      refine z_get S (C := RX3) (T := TX3) (N := 7) (ci := 3) 1 m0_X3_word m1_X3_word (Nat.le_of_ble_eq_true rfl) (cC_42 X z0) rfl (Nat.le_of_ble_eq_true rfl) rfl rfl dX3_word_53 ?_
      refine z_get S (C := RX2) (T := TX2) (N := 4) (ci := 2) 0 m2_X3_word m3_X3_word (Nat.le_of_ble_eq_true rfl) (cC_36 X z0) rfl (Nat.le_of_ble_eq_true rfl) rfl rfl dX3_word_56 ?_
      refine z_iload_n S 1 dX3_word_59 rfl rfl ?_
      refine z_iald S (Nat.le_of_ble_eq_true rfl) (cC_37 X z0) dX3_word_60 h (fun v_60 h => ?_)
      refine z_bipush (v := (nI 7)) S dX3_word_61 (by decide) ?_
      refine z_idiv S dX3_word_63 (by decide) ?_
      exact z_iret_r S dX3_word_64 h
    have h := (zif h).2 c0
    by_cases c1 : a1 = nI 1
    · have h := (zif h).1 c1
      refine z_tableIn S (tgt := 65) c1 dX3_word_11 (by decide) (by decide) rfl (by decide) ?_
      refine z_aload_n S 0 dX3_word_65 rfl rfl ?_
      refine z_get S (C := RX3) (T := TX3) (N := 7) (ci := 3) 1 m0_X3_word m1_X3_word (Nat.le_of_ble_eq_true rfl) (cC_42 X z0) rfl (Nat.le_of_ble_eq_true rfl) rfl rfl dX3_word_66 ?_
      refine z_get S (C := RX2) (T := TX2) (N := 4) (ci := 2) 0 m2_X3_word m3_X3_word (Nat.le_of_ble_eq_true rfl) (cC_36 X z0) rfl (Nat.le_of_ble_eq_true rfl) rfl rfl dX3_word_69 ?_
      refine z_iload_n S 1 dX3_word_72 rfl rfl ?_
      refine z_iald S (Nat.le_of_ble_eq_true rfl) (cC_37 X z0) dX3_word_73 h (fun v_73 h => ?_)
      refine z_bipush (v := (nI 7)) S dX3_word_74 (by decide) ?_
      refine z_irem S dX3_word_76 (by decide) ?_
      exact z_iret_r S dX3_word_77 h
    have h := (zif h).2 c1
    by_cases c2 : a1 = nI 2
    · have h := (zif h).1 c2
      refine z_tableIn S (tgt := 78) c2 dX3_word_11 (by decide) (by decide) rfl (by decide) ?_
      refine z_aload_n S 0 dX3_word_78 rfl rfl ?_
      refine z_get S (C := RX3) (T := TX3) (N := 7) (ci := 3) 1 m0_X3_word m1_X3_word (Nat.le_of_ble_eq_true rfl) (cC_42 X z0) rfl (Nat.le_of_ble_eq_true rfl) rfl rfl dX3_word_79 ?_
      refine z_get S (C := RX2) (T := TX2) (N := 4) (ci := 2) 1 m4_X3_word m3_X3_word (Nat.le_of_ble_eq_true rfl) (cC_36 X z0) rfl (Nat.le_of_ble_eq_true rfl) rfl rfl dX3_word_82 ?_
      refine z_iload_n S 1 dX3_word_85 rfl rfl ?_
      refine z_iald S (Nat.le_of_ble_eq_true rfl) (cC_38 X z0) dX3_word_86 h (fun v_86 h => ?_)
      exact z_iret_r S dX3_word_87 h
    have h := (zif h).2 c2
    by_cases c3 : a1 = nI 3
    · have h := (zif h).1 c3
      refine z_tableIn S (tgt := 88) c3 dX3_word_11 (by decide) (by decide) rfl (by decide) ?_
      refine z_aload_n S 0 dX3_word_88 rfl rfl ?_
      refine z_get S (C := RX3) (T := TX3) (N := 7) (ci := 3) 1 m0_X3_word m1_X3_word (Nat.le_of_ble_eq_true rfl) (cC_42 X z0) rfl (Nat.le_of_ble_eq_true rfl) rfl rfl dX3_word_89 ?_
      refine z_iload_n S 1 dX3_word_92 rfl rfl ?_
      obtain ⟨v_93, hv_93, h⟩ := ob_some h
      refine z_callV_r (As := [.int a0]) S (c_X2_isDown l D X _ _ S.2.2.1 hv_93) (cwV 1 S.1.2.2.2.2 gX3_word_X2_isDown rfl rfl rfl hd_X2_isDown ⟨Nat.le_of_ble_eq_true rfl, Nat.le_of_ble_eq_true rfl⟩) (Nat.le_of_ble_eq_true rfl) (cC_36 X z0) rfl rfl rfl (Nat.le_of_ble_eq_true rfl) rfl dX3_word_93 ?_
      obtain ⟨v_96, hv_96, h⟩ := ob_some h
      refine z_callS_r (As := [.int v_93]) S (c_X3_oneIf l D X _ _ S.2.2.1 hv_96) (va_cwS 1 S.1.2.2.2.2 gX3_word_X3_oneIf rfl rfl rfl hd_X3_oneIf ⟨Nat.le_of_ble_eq_true rfl, Nat.le_of_ble_eq_true rfl⟩) rfl rfl (Nat.le_of_ble_eq_true rfl) rfl dX3_word_96 ?_
      exact z_iret_r S dX3_word_99 h
    have h := (zif h).2 c3
    by_cases c4 : a1 = nI 4
    · have h := (zif h).1 c4
      refine z_tableIn S (tgt := 100) c4 dX3_word_11 (by decide) (by decide) rfl (by decide) ?_
      refine z_aload_n S 0 dX3_word_100 rfl rfl ?_
      refine z_iload_n S 1 dX3_word_101 rfl rfl ?_
      obtain ⟨v_102, hv_102, h⟩ := ob_some h
      refine z_callV_r (As := [.int a0]) S (c_X3_guessedCellsOf l D X _ _ S.2.2.1 hv_102) (cwV 1 S.1.2.2.2.2 gX3_word_X3_guessedCellsOf rfl rfl rfl hd_X3_guessedCellsOf ⟨Nat.le_of_ble_eq_true rfl, Nat.le_of_ble_eq_true rfl⟩) (Nat.le_of_ble_eq_true rfl) (cC_42 X z0) rfl rfl rfl (Nat.le_of_ble_eq_true rfl) rfl dX3_word_102 ?_
      exact z_iret_r S dX3_word_105 h
    have h := (zif h).2 c4
    by_cases c5 : a1 = nI 5
    · have h := (zif h).1 c5
      refine z_tableIn S (tgt := 106) c5 dX3_word_11 (by decide) (by decide) rfl (by decide) ?_
      refine z_aload_n S 0 dX3_word_106 rfl rfl ?_
      refine z_iload_n S 1 dX3_word_107 rfl rfl ?_
      obtain ⟨v_108, hv_108, h⟩ := ob_some h
      refine z_callV_r (As := [.int a0]) S (c_X3_listedThatFit l D X _ _ S.2.2.1 hv_108) (cwV 1 S.1.2.2.2.2 gX3_word_X3_listedThatFit rfl rfl rfl hd_X3_listedThatFit ⟨Nat.le_of_ble_eq_true rfl, Nat.le_of_ble_eq_true rfl⟩) (Nat.le_of_ble_eq_true rfl) (cC_42 X z0) rfl rfl rfl (Nat.le_of_ble_eq_true rfl) rfl dX3_word_108 ?_
      exact z_iret_r S dX3_word_111 h
    have h := (zif h).2 c5
    by_cases c6 : a1 = nI 6
    · have h := (zif h).1 c6
      refine z_tableIn S (tgt := 112) c6 dX3_word_11 (by decide) (by decide) rfl (by decide) ?_
      refine z_aload_n S 0 dX3_word_112 rfl rfl ?_
      refine z_iload_n S 1 dX3_word_113 rfl rfl ?_
      obtain ⟨v_114, hv_114, h⟩ := ob_some h
      refine z_callV_r (As := [.int a0]) S (c_X3_firstListedThatFits l D X _ _ S.2.2.1 hv_114) (cwV 1 S.1.2.2.2.2 gX3_word_X3_firstListedThatFits rfl rfl rfl hd_X3_firstListedThatFits ⟨Nat.le_of_ble_eq_true rfl, Nat.le_of_ble_eq_true rfl⟩) (Nat.le_of_ble_eq_true rfl) (cC_42 X z0) rfl rfl rfl (Nat.le_of_ble_eq_true rfl) rfl dX3_word_114 ?_
      exact z_iret_r S dX3_word_117 h
    have h := (zif h).2 c6
    have e0 := lv_neT (a := 0) c0 rfl
    have e1 := lv_neT (a := 1) c1 rfl
    have e2 := lv_neT (a := 2) c2 rfl
    have e3 := lv_neT (a := 3) c3 rfl
    have e4 := lv_neT (a := 4) c4 rfl
    have e5 := lv_neT (a := 5) c5 rfl
    have e6 := lv_neT (a := 6) c6 rfl
    refine z_tableOut S (tgt := 118) dX3_word_11 (by omega) (by decide) ?_
    refine z_bipush (v := (-2)) S dX3_word_118 (by decide) ?_
    exact z_iret_r S dX3_word_120 h
  · refine z_iconst (v := (-1)) S dX3_word_8 (by decide) ?_
    exact z_iret_r S dX3_word_9 h
/-! SoldLetters.fits: a walk -/
theorem hd_X3_fits : yX3_fits.cls = RX3 ∧ yX3_fits.cls ≠ "java/lang/invoke/MethodHandle" ∧ yX3_fits.cls ≠ "java/lang/invoke/VarHandle" ∧ (parseMethodDescriptor yX3_fits.desc).map (fun d => d.parameters.length) = some 2 := by decide +kernel
set_option maxHeartbeats 4000000 in
set_option maxRecDepth 100000 in
theorem c_X3_fits (l : Launch) (D : va_G) (X : zE) (z0 : zV) (a0 : Int32) (a1 : Int32) (hinj : zw_inj 44 X.1) {r : Int32} (h : f_X3_fits z0 a0 a1 = some r) : zMr l yX3_fits wsX3_fits (zrm 4 89) D 44 X (zc shC X z0) [.ref (X.1 42), .int a0, .int a1] (some (.int r)) := by
  rw [f_X3_fits] at h
  refine z_start_r (cc := cX3_fits) (maxL := 3) (ret := (some .int)) (by decide) rfl (Nat.le_of_ble_eq_true rfl) hinj ?_
  intro p e s m below meth c S
  refine z_aload_n S 0 dX3_fits_0 rfl rfl ?_
  refine z_iload_n S 1 dX3_fits_1 rfl rfl ?_
  obtain ⟨v_2, hv_2, h⟩ := ob_some h
  refine z_callV_r (As := [.int a0]) S (c_X3_isWord l D X _ _ S.2.2.1 hv_2) (cwV 1 S.1.2.2.2.2 gX3_fits_X3_isWord rfl rfl rfl hd_X3_isWord ⟨Nat.le_of_ble_eq_true rfl, Nat.le_of_ble_eq_true rfl⟩) (Nat.le_of_ble_eq_true rfl) (cC_42 X z0) rfl rfl rfl (Nat.le_of_ble_eq_true rfl) rfl dX3_fits_2 ?_
  refine z_if_eq S (tgt := 16) dX3_fits_5 (by decide) h (fun h => ?_) (fun h => ?_)
  · refine z_iconst (v := (-1)) S dX3_fits_16 (by decide) ?_
    exact z_iret_r S dX3_fits_17 h
  · refine z_aload_n S 0 dX3_fits_8 rfl rfl ?_
    refine z_iload_n S 2 dX3_fits_9 rfl rfl ?_
    obtain ⟨v_10, hv_10, h⟩ := ob_some h
    refine z_callV_r (As := [.int a1]) S (c_X3_isInList l D X _ _ S.2.2.1 hv_10) (cwV 1 S.1.2.2.2.2 gX3_fits_X3_isInList rfl rfl rfl hd_X3_isInList ⟨Nat.le_of_ble_eq_true rfl, Nat.le_of_ble_eq_true rfl⟩) (Nat.le_of_ble_eq_true rfl) (cC_42 X z0) rfl rfl rfl (Nat.le_of_ble_eq_true rfl) rfl dX3_fits_10 ?_
    refine z_if_ne S (tgt := 18) dX3_fits_13 (by decide) h (fun h => ?_) (fun h => ?_)
    · refine z_aload_n S 0 dX3_fits_18 rfl rfl ?_
      refine z_iload_n S 1 dX3_fits_19 rfl rfl ?_
      refine z_iload_n S 2 dX3_fits_20 rfl rfl ?_
      obtain ⟨v_21, hv_21, h⟩ := ob_some h
      refine z_callV_r (As := [.int a0, .int a1]) S (c_X3_isFitting l D X _ _ _ S.2.2.1 hv_21) (cwV 2 S.1.2.2.2.2 gX3_fits_X3_isFitting rfl rfl rfl hd_X3_isFitting ⟨Nat.le_of_ble_eq_true rfl, Nat.le_of_ble_eq_true rfl⟩) (Nat.le_of_ble_eq_true rfl) (cC_42 X z0) rfl rfl rfl (Nat.le_of_ble_eq_true rfl) rfl dX3_fits_21 ?_
      obtain ⟨v_24, hv_24, h⟩ := ob_some h
      refine z_callS_r (As := [.int v_21]) S (c_X3_oneIf l D X _ _ S.2.2.1 hv_24) (va_cwS 1 S.1.2.2.2.2 gX3_fits_X3_oneIf rfl rfl rfl hd_X3_oneIf ⟨Nat.le_of_ble_eq_true rfl, Nat.le_of_ble_eq_true rfl⟩) rfl rfl (Nat.le_of_ble_eq_true rfl) rfl dX3_fits_24 ?_
      exact z_iret_r S dX3_fits_27 h
    · refine z_iconst (v := (-1)) S dX3_fits_16 (by decide) ?_
      exact z_iret_r S dX3_fits_17 h
/-! SoldLetters.wordsThatFit: a walk -/
theorem hd_X3_wordsThatFit : yX3_wordsThatFit.cls = RX3 ∧ yX3_wordsThatFit.cls ≠ "java/lang/invoke/MethodHandle" ∧ yX3_wordsThatFit.cls ≠ "java/lang/invoke/VarHandle" ∧ (parseMethodDescriptor yX3_wordsThatFit.desc).map (fun d => d.parameters.length) = some 1 := by decide +kernel
theorem m0_X3_wordsThatFit : Cond.fieldLink RX3 19 RX3 (TX3 1).2.1 (TX3 1).2.2.1 ∈ wsX3_wordsThatFit := by decide +kernel
theorem m1_X3_wordsThatFit : ∀ w ∈ u_ws RX3 TX3 7, w ∈ wsX3_wordsThatFit := by decide +kernel
theorem m2_X3_wordsThatFit : Cond.fieldLink RX3 63 RX2 (TX2 3).2.1 (TX2 3).2.2.1 ∈ wsX3_wordsThatFit := by decide +kernel
theorem m3_X3_wordsThatFit : ∀ w ∈ u_ws RX2 TX2 4, w ∈ wsX3_wordsThatFit := by decide +kernel
set_option maxHeartbeats 4000000 in
set_option maxRecDepth 100000 in
theorem tl_X3_wordsThatFit_4 {l : Launch} {D : va_G} {X : zE} {p : Program} {e : Env} {s : State} {m : MethodId} {args : Array Value} {below : List Frame} {meth : Method} {c : Code} (S : zS p m meth c cX3_wordsThatFit 4 (some .int) s args wsX3_wordsThatFit RX3 D 44 X) {z0 : zV} {r : Int32} : ∀ (n_ : Nat), ∀ (x1 : Int32) (x2 : Int32) (x3 : Int32), l_X3_wordsThatFit_4 z0 n_ x1 x2 x3 = some r → Zj false D 44 X p l e (zrm 4 89) s m args below meth c (MQ below (zQr (some (.int r))) args s 0 0 (fun _ => False)) 4 4 [(0, .ref (X.1 42)), (1, .int x1), (2, .int x2), (3, .int x3)] [] (zc shC X z0) := by
  intro n_
  induction n_ with
  | zero =>
    intro x1 x2 x3 h
    cases h
  | succ n_ ih =>
    intro x1 x2 x3 h
    rw [l_X3_wordsThatFit_4] at h
    refine z_iload_n S 3 dX3_wordsThatFit_4 rfl rfl ?_
    refine z_aload_n S 0 dX3_wordsThatFit_5 rfl rfl ?_
    refine z_get S (C := RX3) (T := TX3) (N := 7) (ci := 3) 1 m0_X3_wordsThatFit m1_X3_wordsThatFit (Nat.le_of_ble_eq_true rfl) (cC_42 X z0) rfl (Nat.le_of_ble_eq_true rfl) rfl rfl dX3_wordsThatFit_6 ?_
    refine z_get S (C := RX2) (T := TX2) (N := 4) (ci := 2) 3 m2_X3_wordsThatFit m3_X3_wordsThatFit (Nat.le_of_ble_eq_true rfl) (cC_36 X z0) rfl (Nat.le_of_ble_eq_true rfl) rfl rfl dX3_wordsThatFit_9 ?_
    refine z_icmp_ge S (tgt := 33) dX3_wordsThatFit_12 (by decide) h (fun h => ?_) (fun h => ?_)
    · refine z_iload_n S 2 dX3_wordsThatFit_33 rfl rfl ?_
      exact z_iret_r S dX3_wordsThatFit_34 h
    · refine z_aload_n S 0 dX3_wordsThatFit_15 rfl rfl ?_
      refine z_iload_n S 3 dX3_wordsThatFit_16 rfl rfl ?_
      refine z_iload_n S 1 dX3_wordsThatFit_17 rfl rfl ?_
      obtain ⟨v_18, hv_18, h⟩ := ob_some h
      refine z_callV_r (As := [.int x3, .int x1]) S (c_X3_isFitting l D X _ _ _ S.2.2.1 hv_18) (cwV 2 S.1.2.2.2.2 gX3_wordsThatFit_X3_isFitting rfl rfl rfl hd_X3_isFitting ⟨Nat.le_of_ble_eq_true rfl, Nat.le_of_ble_eq_true rfl⟩) (Nat.le_of_ble_eq_true rfl) (cC_42 X z0) rfl rfl rfl (Nat.le_of_ble_eq_true rfl) rfl dX3_wordsThatFit_18 ?_
      refine z_if_eq S (tgt := 27) dX3_wordsThatFit_21 (by decide) h (fun h => ?_) (fun h => ?_)
      · refine z_iinc S 3 [(3, .int (x3 + nI 1)), (0, .ref (X.1 42)), (1, .int x1), (2, .int x2)] dX3_wordsThatFit_27 rfl rfl (Nat.le_of_ble_eq_true rfl) rfl ?_
        refine z_goto S (tgt := 4) dX3_wordsThatFit_30 (by decide) ?_
        exact z_lv [1, 2, 3, 0] rfl (ih _ _ _ h)
      · refine z_iinc S 2 [(2, .int (x2 + nI 1)), (0, .ref (X.1 42)), (1, .int x1), (3, .int x3)] dX3_wordsThatFit_24 rfl rfl (Nat.le_of_ble_eq_true rfl) rfl ?_
        refine z_iinc S 3 [(3, .int (x3 + nI 1)), (2, .int (x2 + nI 1)), (0, .ref (X.1 42)), (1, .int x1)] dX3_wordsThatFit_27 rfl rfl (Nat.le_of_ble_eq_true rfl) rfl ?_
        refine z_goto S (tgt := 4) dX3_wordsThatFit_30 (by decide) ?_
        exact z_lv [2, 3, 1, 0] rfl (ih _ _ _ h)
set_option maxHeartbeats 4000000 in
set_option maxRecDepth 100000 in
theorem c_X3_wordsThatFit (l : Launch) (D : va_G) (X : zE) (z0 : zV) (a0 : Int32) (hinj : zw_inj 44 X.1) {r : Int32} (h : f_X3_wordsThatFit z0 a0 = some r) : zMr l yX3_wordsThatFit wsX3_wordsThatFit (zrm 4 89) D 44 X (zc shC X z0) [.ref (X.1 42), .int a0] (some (.int r)) := by
  rw [f_X3_wordsThatFit] at h
  refine z_start_r (cc := cX3_wordsThatFit) (maxL := 4) (ret := (some .int)) (by decide) rfl (Nat.le_of_ble_eq_true rfl) hinj ?_
  intro p e s m below meth c S
  refine z_iconst (v := (nI 0)) S dX3_wordsThatFit_0 (by decide) ?_
  refine z_istore_n S [(2, .int (nI 0)), (0, .ref (X.1 42)), (1, .int a0)] dX3_wordsThatFit_1 rfl (Nat.le_of_ble_eq_true rfl) rfl ?_
  refine z_iconst (v := (nI 0)) S dX3_wordsThatFit_2 (by decide) ?_
  refine z_istore_n S [(3, .int (nI 0)), (2, .int (nI 0)), (0, .ref (X.1 42)), (1, .int a0)] dX3_wordsThatFit_3 rfl (Nat.le_of_ble_eq_true rfl) rfl ?_
  exact z_lv [2, 3, 1, 0] rfl (tl_X3_wordsThatFit_4 S _ _ _ _ h)
/-! SoldLetters.firstWordThatFits: a walk -/
theorem hd_X3_firstWordThatFits : yX3_firstWordThatFits.cls = RX3 ∧ yX3_firstWordThatFits.cls ≠ "java/lang/invoke/MethodHandle" ∧ yX3_firstWordThatFits.cls ≠ "java/lang/invoke/VarHandle" ∧ (parseMethodDescriptor yX3_firstWordThatFits.desc).map (fun d => d.parameters.length) = some 1 := by decide +kernel
theorem m0_X3_firstWordThatFits : Cond.fieldLink RX3 19 RX3 (TX3 1).2.1 (TX3 1).2.2.1 ∈ wsX3_firstWordThatFits := by decide +kernel
theorem m1_X3_firstWordThatFits : ∀ w ∈ u_ws RX3 TX3 7, w ∈ wsX3_firstWordThatFits := by decide +kernel
theorem m2_X3_firstWordThatFits : Cond.fieldLink RX3 63 RX2 (TX2 3).2.1 (TX2 3).2.2.1 ∈ wsX3_firstWordThatFits := by decide +kernel
theorem m3_X3_firstWordThatFits : ∀ w ∈ u_ws RX2 TX2 4, w ∈ wsX3_firstWordThatFits := by decide +kernel
set_option maxHeartbeats 4000000 in
set_option maxRecDepth 100000 in
theorem tl_X3_firstWordThatFits_2 {l : Launch} {D : va_G} {X : zE} {p : Program} {e : Env} {s : State} {m : MethodId} {args : Array Value} {below : List Frame} {meth : Method} {c : Code} (S : zS p m meth c cX3_firstWordThatFits 3 (some .int) s args wsX3_firstWordThatFits RX3 D 44 X) {z0 : zV} {r : Int32} : ∀ (n_ : Nat), ∀ (x1 : Int32) (x2 : Int32), l_X3_firstWordThatFits_2 z0 n_ x1 x2 = some r → Zj false D 44 X p l e (zrm 4 89) s m args below meth c (MQ below (zQr (some (.int r))) args s 0 0 (fun _ => False)) 3 2 [(0, .ref (X.1 42)), (1, .int x1), (2, .int x2)] [] (zc shC X z0) := by
  intro n_
  induction n_ with
  | zero =>
    intro x1 x2 h
    cases h
  | succ n_ ih =>
    intro x1 x2 h
    rw [l_X3_firstWordThatFits_2] at h
    refine z_iload_n S 2 dX3_firstWordThatFits_2 rfl rfl ?_
    refine z_aload_n S 0 dX3_firstWordThatFits_3 rfl rfl ?_
    refine z_get S (C := RX3) (T := TX3) (N := 7) (ci := 3) 1 m0_X3_firstWordThatFits m1_X3_firstWordThatFits (Nat.le_of_ble_eq_true rfl) (cC_42 X z0) rfl (Nat.le_of_ble_eq_true rfl) rfl rfl dX3_firstWordThatFits_4 ?_
    refine z_get S (C := RX2) (T := TX2) (N := 4) (ci := 2) 3 m2_X3_firstWordThatFits m3_X3_firstWordThatFits (Nat.le_of_ble_eq_true rfl) (cC_36 X z0) rfl (Nat.le_of_ble_eq_true rfl) rfl rfl dX3_firstWordThatFits_7 ?_
    refine z_icmp_ge S (tgt := 30) dX3_firstWordThatFits_10 (by decide) h (fun h => ?_) (fun h => ?_)
    · refine z_bipush (v := (-5)) S dX3_firstWordThatFits_30 (by decide) ?_
      exact z_iret_r S dX3_firstWordThatFits_32 h
    · refine z_aload_n S 0 dX3_firstWordThatFits_13 rfl rfl ?_
      refine z_iload_n S 2 dX3_firstWordThatFits_14 rfl rfl ?_
      refine z_iload_n S 1 dX3_firstWordThatFits_15 rfl rfl ?_
      obtain ⟨v_16, hv_16, h⟩ := ob_some h
      refine z_callV_r (As := [.int x2, .int x1]) S (c_X3_isFitting l D X _ _ _ S.2.2.1 hv_16) (cwV 2 S.1.2.2.2.2 gX3_firstWordThatFits_X3_isFitting rfl rfl rfl hd_X3_isFitting ⟨Nat.le_of_ble_eq_true rfl, Nat.le_of_ble_eq_true rfl⟩) (Nat.le_of_ble_eq_true rfl) (cC_42 X z0) rfl rfl rfl (Nat.le_of_ble_eq_true rfl) rfl dX3_firstWordThatFits_16 ?_
      refine z_if_eq S (tgt := 24) dX3_firstWordThatFits_19 (by decide) h (fun h => ?_) (fun h => ?_)
      · refine z_iinc S 2 [(2, .int (x2 + nI 1)), (0, .ref (X.1 42)), (1, .int x1)] dX3_firstWordThatFits_24 rfl rfl (Nat.le_of_ble_eq_true rfl) rfl ?_
        refine z_goto S (tgt := 2) dX3_firstWordThatFits_27 (by decide) ?_
        exact z_lv [1, 2, 0] rfl (ih _ _ h)
      · refine z_iload_n S 2 dX3_firstWordThatFits_22 rfl rfl ?_
        exact z_iret_r S dX3_firstWordThatFits_23 h
set_option maxHeartbeats 4000000 in
set_option maxRecDepth 100000 in
theorem c_X3_firstWordThatFits (l : Launch) (D : va_G) (X : zE) (z0 : zV) (a0 : Int32) (hinj : zw_inj 44 X.1) {r : Int32} (h : f_X3_firstWordThatFits z0 a0 = some r) : zMr l yX3_firstWordThatFits wsX3_firstWordThatFits (zrm 4 89) D 44 X (zc shC X z0) [.ref (X.1 42), .int a0] (some (.int r)) := by
  rw [f_X3_firstWordThatFits] at h
  refine z_start_r (cc := cX3_firstWordThatFits) (maxL := 3) (ret := (some .int)) (by decide) rfl (Nat.le_of_ble_eq_true rfl) hinj ?_
  intro p e s m below meth c S
  refine z_iconst (v := (nI 0)) S dX3_firstWordThatFits_0 (by decide) ?_
  refine z_istore_n S [(2, .int (nI 0)), (0, .ref (X.1 42)), (1, .int a0)] dX3_firstWordThatFits_1 rfl (Nat.le_of_ble_eq_true rfl) rfl ?_
  exact z_lv [1, 2, 0] rfl (tl_X3_firstWordThatFits_2 S _ _ _ h)
/-! SoldLetters.priceOfRest: a walk -/
theorem hd_X3_priceOfRest : yX3_priceOfRest.cls = RX3 ∧ yX3_priceOfRest.cls ≠ "java/lang/invoke/MethodHandle" ∧ yX3_priceOfRest.cls ≠ "java/lang/invoke/VarHandle" ∧ (parseMethodDescriptor yX3_priceOfRest.desc).map (fun d => d.parameters.length) = some 1 := by decide +kernel
theorem m0_X3_priceOfRest : Cond.fieldLink RX3 19 RX3 (TX3 1).2.1 (TX3 1).2.2.1 ∈ wsX3_priceOfRest := by decide +kernel
theorem m1_X3_priceOfRest : ∀ w ∈ u_ws RX3 TX3 7, w ∈ wsX3_priceOfRest := by decide +kernel
theorem m2_X3_priceOfRest : Cond.fieldLink RX3 136 RX2 (TX2 1).2.1 (TX2 1).2.2.1 ∈ wsX3_priceOfRest := by decide +kernel
theorem m3_X3_priceOfRest : ∀ w ∈ u_ws RX2 TX2 4, w ∈ wsX3_priceOfRest := by decide +kernel
theorem m4_X3_priceOfRest : Cond.fieldLink RX3 12 RX3 (TX3 0).2.1 (TX3 0).2.2.1 ∈ wsX3_priceOfRest := by decide +kernel
set_option maxHeartbeats 4000000 in
set_option maxRecDepth 100000 in
theorem tl_X3_priceOfRest_4 {l : Launch} {D : va_G} {X : zE} {p : Program} {e : Env} {s : State} {m : MethodId} {args : Array Value} {below : List Frame} {meth : Method} {c : Code} (S : zS p m meth c cX3_priceOfRest 5 (some .int) s args wsX3_priceOfRest RX3 D 44 X) {z0 : zV} {r : Int32} : ∀ (n_ : Nat), ∀ (x1 : Int32) (x2 : Int32) (x3 : Int32), l_X3_priceOfRest_4 z0 n_ x1 x2 x3 = some r → Zj false D 44 X p l e (zrm 4 87) s m args below meth c (MQ below (zQr (some (.int r))) args s 0 0 (fun _ => False)) 5 4 [(0, .ref (X.1 42)), (1, .int x1), (2, .int x2), (3, .int x3)] [] (zc shC X z0) := by
  intro n_
  induction n_ with
  | zero =>
    intro x1 x2 x3 h
    cases h
  | succ n_ ih =>
    intro x1 x2 x3 h
    rw [l_X3_priceOfRest_4] at h
    refine z_iload_n S 3 dX3_priceOfRest_4 rfl rfl ?_
    refine z_aload_n S 0 dX3_priceOfRest_5 rfl rfl ?_
    refine z_get S (C := RX3) (T := TX3) (N := 7) (ci := 3) 1 m0_X3_priceOfRest m1_X3_priceOfRest (Nat.le_of_ble_eq_true rfl) (cC_42 X z0) rfl (Nat.le_of_ble_eq_true rfl) rfl rfl dX3_priceOfRest_6 ?_
    refine z_get S (C := RX2) (T := TX2) (N := 4) (ci := 2) 1 m2_X3_priceOfRest m3_X3_priceOfRest (Nat.le_of_ble_eq_true rfl) (cC_36 X z0) rfl (Nat.le_of_ble_eq_true rfl) rfl rfl dX3_priceOfRest_9 ?_
    refine z_iload_n S 1 dX3_priceOfRest_12 rfl rfl ?_
    refine z_iald S (Nat.le_of_ble_eq_true rfl) (cC_38 X z0) dX3_priceOfRest_13 h (fun v_13 h => ?_)
    refine z_icmp_ge S (tgt := 63) dX3_priceOfRest_14 (by decide) h (fun h => ?_) (fun h => ?_)
    · refine z_iload_n S 2 dX3_priceOfRest_63 rfl rfl ?_
      exact z_iret_r S dX3_priceOfRest_64 h
    · refine z_aload_n S 0 dX3_priceOfRest_17 rfl rfl ?_
      refine z_iload_n S 1 dX3_priceOfRest_18 rfl rfl ?_
      refine z_iload_n S 3 dX3_priceOfRest_19 rfl rfl ?_
      obtain ⟨v_20, hv_20, h⟩ := ob_some h
      refine z_callV_r (As := [.int x1, .int x3]) S (c_X3_numberIn l D X _ _ _ S.2.2.1 hv_20) (cwV 2 S.1.2.2.2.2 gX3_priceOfRest_X3_numberIn rfl rfl rfl hd_X3_numberIn ⟨Nat.le_of_ble_eq_true rfl, Nat.le_of_ble_eq_true rfl⟩) (Nat.le_of_ble_eq_true rfl) (cC_42 X z0) rfl rfl rfl (Nat.le_of_ble_eq_true rfl) rfl dX3_priceOfRest_20 ?_
      refine z_istore S [(4, .int v_20), (0, .ref (X.1 42)), (1, .int x1), (2, .int x2), (3, .int x3)] dX3_priceOfRest_23 (Nat.le_of_ble_eq_true rfl) rfl ?_
      refine z_aload_n S 1 dX3_priceOfRest_25 rfl rfl ?_
      refine z_iload S 0 dX3_priceOfRest_26 rfl ?_
      obtain ⟨v_28, hv_28, h⟩ := ob_some h
      refine z_callV_r (As := [.int v_20]) S (c_X3_isUnguessed l D X _ _ S.2.2.1 hv_28) (cwV 1 S.1.2.2.2.2 gX3_priceOfRest_X3_isUnguessed rfl rfl rfl hd_X3_isUnguessed ⟨Nat.le_of_ble_eq_true rfl, Nat.le_of_ble_eq_true rfl⟩) (Nat.le_of_ble_eq_true rfl) (cC_42 X z0) rfl rfl rfl (Nat.le_of_ble_eq_true rfl) rfl dX3_priceOfRest_28 ?_
      refine z_if_eq S (tgt := 57) dX3_priceOfRest_31 (by decide) h (fun h => ?_) (fun h => ?_)
      · refine z_iinc S 4 [(3, .int (x3 + nI 1)), (4, .int v_20), (0, .ref (X.1 42)), (1, .int x1), (2, .int x2)] dX3_priceOfRest_57 rfl rfl (Nat.le_of_ble_eq_true rfl) rfl ?_
        refine z_goto S (tgt := 4) dX3_priceOfRest_60 (by decide) ?_
        exact z_lv [2, 3, 4, 0] rfl (ih _ _ _ h)
      · refine z_aload_n S 1 dX3_priceOfRest_34 rfl rfl ?_
        refine z_iload S 0 dX3_priceOfRest_35 rfl ?_
        refine z_iload_n S 2 dX3_priceOfRest_37 rfl rfl ?_
        obtain ⟨v_38, hv_38, h⟩ := ob_some h
        refine z_callV_r (As := [.int v_20, .int x1]) S (c_X3_firstPlaceOf l D X _ _ _ S.2.2.1 hv_38) (cwV 2 S.1.2.2.2.2 gX3_priceOfRest_X3_firstPlaceOf rfl rfl rfl hd_X3_firstPlaceOf ⟨Nat.le_of_ble_eq_true rfl, Nat.le_of_ble_eq_true rfl⟩) (Nat.le_of_ble_eq_true rfl) (cC_42 X z0) rfl rfl rfl (Nat.le_of_ble_eq_true rfl) rfl dX3_priceOfRest_38 ?_
        refine z_iload_n S 4 dX3_priceOfRest_41 rfl rfl ?_
        refine z_icmp_ne S (tgt := 57) dX3_priceOfRest_42 (by decide) h (fun h => ?_) (fun h => ?_)
        · refine z_iinc S 4 [(3, .int (x3 + nI 1)), (4, .int v_20), (0, .ref (X.1 42)), (1, .int x1), (2, .int x2)] dX3_priceOfRest_57 rfl rfl (Nat.le_of_ble_eq_true rfl) rfl ?_
          refine z_goto S (tgt := 4) dX3_priceOfRest_60 (by decide) ?_
          exact z_lv [2, 3, 4, 0] rfl (ih _ _ _ h)
        · refine z_iload_n S 3 dX3_priceOfRest_45 rfl rfl ?_
          refine z_aload_n S 1 dX3_priceOfRest_46 rfl rfl ?_
          refine z_get S (C := RX3) (T := TX3) (N := 7) (ci := 3) 0 m4_X3_priceOfRest m1_X3_priceOfRest (Nat.le_of_ble_eq_true rfl) (cC_42 X z0) rfl (Nat.le_of_ble_eq_true rfl) rfl rfl dX3_priceOfRest_47 ?_
          refine z_iload S 0 dX3_priceOfRest_50 rfl ?_
          obtain ⟨v_52, hv_52, h⟩ := ob_some h
          refine z_callV_r (As := [.int v_20]) S (c_X0_priceOf l D X _ _ S.2.2.1 hv_52) (cwV 1 S.1.2.2.2.2 gX3_priceOfRest_X0_priceOf rfl rfl rfl hd_X0_priceOf ⟨Nat.le_of_ble_eq_true rfl, Nat.le_of_ble_eq_true rfl⟩) (Nat.le_of_ble_eq_true rfl) (cC_0 X z0) rfl rfl rfl (Nat.le_of_ble_eq_true rfl) rfl dX3_priceOfRest_52 ?_
          refine z_iadd S dX3_priceOfRest_55 ?_
          refine z_istore_n S [(2, .int (x2 + v_52)), (4, .int v_20), (0, .ref (X.1 42)), (1, .int x1), (3, .int x3)] dX3_priceOfRest_56 rfl (Nat.le_of_ble_eq_true rfl) rfl ?_
          refine z_iinc S 4 [(3, .int (x3 + nI 1)), (2, .int (x2 + v_52)), (4, .int v_20), (0, .ref (X.1 42)), (1, .int x1)] dX3_priceOfRest_57 rfl rfl (Nat.le_of_ble_eq_true rfl) rfl ?_
          refine z_goto S (tgt := 4) dX3_priceOfRest_60 (by decide) ?_
          exact z_lv [3, 4, 1, 0] rfl (ih _ _ _ h)
set_option maxHeartbeats 4000000 in
set_option maxRecDepth 100000 in
theorem c_X3_priceOfRest (l : Launch) (D : va_G) (X : zE) (z0 : zV) (a0 : Int32) (hinj : zw_inj 44 X.1) {r : Int32} (h : f_X3_priceOfRest z0 a0 = some r) : zMr l yX3_priceOfRest wsX3_priceOfRest (zrm 4 87) D 44 X (zc shC X z0) [.ref (X.1 42), .int a0] (some (.int r)) := by
  rw [f_X3_priceOfRest] at h
  refine z_start_r (cc := cX3_priceOfRest) (maxL := 5) (ret := (some .int)) (by decide) rfl (Nat.le_of_ble_eq_true rfl) hinj ?_
  intro p e s m below meth c S
  refine z_iconst (v := (nI 0)) S dX3_priceOfRest_0 (by decide) ?_
  refine z_istore_n S [(2, .int (nI 0)), (0, .ref (X.1 42)), (1, .int a0)] dX3_priceOfRest_1 rfl (Nat.le_of_ble_eq_true rfl) rfl ?_
  refine z_iconst (v := (nI 0)) S dX3_priceOfRest_2 (by decide) ?_
  refine z_istore_n S [(3, .int (nI 0)), (2, .int (nI 0)), (0, .ref (X.1 42)), (1, .int a0)] dX3_priceOfRest_3 rfl (Nat.le_of_ble_eq_true rfl) rfl ?_
  exact z_lv [2, 3, 1, 0] rfl (tl_X3_priceOfRest_4 S _ _ _ _ h)
