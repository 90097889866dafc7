/-! SoldLettersModel.firstFitted: a walk -/
theorem hd_X4_firstFitted : yX4_firstFitted.cls = RX4 ∧ yX4_firstFitted.cls ≠ "java/lang/invoke/MethodHandle" ∧ yX4_firstFitted.cls ≠ "java/lang/invoke/VarHandle" ∧ (parseMethodDescriptor yX4_firstFitted.desc).map (fun d => d.parameters.length) = some 1 := by decide +kernel
theorem m0_X4_firstFitted : Cond.fieldLink RX4 57 RX4 (TX4 9).2.1 (TX4 9).2.2.1 ∈ wsX4_firstFitted := by decide +kernel
theorem m1_X4_firstFitted : ∀ w ∈ u_ws RX4 TX4 12, w ∈ wsX4_firstFitted := by decide +kernel
set_option maxHeartbeats 4000000 in
set_option maxRecDepth 100000 in
theorem tl_X4_firstFitted_2 {l : Launch} {D : va_G} {X : zE} {p : Program} {e : Env} {s : State} {m : MethodId} {args : Array Value} {below : List Frame} {meth : Method} {c : Code} (S : zS p m meth c cX4_firstFitted 3 (some .int) s args wsX4_firstFitted RX4 D 9 X) {z0 : zV} {r : Int32} : ∀ (n_ : Nat), ∀ (x1 : Int32) (x2 : Int32), l_X4_firstFitted_2 z0 n_ x1 x2 = some r → Zj false D 9 X p l e (zrm 4 94) s m args below meth c (MQ below (zQr (some (.int r))) args s 0 0 (fun _ => False)) 3 2 [(0, .ref (X.1 0)), (1, .int x1), (2, .int x2)] [] (zc shM X z0) := by
  intro n_
  induction n_ with
  | zero =>
    intro x1 x2 h
    cases h
  | succ n_ ih =>
    intro x1 x2 h
    rw [l_X4_firstFitted_2] at h
    refine z_iload_n S 2 dX4_firstFitted_2 rfl rfl ?_
    refine z_aload_n S 0 dX4_firstFitted_3 rfl rfl ?_
    refine z_get S (C := RX4) (T := TX4) (N := 12) (ci := 4) 9 m0_X4_firstFitted m1_X4_firstFitted (Nat.le_of_ble_eq_true rfl) (cM_0 X z0) rfl (Nat.le_of_ble_eq_true rfl) rfl rfl dX4_firstFitted_4 ?_
    refine z_icmp_ge S (tgt := 27) dX4_firstFitted_7 (by decide) h (fun h => ?_) (fun h => ?_)
    · refine z_bipush (v := (-5)) S dX4_firstFitted_27 (by decide) ?_
      exact z_iret_r S dX4_firstFitted_29 h
    · refine z_aload_n S 0 dX4_firstFitted_10 rfl rfl ?_
      refine z_iload_n S 2 dX4_firstFitted_11 rfl rfl ?_
      refine z_iload_n S 1 dX4_firstFitted_12 rfl rfl ?_
      obtain ⟨v_13, hv_13, h⟩ := ob_some h
      refine z_callV_r (As := [.int x2, .int x1]) S (c_X4_isFit l D X _ _ _ S.2.2.1 hv_13) (cwV 2 S.1.2.2.2.2 gX4_firstFitted_X4_isFit rfl rfl rfl hd_X4_isFit ⟨Nat.le_of_ble_eq_true rfl, Nat.le_of_ble_eq_true rfl⟩) (Nat.le_of_ble_eq_true rfl) (cM_0 X z0) rfl rfl rfl (Nat.le_of_ble_eq_true rfl) rfl dX4_firstFitted_13 ?_
      refine z_if_eq S (tgt := 21) dX4_firstFitted_16 (by decide) h (fun h => ?_) (fun h => ?_)
      · refine z_iinc S 2 [(2, .int (x2 + nI 1)), (0, .ref (X.1 0)), (1, .int x1)] dX4_firstFitted_21 rfl rfl (Nat.le_of_ble_eq_true rfl) rfl ?_
        refine z_goto S (tgt := 2) dX4_firstFitted_24 (by decide) ?_
        exact z_lv [1, 2, 0] rfl (ih _ _ h)
      · refine z_iload_n S 2 dX4_firstFitted_19 rfl rfl ?_
        exact z_iret_r S dX4_firstFitted_20 h
set_option maxHeartbeats 4000000 in
set_option maxRecDepth 100000 in
theorem c_X4_firstFitted (l : Launch) (D : va_G) (X : zE) (z0 : zV) (a0 : Int32) (hinj : zw_inj 9 X.1) {r : Int32} (h : f_X4_firstFitted z0 a0 = some r) : zMr l yX4_firstFitted wsX4_firstFitted (zrm 4 94) D 9 X (zc shM X z0) [.ref (X.1 0), .int a0] (some (.int r)) := by
  rw [f_X4_firstFitted] at h
  refine z_start_r (cc := cX4_firstFitted) (maxL := 3) (ret := (some .int)) (by decide) rfl (Nat.le_of_ble_eq_true rfl) hinj ?_
  intro p e s m below meth c S
  refine z_iconst (v := (nI 0)) S dX4_firstFitted_0 (by decide) ?_
  refine z_istore_n S [(2, .int (nI 0)), (0, .ref (X.1 0)), (1, .int a0)] dX4_firstFitted_1 rfl (Nat.le_of_ble_eq_true rfl) rfl ?_
  exact z_lv [1, 2, 0] rfl (tl_X4_firstFitted_2 S _ _ _ h)
/-! SoldLettersModel.fitted: a walk -/
theorem hd_X4_fitted : yX4_fitted.cls = RX4 ∧ yX4_fitted.cls ≠ "java/lang/invoke/MethodHandle" ∧ yX4_fitted.cls ≠ "java/lang/invoke/VarHandle" ∧ (parseMethodDescriptor yX4_fitted.desc).map (fun d => d.parameters.length) = some 1 := by decide +kernel
theorem m0_X4_fitted : Cond.fieldLink RX4 57 RX4 (TX4 9).2.1 (TX4 9).2.2.1 ∈ wsX4_fitted := by decide +kernel
theorem m1_X4_fitted : ∀ w ∈ u_ws RX4 TX4 12, w ∈ wsX4_fitted := by decide +kernel
set_option maxHeartbeats 4000000 in
set_option maxRecDepth 100000 in
theorem tl_X4_fitted_4 {l : Launch} {D : va_G} {X : zE} {p : Program} {e : Env} {s : State} {m : MethodId} {args : Array Value} {below : List Frame} {meth : Method} {c : Code} (S : zS p m meth c cX4_fitted 4 (some .int) s args wsX4_fitted RX4 D 9 X) {z0 : zV} {r : Int32} : ∀ (n_ : Nat), ∀ (x1 : Int32) (x2 : Int32) (x3 : Int32), l_X4_fitted_4 z0 n_ x1 x2 x3 = some r → Zj false D 9 X p l e (zrm 4 94) s m args below meth c (MQ below (zQr (some (.int r))) args s 0 0 (fun _ => False)) 4 4 [(0, .ref (X.1 0)), (1, .int x1), (2, .int x2), (3, .int x3)] [] (zc shM X z0) := by
  intro n_
  induction n_ with
  | zero =>
    intro x1 x2 x3 h
    cases h
  | succ n_ ih =>
    intro x1 x2 x3 h
    rw [l_X4_fitted_4] at h
    refine z_iload_n S 3 dX4_fitted_4 rfl rfl ?_
    refine z_aload_n S 0 dX4_fitted_5 rfl rfl ?_
    refine z_get S (C := RX4) (T := TX4) (N := 12) (ci := 4) 9 m0_X4_fitted m1_X4_fitted (Nat.le_of_ble_eq_true rfl) (cM_0 X z0) rfl (Nat.le_of_ble_eq_true rfl) rfl rfl dX4_fitted_6 ?_
    refine z_icmp_ge S (tgt := 35) dX4_fitted_9 (by decide) h (fun h => ?_) (fun h => ?_)
    · refine z_iload_n S 2 dX4_fitted_35 rfl rfl ?_
      exact z_iret_r S dX4_fitted_36 h
    · refine z_iload_n S 2 dX4_fitted_12 rfl rfl ?_
      refine z_aload_n S 0 dX4_fitted_13 rfl rfl ?_
      refine z_iload_n S 3 dX4_fitted_14 rfl rfl ?_
      refine z_iload_n S 1 dX4_fitted_15 rfl rfl ?_
      obtain ⟨v_16, hv_16, h⟩ := ob_some h
      refine z_callV_r (As := [.int x3, .int x1]) S (c_X4_isFit l D X _ _ _ S.2.2.1 hv_16) (cwV 2 S.1.2.2.2.2 gX4_fitted_X4_isFit rfl rfl rfl hd_X4_isFit ⟨Nat.le_of_ble_eq_true rfl, Nat.le_of_ble_eq_true rfl⟩) (Nat.le_of_ble_eq_true rfl) (cM_0 X z0) rfl rfl rfl (Nat.le_of_ble_eq_true rfl) rfl dX4_fitted_16 ?_
      refine z_if_eq S (tgt := 26) dX4_fitted_19 (by decide) h (fun h => ?_) (fun h => ?_)
      · refine z_iconst (v := (nI 0)) S dX4_fitted_26 (by decide) ?_
        refine z_iadd S dX4_fitted_27 ?_
        refine z_istore_n S [(2, .int (x2 + (nI 0))), (0, .ref (X.1 0)), (1, .int x1), (3, .int x3)] dX4_fitted_28 rfl (Nat.le_of_ble_eq_true rfl) rfl ?_
        refine z_iinc S 3 [(3, .int (x3 + nI 1)), (2, .int (x2 + (nI 0))), (0, .ref (X.1 0)), (1, .int x1)] dX4_fitted_29 rfl rfl (Nat.le_of_ble_eq_true rfl) rfl ?_
        refine z_goto S (tgt := 4) dX4_fitted_32 (by decide) ?_
        exact z_lv [2, 3, 1, 0] rfl (ih _ _ _ h)
      · refine z_iconst (v := (nI 1)) S dX4_fitted_22 (by decide) ?_
        refine z_goto S (tgt := 27) dX4_fitted_23 (by decide) ?_
        refine z_iadd S dX4_fitted_27 ?_
        refine z_istore_n S [(2, .int (x2 + (nI 1))), (0, .ref (X.1 0)), (1, .int x1), (3, .int x3)] dX4_fitted_28 rfl (Nat.le_of_ble_eq_true rfl) rfl ?_
        refine z_iinc S 3 [(3, .int (x3 + nI 1)), (2, .int (x2 + (nI 1))), (0, .ref (X.1 0)), (1, .int x1)] dX4_fitted_29 rfl rfl (Nat.le_of_ble_eq_true rfl) rfl ?_
        refine z_goto S (tgt := 4) dX4_fitted_32 (by decide) ?_
        exact z_lv [2, 3, 1, 0] rfl (ih _ _ _ h)
set_option maxHeartbeats 4000000 in
set_option maxRecDepth 100000 in
theorem c_X4_fitted (l : Launch) (D : va_G) (X : zE) (z0 : zV) (a0 : Int32) (hinj : zw_inj 9 X.1) {r : Int32} (h : f_X4_fitted z0 a0 = some r) : zMr l yX4_fitted wsX4_fitted (zrm 4 94) D 9 X (zc shM X z0) [.ref (X.1 0), .int a0] (some (.int r)) := by
  rw [f_X4_fitted] at h
  refine z_start_r (cc := cX4_fitted) (maxL := 4) (ret := (some .int)) (by decide) rfl (Nat.le_of_ble_eq_true rfl) hinj ?_
  intro p e s m below meth c S
  refine z_iconst (v := (nI 0)) S dX4_fitted_0 (by decide) ?_
  refine z_istore_n S [(2, .int (nI 0)), (0, .ref (X.1 0)), (1, .int a0)] dX4_fitted_1 rfl (Nat.le_of_ble_eq_true rfl) rfl ?_
  refine z_iconst (v := (nI 0)) S dX4_fitted_2 (by decide) ?_
  refine z_istore_n S [(3, .int (nI 0)), (2, .int (nI 0)), (0, .ref (X.1 0)), (1, .int a0)] dX4_fitted_3 rfl (Nat.le_of_ble_eq_true rfl) rfl ?_
  exact z_lv [2, 3, 1, 0] rfl (tl_X4_fitted_4 S _ _ _ _ h)
/-! SoldLettersModel.worth: a walk -/
theorem hd_X4_worth : yX4_worth.cls = RX4 ∧ yX4_worth.cls ≠ "java/lang/invoke/MethodHandle" ∧ yX4_worth.cls ≠ "java/lang/invoke/VarHandle" ∧ (parseMethodDescriptor yX4_worth.desc).map (fun d => d.parameters.length) = some 1 := by decide +kernel
theorem m0_X4_worth : Cond.fieldLink RX4 7 RX4 (TX4 0).2.1 (TX4 0).2.2.1 ∈ wsX4_worth := by decide +kernel
theorem m1_X4_worth : ∀ w ∈ u_ws RX4 TX4 12, w ∈ wsX4_worth := by decide +kernel
set_option maxHeartbeats 4000000 in
set_option maxRecDepth 100000 in
theorem tl_X4_worth_4 {l : Launch} {D : va_G} {X : zE} {p : Program} {e : Env} {s : State} {m : MethodId} {args : Array Value} {below : List Frame} {meth : Method} {c : Code} (S : zS p m meth c cX4_worth 4 (some .int) s args wsX4_worth RX4 D 9 X) {z0 : zV} {r : Int32} : ∀ (n_ : Nat), ∀ (x1 : Int32) (x2 : Int32) (x3 : Int32), l_X4_worth_4 z0 n_ x1 x2 x3 = some r → Zj false D 9 X p l e (zrm 4 87) s m args below meth c (MQ below (zQr (some (.int r))) args s 0 0 (fun _ => False)) 4 4 [(0, .ref (X.1 0)), (1, .int x1), (2, .int x2), (3, .int x3)] [] (zc shM X z0) := by
  intro n_
  induction n_ with
  | zero =>
    intro x1 x2 x3 h
    cases h
  | succ n_ ih =>
    intro x1 x2 x3 h
    rw [l_X4_worth_4] at h
    refine z_iload_n S 3 dX4_worth_4 rfl rfl ?_
    refine z_bipush (v := (nI 26)) S dX4_worth_5 (by decide) ?_
    refine z_icmp_gt S (tgt := 50) dX4_worth_7 (by decide) h (fun h => ?_) (fun h => ?_)
    · refine z_iload_n S 2 dX4_worth_50 rfl rfl ?_
      exact z_iret_r S dX4_worth_51 h
    · refine z_iload_n S 2 dX4_worth_10 rfl rfl ?_
      refine z_aload_n S 0 dX4_worth_11 rfl rfl ?_
      refine z_get S (C := RX4) (T := TX4) (N := 12) (ci := 4) 0 m0_X4_worth m1_X4_worth (Nat.le_of_ble_eq_true rfl) (cM_0 X z0) rfl (Nat.le_of_ble_eq_true rfl) rfl rfl dX4_worth_12 ?_
      refine z_bipush (v := (nI 51)) S dX4_worth_15 (by decide) ?_
      refine z_iload_n S 3 dX4_worth_17 rfl rfl ?_
      refine z_iadd S dX4_worth_18 ?_
      refine z_iald S (Nat.le_of_ble_eq_true rfl) (cM_1 X z0) dX4_worth_19 h (fun v_19 h => ?_)
      refine z_iconst (v := (-1)) S dX4_worth_20 (by decide) ?_
      refine z_icmp_ne S (tgt := 41) dX4_worth_21 (by decide) h (fun h => ?_) (fun h => ?_)
      · refine z_iconst (v := (nI 0)) S dX4_worth_41 (by decide) ?_
        refine z_iadd S dX4_worth_42 ?_
        refine z_istore_n S [(2, .int (x2 + (nI 0))), (0, .ref (X.1 0)), (1, .int x1), (3, .int x3)] dX4_worth_43 rfl (Nat.le_of_ble_eq_true rfl) rfl ?_
        refine z_iinc S 3 [(3, .int (x3 + nI 1)), (2, .int (x2 + (nI 0))), (0, .ref (X.1 0)), (1, .int x1)] dX4_worth_44 rfl rfl (Nat.le_of_ble_eq_true rfl) rfl ?_
        refine z_goto S (tgt := 4) dX4_worth_47 (by decide) ?_
        exact z_lv [2, 3, 1, 0] rfl (ih _ _ _ h)
      · refine z_aload_n S 0 dX4_worth_24 rfl rfl ?_
        refine z_iload_n S 1 dX4_worth_25 rfl rfl ?_
        refine z_iload_n S 3 dX4_worth_26 rfl rfl ?_
        obtain ⟨v_27, hv_27, h⟩ := ob_some h
        refine z_callV_r (As := [.int x1, .int x3]) S (c_X4_hasNumber l D X _ _ _ S.2.2.1 hv_27) (cwV 2 S.1.2.2.2.2 gX4_worth_X4_hasNumber rfl rfl rfl hd_X4_hasNumber ⟨Nat.le_of_ble_eq_true rfl, Nat.le_of_ble_eq_true rfl⟩) (Nat.le_of_ble_eq_true rfl) (cM_0 X z0) rfl rfl rfl (Nat.le_of_ble_eq_true rfl) rfl dX4_worth_27 ?_
        refine z_if_eq S (tgt := 41) dX4_worth_30 (by decide) h (fun h => ?_) (fun h => ?_)
        · refine z_iconst (v := (nI 0)) S dX4_worth_41 (by decide) ?_
          refine z_iadd S dX4_worth_42 ?_
          refine z_istore_n S [(2, .int (x2 + (nI 0))), (0, .ref (X.1 0)), (1, .int x1), (3, .int x3)] dX4_worth_43 rfl (Nat.le_of_ble_eq_true rfl) rfl ?_
          refine z_iinc S 3 [(3, .int (x3 + nI 1)), (2, .int (x2 + (nI 0))), (0, .ref (X.1 0)), (1, .int x1)] dX4_worth_44 rfl rfl (Nat.le_of_ble_eq_true rfl) rfl ?_
          refine z_goto S (tgt := 4) dX4_worth_47 (by decide) ?_
          exact z_lv [2, 3, 1, 0] rfl (ih _ _ _ h)
        · refine z_aload_n S 0 dX4_worth_33 rfl rfl ?_
          refine z_iload_n S 3 dX4_worth_34 rfl rfl ?_
          obtain ⟨v_35, hv_35, h⟩ := ob_some h
          refine z_callV_r (As := [.int x3]) S (c_X4_priceOf l D X _ _ S.2.2.1 hv_35) (cwV 1 S.1.2.2.2.2 gX4_worth_X4_priceOf rfl rfl rfl hd_X4_priceOf ⟨Nat.le_of_ble_eq_true rfl, Nat.le_of_ble_eq_true rfl⟩) (Nat.le_of_ble_eq_true rfl) (cM_0 X z0) rfl rfl rfl (Nat.le_of_ble_eq_true rfl) rfl dX4_worth_35 ?_
          refine z_goto S (tgt := 42) dX4_worth_38 (by decide) ?_
          refine z_iadd S dX4_worth_42 ?_
          refine z_istore_n S [(2, .int (x2 + v_35)), (0, .ref (X.1 0)), (1, .int x1), (3, .int x3)] dX4_worth_43 rfl (Nat.le_of_ble_eq_true rfl) rfl ?_
          refine z_iinc S 3 [(3, .int (x3 + nI 1)), (2, .int (x2 + v_35)), (0, .ref (X.1 0)), (1, .int x1)] dX4_worth_44 rfl rfl (Nat.le_of_ble_eq_true rfl) rfl ?_
          refine z_goto S (tgt := 4) dX4_worth_47 (by decide) ?_
          exact z_lv [2, 3, 1, 0] rfl (ih _ _ _ h)
set_option maxHeartbeats 4000000 in
set_option maxRecDepth 100000 in
theorem c_X4_worth (l : Launch) (D : va_G) (X : zE) (z0 : zV) (a0 : Int32) (hinj : zw_inj 9 X.1) {r : Int32} (h : f_X4_worth z0 a0 = some r) : zMr l yX4_worth wsX4_worth (zrm 4 87) D 9 X (zc shM X z0) [.ref (X.1 0), .int a0] (some (.int r)) := by
  rw [f_X4_worth] at h
  refine z_start_r (cc := cX4_worth) (maxL := 4) (ret := (some .int)) (by decide) rfl (Nat.le_of_ble_eq_true rfl) hinj ?_
  intro p e s m below meth c S
  refine z_iconst (v := (nI 0)) S dX4_worth_0 (by decide) ?_
  refine z_istore_n S [(2, .int (nI 0)), (0, .ref (X.1 0)), (1, .int a0)] dX4_worth_1 rfl (Nat.le_of_ble_eq_true rfl) rfl ?_
  refine z_iconst (v := (nI 1)) S dX4_worth_2 (by decide) ?_
  refine z_istore_n S [(3, .int (nI 1)), (2, .int (nI 0)), (0, .ref (X.1 0)), (1, .int a0)] dX4_worth_3 rfl (Nat.le_of_ble_eq_true rfl) rfl ?_
  exact z_lv [2, 3, 1, 0] rfl (tl_X4_worth_4 S _ _ _ _ h)
/-! SoldLettersModel.listed: a walk -/
theorem hd_X4_listed : yX4_listed.cls = RX4 ∧ yX4_listed.cls ≠ "java/lang/invoke/MethodHandle" ∧ yX4_listed.cls ≠ "java/lang/invoke/VarHandle" ∧ (parseMethodDescriptor yX4_listed.desc).map (fun d => d.parameters.length) = some 2 := by decide +kernel
set_option maxHeartbeats 4000000 in
set_option maxRecDepth 100000 in
theorem c_X4_listed (l : Launch) (D : va_G) (X : zE) (z0 : zV) (a0 : Int32) (a1 : Int32) (hinj : zw_inj 9 X.1) {r : Int32} {z1 : zV} (h : f_X4_listed z0 a0 a1 = some (r, z1)) : zMw l yX4_listed wsX4_listed (zrm 5 117) D 9 X (zc shM X z0) [.ref (X.1 0), .int a0, .int a1] (some (.int r)) (zc shM X z1) := by
  rw [f_X4_listed] at h
  refine z_start_w (cc := cX4_listed) (maxL := 3) (ret := (some .int)) (by decide) rfl (Nat.le_of_ble_eq_true rfl) hinj ?_
  intro p e s m below meth c S
  refine z_aload_n S 0 dX4_listed_0 rfl rfl ?_
  refine z_iload_n S 1 dX4_listed_1 rfl rfl ?_
  obtain ⟨v_2, hv_2, h⟩ := ob_some h
  refine z_callV_r (As := [.int a0]) S (c_X4_isListed l D X _ _ S.2.2.1 hv_2) (cwV 1 S.1.2.2.2.2 gX4_listed_X4_isListed rfl rfl rfl hd_X4_isListed ⟨Nat.le_of_ble_eq_true rfl, Nat.le_of_ble_eq_true rfl⟩) (Nat.le_of_ble_eq_true rfl) (cM_0 X z0) rfl rfl rfl (Nat.le_of_ble_eq_true rfl) rfl dX4_listed_2 ?_
  refine z_if_ne S (tgt := 10) dX4_listed_5 (by decide) h (fun h => ?_) (fun h => ?_)
  · refine z_aload_n S 0 dX4_listed_10 rfl rfl ?_
    obtain ⟨z_11, hv_11, h⟩ := ob_some h
    refine z_callV_w (As := []) S (c_X4_findsWords l D X _ S.2.2.1 hv_11) (cwV 0 S.1.2.2.2.2 gX4_listed_X4_findsWords rfl rfl rfl hd_X4_findsWords ⟨Nat.le_of_ble_eq_true rfl, Nat.le_of_ble_eq_true rfl⟩) (Nat.le_of_ble_eq_true rfl) (cM_0 X z0) rfl rfl rfl (Nat.le_of_ble_eq_true rfl) rfl dX4_listed_11 ?_
    refine z_iload_n S 2 dX4_listed_14 rfl rfl ?_
    by_cases c0 : a1 = nI 0
    · have h := (zif h).1 c0
      refine z_tableIn S (tgt := 40) c0 dX4_listed_15 (by decide) (by decide) rfl (by decide) ?_
      refine z_aload_n S 0 dX4_listed_40 rfl rfl ?_
      refine z_iload_n S 1 dX4_listed_41 rfl rfl ?_
      obtain ⟨v_42, hv_42, h⟩ := ob_some h
      refine z_callV_r (As := [.int a0]) S (c_X4_sizeOf l D X _ _ S.2.2.1 hv_42) (cwV 1 S.1.2.2.2.2 gX4_listed_X4_sizeOf rfl rfl rfl hd_X4_sizeOf ⟨Nat.le_of_ble_eq_true rfl, Nat.le_of_ble_eq_true rfl⟩) (Nat.le_of_ble_eq_true rfl) (cM_0 X z_11) rfl rfl rfl (Nat.le_of_ble_eq_true rfl) rfl dX4_listed_42 ?_
      exact z_iret_w S dX4_listed_45 h
    have h := (zif h).2 c0
    by_cases c1 : a1 = nI 1
    · have h := (zif h).1 c1
      refine z_tableIn S (tgt := 46) c1 dX4_listed_15 (by decide) (by decide) rfl (by decide) ?_
      refine z_aload_n S 0 dX4_listed_46 rfl rfl ?_
      refine z_iload_n S 1 dX4_listed_47 rfl rfl ?_
      obtain ⟨v_48, hv_48, h⟩ := ob_some h
      refine z_callV_r (As := [.int a0]) S (c_X4_fitted l D X _ _ S.2.2.1 hv_48) (cwV 1 S.1.2.2.2.2 gX4_listed_X4_fitted rfl rfl rfl hd_X4_fitted ⟨Nat.le_of_ble_eq_true rfl, Nat.le_of_ble_eq_true rfl⟩) (Nat.le_of_ble_eq_true rfl) (cM_0 X z_11) rfl rfl rfl (Nat.le_of_ble_eq_true rfl) rfl dX4_listed_48 ?_
      exact z_iret_w S dX4_listed_51 h
    have h := (zif h).2 c1
    by_cases c2 : a1 = nI 2
    · have h := (zif h).1 c2
      refine z_tableIn S (tgt := 52) c2 dX4_listed_15 (by decide) (by decide) rfl (by decide) ?_
      refine z_aload_n S 0 dX4_listed_52 rfl rfl ?_
      refine z_iload_n S 1 dX4_listed_53 rfl rfl ?_
      obtain ⟨v_54, hv_54, h⟩ := ob_some h
      refine z_callV_r (As := [.int a0]) S (c_X4_firstFitted l D X _ _ S.2.2.1 hv_54) (cwV 1 S.1.2.2.2.2 gX4_listed_X4_firstFitted rfl rfl rfl hd_X4_firstFitted ⟨Nat.le_of_ble_eq_true rfl, Nat.le_of_ble_eq_true rfl⟩) (Nat.le_of_ble_eq_true rfl) (cM_0 X z_11) rfl rfl rfl (Nat.le_of_ble_eq_true rfl) rfl dX4_listed_54 ?_
      refine z_bipush (v := (-5)) S dX4_listed_57 (by decide) ?_
      refine z_icmp_ne S (tgt := 67) dX4_listed_59 (by decide) h (fun h => ?_) (fun h => ?_)
      · refine z_aload_n S 0 dX4_listed_67 rfl rfl ?_
        refine z_aload_n S 0 dX4_listed_68 rfl rfl ?_
        refine z_iload_n S 1 dX4_listed_69 rfl rfl ?_
        obtain ⟨v_70, hv_70, h⟩ := ob_some h
        refine z_callV_r (As := [.int a0]) S (c_X4_firstFitted l D X _ _ S.2.2.1 hv_70) (cwV 1 S.1.2.2.2.2 gX4_listed_X4_firstFitted rfl rfl rfl hd_X4_firstFitted ⟨Nat.le_of_ble_eq_true rfl, Nat.le_of_ble_eq_true rfl⟩) (Nat.le_of_ble_eq_true rfl) (cM_0 X z_11) rfl rfl rfl (Nat.le_of_ble_eq_true rfl) rfl dX4_listed_70 ?_
        obtain ⟨v_73, hv_73, h⟩ := ob_some h
        refine z_callV_r (As := [.int v_70]) S (c_X4_worth l D X _ _ S.2.2.1 hv_73) (cwV 1 S.1.2.2.2.2 gX4_listed_X4_worth rfl rfl rfl hd_X4_worth ⟨Nat.le_of_ble_eq_true rfl, Nat.le_of_ble_eq_true rfl⟩) (Nat.le_of_ble_eq_true rfl) (cM_0 X z_11) rfl rfl rfl (Nat.le_of_ble_eq_true rfl) rfl dX4_listed_73 ?_
        exact z_iret_w S dX4_listed_76 h
      · refine z_bipush (v := (-5)) S dX4_listed_62 (by decide) ?_
        refine z_goto S (tgt := 76) dX4_listed_64 (by decide) ?_
        exact z_iret_w S dX4_listed_76 h
    have h := (zif h).2 c2
    have e0 := lv_neT (a := 0) c0 rfl
    have e1 := lv_neT (a := 1) c1 rfl
    have e2 := lv_neT (a := 2) c2 rfl
    refine z_tableOut S (tgt := 77) dX4_listed_15 (by omega) (by decide) ?_
    refine z_bipush (v := (-2)) S dX4_listed_77 (by decide) ?_
    exact z_iret_w S dX4_listed_79 h
  · refine z_iconst (v := (-1)) S dX4_listed_8 (by decide) ?_
    exact z_iret_w S dX4_listed_9 h
/-! SoldLettersModel.isFitWith: a walk -/
theorem hd_X4_isFitWith : yX4_isFitWith.cls = RX4 ∧ yX4_isFitWith.cls ≠ "java/lang/invoke/MethodHandle" ∧ yX4_isFitWith.cls ≠ "java/lang/invoke/VarHandle" ∧ (parseMethodDescriptor yX4_isFitWith.desc).map (fun d => d.parameters.length) = some 3 := by decide +kernel
theorem m0_X4_isFitWith : Cond.fieldLink RX4 7 RX4 (TX4 0).2.1 (TX4 0).2.2.1 ∈ wsX4_isFitWith := by decide +kernel
theorem m1_X4_isFitWith : ∀ w ∈ u_ws RX4 TX4 12, w ∈ wsX4_isFitWith := by decide +kernel
theorem m2_X4_isFitWith : Cond.fieldLink RX4 25 RX4 (TX4 7).2.1 (TX4 7).2.2.1 ∈ wsX4_isFitWith := by decide +kernel
set_option maxHeartbeats 4000000 in
set_option maxRecDepth 100000 in
theorem tl_X4_isFitWith_18 {l : Launch} {D : va_G} {X : zE} {p : Program} {e : Env} {s : State} {m : MethodId} {args : Array Value} {below : List Frame} {meth : Method} {c : Code} (S : zS p m meth c cX4_isFitWith 6 (some .boolean) s args wsX4_isFitWith RX4 D 9 X) {z0 : zV} {r : Int32} {k_3 : Int32 → Int32 → Int32 → Int32 → Option (Int32)} (hk_3 : ∀ (x1 : Int32) (x2 : Int32) (x3 : Int32) (x4 : Int32), k_3 x1 x2 x3 x4 = some r → Zj false D 9 X p l e (zrm 4 94) s m args below meth c (MQ below (zQr (some (.int r))) args s 0 0 (fun _ => False)) 6 3 [(0, .ref (X.1 0)), (1, .int x1), (2, .int x2), (3, .int x3), (4, .int x4)] [] (zc shM X z0)) : ∀ (n_ : Nat), ∀ (x1 : Int32) (x2 : Int32) (x3 : Int32) (x4 : Int32) (x5 : Int32), l_X4_isFitWith_18 z0 k_3 n_ x1 x2 x3 x4 x5 = some r → Zj false D 9 X p l e (zrm 4 94) s m args below meth c (MQ below (zQr (some (.int r))) args s 0 0 (fun _ => False)) 6 18 [(0, .ref (X.1 0)), (1, .int x1), (2, .int x2), (3, .int x3), (4, .int x4), (5, .int x5)] [] (zc shM X z0) := by
  intro n_
  induction n_ with
  | zero =>
    intro x1 x2 x3 x4 x5 h
    cases h
  | succ n_ ih =>
    intro x1 x2 x3 x4 x5 h
    rw [l_X4_isFitWith_18] at h
    refine z_iload S 5 dX4_isFitWith_18 rfl ?_
    refine z_aload_n S 0 dX4_isFitWith_20 rfl rfl ?_
    refine z_get S (C := RX4) (T := TX4) (N := 12) (ci := 4) 7 m2_X4_isFitWith m1_X4_isFitWith (Nat.le_of_ble_eq_true rfl) (cM_0 X z0) rfl (Nat.le_of_ble_eq_true rfl) rfl rfl dX4_isFitWith_21 ?_
    refine z_iload_n S 1 dX4_isFitWith_24 rfl rfl ?_
    refine z_iald S (Nat.le_of_ble_eq_true rfl) (cM_6 X z0) dX4_isFitWith_25 h (fun v_25 h => ?_)
    refine z_icmp_ge S (tgt := 74) dX4_isFitWith_26 (by decide) h (fun h => ?_) (fun h => ?_)
    · refine z_iinc S 4 [(4, .int (x4 + nI 1)), (0, .ref (X.1 0)), (1, .int x1), (2, .int x2), (3, .int x3), (5, .int x5)] dX4_isFitWith_74 rfl rfl (Nat.le_of_ble_eq_true rfl) rfl ?_
      refine z_goto S (tgt := 3) dX4_isFitWith_77 (by decide) ?_
      exact z_lv [1, 2, 3, 4, 0] rfl (hk_3 _ _ _ _ h)
    · refine z_aload_n S 0 dX4_isFitWith_29 rfl rfl ?_
      refine z_iload_n S 1 dX4_isFitWith_30 rfl rfl ?_
      refine z_iload S 4 dX4_isFitWith_31 rfl ?_
      obtain ⟨v_33, hv_33, h⟩ := ob_some h
      refine z_callV_r (As := [.int x1, .int x4]) S (c_X4_isFit l D X _ _ _ S.2.2.1 hv_33) (cwV 2 S.1.2.2.2.2 gX4_isFitWith_X4_isFit rfl rfl rfl hd_X4_isFit ⟨Nat.le_of_ble_eq_true rfl, Nat.le_of_ble_eq_true rfl⟩) (Nat.le_of_ble_eq_true rfl) (cM_0 X z0) rfl rfl rfl (Nat.le_of_ble_eq_true rfl) rfl dX4_isFitWith_33 ?_
      refine z_if_eq S (tgt := 74) dX4_isFitWith_36 (by decide) h (fun h => ?_) (fun h => ?_)
      · refine z_iinc S 4 [(4, .int (x4 + nI 1)), (0, .ref (X.1 0)), (1, .int x1), (2, .int x2), (3, .int x3), (5, .int x5)] dX4_isFitWith_74 rfl rfl (Nat.le_of_ble_eq_true rfl) rfl ?_
        refine z_goto S (tgt := 3) dX4_isFitWith_77 (by decide) ?_
        exact z_lv [1, 2, 3, 4, 0] rfl (hk_3 _ _ _ _ h)
      · refine z_aload_n S 0 dX4_isFitWith_39 rfl rfl ?_
        refine z_aload_n S 0 dX4_isFitWith_40 rfl rfl ?_
        refine z_iload_n S 1 dX4_isFitWith_41 rfl rfl ?_
        refine z_iload S 5 dX4_isFitWith_42 rfl ?_
        obtain ⟨v_44, hv_44, h⟩ := ob_some h
        refine z_callV_r (As := [.int x1, .int x5]) S (c_X4_cellOf l D X _ _ _ S.2.2.1 hv_44) (cwV 2 S.1.2.2.2.2 gX4_isFitWith_X4_cellOf rfl rfl rfl hd_X4_cellOf ⟨Nat.le_of_ble_eq_true rfl, Nat.le_of_ble_eq_true rfl⟩) (Nat.le_of_ble_eq_true rfl) (cM_0 X z0) rfl rfl rfl (Nat.le_of_ble_eq_true rfl) rfl dX4_isFitWith_44 ?_
        obtain ⟨v_47, hv_47, h⟩ := ob_some h
        refine z_callV_r (As := [.int v_44]) S (c_X4_numberAt l D X _ _ S.2.2.1 hv_47) (cwV 1 S.1.2.2.2.2 gX4_isFitWith_X4_numberAt rfl rfl rfl hd_X4_numberAt ⟨Nat.le_of_ble_eq_true rfl, Nat.le_of_ble_eq_true rfl⟩) (Nat.le_of_ble_eq_true rfl) (cM_0 X z0) rfl rfl rfl (Nat.le_of_ble_eq_true rfl) rfl dX4_isFitWith_47 ?_
        refine z_iload_n S 2 dX4_isFitWith_50 rfl rfl ?_
        refine z_icmp_ne S (tgt := 68) dX4_isFitWith_51 (by decide) h (fun h => ?_) (fun h => ?_)
        · refine z_iinc S 5 [(5, .int (x5 + nI 1)), (0, .ref (X.1 0)), (1, .int x1), (2, .int x2), (3, .int x3), (4, .int x4)] dX4_isFitWith_68 rfl rfl (Nat.le_of_ble_eq_true rfl) rfl ?_
          refine z_goto S (tgt := 18) dX4_isFitWith_71 (by decide) ?_
          exact z_lv [1, 2, 3, 4, 5, 0] rfl (ih _ _ _ _ _ h)
        · refine z_aload_n S 0 dX4_isFitWith_54 rfl rfl ?_
          refine z_iload S 4 dX4_isFitWith_55 rfl ?_
          refine z_iload S 5 dX4_isFitWith_57 rfl ?_
          obtain ⟨v_59, hv_59, h⟩ := ob_some h
          refine z_callV_r (As := [.int x4, .int x5]) S (c_X4_letterOfListed l D X _ _ _ S.2.2.1 hv_59) (cwV 2 S.1.2.2.2.2 gX4_isFitWith_X4_letterOfListed rfl rfl rfl hd_X4_letterOfListed ⟨Nat.le_of_ble_eq_true rfl, Nat.le_of_ble_eq_true rfl⟩) (Nat.le_of_ble_eq_true rfl) (cM_0 X z0) rfl rfl rfl (Nat.le_of_ble_eq_true rfl) rfl dX4_isFitWith_59 ?_
          refine z_iload_n S 3 dX4_isFitWith_62 rfl rfl ?_
          refine z_icmp_ne S (tgt := 68) dX4_isFitWith_63 (by decide) h (fun h => ?_) (fun h => ?_)
          · refine z_iinc S 5 [(5, .int (x5 + nI 1)), (0, .ref (X.1 0)), (1, .int x1), (2, .int x2), (3, .int x3), (4, .int x4)] dX4_isFitWith_68 rfl rfl (Nat.le_of_ble_eq_true rfl) rfl ?_
            refine z_goto S (tgt := 18) dX4_isFitWith_71 (by decide) ?_
            exact z_lv [1, 2, 3, 4, 5, 0] rfl (ih _ _ _ _ _ h)
          · refine z_iconst (v := (nI 1)) S dX4_isFitWith_66 (by decide) ?_
            exact z_zret_r S dX4_isFitWith_67 h
set_option maxHeartbeats 4000000 in
set_option maxRecDepth 100000 in
theorem tl_X4_isFitWith_3 {l : Launch} {D : va_G} {X : zE} {p : Program} {e : Env} {s : State} {m : MethodId} {args : Array Value} {below : List Frame} {meth : Method} {c : Code} (S : zS p m meth c cX4_isFitWith 6 (some .boolean) s args wsX4_isFitWith RX4 D 9 X) {z0 : zV} {r : Int32} : ∀ (n_ : Nat), ∀ (x1 : Int32) (x2 : Int32) (x3 : Int32) (x4 : Int32), l_X4_isFitWith_3 z0 n_ x1 x2 x3 x4 = some r → Zj false D 9 X p l e (zrm 4 94) s m args below meth c (MQ below (zQr (some (.int r))) args s 0 0 (fun _ => False)) 6 3 [(0, .ref (X.1 0)), (1, .int x1), (2, .int x2), (3, .int x3), (4, .int x4)] [] (zc shM X z0) := by
  intro n_
  induction n_ with
  | zero =>
    intro x1 x2 x3 x4 h
    cases h
  | succ n_ ih =>
    intro x1 x2 x3 x4 h
    rw [l_X4_isFitWith_3] at h
    refine z_iload S 4 dX4_isFitWith_3 rfl ?_
    refine z_aload_n S 0 dX4_isFitWith_5 rfl rfl ?_
    refine z_get S (C := RX4) (T := TX4) (N := 12) (ci := 4) 0 m0_X4_isFitWith m1_X4_isFitWith (Nat.le_of_ble_eq_true rfl) (cM_0 X z0) rfl (Nat.le_of_ble_eq_true rfl) rfl rfl dX4_isFitWith_6 ?_
    refine z_bipush (v := (nI 106)) S dX4_isFitWith_9 (by decide) ?_
    refine z_iald S (Nat.le_of_ble_eq_true rfl) (cM_1 X z0) dX4_isFitWith_11 h (fun v_11 h => ?_)
    refine z_icmp_ge S (tgt := 80) dX4_isFitWith_12 (by decide) h (fun h => ?_) (fun h => ?_)
    · refine z_iconst (v := (nI 0)) S dX4_isFitWith_80 (by decide) ?_
      exact z_zret_r S dX4_isFitWith_81 h
    · refine z_iconst (v := (nI 0)) S dX4_isFitWith_15 (by decide) ?_
      refine z_istore S [(5, .int (nI 0)), (0, .ref (X.1 0)), (1, .int x1), (2, .int x2), (3, .int x3), (4, .int x4)] dX4_isFitWith_16 (Nat.le_of_ble_eq_true rfl) rfl ?_
      exact z_lv [1, 2, 3, 4, 5, 0] rfl (tl_X4_isFitWith_18 S ih _ _ _ _ _ _ h)
set_option maxHeartbeats 4000000 in
set_option maxRecDepth 100000 in
theorem c_X4_isFitWith (l : Launch) (D : va_G) (X : zE) (z0 : zV) (a0 : Int32) (a1 : Int32) (a2 : Int32) (hinj : zw_inj 9 X.1) {r : Int32} (h : f_X4_isFitWith z0 a0 a1 a2 = some r) : zMr l yX4_isFitWith wsX4_isFitWith (zrm 4 94) D 9 X (zc shM X z0) [.ref (X.1 0), .int a0, .int a1, .int a2] (some (.int r)) := by
  rw [f_X4_isFitWith] at h
  refine z_start_r (cc := cX4_isFitWith) (maxL := 6) (ret := (some .boolean)) (by decide) rfl (Nat.le_of_ble_eq_true rfl) hinj ?_
  intro p e s m below meth c S
  refine z_iconst (v := (nI 0)) S dX4_isFitWith_0 (by decide) ?_
  refine z_istore S [(4, .int (nI 0)), (0, .ref (X.1 0)), (1, .int a0), (2, .int a1), (3, .int a2)] dX4_isFitWith_1 (Nat.le_of_ble_eq_true rfl) rfl ?_
  exact z_lv [1, 2, 3, 4, 0] rfl (tl_X4_isFitWith_3 S _ _ _ _ _ h)
/-! SoldLettersModel.couldBe: a walk -/
theorem hd_X4_couldBe : yX4_couldBe.cls = RX4 ∧ yX4_couldBe.cls ≠ "java/lang/invoke/MethodHandle" ∧ yX4_couldBe.cls ≠ "java/lang/invoke/VarHandle" ∧ (parseMethodDescriptor yX4_couldBe.desc).map (fun d => d.parameters.length) = some 2 := by decide +kernel
theorem m0_X4_couldBe : Cond.fieldLink RX4 57 RX4 (TX4 9).2.1 (TX4 9).2.2.1 ∈ wsX4_couldBe := by decide +kernel
theorem m1_X4_couldBe : ∀ w ∈ u_ws RX4 TX4 12, w ∈ wsX4_couldBe := by decide +kernel
set_option maxHeartbeats 4000000 in
set_option maxRecDepth 100000 in
theorem tl_X4_couldBe_18 {l : Launch} {D : va_G} {X : zE} {p : Program} {e : Env} {s : State} {m : MethodId} {args : Array Value} {below : List Frame} {meth : Method} {c : Code} (S : zS p m meth c cX4_couldBe 5 (some .boolean) s args wsX4_couldBe RX4 D 9 X) {z0 : zV} {r : Int32} : ∀ (n_ : Nat), ∀ (x1 : Int32) (x2 : Int32) (x3 : Int32) (x4 : Int32), l_X4_couldBe_18 z0 n_ x1 x2 x3 x4 = some r → Zj false D 9 X p l e (zrm 5 119) s m args below meth c (MQ below (zQr (some (.int r))) args s 0 0 (fun _ => False)) 5 18 [(0, .ref (X.1 0)), (1, .int x1), (2, .int x2), (3, .int x3), (4, .int x4)] [] (zc shM X z0) := by
  intro n_
  induction n_ with
  | zero =>
    intro x1 x2 x3 x4 h
    cases h
  | succ n_ ih =>
    intro x1 x2 x3 x4 h
    rw [l_X4_couldBe_18] at h
    refine z_iload S 4 dX4_couldBe_18 rfl ?_
    refine z_aload_n S 0 dX4_couldBe_20 rfl rfl ?_
    refine z_get S (C := RX4) (T := TX4) (N := 12) (ci := 4) 9 m0_X4_couldBe m1_X4_couldBe (Nat.le_of_ble_eq_true rfl) (cM_0 X z0) rfl (Nat.le_of_ble_eq_true rfl) rfl rfl dX4_couldBe_21 ?_
    refine z_icmp_ge S (tgt := 73) dX4_couldBe_24 (by decide) h (fun h => ?_) (fun h => ?_)
    · refine z_iload_n S 3 dX4_couldBe_73 rfl rfl ?_
      exact z_zret_r S dX4_couldBe_74 h
    · refine z_iload_n S 3 dX4_couldBe_27 rfl rfl ?_
      refine z_if_eq S (tgt := 73) dX4_couldBe_28 (by decide) h (fun h => ?_) (fun h => ?_)
      · refine z_iload_n S 3 dX4_couldBe_73 rfl rfl ?_
        exact z_zret_r S dX4_couldBe_74 h
      · refine z_aload_n S 0 dX4_couldBe_31 rfl rfl ?_
        refine z_iload S 4 dX4_couldBe_32 rfl ?_
        refine z_iload_n S 1 dX4_couldBe_34 rfl rfl ?_
        obtain ⟨v_35, hv_35, h⟩ := ob_some h
        refine z_callV_r (As := [.int x4, .int x1]) S (c_X4_hasNumber l D X _ _ _ S.2.2.1 hv_35) (cwV 2 S.1.2.2.2.2 gX4_couldBe_X4_hasNumber rfl rfl rfl hd_X4_hasNumber ⟨Nat.le_of_ble_eq_true rfl, Nat.le_of_ble_eq_true rfl⟩) (Nat.le_of_ble_eq_true rfl) (cM_0 X z0) rfl rfl rfl (Nat.le_of_ble_eq_true rfl) rfl dX4_couldBe_35 ?_
        refine z_if_eq S (tgt := 61) dX4_couldBe_38 (by decide) h (fun h => ?_) (fun h => ?_)
        · refine z_iconst (v := (nI 1)) S dX4_couldBe_61 (by decide) ?_
          refine z_goto S (tgt := 66) dX4_couldBe_62 (by decide) ?_
          refine z_istore_n S [(3, .int (nI 1)), (0, .ref (X.1 0)), (1, .int x1), (2, .int x2), (4, .int x4)] dX4_couldBe_66 rfl (Nat.le_of_ble_eq_true rfl) rfl ?_
          refine z_iinc S 4 [(4, .int (x4 + nI 1)), (3, .int (nI 1)), (0, .ref (X.1 0)), (1, .int x1), (2, .int x2)] dX4_couldBe_67 rfl rfl (Nat.le_of_ble_eq_true rfl) rfl ?_
          refine z_goto S (tgt := 18) dX4_couldBe_70 (by decide) ?_
          exact z_lv [2, 3, 4, 1, 0] rfl (ih _ _ _ _ h)
        · refine z_aload_n S 0 dX4_couldBe_41 rfl rfl ?_
          refine z_iload S 4 dX4_couldBe_42 rfl ?_
          obtain ⟨v_44, hv_44, h⟩ := ob_some h
          refine z_callV_r (As := [.int x4]) S (c_X4_fitting l D X _ _ S.2.2.1 hv_44) (cwV 1 S.1.2.2.2.2 gX4_couldBe_X4_fitting rfl rfl rfl hd_X4_fitting ⟨Nat.le_of_ble_eq_true rfl, Nat.le_of_ble_eq_true rfl⟩) (Nat.le_of_ble_eq_true rfl) (cM_0 X z0) rfl rfl rfl (Nat.le_of_ble_eq_true rfl) rfl dX4_couldBe_44 ?_
          refine z_if_eq S (tgt := 61) dX4_couldBe_47 (by decide) h (fun h => ?_) (fun h => ?_)
          · refine z_iconst (v := (nI 1)) S dX4_couldBe_61 (by decide) ?_
            refine z_goto S (tgt := 66) dX4_couldBe_62 (by decide) ?_
            refine z_istore_n S [(3, .int (nI 1)), (0, .ref (X.1 0)), (1, .int x1), (2, .int x2), (4, .int x4)] dX4_couldBe_66 rfl (Nat.le_of_ble_eq_true rfl) rfl ?_
            refine z_iinc S 4 [(4, .int (x4 + nI 1)), (3, .int (nI 1)), (0, .ref (X.1 0)), (1, .int x1), (2, .int x2)] dX4_couldBe_67 rfl rfl (Nat.le_of_ble_eq_true rfl) rfl ?_
            refine z_goto S (tgt := 18) dX4_couldBe_70 (by decide) ?_
            exact z_lv [2, 3, 4, 1, 0] rfl (ih _ _ _ _ h)
          · refine z_aload_n S 0 dX4_couldBe_50 rfl rfl ?_
            refine z_iload S 4 dX4_couldBe_51 rfl ?_
            refine z_iload_n S 1 dX4_couldBe_53 rfl rfl ?_
            refine z_iload_n S 2 dX4_couldBe_54 rfl rfl ?_
            obtain ⟨v_55, hv_55, h⟩ := ob_some h
            refine z_callV_r (As := [.int x4, .int x1, .int x2]) S (c_X4_isFitWith l D X _ _ _ _ S.2.2.1 hv_55) (cwV 3 S.1.2.2.2.2 gX4_couldBe_X4_isFitWith rfl rfl rfl hd_X4_isFitWith ⟨Nat.le_of_ble_eq_true rfl, Nat.le_of_ble_eq_true rfl⟩) (Nat.le_of_ble_eq_true rfl) (cM_0 X z0) rfl rfl rfl (Nat.le_of_ble_eq_true rfl) rfl dX4_couldBe_55 ?_
            refine z_if_eq S (tgt := 65) dX4_couldBe_58 (by decide) h (fun h => ?_) (fun h => ?_)
            · refine z_iconst (v := (nI 0)) S dX4_couldBe_65 (by decide) ?_
              refine z_istore_n S [(3, .int (nI 0)), (0, .ref (X.1 0)), (1, .int x1), (2, .int x2), (4, .int x4)] dX4_couldBe_66 rfl (Nat.le_of_ble_eq_true rfl) rfl ?_
              refine z_iinc S 4 [(4, .int (x4 + nI 1)), (3, .int (nI 0)), (0, .ref (X.1 0)), (1, .int x1), (2, .int x2)] dX4_couldBe_67 rfl rfl (Nat.le_of_ble_eq_true rfl) rfl ?_
              refine z_goto S (tgt := 18) dX4_couldBe_70 (by decide) ?_
              exact z_lv [2, 3, 4, 1, 0] rfl (ih _ _ _ _ h)
            · refine z_iconst (v := (nI 1)) S dX4_couldBe_61 (by decide) ?_
              refine z_goto S (tgt := 66) dX4_couldBe_62 (by decide) ?_
              refine z_istore_n S [(3, .int (nI 1)), (0, .ref (X.1 0)), (1, .int x1), (2, .int x2), (4, .int x4)] dX4_couldBe_66 rfl (Nat.le_of_ble_eq_true rfl) rfl ?_
              refine z_iinc S 4 [(4, .int (x4 + nI 1)), (3, .int (nI 1)), (0, .ref (X.1 0)), (1, .int x1), (2, .int x2)] dX4_couldBe_67 rfl rfl (Nat.le_of_ble_eq_true rfl) rfl ?_
              refine z_goto S (tgt := 18) dX4_couldBe_70 (by decide) ?_
              exact z_lv [2, 3, 4, 1, 0] rfl (ih _ _ _ _ h)
set_option maxHeartbeats 4000000 in
set_option maxRecDepth 100000 in
theorem c_X4_couldBe (l : Launch) (D : va_G) (X : zE) (z0 : zV) (a0 : Int32) (a1 : Int32) (hinj : zw_inj 9 X.1) {r : Int32} (h : f_X4_couldBe z0 a0 a1 = some r) : zMr l yX4_couldBe wsX4_couldBe (zrm 5 119) D 9 X (zc shM X z0) [.ref (X.1 0), .int a0, .int a1] (some (.int r)) := by
  rw [f_X4_couldBe] at h
  refine z_start_r (cc := cX4_couldBe) (maxL := 5) (ret := (some .boolean)) (by decide) rfl (Nat.le_of_ble_eq_true rfl) hinj ?_
  intro p e s m below meth c S
  refine z_aload_n S 0 dX4_couldBe_0 rfl rfl ?_
  refine z_iload_n S 2 dX4_couldBe_1 rfl rfl ?_
  refine z_iload_n S 1 dX4_couldBe_2 rfl rfl ?_
  obtain ⟨v_3, hv_3, h⟩ := ob_some h
  refine z_callV_r (As := [.int a1, .int a0]) S (c_X4_isGuessOfAnother l D X _ _ _ S.2.2.1 hv_3) (cwV 2 S.1.2.2.2.2 gX4_couldBe_X4_isGuessOfAnother rfl rfl rfl hd_X4_isGuessOfAnother ⟨Nat.le_of_ble_eq_true rfl, Nat.le_of_ble_eq_true rfl⟩) (Nat.le_of_ble_eq_true rfl) (cM_0 X z0) rfl rfl rfl (Nat.le_of_ble_eq_true rfl) rfl dX4_couldBe_3 ?_
  refine z_if_ne S (tgt := 13) dX4_couldBe_6 (by decide) h (fun h => ?_) (fun h => ?_)
  · refine z_iconst (v := (nI 0)) S dX4_couldBe_13 (by decide) ?_
    refine z_istore_n S [(3, .int (nI 0)), (0, .ref (X.1 0)), (1, .int a0), (2, .int a1)] dX4_couldBe_14 rfl (Nat.le_of_ble_eq_true rfl) rfl ?_
    refine z_iconst (v := (nI 0)) S dX4_couldBe_15 (by decide) ?_
    refine z_istore S [(4, .int (nI 0)), (3, .int (nI 0)), (0, .ref (X.1 0)), (1, .int a0), (2, .int a1)] dX4_couldBe_16 (Nat.le_of_ble_eq_true rfl) rfl ?_
    exact z_lv [2, 3, 4, 1, 0] rfl (tl_X4_couldBe_18 S _ _ _ _ _ h)
  · refine z_iconst (v := (nI 1)) S dX4_couldBe_9 (by decide) ?_
    refine z_goto S (tgt := 14) dX4_couldBe_10 (by decide) ?_
    refine z_istore_n S [(3, .int (nI 1)), (0, .ref (X.1 0)), (1, .int a0), (2, .int a1)] dX4_couldBe_14 rfl (Nat.le_of_ble_eq_true rfl) rfl ?_
    refine z_iconst (v := (nI 0)) S dX4_couldBe_15 (by decide) ?_
    refine z_istore S [(4, .int (nI 0)), (3, .int (nI 1)), (0, .ref (X.1 0)), (1, .int a0), (2, .int a1)] dX4_couldBe_16 (Nat.le_of_ble_eq_true rfl) rfl ?_
    exact z_lv [2, 3, 4, 1, 0] rfl (tl_X4_couldBe_18 S _ _ _ _ _ h)
/-! SoldLettersModel.could: a walk -/
theorem hd_X4_could : yX4_could.cls = RX4 ∧ yX4_could.cls ≠ "java/lang/invoke/MethodHandle" ∧ yX4_could.cls ≠ "java/lang/invoke/VarHandle" ∧ (parseMethodDescriptor yX4_could.desc).map (fun d => d.parameters.length) = some 2 := by decide +kernel
theorem m0_X4_could : Cond.fieldLink RX4 7 RX4 (TX4 0).2.1 (TX4 0).2.2.1 ∈ wsX4_could := by decide +kernel
theorem m1_X4_could : ∀ w ∈ u_ws RX4 TX4 12, w ∈ wsX4_could := by decide +kernel
set_option maxHeartbeats 4000000 in
set_option maxRecDepth 100000 in
theorem tj_X4_could_85 {l : Launch} {D : va_G} {X : zE} {p : Program} {e : Env} {s : State} {m : MethodId} {args : Array Value} {below : List Frame} {meth : Method} {c : Code} (S : zS p m meth c cX4_could 7 (some .int) s args wsX4_could RX4 D 9 X) {r : Int32} {z1 : zV} {k_60 : zV → Int32 → Int32 → Int32 → Int32 → Int32 → Option (Int32 × zV)} (hk_60 : ∀ (z0 : zV) (x1 : Int32) (x2 : Int32) (x3 : Int32) (x4 : Int32) (x5 : Int32), k_60 z0 x1 x2 x3 x4 x5 = some (r, z1) → Zj true D 9 X p l e (zrm 6 143) s m args below meth c (MQ below (zQw D 9 X (zc shM X z1) (some (.int r))) args s 0 0 (zw_A 9 X.1)) 7 60 [(0, .ref (X.1 0)), (1, .int x1), (2, .int x2), (3, .int x3), (4, .int x4), (5, .int x5)] [] (zc shM X z0)) : ∀ (z0 : zV) (x1 : Int32) (x2 : Int32) (x4 : Int32) (x5 : Int32) (x6 : Int32) (y0 : Int32) (y1 : Int32), j_X4_could_85 k_60 z0 x1 x2 x4 x5 x6 y0 y1 = some (r, z1) → Zj true D 9 X p l e (zrm 6 143) s m args below meth c (MQ below (zQw D 9 X (zc shM X z1) (some (.int r))) args s 0 0 (zw_A 9 X.1)) 7 85 [(0, .ref (X.1 0)), (1, .int x1), (2, .int x2), (4, .int x4), (5, .int x5), (6, .int x6)] [.int y1, .int y0] (zc shM X z0) := by
  intro z0 x1 x2 x4 x5 x6 y0 y1 h
  rw [j_X4_could_85] at h
  refine z_iadd S dX4_could_85 ?_
  refine z_istore_n S [(3, .int (y0 + y1)), (0, .ref (X.1 0)), (1, .int x1), (2, .int x2), (4, .int x4), (5, .int x5), (6, .int x6)] dX4_could_86 rfl (Nat.le_of_ble_eq_true rfl) rfl ?_
  refine z_iload S 6 dX4_could_87 rfl ?_
  refine z_if_eq S (tgt := 100) dX4_could_89 (by decide) h (fun h => ?_) (fun h => ?_)
  · refine z_iload S 4 dX4_could_100 rfl ?_
    refine z_istore S [(4, .int x4), (3, .int (y0 + y1)), (0, .ref (X.1 0)), (1, .int x1), (2, .int x2), (5, .int x5), (6, .int x6)] dX4_could_102 (Nat.le_of_ble_eq_true rfl) rfl ?_
    refine z_iinc S 5 [(5, .int (x5 + (-1))), (4, .int x4), (3, .int (y0 + y1)), (0, .ref (X.1 0)), (1, .int x1), (2, .int x2), (6, .int x6)] dX4_could_104 rfl rfl (Nat.le_of_ble_eq_true rfl) rfl ?_
    refine z_goto S (tgt := 60) dX4_could_107 (by decide) ?_
    exact z_lv [3, 4, 5, 2, 1, 0] rfl (hk_60 _ _ _ _ _ _ h)
  · refine z_bipush (v := (nI 97)) S dX4_could_92 (by decide) ?_
    refine z_iload S 5 dX4_could_94 rfl ?_
    refine z_iadd S dX4_could_96 ?_
    refine z_goto S (tgt := 102) dX4_could_97 (by decide) ?_
    refine z_istore S [(4, .int ((nI 97) + x5)), (3, .int (y0 + y1)), (0, .ref (X.1 0)), (1, .int x1), (2, .int x2), (5, .int x5), (6, .int x6)] dX4_could_102 (Nat.le_of_ble_eq_true rfl) rfl ?_
    refine z_iinc S 5 [(5, .int (x5 + (-1))), (4, .int ((nI 97) + x5)), (3, .int (y0 + y1)), (0, .ref (X.1 0)), (1, .int x1), (2, .int x2), (6, .int x6)] dX4_could_104 rfl rfl (Nat.le_of_ble_eq_true rfl) rfl ?_
    refine z_goto S (tgt := 60) dX4_could_107 (by decide) ?_
    exact z_lv [3, 4, 5, 2, 1, 0] rfl (hk_60 _ _ _ _ _ _ h)
set_option maxHeartbeats 4000000 in
set_option maxRecDepth 100000 in
theorem tl_X4_could_60 {l : Launch} {D : va_G} {X : zE} {p : Program} {e : Env} {s : State} {m : MethodId} {args : Array Value} {below : List Frame} {meth : Method} {c : Code} (S : zS p m meth c cX4_could 7 (some .int) s args wsX4_could RX4 D 9 X) {r : Int32} {z1 : zV} : ∀ (n_ : Nat), ∀ (z0 : zV) (x1 : Int32) (x2 : Int32) (x3 : Int32) (x4 : Int32) (x5 : Int32), l_X4_could_60 n_ z0 x1 x2 x3 x4 x5 = some (r, z1) → Zj true D 9 X p l e (zrm 6 143) s m args below meth c (MQ below (zQw D 9 X (zc shM X z1) (some (.int r))) args s 0 0 (zw_A 9 X.1)) 7 60 [(0, .ref (X.1 0)), (1, .int x1), (2, .int x2), (3, .int x3), (4, .int x4), (5, .int x5)] [] (zc shM X z0) := by
  intro n_
  induction n_ with
  | zero =>
    intro z0 x1 x2 x3 x4 x5 h
    cases h
  | succ n_ ih =>
    intro z0 x1 x2 x3 x4 x5 h
    rw [l_X4_could_60] at h
    refine z_iload S 5 dX4_could_60 rfl ?_
    refine z_if_lt S (tgt := 110) dX4_could_62 (by decide) h (fun h => ?_) (fun h => ?_)
    · refine z_iload_n S 2 dX4_could_110 rfl rfl ?_
      refine z_if_ne S (tgt := 118) dX4_could_111 (by decide) h (fun h => ?_) (fun h => ?_)
      · refine z_iload S 4 dX4_could_118 rfl ?_
        exact z_iret_w S dX4_could_120 h
      · refine z_iload_n S 3 dX4_could_114 rfl rfl ?_
        refine z_goto S (tgt := 120) dX4_could_115 (by decide) ?_
        exact z_iret_w S dX4_could_120 h
    · refine z_aload_n S 0 dX4_could_65 rfl rfl ?_
      refine z_iload_n S 1 dX4_could_66 rfl rfl ?_
      refine z_iload S 5 dX4_could_67 rfl ?_
      obtain ⟨v_69, hv_69, h⟩ := ob_some h
      refine z_callV_r (As := [.int x1, .int x5]) S (c_X4_couldBe l D X _ _ _ S.2.2.1 hv_69) (cwV 2 S.1.2.2.2.2 gX4_could_X4_couldBe rfl rfl rfl hd_X4_couldBe ⟨Nat.le_of_ble_eq_true rfl, Nat.le_of_ble_eq_true rfl⟩) (Nat.le_of_ble_eq_true rfl) (cM_0 X z0) rfl rfl rfl (Nat.le_of_ble_eq_true rfl) rfl dX4_could_69 ?_
      refine z_istore S [(6, .int v_69), (0, .ref (X.1 0)), (1, .int x1), (2, .int x2), (3, .int x3), (4, .int x4), (5, .int x5)] dX4_could_72 (Nat.le_of_ble_eq_true rfl) rfl ?_
      refine z_iload_n S 4 dX4_could_74 rfl rfl ?_
      refine z_iload S 0 dX4_could_75 rfl ?_
      refine z_if_eq S (tgt := 84) dX4_could_77 (by decide) h (fun h => ?_) (fun h => ?_)
      · refine z_iconst (v := (nI 0)) S dX4_could_84 (by decide) ?_
        exact z_lv [1, 2, 3, 5, 6, 0] rfl (tj_X4_could_85 S ih _ _ _ _ _ _ _ _ h)
      · refine z_iconst (v := (nI 1)) S dX4_could_80 (by decide) ?_
        refine z_goto S (tgt := 85) dX4_could_81 (by decide) ?_
        exact z_lv [1, 2, 3, 5, 6, 0] rfl (tj_X4_could_85 S ih _ _ _ _ _ _ _ _ h)
set_option maxHeartbeats 4000000 in
set_option maxRecDepth 100000 in
theorem c_X4_could (l : Launch) (D : va_G) (X : zE) (z0 : zV) (a0 : Int32) (a1 : Int32) (hinj : zw_inj 9 X.1) {r : Int32} {z1 : zV} (h : f_X4_could z0 a0 a1 = some (r, z1)) : zMw l yX4_could wsX4_could (zrm 6 143) D 9 X (zc shM X z0) [.ref (X.1 0), .int a0, .int a1] (some (.int r)) (zc shM X z1) := by
  rw [f_X4_could] at h
  refine z_start_w (cc := cX4_could) (maxL := 7) (ret := (some .int)) (by decide) rfl (Nat.le_of_ble_eq_true rfl) hinj ?_
  intro p e s m below meth c S
  refine z_iload_n S 1 dX4_could_0 rfl rfl ?_
  obtain ⟨v_1, hv_1, h⟩ := ob_some h
  refine z_callS_r (As := [.int a0]) S (c_X4_isNumber l D X _ _ S.2.2.1 hv_1) (va_cwS 1 S.1.2.2.2.2 gX4_could_X4_isNumber rfl rfl rfl hd_X4_isNumber ⟨Nat.le_of_ble_eq_true rfl, Nat.le_of_ble_eq_true rfl⟩) rfl rfl (Nat.le_of_ble_eq_true rfl) rfl dX4_could_1 ?_
  refine z_if_ne S (tgt := 9) dX4_could_4 (by decide) h (fun h => ?_) (fun h => ?_)
  · refine z_iload_n S 2 dX4_could_9 rfl rfl ?_
    refine z_i2l S dX4_could_10 ?_
    refine z_lconst (v := (lN 0)) S dX4_could_11 (by decide) ?_
    refine z_lconst (v := (lN 1)) S dX4_could_12 (by decide) ?_
    obtain ⟨v_13, hv_13, h⟩ := ob_some h
    refine z_callS_r (As := [.long (Int32.toInt64 a1), .long (lN 0), .long (lN 1)]) S (c_X4_in l D X _ _ _ _ S.2.2.1 hv_13) (va_cwS 3 S.1.2.2.2.2 gX4_could_X4_in rfl rfl rfl hd_X4_in ⟨Nat.le_of_ble_eq_true rfl, Nat.le_of_ble_eq_true rfl⟩) rfl rfl (Nat.le_of_ble_eq_true rfl) rfl dX4_could_13 ?_
    refine z_if_ne S (tgt := 22) dX4_could_16 (by decide) h (fun h => ?_) (fun h => ?_)
    · refine z_aload_n S 0 dX4_could_22 rfl rfl ?_
      refine z_get S (C := RX4) (T := TX4) (N := 12) (ci := 4) 0 m0_X4_could m1_X4_could (Nat.le_of_ble_eq_true rfl) (cM_0 X z0) rfl (Nat.le_of_ble_eq_true rfl) rfl rfl dX4_could_23 ?_
      refine z_bipush (v := (nI 51)) S dX4_could_26 (by decide) ?_
      refine z_iload_n S 1 dX4_could_28 rfl rfl ?_
      refine z_iadd S dX4_could_29 ?_
      refine z_iald S (Nat.le_of_ble_eq_true rfl) (cM_1 X z0) dX4_could_30 h (fun v_30 h => ?_)
      refine z_iconst (v := (-1)) S dX4_could_31 (by decide) ?_
      refine z_icmp_ne S (tgt := 43) dX4_could_32 (by decide) h (fun h => ?_) (fun h => ?_)
      · refine z_bipush (v := (-5)) S dX4_could_43 (by decide) ?_
        exact z_iret_w S dX4_could_45 h
      · refine z_aload_n S 0 dX4_could_35 rfl rfl ?_
        refine z_iload_n S 1 dX4_could_36 rfl rfl ?_
        obtain ⟨v_37, hv_37, h⟩ := ob_some h
        refine z_callV_r (As := [.int a0]) S (c_X4_cellsWith l D X _ _ S.2.2.1 hv_37) (cwV 1 S.1.2.2.2.2 gX4_could_X4_cellsWith rfl rfl rfl hd_X4_cellsWith ⟨Nat.le_of_ble_eq_true rfl, Nat.le_of_ble_eq_true rfl⟩) (Nat.le_of_ble_eq_true rfl) (cM_0 X z0) rfl rfl rfl (Nat.le_of_ble_eq_true rfl) rfl dX4_could_37 ?_
        refine z_if_ne S (tgt := 46) dX4_could_40 (by decide) h (fun h => ?_) (fun h => ?_)
        · refine z_aload_n S 0 dX4_could_46 rfl rfl ?_
          obtain ⟨z_47, hv_47, h⟩ := ob_some h
          refine z_callV_w (As := []) S (c_X4_findsWords l D X _ S.2.2.1 hv_47) (cwV 0 S.1.2.2.2.2 gX4_could_X4_findsWords rfl rfl rfl hd_X4_findsWords ⟨Nat.le_of_ble_eq_true rfl, Nat.le_of_ble_eq_true rfl⟩) (Nat.le_of_ble_eq_true rfl) (cM_0 X z0) rfl rfl rfl (Nat.le_of_ble_eq_true rfl) rfl dX4_could_47 ?_
          refine z_iconst (v := (nI 0)) S dX4_could_50 (by decide) ?_
          refine z_istore_n S [(3, .int (nI 0)), (0, .ref (X.1 0)), (1, .int a0), (2, .int a1)] dX4_could_51 rfl (Nat.le_of_ble_eq_true rfl) rfl ?_
          refine z_bipush (v := (-5)) S dX4_could_52 (by decide) ?_
          refine z_istore S [(4, .int (-5)), (3, .int (nI 0)), (0, .ref (X.1 0)), (1, .int a0), (2, .int a1)] dX4_could_54 (Nat.le_of_ble_eq_true rfl) rfl ?_
          refine z_bipush (v := (nI 25)) S dX4_could_56 (by decide) ?_
          refine z_istore S [(5, .int (nI 25)), (4, .int (-5)), (3, .int (nI 0)), (0, .ref (X.1 0)), (1, .int a0), (2, .int a1)] dX4_could_58 (Nat.le_of_ble_eq_true rfl) rfl ?_
          exact z_lv [3, 4, 5, 2, 1, 0] rfl (tl_X4_could_60 S _ _ _ _ _ _ _ h)
        · refine z_bipush (v := (-5)) S dX4_could_43 (by decide) ?_
          exact z_iret_w S dX4_could_45 h
    · refine z_bipush (v := (-2)) S dX4_could_19 (by decide) ?_
      exact z_iret_w S dX4_could_21 h
  · refine z_iconst (v := (-1)) S dX4_could_7 (by decide) ?_
    exact z_iret_w S dX4_could_8 h
