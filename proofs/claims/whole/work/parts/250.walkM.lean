/-! SoldLettersModel.in: a walk -/
theorem hd_X4_in : yX4_in.cls ≠ "java/lang/invoke/MethodHandle" ∧ yX4_in.cls ≠ "java/lang/invoke/VarHandle" ∧ (parseMethodDescriptor yX4_in.desc).map (fun d => d.parameters.length) = some 3 := by decide +kernel
set_option maxHeartbeats 4000000 in
set_option maxRecDepth 100000 in
theorem c_X4_in (l : Launch) (D : va_G) (X : zE) (z0 : zV) (a0 : Int64) (a1 : Int64) (a2 : Int64) (hinj : zw_inj 9 X.1) {r : Int32} (h : f_X4_in z0 a0 a1 a2 = some r) : zMr l yX4_in wsX4_in (zrm 0 0) D 9 X (zc shM X z0) [.long a0, .long a1, .long a2] (some (.int r)) := by
  rw [f_X4_in] at h
  refine z_start_r (cc := cX4_in) (maxL := 6) (ret := (some .boolean)) (by decide) rfl (Nat.le_of_ble_eq_true rfl) hinj ?_
  intro p e s m below meth c S
  refine z_lload_n S 0 dX4_in_0 rfl rfl ?_
  refine z_lload_n S 1 dX4_in_1 rfl rfl ?_
  refine z_lcmp S dX4_in_2 ?_
  refine z_if_lt S (tgt := 17) dX4_in_3 (by decide) h (fun h => ?_) (fun h => ?_)
  · refine z_iconst (v := (nI 0)) S dX4_in_17 (by decide) ?_
    exact z_zret_r S dX4_in_18 h
  · refine z_lload_n S 0 dX4_in_6 rfl rfl ?_
    refine z_lload S 2 dX4_in_7 rfl ?_
    refine z_lcmp S dX4_in_9 ?_
    refine z_if_gt S (tgt := 17) dX4_in_10 (by decide) h (fun h => ?_) (fun h => ?_)
    · refine z_iconst (v := (nI 0)) S dX4_in_17 (by decide) ?_
      exact z_zret_r S dX4_in_18 h
    · refine z_iconst (v := (nI 1)) S dX4_in_13 (by decide) ?_
      refine z_goto S (tgt := 18) dX4_in_14 (by decide) ?_
      exact z_zret_r S dX4_in_18 h
/-! SoldLettersModel.forgets: a walk -/
theorem hd_X4_forgets : yX4_forgets.cls = RX4 ∧ yX4_forgets.cls ≠ "java/lang/invoke/MethodHandle" ∧ yX4_forgets.cls ≠ "java/lang/invoke/VarHandle" ∧ (parseMethodDescriptor yX4_forgets.desc).map (fun d => d.parameters.length) = some 0 := by decide +kernel
theorem m0_X4_forgets : Cond.fieldLink RX4 7 RX4 (TX4 0).2.1 (TX4 0).2.2.1 ∈ wsX4_forgets := by decide +kernel
theorem m1_X4_forgets : ∀ w ∈ u_ws RX4 TX4 12, w ∈ wsX4_forgets := by decide +kernel
set_option maxHeartbeats 4000000 in
set_option maxRecDepth 100000 in
theorem tl_X4_forgets_2 {l : Launch} {D : va_G} {X : zE} {p : Program} {e : Env} {s : State} {m : MethodId} {args : Array Value} {below : List Frame} {meth : Method} {c : Code} (S : zS p m meth c cX4_forgets 2 none s args wsX4_forgets RX4 D 9 X) {z1 : zV} : ∀ (n_ : Nat), ∀ (z0 : zV) (x1 : Int32), l_X4_forgets_2 n_ z0 x1 = some z1 → Zj true D 9 X p l e (zrm 0 0) s m args below meth c (MQ below (zQw D 9 X (zc shM X z1) none) args s 0 0 (zw_A 9 X.1)) 2 2 [(0, .ref (X.1 0)), (1, .int x1)] [] (zc shM X z0) := by
  intro n_
  induction n_ with
  | zero =>
    intro z0 x1 h
    cases h
  | succ n_ ih =>
    intro z0 x1 h
    rw [l_X4_forgets_2] at h
    refine z_iload_n S 1 dX4_forgets_2 rfl rfl ?_
    refine z_bipush (v := (nI 26)) S dX4_forgets_3 (by decide) ?_
    refine z_icmp_gt S (tgt := 34) dX4_forgets_5 (by decide) h (fun h => ?_) (fun h => ?_)
    · exact z_vret_w S dX4_forgets_34 h
    · refine z_aload_n S 0 dX4_forgets_8 rfl rfl ?_
      refine z_get S (C := RX4) (T := TX4) (N := 12) (ci := 4) 0 m0_X4_forgets m1_X4_forgets (Nat.le_of_ble_eq_true rfl) (cM_0 X z0) rfl (Nat.le_of_ble_eq_true rfl) rfl rfl dX4_forgets_9 ?_
      refine z_bipush (v := (nI 51)) S dX4_forgets_12 (by decide) ?_
      refine z_iload_n S 1 dX4_forgets_14 rfl rfl ?_
      refine z_iadd S dX4_forgets_15 ?_
      refine z_iconst (v := (-1)) S dX4_forgets_16 (by decide) ?_
      refine z_iast S (Nat.le_of_ble_eq_true rfl) (fun _ => rfl) dX4_forgets_17 h (fun z_17 h => ?_)
      refine z_aload_n S 0 dX4_forgets_18 rfl rfl ?_
      refine z_get S (C := RX4) (T := TX4) (N := 12) (ci := 4) 0 m0_X4_forgets m1_X4_forgets (Nat.le_of_ble_eq_true rfl) (cM_0 X z_17) rfl (Nat.le_of_ble_eq_true rfl) rfl rfl dX4_forgets_19 ?_
      refine z_bipush (v := (nI 78)) S dX4_forgets_22 (by decide) ?_
      refine z_iload_n S 1 dX4_forgets_24 rfl rfl ?_
      refine z_iadd S dX4_forgets_25 ?_
      refine z_iconst (v := (nI 0)) S dX4_forgets_26 (by decide) ?_
      refine z_iast S (Nat.le_of_ble_eq_true rfl) (fun _ => rfl) dX4_forgets_27 h (fun z_27 h => ?_)
      refine z_iinc S 1 [(1, .int (x1 + nI 1)), (0, .ref (X.1 0))] dX4_forgets_28 rfl rfl (Nat.le_of_ble_eq_true rfl) rfl ?_
      refine z_goto S (tgt := 2) dX4_forgets_31 (by decide) ?_
      exact z_lv [1, 0] rfl (ih _ _ h)
set_option maxHeartbeats 4000000 in
set_option maxRecDepth 100000 in
theorem c_X4_forgets (l : Launch) (D : va_G) (X : zE) (z0 : zV) (hinj : zw_inj 9 X.1) {z1 : zV} (h : f_X4_forgets z0 = some z1) : zMw l yX4_forgets wsX4_forgets (zrm 0 0) D 9 X (zc shM X z0) [.ref (X.1 0)] none (zc shM X z1) := by
  rw [f_X4_forgets] at h
  refine z_start_w (cc := cX4_forgets) (maxL := 2) (ret := none) (by decide) rfl (Nat.le_of_ble_eq_true rfl) hinj ?_
  intro p e s m below meth c S
  refine z_iconst (v := (nI 0)) S dX4_forgets_0 (by decide) ?_
  refine z_istore_n S [(1, .int (nI 0)), (0, .ref (X.1 0))] dX4_forgets_1 rfl (Nat.le_of_ble_eq_true rfl) rfl ?_
  exact z_lv [1, 0] rfl (tl_X4_forgets_2 S _ _ _ h)
/-! SoldLettersModel.remember: a walk -/
theorem hd_X4_remember : yX4_remember.cls = RX4 ∧ yX4_remember.cls ≠ "java/lang/invoke/MethodHandle" ∧ yX4_remember.cls ≠ "java/lang/invoke/VarHandle" ∧ (parseMethodDescriptor yX4_remember.desc).map (fun d => d.parameters.length) = some 0 := by decide +kernel
theorem m0_X4_remember : Cond.fieldLink RX4 13 RX4 (TX4 1).2.1 (TX4 1).2.2.1 ∈ wsX4_remember := by decide +kernel
theorem m1_X4_remember : ∀ w ∈ u_ws RX4 TX4 12, w ∈ wsX4_remember := by decide +kernel
theorem m2_X4_remember : Cond.fieldLink RX4 7 RX4 (TX4 0).2.1 (TX4 0).2.2.1 ∈ wsX4_remember := by decide +kernel
set_option maxHeartbeats 4000000 in
set_option maxRecDepth 100000 in
theorem tl_X4_remember_2 {l : Launch} {D : va_G} {X : zE} {p : Program} {e : Env} {s : State} {m : MethodId} {args : Array Value} {below : List Frame} {meth : Method} {c : Code} (S : zS p m meth c cX4_remember 2 none s args wsX4_remember RX4 D 9 X) {z1 : zV} : ∀ (n_ : Nat), ∀ (z0 : zV) (x1 : Int32), l_X4_remember_2 n_ z0 x1 = some z1 → Zj true D 9 X p l e (zrm 0 0) s m args below meth c (MQ below (zQw D 9 X (zc shM X z1) none) args s 0 0 (zw_A 9 X.1)) 2 2 [(0, .ref (X.1 0)), (1, .int x1)] [] (zc shM X z0) := by
  intro n_
  induction n_ with
  | zero =>
    intro z0 x1 h
    cases h
  | succ n_ ih =>
    intro z0 x1 h
    rw [l_X4_remember_2] at h
    refine z_iload_n S 1 dX4_remember_2 rfl rfl ?_
    refine z_sipush (v := (nI 205)) S dX4_remember_3 (by decide) ?_
    refine z_icmp_ge S (tgt := 27) dX4_remember_6 (by decide) h (fun h => ?_) (fun h => ?_)
    · exact z_vret_w S dX4_remember_27 h
    · refine z_aload_n S 0 dX4_remember_9 rfl rfl ?_
      refine z_get S (C := RX4) (T := TX4) (N := 12) (ci := 4) 1 m0_X4_remember m1_X4_remember (Nat.le_of_ble_eq_true rfl) (cM_0 X z0) rfl (Nat.le_of_ble_eq_true rfl) rfl rfl dX4_remember_10 ?_
      refine z_iload_n S 1 dX4_remember_13 rfl rfl ?_
      refine z_aload_n S 0 dX4_remember_14 rfl rfl ?_
      refine z_get S (C := RX4) (T := TX4) (N := 12) (ci := 4) 0 m2_X4_remember m1_X4_remember (Nat.le_of_ble_eq_true rfl) (cM_0 X z0) rfl (Nat.le_of_ble_eq_true rfl) rfl rfl dX4_remember_15 ?_
      refine z_iload_n S 1 dX4_remember_18 rfl rfl ?_
      refine z_iald S (Nat.le_of_ble_eq_true rfl) (cM_1 X z0) dX4_remember_19 h (fun v_19 h => ?_)
      refine z_iast S (Nat.le_of_ble_eq_true rfl) (fun _ => rfl) dX4_remember_20 h (fun z_20 h => ?_)
      refine z_iinc S 1 [(1, .int (x1 + nI 1)), (0, .ref (X.1 0))] dX4_remember_21 rfl rfl (Nat.le_of_ble_eq_true rfl) rfl ?_
      refine z_goto S (tgt := 2) dX4_remember_24 (by decide) ?_
      exact z_lv [1, 0] rfl (ih _ _ h)
set_option maxHeartbeats 4000000 in
set_option maxRecDepth 100000 in
theorem c_X4_remember (l : Launch) (D : va_G) (X : zE) (z0 : zV) (hinj : zw_inj 9 X.1) {z1 : zV} (h : f_X4_remember z0 = some z1) : zMw l yX4_remember wsX4_remember (zrm 0 0) D 9 X (zc shM X z0) [.ref (X.1 0)] none (zc shM X z1) := by
  rw [f_X4_remember] at h
  refine z_start_w (cc := cX4_remember) (maxL := 2) (ret := none) (by decide) rfl (Nat.le_of_ble_eq_true rfl) hinj ?_
  intro p e s m below meth c S
  refine z_iconst (v := (nI 0)) S dX4_remember_0 (by decide) ?_
  refine z_istore_n S [(1, .int (nI 0)), (0, .ref (X.1 0))] dX4_remember_1 rfl (Nat.le_of_ble_eq_true rfl) rfl ?_
  exact z_lv [1, 0] rfl (tl_X4_remember_2 S _ _ _ h)
/-! SoldLettersModel.acted: a walk -/
theorem hd_X4_acted : yX4_acted.cls = RX4 ∧ yX4_acted.cls ≠ "java/lang/invoke/MethodHandle" ∧ yX4_acted.cls ≠ "java/lang/invoke/VarHandle" ∧ (parseMethodDescriptor yX4_acted.desc).map (fun d => d.parameters.length) = some 1 := by decide +kernel
theorem m0_X4_acted : Cond.fieldLink RX4 37 RX4 (TX4 3).2.1 (TX4 3).2.2.1 ∈ wsX4_acted := by decide +kernel
theorem m1_X4_acted : ∀ w ∈ u_ws RX4 TX4 12, w ∈ wsX4_acted := by decide +kernel
theorem m2_X4_acted : Cond.fieldLink RX4 16 RX4 (TX4 2).2.1 (TX4 2).2.2.1 ∈ wsX4_acted := by decide +kernel
theorem m3_X4_acted : Cond.fieldLink RX4 13 RX4 (TX4 1).2.1 (TX4 1).2.2.1 ∈ wsX4_acted := by decide +kernel
set_option maxHeartbeats 4000000 in
set_option maxRecDepth 100000 in
theorem tl_X4_acted_51 {l : Launch} {D : va_G} {X : zE} {p : Program} {e : Env} {s : State} {m : MethodId} {args : Array Value} {below : List Frame} {meth : Method} {c : Code} (S : zS p m meth c cX4_acted 3 (some .int) s args wsX4_acted RX4 D 9 X) {r : Int32} {z1 : zV} : ∀ (n_ : Nat), ∀ (z0 : zV) (x1 : Int32) (x2 : Int32), l_X4_acted_51 n_ z0 x1 x2 = some (r, z1) → Zj true D 9 X p l e (zrm 0 0) s m args below meth c (MQ below (zQw D 9 X (zc shM X z1) (some (.int r))) args s 0 0 (zw_A 9 X.1)) 3 51 [(0, .ref (X.1 0)), (1, .int x1), (2, .int x2)] [] (zc shM X z0) := by
  intro n_
  induction n_ with
  | zero =>
    intro z0 x1 x2 h
    cases h
  | succ n_ ih =>
    intro z0 x1 x2 h
    rw [l_X4_acted_51] at h
    refine z_iload_n S 2 dX4_acted_51 rfl rfl ?_
    refine z_sipush (v := (nI 205)) S dX4_acted_52 (by decide) ?_
    refine z_icmp_ge S (tgt := 85) dX4_acted_55 (by decide) h (fun h => ?_) (fun h => ?_)
    · refine z_aload_n S 0 dX4_acted_85 rfl rfl ?_
      refine z_dup S dX4_acted_86 rfl ?_
      refine z_get S (C := RX4) (T := TX4) (N := 12) (ci := 4) 3 m0_X4_acted m1_X4_acted (Nat.le_of_ble_eq_true rfl) (cM_0 X z0) rfl (Nat.le_of_ble_eq_true rfl) rfl rfl dX4_acted_87 ?_
      refine z_iconst (v := (nI 1)) S dX4_acted_90 (by decide) ?_
      refine z_iadd S dX4_acted_91 ?_
      refine z_put S (C := RX4) (T := TX4) (N := 12) (ci := 4) 3 tyX4_ok nmX4 m0_X4_acted m1_X4_acted (Nat.le_of_ble_eq_true rfl) (cM_0 X z0) rfl (Nat.le_of_ble_eq_true rfl) rfl rfl rfl rfl (Nat.le_of_ble_eq_true rfl) rfl dX4_acted_92 h (fun z_92 h => ?_)
      refine z_iload_n S 1 dX4_acted_95 rfl rfl ?_
      exact z_iret_w S dX4_acted_96 h
    · refine z_aload_n S 0 dX4_acted_58 rfl rfl ?_
      refine z_get S (C := RX4) (T := TX4) (N := 12) (ci := 4) 2 m2_X4_acted m1_X4_acted (Nat.le_of_ble_eq_true rfl) (cM_0 X z0) rfl (Nat.le_of_ble_eq_true rfl) rfl rfl dX4_acted_59 ?_
      refine z_sipush (v := (nI 205)) S dX4_acted_62 (by decide) ?_
      refine z_aload_n S 0 dX4_acted_65 rfl rfl ?_
      refine z_get S (C := RX4) (T := TX4) (N := 12) (ci := 4) 3 m0_X4_acted m1_X4_acted (Nat.le_of_ble_eq_true rfl) (cM_0 X z0) rfl (Nat.le_of_ble_eq_true rfl) rfl rfl dX4_acted_66 ?_
      refine z_imul S dX4_acted_69 ?_
      refine z_iload_n S 2 dX4_acted_70 rfl rfl ?_
      refine z_iadd S dX4_acted_71 ?_
      refine z_aload_n S 0 dX4_acted_72 rfl rfl ?_
      refine z_get S (C := RX4) (T := TX4) (N := 12) (ci := 4) 1 m3_X4_acted m1_X4_acted (Nat.le_of_ble_eq_true rfl) (cM_0 X z0) rfl (Nat.le_of_ble_eq_true rfl) rfl rfl dX4_acted_73 ?_
      refine z_iload_n S 2 dX4_acted_76 rfl rfl ?_
      refine z_iald S (Nat.le_of_ble_eq_true rfl) (cM_2 X z0) dX4_acted_77 h (fun v_77 h => ?_)
      refine z_iast S (Nat.le_of_ble_eq_true rfl) (fun _ => rfl) dX4_acted_78 h (fun z_78 h => ?_)
      refine z_iinc S 2 [(2, .int (x2 + nI 1)), (0, .ref (X.1 0)), (1, .int x1)] dX4_acted_79 rfl rfl (Nat.le_of_ble_eq_true rfl) rfl ?_
      refine z_goto S (tgt := 51) dX4_acted_82 (by decide) ?_
      exact z_lv [1, 2, 0] rfl (ih _ _ _ h)
set_option maxHeartbeats 4000000 in
set_option maxRecDepth 100000 in
theorem tl_X4_acted_10 {l : Launch} {D : va_G} {X : zE} {p : Program} {e : Env} {s : State} {m : MethodId} {args : Array Value} {below : List Frame} {meth : Method} {c : Code} (S : zS p m meth c cX4_acted 3 (some .int) s args wsX4_acted RX4 D 9 X) {r : Int32} {z1 : zV} {k_51 : zV → Int32 → Int32 → Option (Int32 × zV)} (hk_51 : ∀ (z0 : zV) (x1 : Int32) (x2 : Int32), k_51 z0 x1 x2 = some (r, z1) → Zj true D 9 X p l e (zrm 0 0) s m args below meth c (MQ below (zQw D 9 X (zc shM X z1) (some (.int r))) args s 0 0 (zw_A 9 X.1)) 3 51 [(0, .ref (X.1 0)), (1, .int x1), (2, .int x2)] [] (zc shM X z0)) : ∀ (n_ : Nat), ∀ (z0 : zV) (x1 : Int32) (x2 : Int32), l_X4_acted_10 k_51 n_ z0 x1 x2 = some (r, z1) → Zj true D 9 X p l e (zrm 0 0) s m args below meth c (MQ below (zQw D 9 X (zc shM X z1) (some (.int r))) args s 0 0 (zw_A 9 X.1)) 3 10 [(0, .ref (X.1 0)), (1, .int x1), (2, .int x2)] [] (zc shM X z0) := by
  intro n_
  induction n_ with
  | zero =>
    intro z0 x1 x2 h
    cases h
  | succ n_ ih =>
    intro z0 x1 x2 h
    rw [l_X4_acted_10] at h
    refine z_iload_n S 2 dX4_acted_10 rfl rfl ?_
    refine z_sipush (v := (nI 615)) S dX4_acted_11 (by decide) ?_
    refine z_icmp_ge S (tgt := 39) dX4_acted_14 (by decide) h (fun h => ?_) (fun h => ?_)
    · refine z_aload_n S 0 dX4_acted_39 rfl rfl ?_
      refine z_dup S dX4_acted_40 rfl ?_
      refine z_get S (C := RX4) (T := TX4) (N := 12) (ci := 4) 3 m0_X4_acted m1_X4_acted (Nat.le_of_ble_eq_true rfl) (cM_0 X z0) rfl (Nat.le_of_ble_eq_true rfl) rfl rfl dX4_acted_41 ?_
      refine z_iconst (v := (nI 1)) S dX4_acted_44 (by decide) ?_
      refine z_isub S dX4_acted_45 ?_
      refine z_put S (C := RX4) (T := TX4) (N := 12) (ci := 4) 3 tyX4_ok nmX4 m0_X4_acted m1_X4_acted (Nat.le_of_ble_eq_true rfl) (cM_0 X z0) rfl (Nat.le_of_ble_eq_true rfl) rfl rfl rfl rfl (Nat.le_of_ble_eq_true rfl) rfl dX4_acted_46 h (fun z_46 h => ?_)
      refine z_iconst (v := (nI 0)) S dX4_acted_49 (by decide) ?_
      refine z_istore_n S [(2, .int (nI 0)), (0, .ref (X.1 0)), (1, .int x1)] dX4_acted_50 rfl (Nat.le_of_ble_eq_true rfl) rfl ?_
      exact z_lv [1, 2, 0] rfl (hk_51 _ _ _ h)
    · refine z_aload_n S 0 dX4_acted_17 rfl rfl ?_
      refine z_get S (C := RX4) (T := TX4) (N := 12) (ci := 4) 2 m2_X4_acted m1_X4_acted (Nat.le_of_ble_eq_true rfl) (cM_0 X z0) rfl (Nat.le_of_ble_eq_true rfl) rfl rfl dX4_acted_18 ?_
      refine z_iload_n S 2 dX4_acted_21 rfl rfl ?_
      refine z_aload_n S 0 dX4_acted_22 rfl rfl ?_
      refine z_get S (C := RX4) (T := TX4) (N := 12) (ci := 4) 2 m2_X4_acted m1_X4_acted (Nat.le_of_ble_eq_true rfl) (cM_0 X z0) rfl (Nat.le_of_ble_eq_true rfl) rfl rfl dX4_acted_23 ?_
      refine z_iload_n S 2 dX4_acted_26 rfl rfl ?_
      refine z_sipush (v := (nI 205)) S dX4_acted_27 (by decide) ?_
      refine z_iadd S dX4_acted_30 ?_
      refine z_iald S (Nat.le_of_ble_eq_true rfl) (cM_3 X z0) dX4_acted_31 h (fun v_31 h => ?_)
      refine z_iast S (Nat.le_of_ble_eq_true rfl) (fun _ => rfl) dX4_acted_32 h (fun z_32 h => ?_)
      refine z_iinc S 2 [(2, .int (x2 + nI 1)), (0, .ref (X.1 0)), (1, .int x1)] dX4_acted_33 rfl rfl (Nat.le_of_ble_eq_true rfl) rfl ?_
      refine z_goto S (tgt := 10) dX4_acted_36 (by decide) ?_
      exact z_lv [1, 2, 0] rfl (ih _ _ _ h)
set_option maxHeartbeats 4000000 in
set_option maxRecDepth 100000 in
theorem c_X4_acted (l : Launch) (D : va_G) (X : zE) (z0 : zV) (a0 : Int32) (hinj : zw_inj 9 X.1) {r : Int32} {z1 : zV} (h : f_X4_acted z0 a0 = some (r, z1)) : zMw l yX4_acted wsX4_acted (zrm 0 0) D 9 X (zc shM X z0) [.ref (X.1 0), .int a0] (some (.int r)) (zc shM X z1) := by
  rw [f_X4_acted] at h
  refine z_start_w (cc := cX4_acted) (maxL := 3) (ret := (some .int)) (by decide) rfl (Nat.le_of_ble_eq_true rfl) hinj ?_
  intro p e s m below meth c S
  refine z_aload_n S 0 dX4_acted_0 rfl rfl ?_
  refine z_get S (C := RX4) (T := TX4) (N := 12) (ci := 4) 3 m0_X4_acted m1_X4_acted (Nat.le_of_ble_eq_true rfl) (cM_0 X z0) rfl (Nat.le_of_ble_eq_true rfl) rfl rfl dX4_acted_1 ?_
  refine z_iconst (v := (nI 4)) S dX4_acted_4 (by decide) ?_
  refine z_icmp_ne S (tgt := 49) dX4_acted_5 (by decide) h (fun h => ?_) (fun h => ?_)
  · refine z_iconst (v := (nI 0)) S dX4_acted_49 (by decide) ?_
    refine z_istore_n S [(2, .int (nI 0)), (0, .ref (X.1 0)), (1, .int a0)] dX4_acted_50 rfl (Nat.le_of_ble_eq_true rfl) rfl ?_
    exact z_lv [1, 2, 0] rfl (tl_X4_acted_51 S _ _ _ _ h)
  · refine z_iconst (v := (nI 0)) S dX4_acted_8 (by decide) ?_
    refine z_istore_n S [(2, .int (nI 0)), (0, .ref (X.1 0)), (1, .int a0)] dX4_acted_9 rfl (Nat.le_of_ble_eq_true rfl) rfl ?_
    exact z_lv [1, 2, 0] rfl (tl_X4_acted_10 S (tl_X4_acted_51 S _) _ _ _ _ h)
/-! SoldLettersModel.isNumber: a walk -/
theorem hd_X4_isNumber : yX4_isNumber.cls ≠ "java/lang/invoke/MethodHandle" ∧ yX4_isNumber.cls ≠ "java/lang/invoke/VarHandle" ∧ (parseMethodDescriptor yX4_isNumber.desc).map (fun d => d.parameters.length) = some 1 := by decide +kernel
theorem m0_X4_isNumber : Jvm.Cond.constantLong RX4 41 26 ∈ wsX4_isNumber := by decide +kernel
set_option maxHeartbeats 4000000 in
set_option maxRecDepth 100000 in
theorem c_X4_isNumber (l : Launch) (D : va_G) (X : zE) (z0 : zV) (a0 : Int32) (hinj : zw_inj 9 X.1) {r : Int32} (h : f_X4_isNumber z0 a0 = some r) : zMr l yX4_isNumber wsX4_isNumber (zrm 1 25) D 9 X (zc shM X z0) [.int a0] (some (.int r)) := by
  rw [f_X4_isNumber] at h
  refine z_start_r (cc := cX4_isNumber) (maxL := 1) (ret := (some .boolean)) (by decide) rfl (Nat.le_of_ble_eq_true rfl) hinj ?_
  intro p e s m below meth c S
  refine z_iload_n S 0 dX4_isNumber_0 rfl rfl ?_
  refine z_i2l S dX4_isNumber_1 ?_
  refine z_lconst (v := (lN 1)) S dX4_isNumber_2 (by decide) ?_
  refine z_ldc2 (v := (lN 26)) S m0_X4_isNumber dX4_isNumber_3 ?_
  obtain ⟨v_6, hv_6, h⟩ := ob_some h
  refine z_callS_r (As := [.long (Int32.toInt64 a0), .long (lN 1), .long (lN 26)]) S (c_X4_in l D X _ _ _ _ S.2.2.1 hv_6) (va_cwS 3 S.1.2.2.2.2 gX4_isNumber_X4_in rfl rfl rfl hd_X4_in ⟨Nat.le_of_ble_eq_true rfl, Nat.le_of_ble_eq_true rfl⟩) rfl rfl (Nat.le_of_ble_eq_true rfl) rfl dX4_isNumber_6 ?_
  exact z_zret_r S dX4_isNumber_9 h
/-! SoldLettersModel.numberOf: a walk -/
theorem hd_X4_numberOf : yX4_numberOf.cls = RX4 ∧ yX4_numberOf.cls ≠ "java/lang/invoke/MethodHandle" ∧ yX4_numberOf.cls ≠ "java/lang/invoke/VarHandle" ∧ (parseMethodDescriptor yX4_numberOf.desc).map (fun d => d.parameters.length) = some 1 := by decide +kernel
theorem m0_X4_numberOf : Cond.fieldLink RX4 7 RX4 (TX4 0).2.1 (TX4 0).2.2.1 ∈ wsX4_numberOf := by decide +kernel
theorem m1_X4_numberOf : ∀ w ∈ u_ws RX4 TX4 12, w ∈ wsX4_numberOf := by decide +kernel
set_option maxHeartbeats 4000000 in
set_option maxRecDepth 100000 in
theorem c_X4_numberOf (l : Launch) (D : va_G) (X : zE) (z0 : zV) (a0 : Int32) (hinj : zw_inj 9 X.1) {r : Int32} (h : f_X4_numberOf z0 a0 = some r) : zMr l yX4_numberOf wsX4_numberOf (zrm 0 0) D 9 X (zc shM X z0) [.ref (X.1 0), .int a0] (some (.int r)) := by
  rw [f_X4_numberOf] at h
  refine z_start_r (cc := cX4_numberOf) (maxL := 2) (ret := (some .int)) (by decide) rfl (Nat.le_of_ble_eq_true rfl) hinj ?_
  intro p e s m below meth c S
  refine z_aload_n S 0 dX4_numberOf_0 rfl rfl ?_
  refine z_get S (C := RX4) (T := TX4) (N := 12) (ci := 4) 0 m0_X4_numberOf m1_X4_numberOf (Nat.le_of_ble_eq_true rfl) (cM_0 X z0) rfl (Nat.le_of_ble_eq_true rfl) rfl rfl dX4_numberOf_1 ?_
  refine z_bipush (v := (nI 49)) S dX4_numberOf_4 (by decide) ?_
  refine z_iald S (Nat.le_of_ble_eq_true rfl) (cM_1 X z0) dX4_numberOf_6 h (fun v_6 h => ?_)
  refine z_iload_n S 1 dX4_numberOf_7 rfl rfl ?_
  refine z_imul S dX4_numberOf_8 ?_
  refine z_aload_n S 0 dX4_numberOf_9 rfl rfl ?_
  refine z_get S (C := RX4) (T := TX4) (N := 12) (ci := 4) 0 m0_X4_numberOf m1_X4_numberOf (Nat.le_of_ble_eq_true rfl) (cM_0 X z0) rfl (Nat.le_of_ble_eq_true rfl) rfl rfl dX4_numberOf_10 ?_
  refine z_bipush (v := (nI 50)) S dX4_numberOf_13 (by decide) ?_
  refine z_iald S (Nat.le_of_ble_eq_true rfl) (cM_1 X z0) dX4_numberOf_15 h (fun v_15 h => ?_)
  refine z_iadd S dX4_numberOf_16 ?_
  refine z_bipush (v := (nI 26)) S dX4_numberOf_17 (by decide) ?_
  refine z_irem S dX4_numberOf_19 (by decide) ?_
  refine z_iconst (v := (nI 1)) S dX4_numberOf_20 (by decide) ?_
  refine z_iadd S dX4_numberOf_21 ?_
  exact z_iret_r S dX4_numberOf_22 h
/-! SoldLettersModel.letterOf: a walk -/
theorem hd_X4_letterOf : yX4_letterOf.cls = RX4 ∧ yX4_letterOf.cls ≠ "java/lang/invoke/MethodHandle" ∧ yX4_letterOf.cls ≠ "java/lang/invoke/VarHandle" ∧ (parseMethodDescriptor yX4_letterOf.desc).map (fun d => d.parameters.length) = some 1 := by decide +kernel
set_option maxHeartbeats 4000000 in
set_option maxRecDepth 100000 in
theorem tl_X4_letterOf_2 {l : Launch} {D : va_G} {X : zE} {p : Program} {e : Env} {s : State} {m : MethodId} {args : Array Value} {below : List Frame} {meth : Method} {c : Code} (S : zS p m meth c cX4_letterOf 3 (some .int) s args wsX4_letterOf RX4 D 9 X) {z0 : zV} {r : Int32} : ∀ (n_ : Nat), ∀ (x1 : Int32) (x2 : Int32), l_X4_letterOf_2 z0 n_ x1 x2 = some r → Zj false D 9 X p l e (zrm 1 21) s m args below meth c (MQ below (zQr (some (.int r))) args s 0 0 (fun _ => False)) 3 2 [(0, .ref (X.1 0)), (1, .int x1), (2, .int x2)] [] (zc shM X z0) := by
  intro n_
  induction n_ with
  | zero =>
    intro x1 x2 h
    cases h
  | succ n_ ih =>
    intro x1 x2 h
    rw [l_X4_letterOf_2] at h
    refine z_aload_n S 0 dX4_letterOf_2 rfl rfl ?_
    refine z_iload_n S 2 dX4_letterOf_3 rfl rfl ?_
    obtain ⟨v_4, hv_4, h⟩ := ob_some h
    refine z_callV_r (As := [.int x2]) S (c_X4_numberOf l D X _ _ S.2.2.1 hv_4) (cwV 1 S.1.2.2.2.2 gX4_letterOf_X4_numberOf rfl rfl rfl hd_X4_numberOf ⟨Nat.le_of_ble_eq_true rfl, Nat.le_of_ble_eq_true rfl⟩) (Nat.le_of_ble_eq_true rfl) (cM_0 X z0) rfl rfl rfl (Nat.le_of_ble_eq_true rfl) rfl dX4_letterOf_4 ?_
    refine z_iload_n S 1 dX4_letterOf_7 rfl rfl ?_
    refine z_icmp_eq S (tgt := 17) dX4_letterOf_8 (by decide) h (fun h => ?_) (fun h => ?_)
    · refine z_iload_n S 2 dX4_letterOf_17 rfl rfl ?_
      exact z_iret_r S dX4_letterOf_18 h
    · refine z_iinc S 2 [(2, .int (x2 + nI 1)), (0, .ref (X.1 0)), (1, .int x1)] dX4_letterOf_11 rfl rfl (Nat.le_of_ble_eq_true rfl) rfl ?_
      refine z_goto S (tgt := 2) dX4_letterOf_14 (by decide) ?_
      exact z_lv [1, 2, 0] rfl (ih _ _ h)
set_option maxHeartbeats 4000000 in
set_option maxRecDepth 100000 in
theorem c_X4_letterOf (l : Launch) (D : va_G) (X : zE) (z0 : zV) (a0 : Int32) (hinj : zw_inj 9 X.1) {r : Int32} (h : f_X4_letterOf z0 a0 = some r) : zMr l yX4_letterOf wsX4_letterOf (zrm 1 21) D 9 X (zc shM X z0) [.ref (X.1 0), .int a0] (some (.int r)) := by
  rw [f_X4_letterOf] at h
  refine z_start_r (cc := cX4_letterOf) (maxL := 3) (ret := (some .int)) (by decide) rfl (Nat.le_of_ble_eq_true rfl) hinj ?_
  intro p e s m below meth c S
  refine z_iconst (v := (nI 0)) S dX4_letterOf_0 (by decide) ?_
  refine z_istore_n S [(2, .int (nI 0)), (0, .ref (X.1 0)), (1, .int a0)] dX4_letterOf_1 rfl (Nat.le_of_ble_eq_true rfl) rfl ?_
  exact z_lv [1, 2, 0] rfl (tl_X4_letterOf_2 S _ _ _ h)
/-! SoldLettersModel.numberAt: a walk -/
theorem hd_X4_numberAt : yX4_numberAt.cls = RX4 ∧ yX4_numberAt.cls ≠ "java/lang/invoke/MethodHandle" ∧ yX4_numberAt.cls ≠ "java/lang/invoke/VarHandle" ∧ (parseMethodDescriptor yX4_numberAt.desc).map (fun d => d.parameters.length) = some 1 := by decide +kernel
theorem m0_X4_numberAt : Cond.fieldLink RX4 7 RX4 (TX4 0).2.1 (TX4 0).2.2.1 ∈ wsX4_numberAt := by decide +kernel
theorem m1_X4_numberAt : ∀ w ∈ u_ws RX4 TX4 12, w ∈ wsX4_numberAt := by decide +kernel
set_option maxHeartbeats 4000000 in
set_option maxRecDepth 100000 in
theorem c_X4_numberAt (l : Launch) (D : va_G) (X : zE) (z0 : zV) (a0 : Int32) (hinj : zw_inj 9 X.1) {r : Int32} (h : f_X4_numberAt z0 a0 = some r) : zMr l yX4_numberAt wsX4_numberAt (zrm 1 21) D 9 X (zc shM X z0) [.ref (X.1 0), .int a0] (some (.int r)) := by
  rw [f_X4_numberAt] at h
  refine z_start_r (cc := cX4_numberAt) (maxL := 2) (ret := (some .int)) (by decide) rfl (Nat.le_of_ble_eq_true rfl) hinj ?_
  intro p e s m below meth c S
  refine z_aload_n S 0 dX4_numberAt_0 rfl rfl ?_
  refine z_get S (C := RX4) (T := TX4) (N := 12) (ci := 4) 0 m0_X4_numberAt m1_X4_numberAt (Nat.le_of_ble_eq_true rfl) (cM_0 X z0) rfl (Nat.le_of_ble_eq_true rfl) rfl rfl dX4_numberAt_1 ?_
  refine z_iconst (v := (nI 0)) S dX4_numberAt_4 (by decide) ?_
  refine z_iload_n S 1 dX4_numberAt_5 rfl rfl ?_
  refine z_iadd S dX4_numberAt_6 ?_
  refine z_iald S (Nat.le_of_ble_eq_true rfl) (cM_1 X z0) dX4_numberAt_7 h (fun v_7 h => ?_)
  refine z_iconst (v := (-1)) S dX4_numberAt_8 (by decide) ?_
  refine z_icmp_ne S (tgt := 17) dX4_numberAt_9 (by decide) h (fun h => ?_) (fun h => ?_)
  · refine z_aload_n S 0 dX4_numberAt_17 rfl rfl ?_
    refine z_aload_n S 0 dX4_numberAt_18 rfl rfl ?_
    refine z_get S (C := RX4) (T := TX4) (N := 12) (ci := 4) 0 m0_X4_numberAt m1_X4_numberAt (Nat.le_of_ble_eq_true rfl) (cM_0 X z0) rfl (Nat.le_of_ble_eq_true rfl) rfl rfl dX4_numberAt_19 ?_
    refine z_iconst (v := (nI 0)) S dX4_numberAt_22 (by decide) ?_
    refine z_iload_n S 1 dX4_numberAt_23 rfl rfl ?_
    refine z_iadd S dX4_numberAt_24 ?_
    refine z_iald S (Nat.le_of_ble_eq_true rfl) (cM_1 X z0) dX4_numberAt_25 h (fun v_25 h => ?_)
    obtain ⟨v_26, hv_26, h⟩ := ob_some h
    refine z_callV_r (As := [.int v_25]) S (c_X4_numberOf l D X _ _ S.2.2.1 hv_26) (cwV 1 S.1.2.2.2.2 gX4_numberAt_X4_numberOf rfl rfl rfl hd_X4_numberOf ⟨Nat.le_of_ble_eq_true rfl, Nat.le_of_ble_eq_true rfl⟩) (Nat.le_of_ble_eq_true rfl) (cM_0 X z0) rfl rfl rfl (Nat.le_of_ble_eq_true rfl) rfl dX4_numberAt_26 ?_
    exact z_iret_r S dX4_numberAt_29 h
  · refine z_bipush (v := (-5)) S dX4_numberAt_12 (by decide) ?_
    refine z_goto S (tgt := 29) dX4_numberAt_14 (by decide) ?_
    exact z_iret_r S dX4_numberAt_29 h
/-! SoldLettersModel.guessAt: a walk -/
theorem hd_X4_guessAt : yX4_guessAt.cls = RX4 ∧ yX4_guessAt.cls ≠ "java/lang/invoke/MethodHandle" ∧ yX4_guessAt.cls ≠ "java/lang/invoke/VarHandle" ∧ (parseMethodDescriptor yX4_guessAt.desc).map (fun d => d.parameters.length) = some 1 := by decide +kernel
theorem m0_X4_guessAt : Cond.fieldLink RX4 7 RX4 (TX4 0).2.1 (TX4 0).2.2.1 ∈ wsX4_guessAt := by decide +kernel
theorem m1_X4_guessAt : ∀ w ∈ u_ws RX4 TX4 12, w ∈ wsX4_guessAt := by decide +kernel
set_option maxHeartbeats 4000000 in
set_option maxRecDepth 100000 in
theorem c_X4_guessAt (l : Launch) (D : va_G) (X : zE) (z0 : zV) (a0 : Int32) (hinj : zw_inj 9 X.1) {r : Int32} (h : f_X4_guessAt z0 a0 = some r) : zMr l yX4_guessAt wsX4_guessAt (zrm 2 42) D 9 X (zc shM X z0) [.ref (X.1 0), .int a0] (some (.int r)) := by
  rw [f_X4_guessAt] at h
  refine z_start_r (cc := cX4_guessAt) (maxL := 2) (ret := (some .int)) (by decide) rfl (Nat.le_of_ble_eq_true rfl) hinj ?_
  intro p e s m below meth c S
  refine z_aload_n S 0 dX4_guessAt_0 rfl rfl ?_
  refine z_get S (C := RX4) (T := TX4) (N := 12) (ci := 4) 0 m0_X4_guessAt m1_X4_guessAt (Nat.le_of_ble_eq_true rfl) (cM_0 X z0) rfl (Nat.le_of_ble_eq_true rfl) rfl rfl dX4_guessAt_1 ?_
  refine z_iconst (v := (nI 0)) S dX4_guessAt_4 (by decide) ?_
  refine z_iload_n S 1 dX4_guessAt_5 rfl rfl ?_
  refine z_iadd S dX4_guessAt_6 ?_
  refine z_iald S (Nat.le_of_ble_eq_true rfl) (cM_1 X z0) dX4_guessAt_7 h (fun v_7 h => ?_)
  refine z_iconst (v := (-1)) S dX4_guessAt_8 (by decide) ?_
  refine z_icmp_ne S (tgt := 16) dX4_guessAt_9 (by decide) h (fun h => ?_) (fun h => ?_)
  · refine z_aload_n S 0 dX4_guessAt_16 rfl rfl ?_
    refine z_get S (C := RX4) (T := TX4) (N := 12) (ci := 4) 0 m0_X4_guessAt m1_X4_guessAt (Nat.le_of_ble_eq_true rfl) (cM_0 X z0) rfl (Nat.le_of_ble_eq_true rfl) rfl rfl dX4_guessAt_17 ?_
    refine z_bipush (v := (nI 51)) S dX4_guessAt_20 (by decide) ?_
    refine z_aload_n S 0 dX4_guessAt_22 rfl rfl ?_
    refine z_iload_n S 1 dX4_guessAt_23 rfl rfl ?_
    obtain ⟨v_24, hv_24, h⟩ := ob_some h
    refine z_callV_r (As := [.int a0]) S (c_X4_numberAt l D X _ _ S.2.2.1 hv_24) (cwV 1 S.1.2.2.2.2 gX4_guessAt_X4_numberAt rfl rfl rfl hd_X4_numberAt ⟨Nat.le_of_ble_eq_true rfl, Nat.le_of_ble_eq_true rfl⟩) (Nat.le_of_ble_eq_true rfl) (cM_0 X z0) rfl rfl rfl (Nat.le_of_ble_eq_true rfl) rfl dX4_guessAt_24 ?_
    refine z_iadd S dX4_guessAt_27 ?_
    refine z_iald S (Nat.le_of_ble_eq_true rfl) (cM_1 X z0) dX4_guessAt_28 h (fun v_28 h => ?_)
    exact z_iret_r S dX4_guessAt_29 h
  · refine z_iconst (v := (-1)) S dX4_guessAt_12 (by decide) ?_
    refine z_goto S (tgt := 29) dX4_guessAt_13 (by decide) ?_
    exact z_iret_r S dX4_guessAt_29 h
/-! SoldLettersModel.cellsWith: a walk -/
theorem hd_X4_cellsWith : yX4_cellsWith.cls = RX4 ∧ yX4_cellsWith.cls ≠ "java/lang/invoke/MethodHandle" ∧ yX4_cellsWith.cls ≠ "java/lang/invoke/VarHandle" ∧ (parseMethodDescriptor yX4_cellsWith.desc).map (fun d => d.parameters.length) = some 1 := by decide +kernel
set_option maxHeartbeats 4000000 in
set_option maxRecDepth 100000 in
theorem tl_X4_cellsWith_4 {l : Launch} {D : va_G} {X : zE} {p : Program} {e : Env} {s : State} {m : MethodId} {args : Array Value} {below : List Frame} {meth : Method} {c : Code} (S : zS p m meth c cX4_cellsWith 4 (some .int) s args wsX4_cellsWith RX4 D 9 X) {z0 : zV} {r : Int32} : ∀ (n_ : Nat), ∀ (x1 : Int32) (x2 : Int32) (x3 : Int32), l_X4_cellsWith_4 z0 n_ x1 x2 x3 = some r → Zj false D 9 X p l e (zrm 2 42) s m args below meth c (MQ below (zQr (some (.int r))) args s 0 0 (fun _ => False)) 4 4 [(0, .ref (X.1 0)), (1, .int x1), (2, .int x2), (3, .int x3)] [] (zc shM X z0) := by
  intro n_
  induction n_ with
  | zero =>
    intro x1 x2 x3 h
    cases h
  | succ n_ ih =>
    intro x1 x2 x3 h
    rw [l_X4_cellsWith_4] at h
    refine z_iload_n S 3 dX4_cellsWith_4 rfl rfl ?_
    refine z_bipush (v := (nI 49)) S dX4_cellsWith_5 (by decide) ?_
    refine z_icmp_ge S (tgt := 33) dX4_cellsWith_7 (by decide) h (fun h => ?_) (fun h => ?_)
    · refine z_iload_n S 2 dX4_cellsWith_33 rfl rfl ?_
      exact z_iret_r S dX4_cellsWith_34 h
    · refine z_iload_n S 2 dX4_cellsWith_10 rfl rfl ?_
      refine z_aload_n S 0 dX4_cellsWith_11 rfl rfl ?_
      refine z_iload_n S 3 dX4_cellsWith_12 rfl rfl ?_
      obtain ⟨v_13, hv_13, h⟩ := ob_some h
      refine z_callV_r (As := [.int x3]) S (c_X4_numberAt l D X _ _ S.2.2.1 hv_13) (cwV 1 S.1.2.2.2.2 gX4_cellsWith_X4_numberAt rfl rfl rfl hd_X4_numberAt ⟨Nat.le_of_ble_eq_true rfl, Nat.le_of_ble_eq_true rfl⟩) (Nat.le_of_ble_eq_true rfl) (cM_0 X z0) rfl rfl rfl (Nat.le_of_ble_eq_true rfl) rfl dX4_cellsWith_13 ?_
      refine z_iload_n S 1 dX4_cellsWith_16 rfl rfl ?_
      refine z_icmp_ne S (tgt := 24) dX4_cellsWith_17 (by decide) h (fun h => ?_) (fun h => ?_)
      · refine z_iconst (v := (nI 0)) S dX4_cellsWith_24 (by decide) ?_
        refine z_iadd S dX4_cellsWith_25 ?_
        refine z_istore_n S [(2, .int (x2 + (nI 0))), (0, .ref (X.1 0)), (1, .int x1), (3, .int x3)] dX4_cellsWith_26 rfl (Nat.le_of_ble_eq_true rfl) rfl ?_
        refine z_iinc S 3 [(3, .int (x3 + nI 1)), (2, .int (x2 + (nI 0))), (0, .ref (X.1 0)), (1, .int x1)] dX4_cellsWith_27 rfl rfl (Nat.le_of_ble_eq_true rfl) rfl ?_
        refine z_goto S (tgt := 4) dX4_cellsWith_30 (by decide) ?_
        exact z_lv [2, 3, 1, 0] rfl (ih _ _ _ h)
      · refine z_iconst (v := (nI 1)) S dX4_cellsWith_20 (by decide) ?_
        refine z_goto S (tgt := 25) dX4_cellsWith_21 (by decide) ?_
        refine z_iadd S dX4_cellsWith_25 ?_
        refine z_istore_n S [(2, .int (x2 + (nI 1))), (0, .ref (X.1 0)), (1, .int x1), (3, .int x3)] dX4_cellsWith_26 rfl (Nat.le_of_ble_eq_true rfl) rfl ?_
        refine z_iinc S 3 [(3, .int (x3 + nI 1)), (2, .int (x2 + (nI 1))), (0, .ref (X.1 0)), (1, .int x1)] dX4_cellsWith_27 rfl rfl (Nat.le_of_ble_eq_true rfl) rfl ?_
        refine z_goto S (tgt := 4) dX4_cellsWith_30 (by decide) ?_
        exact z_lv [2, 3, 1, 0] rfl (ih _ _ _ h)
set_option maxHeartbeats 4000000 in
set_option maxRecDepth 100000 in
theorem c_X4_cellsWith (l : Launch) (D : va_G) (X : zE) (z0 : zV) (a0 : Int32) (hinj : zw_inj 9 X.1) {r : Int32} (h : f_X4_cellsWith z0 a0 = some r) : zMr l yX4_cellsWith wsX4_cellsWith (zrm 2 42) D 9 X (zc shM X z0) [.ref (X.1 0), .int a0] (some (.int r)) := by
  rw [f_X4_cellsWith] at h
  refine z_start_r (cc := cX4_cellsWith) (maxL := 4) (ret := (some .int)) (by decide) rfl (Nat.le_of_ble_eq_true rfl) hinj ?_
  intro p e s m below meth c S
  refine z_iconst (v := (nI 0)) S dX4_cellsWith_0 (by decide) ?_
  refine z_istore_n S [(2, .int (nI 0)), (0, .ref (X.1 0)), (1, .int a0)] dX4_cellsWith_1 rfl (Nat.le_of_ble_eq_true rfl) rfl ?_
  refine z_iconst (v := (nI 0)) S dX4_cellsWith_2 (by decide) ?_
  refine z_istore_n S [(3, .int (nI 0)), (2, .int (nI 0)), (0, .ref (X.1 0)), (1, .int a0)] dX4_cellsWith_3 rfl (Nat.le_of_ble_eq_true rfl) rfl ?_
  exact z_lv [2, 3, 1, 0] rfl (tl_X4_cellsWith_4 S _ _ _ _ h)
/-! SoldLettersModel.priceOf: a walk -/
theorem hd_X4_priceOf : yX4_priceOf.cls = RX4 ∧ yX4_priceOf.cls ≠ "java/lang/invoke/MethodHandle" ∧ yX4_priceOf.cls ≠ "java/lang/invoke/VarHandle" ∧ (parseMethodDescriptor yX4_priceOf.desc).map (fun d => d.parameters.length) = some 1 := by decide +kernel
set_option maxHeartbeats 4000000 in
set_option maxRecDepth 100000 in
theorem c_X4_priceOf (l : Launch) (D : va_G) (X : zE) (z0 : zV) (a0 : Int32) (hinj : zw_inj 9 X.1) {r : Int32} (h : f_X4_priceOf z0 a0 = some r) : zMr l yX4_priceOf wsX4_priceOf (zrm 3 65) D 9 X (zc shM X z0) [.ref (X.1 0), .int a0] (some (.int r)) := by
  rw [f_X4_priceOf] at h
  refine z_start_r (cc := cX4_priceOf) (maxL := 3) (ret := (some .int)) (by decide) rfl (Nat.le_of_ble_eq_true rfl) hinj ?_
  intro p e s m below meth c S
  refine z_iconst (v := (nI 1)) S dX4_priceOf_0 (by decide) ?_
  refine z_aload_n S 0 dX4_priceOf_1 rfl rfl ?_
  refine z_iload_n S 1 dX4_priceOf_2 rfl rfl ?_
  obtain ⟨v_3, hv_3, h⟩ := ob_some h
  refine z_callV_r (As := [.int a0]) S (c_X4_cellsWith l D X _ _ S.2.2.1 hv_3) (cwV 1 S.1.2.2.2.2 gX4_priceOf_X4_cellsWith rfl rfl rfl hd_X4_cellsWith ⟨Nat.le_of_ble_eq_true rfl, Nat.le_of_ble_eq_true rfl⟩) (Nat.le_of_ble_eq_true rfl) (cM_0 X z0) rfl rfl rfl (Nat.le_of_ble_eq_true rfl) rfl dX4_priceOf_3 ?_
  refine z_iadd S dX4_priceOf_6 ?_
  refine z_istore_n S [(2, .int ((nI 1) + v_3)), (0, .ref (X.1 0)), (1, .int a0)] dX4_priceOf_7 rfl (Nat.le_of_ble_eq_true rfl) rfl ?_
  refine z_iload_n S 0 dX4_priceOf_8 rfl rfl ?_
  refine z_bipush (v := (nI 9)) S dX4_priceOf_9 (by decide) ?_
  refine z_icmp_ge S (tgt := 18) dX4_priceOf_11 (by decide) h (fun h => ?_) (fun h => ?_)
  · refine z_bipush (v := (nI 9)) S dX4_priceOf_18 (by decide) ?_
    exact z_iret_r S dX4_priceOf_20 h
  · refine z_iload_n S 0 dX4_priceOf_14 rfl rfl ?_
    refine z_goto S (tgt := 20) dX4_priceOf_15 (by decide) ?_
    exact z_iret_r S dX4_priceOf_20 h
/-! SoldLettersModel.isGuessOfAnother: a walk -/
theorem hd_X4_isGuessOfAnother : yX4_isGuessOfAnother.cls = RX4 ∧ yX4_isGuessOfAnother.cls ≠ "java/lang/invoke/MethodHandle" ∧ yX4_isGuessOfAnother.cls ≠ "java/lang/invoke/VarHandle" ∧ (parseMethodDescriptor yX4_isGuessOfAnother.desc).map (fun d => d.parameters.length) = some 2 := by decide +kernel
theorem m0_X4_isGuessOfAnother : Cond.fieldLink RX4 7 RX4 (TX4 0).2.1 (TX4 0).2.2.1 ∈ wsX4_isGuessOfAnother := by decide +kernel
theorem m1_X4_isGuessOfAnother : ∀ w ∈ u_ws RX4 TX4 12, w ∈ wsX4_isGuessOfAnother := by decide +kernel
set_option maxHeartbeats 4000000 in
set_option maxRecDepth 100000 in
theorem tl_X4_isGuessOfAnother_5 {l : Launch} {D : va_G} {X : zE} {p : Program} {e : Env} {s : State} {m : MethodId} {args : Array Value} {below : List Frame} {meth : Method} {c : Code} (S : zS p m meth c cX4_isGuessOfAnother 5 (some .boolean) s args wsX4_isGuessOfAnother RX4 D 9 X) {z0 : zV} {r : Int32} : ∀ (n_ : Nat), ∀ (x1 : Int32) (x2 : Int32) (x3 : Int32) (x4 : Int32), l_X4_isGuessOfAnother_5 z0 n_ x1 x2 x3 x4 = some r → Zj false D 9 X p l e (zrm 0 0) s m args below meth c (MQ below (zQr (some (.int r))) args s 0 0 (fun _ => False)) 5 5 [(0, .ref (X.1 0)), (1, .int x1), (2, .int x2), (3, .int x3), (4, .int x4)] [] (zc shM X z0) := by
  intro n_
  induction n_ with
  | zero =>
    intro x1 x2 x3 x4 h
    cases h
  | succ n_ ih =>
    intro x1 x2 x3 x4 h
    rw [l_X4_isGuessOfAnother_5] at h
    refine z_iload S 4 dX4_isGuessOfAnother_5 rfl ?_
    refine z_bipush (v := (nI 26)) S dX4_isGuessOfAnother_7 (by decide) ?_
    refine z_icmp_gt S (tgt := 48) dX4_isGuessOfAnother_9 (by decide) h (fun h => ?_) (fun h => ?_)
    · refine z_iload_n S 3 dX4_isGuessOfAnother_48 rfl rfl ?_
      exact z_zret_r S dX4_isGuessOfAnother_49 h
    · refine z_iload_n S 3 dX4_isGuessOfAnother_12 rfl rfl ?_
      refine z_if_ne S (tgt := 36) dX4_isGuessOfAnother_13 (by decide) h (fun h => ?_) (fun h => ?_)
      · refine z_iconst (v := (nI 1)) S dX4_isGuessOfAnother_36 (by decide) ?_
        refine z_goto S (tgt := 41) dX4_isGuessOfAnother_37 (by decide) ?_
        refine z_istore_n S [(3, .int (nI 1)), (0, .ref (X.1 0)), (1, .int x1), (2, .int x2), (4, .int x4)] dX4_isGuessOfAnother_41 rfl (Nat.le_of_ble_eq_true rfl) rfl ?_
        refine z_iinc S 4 [(4, .int (x4 + nI 1)), (3, .int (nI 1)), (0, .ref (X.1 0)), (1, .int x1), (2, .int x2)] dX4_isGuessOfAnother_42 rfl rfl (Nat.le_of_ble_eq_true rfl) rfl ?_
        refine z_goto S (tgt := 5) dX4_isGuessOfAnother_45 (by decide) ?_
        exact z_lv [2, 3, 4, 1, 0] rfl (ih _ _ _ _ h)
      · refine z_iload S 4 dX4_isGuessOfAnother_16 rfl ?_
        refine z_iload_n S 2 dX4_isGuessOfAnother_18 rfl rfl ?_
        refine z_icmp_eq S (tgt := 40) dX4_isGuessOfAnother_19 (by decide) h (fun h => ?_) (fun h => ?_)
        · refine z_iconst (v := (nI 0)) S dX4_isGuessOfAnother_40 (by decide) ?_
          refine z_istore_n S [(3, .int (nI 0)), (0, .ref (X.1 0)), (1, .int x1), (2, .int x2), (4, .int x4)] dX4_isGuessOfAnother_41 rfl (Nat.le_of_ble_eq_true rfl) rfl ?_
          refine z_iinc S 4 [(4, .int (x4 + nI 1)), (3, .int (nI 0)), (0, .ref (X.1 0)), (1, .int x1), (2, .int x2)] dX4_isGuessOfAnother_42 rfl rfl (Nat.le_of_ble_eq_true rfl) rfl ?_
          refine z_goto S (tgt := 5) dX4_isGuessOfAnother_45 (by decide) ?_
          exact z_lv [2, 3, 4, 1, 0] rfl (ih _ _ _ _ h)
        · refine z_aload_n S 0 dX4_isGuessOfAnother_22 rfl rfl ?_
          refine z_get S (C := RX4) (T := TX4) (N := 12) (ci := 4) 0 m0_X4_isGuessOfAnother m1_X4_isGuessOfAnother (Nat.le_of_ble_eq_true rfl) (cM_0 X z0) rfl (Nat.le_of_ble_eq_true rfl) rfl rfl dX4_isGuessOfAnother_23 ?_
          refine z_bipush (v := (nI 51)) S dX4_isGuessOfAnother_26 (by decide) ?_
          refine z_iload S 4 dX4_isGuessOfAnother_28 rfl ?_
          refine z_iadd S dX4_isGuessOfAnother_30 ?_
          refine z_iald S (Nat.le_of_ble_eq_true rfl) (cM_1 X z0) dX4_isGuessOfAnother_31 h (fun v_31 h => ?_)
          refine z_iload_n S 1 dX4_isGuessOfAnother_32 rfl rfl ?_
          refine z_icmp_ne S (tgt := 40) dX4_isGuessOfAnother_33 (by decide) h (fun h => ?_) (fun h => ?_)
          · refine z_iconst (v := (nI 0)) S dX4_isGuessOfAnother_40 (by decide) ?_
            refine z_istore_n S [(3, .int (nI 0)), (0, .ref (X.1 0)), (1, .int x1), (2, .int x2), (4, .int x4)] dX4_isGuessOfAnother_41 rfl (Nat.le_of_ble_eq_true rfl) rfl ?_
            refine z_iinc S 4 [(4, .int (x4 + nI 1)), (3, .int (nI 0)), (0, .ref (X.1 0)), (1, .int x1), (2, .int x2)] dX4_isGuessOfAnother_42 rfl rfl (Nat.le_of_ble_eq_true rfl) rfl ?_
            refine z_goto S (tgt := 5) dX4_isGuessOfAnother_45 (by decide) ?_
            exact z_lv [2, 3, 4, 1, 0] rfl (ih _ _ _ _ h)
          · refine z_iconst (v := (nI 1)) S dX4_isGuessOfAnother_36 (by decide) ?_
            refine z_goto S (tgt := 41) dX4_isGuessOfAnother_37 (by decide) ?_
            refine z_istore_n S [(3, .int (nI 1)), (0, .ref (X.1 0)), (1, .int x1), (2, .int x2), (4, .int x4)] dX4_isGuessOfAnother_41 rfl (Nat.le_of_ble_eq_true rfl) rfl ?_
            refine z_iinc S 4 [(4, .int (x4 + nI 1)), (3, .int (nI 1)), (0, .ref (X.1 0)), (1, .int x1), (2, .int x2)] dX4_isGuessOfAnother_42 rfl rfl (Nat.le_of_ble_eq_true rfl) rfl ?_
            refine z_goto S (tgt := 5) dX4_isGuessOfAnother_45 (by decide) ?_
            exact z_lv [2, 3, 4, 1, 0] rfl (ih _ _ _ _ h)
set_option maxHeartbeats 4000000 in
set_option maxRecDepth 100000 in
theorem c_X4_isGuessOfAnother (l : Launch) (D : va_G) (X : zE) (z0 : zV) (a0 : Int32) (a1 : Int32) (hinj : zw_inj 9 X.1) {r : Int32} (h : f_X4_isGuessOfAnother z0 a0 a1 = some r) : zMr l yX4_isGuessOfAnother wsX4_isGuessOfAnother (zrm 0 0) D 9 X (zc shM X z0) [.ref (X.1 0), .int a0, .int a1] (some (.int r)) := by
  rw [f_X4_isGuessOfAnother] at h
  refine z_start_r (cc := cX4_isGuessOfAnother) (maxL := 5) (ret := (some .boolean)) (by decide) rfl (Nat.le_of_ble_eq_true rfl) hinj ?_
  intro p e s m below meth c S
  refine z_iconst (v := (nI 0)) S dX4_isGuessOfAnother_0 (by decide) ?_
  refine z_istore_n S [(3, .int (nI 0)), (0, .ref (X.1 0)), (1, .int a0), (2, .int a1)] dX4_isGuessOfAnother_1 rfl (Nat.le_of_ble_eq_true rfl) rfl ?_
  refine z_iconst (v := (nI 1)) S dX4_isGuessOfAnother_2 (by decide) ?_
  refine z_istore S [(4, .int (nI 1)), (3, .int (nI 0)), (0, .ref (X.1 0)), (1, .int a0), (2, .int a1)] dX4_isGuessOfAnother_3 (Nat.le_of_ble_eq_true rfl) rfl ?_
  exact z_lv [2, 3, 4, 1, 0] rfl (tl_X4_isGuessOfAnother_5 S _ _ _ _ _ h)
