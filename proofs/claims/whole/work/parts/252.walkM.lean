/-! SoldLettersModel.isListed: a walk -/
theorem hd_X4_isListed : yX4_isListed.cls = RX4 ∧ yX4_isListed.cls ≠ "java/lang/invoke/MethodHandle" ∧ yX4_isListed.cls ≠ "java/lang/invoke/VarHandle" ∧ (parseMethodDescriptor yX4_isListed.desc).map (fun d => d.parameters.length) = some 1 := by decide +kernel
theorem m0_X4_isListed : Cond.fieldLink RX4 7 RX4 (TX4 0).2.1 (TX4 0).2.2.1 ∈ wsX4_isListed := by decide +kernel
theorem m1_X4_isListed : ∀ w ∈ u_ws RX4 TX4 12, w ∈ wsX4_isListed := by decide +kernel
set_option maxHeartbeats 4000000 in
set_option maxRecDepth 100000 in
theorem c_X4_isListed (l : Launch) (D : va_G) (X : zE) (z0 : zV) (a0 : Int32) (hinj : zw_inj 9 X.1) {r : Int32} (h : f_X4_isListed z0 a0 = some r) : zMr l yX4_isListed wsX4_isListed (zrm 1 25) D 9 X (zc shM X z0) [.ref (X.1 0), .int a0] (some (.int r)) := by
  rw [f_X4_isListed] at h
  refine z_start_r (cc := cX4_isListed) (maxL := 2) (ret := (some .boolean)) (by decide) rfl (Nat.le_of_ble_eq_true rfl) hinj ?_
  intro p e s m below meth c S
  refine z_iload_n S 1 dX4_isListed_0 rfl rfl ?_
  refine z_i2l S dX4_isListed_1 ?_
  refine z_lconst (v := (lN 0)) S dX4_isListed_2 (by decide) ?_
  refine z_aload_n S 0 dX4_isListed_3 rfl rfl ?_
  refine z_get S (C := RX4) (T := TX4) (N := 12) (ci := 4) 0 m0_X4_isListed m1_X4_isListed (Nat.le_of_ble_eq_true rfl) (cM_0 X z0) rfl (Nat.le_of_ble_eq_true rfl) rfl rfl dX4_isListed_4 ?_
  refine z_bipush (v := (nI 106)) S dX4_isListed_7 (by decide) ?_
  refine z_iald S (Nat.le_of_ble_eq_true rfl) (cM_1 X z0) dX4_isListed_9 h (fun v_9 h => ?_)
  refine z_i2l S dX4_isListed_10 ?_
  refine z_lconst (v := (lN 1)) S dX4_isListed_11 (by decide) ?_
  refine z_lsub S dX4_isListed_12 ?_
  obtain ⟨v_13, hv_13, h⟩ := ob_some h
  refine z_callS_r (As := [.long (Int32.toInt64 a0), .long (lN 0), .long ((Int32.toInt64 v_9) - (lN 1))]) S (c_X4_in l D X _ _ _ _ S.2.2.1 hv_13) (va_cwS 3 S.1.2.2.2.2 gX4_isListed_X4_in rfl rfl rfl hd_X4_in ⟨Nat.le_of_ble_eq_true rfl, Nat.le_of_ble_eq_true rfl⟩) rfl rfl (Nat.le_of_ble_eq_true rfl) rfl dX4_isListed_13 ?_
  exact z_zret_r S dX4_isListed_16 h
/-! SoldLettersModel.sizeOf: a walk -/
theorem hd_X4_sizeOf : yX4_sizeOf.cls = RX4 ∧ yX4_sizeOf.cls ≠ "java/lang/invoke/MethodHandle" ∧ yX4_sizeOf.cls ≠ "java/lang/invoke/VarHandle" ∧ (parseMethodDescriptor yX4_sizeOf.desc).map (fun d => d.parameters.length) = some 1 := by decide +kernel
theorem m0_X4_sizeOf : Cond.fieldLink RX4 7 RX4 (TX4 0).2.1 (TX4 0).2.2.1 ∈ wsX4_sizeOf := by decide +kernel
theorem m1_X4_sizeOf : ∀ w ∈ u_ws RX4 TX4 12, w ∈ wsX4_sizeOf := by decide +kernel
set_option maxHeartbeats 4000000 in
set_option maxRecDepth 100000 in
theorem c_X4_sizeOf (l : Launch) (D : va_G) (X : zE) (z0 : zV) (a0 : Int32) (hinj : zw_inj 9 X.1) {r : Int32} (h : f_X4_sizeOf z0 a0 = some r) : zMr l yX4_sizeOf wsX4_sizeOf (zrm 0 0) D 9 X (zc shM X z0) [.ref (X.1 0), .int a0] (some (.int r)) := by
  rw [f_X4_sizeOf] at h
  refine z_start_r (cc := cX4_sizeOf) (maxL := 2) (ret := (some .int)) (by decide) rfl (Nat.le_of_ble_eq_true rfl) hinj ?_
  intro p e s m below meth c S
  refine z_aload_n S 0 dX4_sizeOf_0 rfl rfl ?_
  refine z_get S (C := RX4) (T := TX4) (N := 12) (ci := 4) 0 m0_X4_sizeOf m1_X4_sizeOf (Nat.le_of_ble_eq_true rfl) (cM_0 X z0) rfl (Nat.le_of_ble_eq_true rfl) rfl rfl dX4_sizeOf_1 ?_
  refine z_bipush (v := (nI 109)) S dX4_sizeOf_4 (by decide) ?_
  refine z_bipush (v := (nI 8)) S dX4_sizeOf_6 (by decide) ?_
  refine z_iload_n S 1 dX4_sizeOf_8 rfl rfl ?_
  refine z_imul S dX4_sizeOf_9 ?_
  refine z_iadd S dX4_sizeOf_10 ?_
  refine z_iald S (Nat.le_of_ble_eq_true rfl) (cM_1 X z0) dX4_sizeOf_11 h (fun v_11 h => ?_)
  exact z_iret_r S dX4_sizeOf_12 h
/-! SoldLettersModel.letterOfListed: a walk -/
theorem hd_X4_letterOfListed : yX4_letterOfListed.cls = RX4 ∧ yX4_letterOfListed.cls ≠ "java/lang/invoke/MethodHandle" ∧ yX4_letterOfListed.cls ≠ "java/lang/invoke/VarHandle" ∧ (parseMethodDescriptor yX4_letterOfListed.desc).map (fun d => d.parameters.length) = some 2 := by decide +kernel
theorem m0_X4_letterOfListed : Cond.fieldLink RX4 7 RX4 (TX4 0).2.1 (TX4 0).2.2.1 ∈ wsX4_letterOfListed := by decide +kernel
theorem m1_X4_letterOfListed : ∀ w ∈ u_ws RX4 TX4 12, w ∈ wsX4_letterOfListed := by decide +kernel
set_option maxHeartbeats 4000000 in
set_option maxRecDepth 100000 in
theorem c_X4_letterOfListed (l : Launch) (D : va_G) (X : zE) (z0 : zV) (a0 : Int32) (a1 : Int32) (hinj : zw_inj 9 X.1) {r : Int32} (h : f_X4_letterOfListed z0 a0 a1 = some r) : zMr l yX4_letterOfListed wsX4_letterOfListed (zrm 0 0) D 9 X (zc shM X z0) [.ref (X.1 0), .int a0, .int a1] (some (.int r)) := by
  rw [f_X4_letterOfListed] at h
  refine z_start_r (cc := cX4_letterOfListed) (maxL := 3) (ret := (some .int)) (by decide) rfl (Nat.le_of_ble_eq_true rfl) hinj ?_
  intro p e s m below meth c S
  refine z_aload_n S 0 dX4_letterOfListed_0 rfl rfl ?_
  refine z_get S (C := RX4) (T := TX4) (N := 12) (ci := 4) 0 m0_X4_letterOfListed m1_X4_letterOfListed (Nat.le_of_ble_eq_true rfl) (cM_0 X z0) rfl (Nat.le_of_ble_eq_true rfl) rfl rfl dX4_letterOfListed_1 ?_
  refine z_bipush (v := (nI 109)) S dX4_letterOfListed_4 (by decide) ?_
  refine z_bipush (v := (nI 8)) S dX4_letterOfListed_6 (by decide) ?_
  refine z_iload_n S 1 dX4_letterOfListed_8 rfl rfl ?_
  refine z_imul S dX4_letterOfListed_9 ?_
  refine z_iadd S dX4_letterOfListed_10 ?_
  refine z_iconst (v := (nI 1)) S dX4_letterOfListed_11 (by decide) ?_
  refine z_iadd S dX4_letterOfListed_12 ?_
  refine z_iload_n S 2 dX4_letterOfListed_13 rfl rfl ?_
  refine z_iadd S dX4_letterOfListed_14 ?_
  refine z_iald S (Nat.le_of_ble_eq_true rfl) (cM_1 X z0) dX4_letterOfListed_15 h (fun v_15 h => ?_)
  exact z_iret_r S dX4_letterOfListed_16 h
/-! SoldLettersModel.isCellWell: a walk -/
theorem hd_X4_isCellWell : yX4_isCellWell.cls = RX4 ∧ yX4_isCellWell.cls ≠ "java/lang/invoke/MethodHandle" ∧ yX4_isCellWell.cls ≠ "java/lang/invoke/VarHandle" ∧ (parseMethodDescriptor yX4_isCellWell.desc).map (fun d => d.parameters.length) = some 3 := by decide +kernel
theorem m0_X4_isCellWell : Cond.fieldLink RX4 7 RX4 (TX4 0).2.1 (TX4 0).2.2.1 ∈ wsX4_isCellWell := by decide +kernel
theorem m1_X4_isCellWell : ∀ w ∈ u_ws RX4 TX4 12, w ∈ wsX4_isCellWell := by decide +kernel
set_option maxHeartbeats 4000000 in
set_option maxRecDepth 100000 in
theorem tj_X4_isCellWell_123 {l : Launch} {D : va_G} {X : zE} {p : Program} {e : Env} {s : State} {m : MethodId} {args : Array Value} {below : List Frame} {meth : Method} {c : Code} (S : zS p m meth c cX4_isCellWell 9 (some .boolean) s args wsX4_isCellWell RX4 D 9 X) {z0 : zV} {r : Int32} {k_74 : Int32 → Int32 → Int32 → Int32 → Int32 → Int32 → Int32 → Option (Int32)} (hk_74 : ∀ (x1 : Int32) (x2 : Int32) (x3 : Int32) (x4 : Int32) (x5 : Int32) (x7 : Int32) (x8 : Int32), k_74 x1 x2 x3 x4 x5 x7 x8 = some r → Zj false D 9 X p l e (zrm 2 42) s m args below meth c (MQ below (zQr (some (.int r))) args s 0 0 (fun _ => False)) 9 74 [(0, .ref (X.1 0)), (1, .int x1), (2, .int x2), (3, .int x3), (4, .int x4), (5, .int x5), (7, .int x7), (8, .int x8)] [] (zc shM X z0)) : ∀ (x1 : Int32) (x2 : Int32) (x3 : Int32) (x4 : Int32) (x5 : Int32) (x8 : Int32) (y0 : Int32) (y1 : Int32), j_X4_isCellWell_123 z0 k_74 x1 x2 x3 x4 x5 x8 y0 y1 = some r → Zj false D 9 X p l e (zrm 2 42) s m args below meth c (MQ below (zQr (some (.int r))) args s 0 0 (fun _ => False)) 9 123 [(0, .ref (X.1 0)), (1, .int x1), (2, .int x2), (3, .int x3), (4, .int x4), (5, .int x5), (8, .int x8)] [.int y1, .int y0] (zc shM X z0) := by
  intro x1 x2 x3 x4 x5 x8 y0 y1 h
  rw [j_X4_isCellWell_123] at h
  refine z_icmp_ne S (tgt := 130) dX4_isCellWell_123 (by decide) h (fun h => ?_) (fun h => ?_)
  · refine z_iconst (v := (nI 0)) S dX4_isCellWell_130 (by decide) ?_
    refine z_istore S [(7, .int (nI 0)), (0, .ref (X.1 0)), (1, .int x1), (2, .int x2), (3, .int x3), (4, .int x4), (5, .int x5), (8, .int x8)] dX4_isCellWell_131 (Nat.le_of_ble_eq_true rfl) rfl ?_
    refine z_iinc S 7 [(8, .int (x8 + nI 1)), (7, .int (nI 0)), (0, .ref (X.1 0)), (1, .int x1), (2, .int x2), (3, .int x3), (4, .int x4), (5, .int x5)] dX4_isCellWell_133 rfl rfl (Nat.le_of_ble_eq_true rfl) rfl ?_
    refine z_goto S (tgt := 74) dX4_isCellWell_136 (by decide) ?_
    exact z_lv [2, 3, 4, 5, 6, 7, 1, 0] rfl (hk_74 _ _ _ _ _ _ _ h)
  · refine z_iconst (v := (nI 1)) S dX4_isCellWell_126 (by decide) ?_
    refine z_goto S (tgt := 131) dX4_isCellWell_127 (by decide) ?_
    refine z_istore S [(7, .int (nI 1)), (0, .ref (X.1 0)), (1, .int x1), (2, .int x2), (3, .int x3), (4, .int x4), (5, .int x5), (8, .int x8)] dX4_isCellWell_131 (Nat.le_of_ble_eq_true rfl) rfl ?_
    refine z_iinc S 7 [(8, .int (x8 + nI 1)), (7, .int (nI 1)), (0, .ref (X.1 0)), (1, .int x1), (2, .int x2), (3, .int x3), (4, .int x4), (5, .int x5)] dX4_isCellWell_133 rfl rfl (Nat.le_of_ble_eq_true rfl) rfl ?_
    refine z_goto S (tgt := 74) dX4_isCellWell_136 (by decide) ?_
    exact z_lv [2, 3, 4, 5, 6, 7, 1, 0] rfl (hk_74 _ _ _ _ _ _ _ h)
set_option maxHeartbeats 4000000 in
set_option maxRecDepth 100000 in
theorem tj_X4_isCellWell_106 {l : Launch} {D : va_G} {X : zE} {p : Program} {e : Env} {s : State} {m : MethodId} {args : Array Value} {below : List Frame} {meth : Method} {c : Code} (S : zS p m meth c cX4_isCellWell 9 (some .boolean) s args wsX4_isCellWell RX4 D 9 X) {z0 : zV} {r : Int32} {k_74 : Int32 → Int32 → Int32 → Int32 → Int32 → Int32 → Int32 → Option (Int32)} (hk_74 : ∀ (x1 : Int32) (x2 : Int32) (x3 : Int32) (x4 : Int32) (x5 : Int32) (x7 : Int32) (x8 : Int32), k_74 x1 x2 x3 x4 x5 x7 x8 = some r → Zj false D 9 X p l e (zrm 2 42) s m args below meth c (MQ below (zQr (some (.int r))) args s 0 0 (fun _ => False)) 9 74 [(0, .ref (X.1 0)), (1, .int x1), (2, .int x2), (3, .int x3), (4, .int x4), (5, .int x5), (7, .int x7), (8, .int x8)] [] (zc shM X z0)) : ∀ (x1 : Int32) (x2 : Int32) (x3 : Int32) (x4 : Int32) (x5 : Int32) (x8 : Int32) (y0 : Int32), j_X4_isCellWell_106 z0 k_74 x1 x2 x3 x4 x5 x8 y0 = some r → Zj false D 9 X p l e (zrm 2 42) s m args below meth c (MQ below (zQr (some (.int r))) args s 0 0 (fun _ => False)) 9 106 [(0, .ref (X.1 0)), (1, .int x1), (2, .int x2), (3, .int x3), (4, .int x4), (5, .int x5), (8, .int x8)] [.int y0] (zc shM X z0) := by
  intro x1 x2 x3 x4 x5 x8 y0 h
  rw [j_X4_isCellWell_106] at h
  refine z_aload_n S 0 dX4_isCellWell_106 rfl rfl ?_
  refine z_iload_n S 2 dX4_isCellWell_107 rfl rfl ?_
  refine z_iload S 6 dX4_isCellWell_108 rfl ?_
  obtain ⟨v_110, hv_110, h⟩ := ob_some h
  refine z_callV_r (As := [.int x2, .int x8]) S (c_X4_letterOfListed l D X _ _ _ S.2.2.1 hv_110) (cwV 2 S.1.2.2.2.2 gX4_isCellWell_X4_letterOfListed rfl rfl rfl hd_X4_letterOfListed ⟨Nat.le_of_ble_eq_true rfl, Nat.le_of_ble_eq_true rfl⟩) (Nat.le_of_ble_eq_true rfl) (cM_0 X z0) rfl rfl rfl (Nat.le_of_ble_eq_true rfl) rfl dX4_isCellWell_110 ?_
  refine z_iload S 5 dX4_isCellWell_113 rfl ?_
  refine z_icmp_ne S (tgt := 122) dX4_isCellWell_115 (by decide) h (fun h => ?_) (fun h => ?_)
  · refine z_iconst (v := (nI 0)) S dX4_isCellWell_122 (by decide) ?_
    exact z_lv [0, 1, 2, 3, 4, 5, 6] rfl (tj_X4_isCellWell_123 S hk_74 _ _ _ _ _ _ _ _ h)
  · refine z_iconst (v := (nI 1)) S dX4_isCellWell_118 (by decide) ?_
    refine z_goto S (tgt := 123) dX4_isCellWell_119 (by decide) ?_
    exact z_lv [0, 1, 2, 3, 4, 5, 6] rfl (tj_X4_isCellWell_123 S hk_74 _ _ _ _ _ _ _ _ h)
set_option maxHeartbeats 4000000 in
set_option maxRecDepth 100000 in
theorem tl_X4_isCellWell_74 {l : Launch} {D : va_G} {X : zE} {p : Program} {e : Env} {s : State} {m : MethodId} {args : Array Value} {below : List Frame} {meth : Method} {c : Code} (S : zS p m meth c cX4_isCellWell 9 (some .boolean) s args wsX4_isCellWell RX4 D 9 X) {z0 : zV} {r : Int32} : ∀ (n_ : Nat), ∀ (x1 : Int32) (x2 : Int32) (x3 : Int32) (x4 : Int32) (x5 : Int32) (x7 : Int32) (x8 : Int32), l_X4_isCellWell_74 z0 n_ x1 x2 x3 x4 x5 x7 x8 = some r → Zj false D 9 X p l e (zrm 2 42) s m args below meth c (MQ below (zQr (some (.int r))) args s 0 0 (fun _ => False)) 9 74 [(0, .ref (X.1 0)), (1, .int x1), (2, .int x2), (3, .int x3), (4, .int x4), (5, .int x5), (7, .int x7), (8, .int x8)] [] (zc shM X z0) := by
  intro n_
  induction n_ with
  | zero =>
    intro x1 x2 x3 x4 x5 x7 x8 h
    cases h
  | succ n_ ih =>
    intro x1 x2 x3 x4 x5 x7 x8 h
    rw [l_X4_isCellWell_74] at h
    refine z_iload S 7 dX4_isCellWell_74 rfl ?_
    refine z_iload_n S 3 dX4_isCellWell_76 rfl rfl ?_
    refine z_icmp_ge S (tgt := 139) dX4_isCellWell_77 (by decide) h (fun h => ?_) (fun h => ?_)
    · refine z_iload S 6 dX4_isCellWell_139 rfl ?_
      exact z_zret_r S dX4_isCellWell_141 h
    · refine z_iload S 6 dX4_isCellWell_80 rfl ?_
      refine z_if_eq S (tgt := 139) dX4_isCellWell_82 (by decide) h (fun h => ?_) (fun h => ?_)
      · refine z_iload S 6 dX4_isCellWell_139 rfl ?_
        exact z_zret_r S dX4_isCellWell_141 h
      · refine z_aload_n S 0 dX4_isCellWell_85 rfl rfl ?_
        refine z_aload_n S 0 dX4_isCellWell_86 rfl rfl ?_
        refine z_iload_n S 1 dX4_isCellWell_87 rfl rfl ?_
        refine z_iload S 7 dX4_isCellWell_88 rfl ?_
        obtain ⟨v_90, hv_90, h⟩ := ob_some h
        refine z_callV_r (As := [.int x1, .int x8]) S (c_X4_cellOf l D X _ _ _ S.2.2.1 hv_90) (cwV 2 S.1.2.2.2.2 gX4_isCellWell_X4_cellOf rfl rfl rfl hd_X4_cellOf ⟨Nat.le_of_ble_eq_true rfl, Nat.le_of_ble_eq_true rfl⟩) (Nat.le_of_ble_eq_true rfl) (cM_0 X z0) rfl rfl rfl (Nat.le_of_ble_eq_true rfl) rfl dX4_isCellWell_90 ?_
        obtain ⟨v_93, hv_93, h⟩ := ob_some h
        refine z_callV_r (As := [.int v_90]) S (c_X4_numberAt l D X _ _ S.2.2.1 hv_93) (cwV 1 S.1.2.2.2.2 gX4_isCellWell_X4_numberAt rfl rfl rfl hd_X4_numberAt ⟨Nat.le_of_ble_eq_true rfl, Nat.le_of_ble_eq_true rfl⟩) (Nat.le_of_ble_eq_true rfl) (cM_0 X z0) rfl rfl rfl (Nat.le_of_ble_eq_true rfl) rfl dX4_isCellWell_93 ?_
        refine z_iload S 4 dX4_isCellWell_96 rfl ?_
        refine z_icmp_ne S (tgt := 105) dX4_isCellWell_98 (by decide) h (fun h => ?_) (fun h => ?_)
        · refine z_iconst (v := (nI 0)) S dX4_isCellWell_105 (by decide) ?_
          exact z_lv [0, 1, 2, 3, 4, 5, 7] rfl (tj_X4_isCellWell_106 S ih _ _ _ _ _ _ _ h)
        · refine z_iconst (v := (nI 1)) S dX4_isCellWell_101 (by decide) ?_
          refine z_goto S (tgt := 106) dX4_isCellWell_102 (by decide) ?_
          exact z_lv [0, 1, 2, 3, 4, 5, 7] rfl (tj_X4_isCellWell_106 S ih _ _ _ _ _ _ _ h)
set_option maxHeartbeats 4000000 in
set_option maxRecDepth 100000 in
theorem c_X4_isCellWell (l : Launch) (D : va_G) (X : zE) (z0 : zV) (a0 : Int32) (a1 : Int32) (a2 : Int32) (hinj : zw_inj 9 X.1) {r : Int32} (h : f_X4_isCellWell z0 a0 a1 a2 = some r) : zMr l yX4_isCellWell wsX4_isCellWell (zrm 2 42) D 9 X (zc shM X z0) [.ref (X.1 0), .int a0, .int a1, .int a2] (some (.int r)) := by
  rw [f_X4_isCellWell] at h
  refine z_start_r (cc := cX4_isCellWell) (maxL := 9) (ret := (some .boolean)) (by decide) rfl (Nat.le_of_ble_eq_true rfl) hinj ?_
  intro p e s m below meth c S
  refine z_aload_n S 0 dX4_isCellWell_0 rfl rfl ?_
  refine z_aload_n S 0 dX4_isCellWell_1 rfl rfl ?_
  refine z_iload_n S 1 dX4_isCellWell_2 rfl rfl ?_
  refine z_iload_n S 3 dX4_isCellWell_3 rfl rfl ?_
  obtain ⟨v_4, hv_4, h⟩ := ob_some h
  refine z_callV_r (As := [.int a0, .int a2]) S (c_X4_cellOf l D X _ _ _ S.2.2.1 hv_4) (cwV 2 S.1.2.2.2.2 gX4_isCellWell_X4_cellOf rfl rfl rfl hd_X4_cellOf ⟨Nat.le_of_ble_eq_true rfl, Nat.le_of_ble_eq_true rfl⟩) (Nat.le_of_ble_eq_true rfl) (cM_0 X z0) rfl rfl rfl (Nat.le_of_ble_eq_true rfl) rfl dX4_isCellWell_4 ?_
  obtain ⟨v_7, hv_7, h⟩ := ob_some h
  refine z_callV_r (As := [.int v_4]) S (c_X4_numberAt l D X _ _ S.2.2.1 hv_7) (cwV 1 S.1.2.2.2.2 gX4_isCellWell_X4_numberAt rfl rfl rfl hd_X4_numberAt ⟨Nat.le_of_ble_eq_true rfl, Nat.le_of_ble_eq_true rfl⟩) (Nat.le_of_ble_eq_true rfl) (cM_0 X z0) rfl rfl rfl (Nat.le_of_ble_eq_true rfl) rfl dX4_isCellWell_7 ?_
  refine z_istore S [(4, .int v_7), (0, .ref (X.1 0)), (1, .int a0), (2, .int a1), (3, .int a2)] dX4_isCellWell_10 (Nat.le_of_ble_eq_true rfl) rfl ?_
  refine z_aload_n S 1 dX4_isCellWell_12 rfl rfl ?_
  refine z_iload_n S 3 dX4_isCellWell_13 rfl rfl ?_
  refine z_iload_n S 4 dX4_isCellWell_14 rfl rfl ?_
  obtain ⟨v_15, hv_15, h⟩ := ob_some h
  refine z_callV_r (As := [.int a1, .int a2]) S (c_X4_letterOfListed l D X _ _ _ S.2.2.1 hv_15) (cwV 2 S.1.2.2.2.2 gX4_isCellWell_X4_letterOfListed rfl rfl rfl hd_X4_letterOfListed ⟨Nat.le_of_ble_eq_true rfl, Nat.le_of_ble_eq_true rfl⟩) (Nat.le_of_ble_eq_true rfl) (cM_0 X z0) rfl rfl rfl (Nat.le_of_ble_eq_true rfl) rfl dX4_isCellWell_15 ?_
  refine z_istore S [(5, .int v_15), (4, .int v_7), (0, .ref (X.1 0)), (1, .int a0), (2, .int a1), (3, .int a2)] dX4_isCellWell_18 (Nat.le_of_ble_eq_true rfl) rfl ?_
  refine z_aload_n S 2 dX4_isCellWell_20 rfl rfl ?_
  refine z_get S (C := RX4) (T := TX4) (N := 12) (ci := 4) 0 m0_X4_isCellWell m1_X4_isCellWell (Nat.le_of_ble_eq_true rfl) (cM_0 X z0) rfl (Nat.le_of_ble_eq_true rfl) rfl rfl dX4_isCellWell_21 ?_
  refine z_bipush (v := (nI 51)) S dX4_isCellWell_24 (by decide) ?_
  refine z_iload S 1 dX4_isCellWell_26 rfl ?_
  refine z_iadd S dX4_isCellWell_28 ?_
  refine z_iald S (Nat.le_of_ble_eq_true rfl) (cM_1 X z0) dX4_isCellWell_29 h (fun v_29 h => ?_)
  refine z_istore S [(6, .int v_29), (5, .int v_15), (4, .int v_7), (0, .ref (X.1 0)), (1, .int a0), (2, .int a1), (3, .int a2)] dX4_isCellWell_30 (Nat.le_of_ble_eq_true rfl) rfl ?_
  refine z_iload S 0 dX4_isCellWell_32 rfl ?_
  refine z_iconst (v := (-1)) S dX4_isCellWell_34 (by decide) ?_
  refine z_icmp_ne S (tgt := 57) dX4_isCellWell_35 (by decide) h (fun h => ?_) (fun h => ?_)
  · refine z_iload S 0 dX4_isCellWell_57 rfl ?_
    refine z_iload S 1 dX4_isCellWell_59 rfl ?_
    refine z_icmp_ne S (tgt := 68) dX4_isCellWell_61 (by decide) h (fun h => ?_) (fun h => ?_)
    · refine z_iconst (v := (nI 0)) S dX4_isCellWell_68 (by decide) ?_
      refine z_istore S [(7, .int (nI 0)), (6, .int v_29), (5, .int v_15), (4, .int v_7), (0, .ref (X.1 0)), (1, .int a0), (2, .int a1), (3, .int a2)] dX4_isCellWell_69 (Nat.le_of_ble_eq_true rfl) rfl ?_
      refine z_iconst (v := (nI 0)) S dX4_isCellWell_71 (by decide) ?_
      refine z_istore S [(8, .int (nI 0)), (7, .int (nI 0)), (6, .int v_29), (5, .int v_15), (4, .int v_7), (0, .ref (X.1 0)), (1, .int a0), (2, .int a1), (3, .int a2)] dX4_isCellWell_72 (Nat.le_of_ble_eq_true rfl) rfl ?_
      exact z_lv [5, 6, 7, 8, 4, 3, 1, 0] rfl (tl_X4_isCellWell_74 S _ _ _ _ _ _ _ _ h)
    · refine z_iconst (v := (nI 1)) S dX4_isCellWell_64 (by decide) ?_
      refine z_goto S (tgt := 69) dX4_isCellWell_65 (by decide) ?_
      refine z_istore S [(7, .int (nI 1)), (6, .int v_29), (5, .int v_15), (4, .int v_7), (0, .ref (X.1 0)), (1, .int a0), (2, .int a1), (3, .int a2)] dX4_isCellWell_69 (Nat.le_of_ble_eq_true rfl) rfl ?_
      refine z_iconst (v := (nI 0)) S dX4_isCellWell_71 (by decide) ?_
      refine z_istore S [(8, .int (nI 0)), (7, .int (nI 1)), (6, .int v_29), (5, .int v_15), (4, .int v_7), (0, .ref (X.1 0)), (1, .int a0), (2, .int a1), (3, .int a2)] dX4_isCellWell_72 (Nat.le_of_ble_eq_true rfl) rfl ?_
      exact z_lv [5, 6, 7, 8, 4, 3, 1, 0] rfl (tl_X4_isCellWell_74 S _ _ _ _ _ _ _ _ h)
  · refine z_aload_n S 3 dX4_isCellWell_38 rfl rfl ?_
    refine z_iload S 1 dX4_isCellWell_39 rfl ?_
    refine z_iload S 2 dX4_isCellWell_41 rfl ?_
    obtain ⟨v_43, hv_43, h⟩ := ob_some h
    refine z_callV_r (As := [.int v_15, .int v_7]) S (c_X4_isGuessOfAnother l D X _ _ _ S.2.2.1 hv_43) (cwV 2 S.1.2.2.2.2 gX4_isCellWell_X4_isGuessOfAnother rfl rfl rfl hd_X4_isGuessOfAnother ⟨Nat.le_of_ble_eq_true rfl, Nat.le_of_ble_eq_true rfl⟩) (Nat.le_of_ble_eq_true rfl) (cM_0 X z0) rfl rfl rfl (Nat.le_of_ble_eq_true rfl) rfl dX4_isCellWell_43 ?_
    refine z_if_ne S (tgt := 53) dX4_isCellWell_46 (by decide) h (fun h => ?_) (fun h => ?_)
    · refine z_iconst (v := (nI 0)) S dX4_isCellWell_53 (by decide) ?_
      refine z_goto S (tgt := 69) dX4_isCellWell_54 (by decide) ?_
      refine z_istore S [(7, .int (nI 0)), (6, .int v_29), (5, .int v_15), (4, .int v_7), (0, .ref (X.1 0)), (1, .int a0), (2, .int a1), (3, .int a2)] dX4_isCellWell_69 (Nat.le_of_ble_eq_true rfl) rfl ?_
      refine z_iconst (v := (nI 0)) S dX4_isCellWell_71 (by decide) ?_
      refine z_istore S [(8, .int (nI 0)), (7, .int (nI 0)), (6, .int v_29), (5, .int v_15), (4, .int v_7), (0, .ref (X.1 0)), (1, .int a0), (2, .int a1), (3, .int a2)] dX4_isCellWell_72 (Nat.le_of_ble_eq_true rfl) rfl ?_
      exact z_lv [5, 6, 7, 8, 4, 3, 1, 0] rfl (tl_X4_isCellWell_74 S _ _ _ _ _ _ _ _ h)
    · refine z_iconst (v := (nI 1)) S dX4_isCellWell_49 (by decide) ?_
      refine z_goto S (tgt := 69) dX4_isCellWell_50 (by decide) ?_
      refine z_istore S [(7, .int (nI 1)), (6, .int v_29), (5, .int v_15), (4, .int v_7), (0, .ref (X.1 0)), (1, .int a0), (2, .int a1), (3, .int a2)] dX4_isCellWell_69 (Nat.le_of_ble_eq_true rfl) rfl ?_
      refine z_iconst (v := (nI 0)) S dX4_isCellWell_71 (by decide) ?_
      refine z_istore S [(8, .int (nI 0)), (7, .int (nI 1)), (6, .int v_29), (5, .int v_15), (4, .int v_7), (0, .ref (X.1 0)), (1, .int a0), (2, .int a1), (3, .int a2)] dX4_isCellWell_72 (Nat.le_of_ble_eq_true rfl) rfl ?_
      exact z_lv [5, 6, 7, 8, 4, 3, 1, 0] rfl (tl_X4_isCellWell_74 S _ _ _ _ _ _ _ _ h)
/-! SoldLettersModel.isFit: a walk -/
theorem hd_X4_isFit : yX4_isFit.cls = RX4 ∧ yX4_isFit.cls ≠ "java/lang/invoke/MethodHandle" ∧ yX4_isFit.cls ≠ "java/lang/invoke/VarHandle" ∧ (parseMethodDescriptor yX4_isFit.desc).map (fun d => d.parameters.length) = some 2 := by decide +kernel
theorem m0_X4_isFit : Cond.fieldLink RX4 25 RX4 (TX4 7).2.1 (TX4 7).2.2.1 ∈ wsX4_isFit := by decide +kernel
theorem m1_X4_isFit : ∀ w ∈ u_ws RX4 TX4 12, w ∈ wsX4_isFit := by decide +kernel
set_option maxHeartbeats 4000000 in
set_option maxRecDepth 100000 in
theorem tl_X4_isFit_23 {l : Launch} {D : va_G} {X : zE} {p : Program} {e : Env} {s : State} {m : MethodId} {args : Array Value} {below : List Frame} {meth : Method} {c : Code} (S : zS p m meth c cX4_isFit 5 (some .boolean) s args wsX4_isFit RX4 D 9 X) {z0 : zV} {r : Int32} : ∀ (n_ : Nat), ∀ (x1 : Int32) (x2 : Int32) (x3 : Int32) (x4 : Int32), l_X4_isFit_23 z0 n_ x1 x2 x3 x4 = some r → Zj false D 9 X p l e (zrm 3 70) s m args below meth c (MQ below (zQr (some (.int r))) args s 0 0 (fun _ => False)) 5 23 [(0, .ref (X.1 0)), (1, .int x1), (2, .int x2), (3, .int x3), (4, .int x4)] [] (zc shM X z0) := by
  intro n_
  induction n_ with
  | zero =>
    intro x1 x2 x3 x4 h
    cases h
  | succ n_ ih =>
    intro x1 x2 x3 x4 h
    rw [l_X4_isFit_23] at h
    refine z_iload S 4 dX4_isFit_23 rfl ?_
    refine z_aload_n S 0 dX4_isFit_25 rfl rfl ?_
    refine z_get S (C := RX4) (T := TX4) (N := 12) (ci := 4) 7 m0_X4_isFit m1_X4_isFit (Nat.le_of_ble_eq_true rfl) (cM_0 X z0) rfl (Nat.le_of_ble_eq_true rfl) rfl rfl dX4_isFit_26 ?_
    refine z_iload_n S 1 dX4_isFit_29 rfl rfl ?_
    refine z_iald S (Nat.le_of_ble_eq_true rfl) (cM_6 X z0) dX4_isFit_30 h (fun v_30 h => ?_)
    refine z_icmp_ge S (tgt := 53) dX4_isFit_31 (by decide) h (fun h => ?_) (fun h => ?_)
    · refine z_iload_n S 3 dX4_isFit_53 rfl rfl ?_
      exact z_zret_r S dX4_isFit_54 h
    · refine z_iload_n S 3 dX4_isFit_34 rfl rfl ?_
      refine z_if_eq S (tgt := 53) dX4_isFit_35 (by decide) h (fun h => ?_) (fun h => ?_)
      · refine z_iload_n S 3 dX4_isFit_53 rfl rfl ?_
        exact z_zret_r S dX4_isFit_54 h
      · refine z_aload_n S 0 dX4_isFit_38 rfl rfl ?_
        refine z_iload_n S 1 dX4_isFit_39 rfl rfl ?_
        refine z_iload_n S 2 dX4_isFit_40 rfl rfl ?_
        refine z_iload S 4 dX4_isFit_41 rfl ?_
        obtain ⟨v_43, hv_43, h⟩ := ob_some h
        refine z_callV_r (As := [.int x1, .int x2, .int x4]) S (c_X4_isCellWell l D X _ _ _ _ S.2.2.1 hv_43) (cwV 3 S.1.2.2.2.2 gX4_isFit_X4_isCellWell rfl rfl rfl hd_X4_isCellWell ⟨Nat.le_of_ble_eq_true rfl, Nat.le_of_ble_eq_true rfl⟩) (Nat.le_of_ble_eq_true rfl) (cM_0 X z0) rfl rfl rfl (Nat.le_of_ble_eq_true rfl) rfl dX4_isFit_43 ?_
        refine z_istore_n S [(3, .int v_43), (0, .ref (X.1 0)), (1, .int x1), (2, .int x2), (4, .int x4)] dX4_isFit_46 rfl (Nat.le_of_ble_eq_true rfl) rfl ?_
        refine z_iinc S 4 [(4, .int (x4 + nI 1)), (3, .int v_43), (0, .ref (X.1 0)), (1, .int x1), (2, .int x2)] dX4_isFit_47 rfl rfl (Nat.le_of_ble_eq_true rfl) rfl ?_
        refine z_goto S (tgt := 23) dX4_isFit_50 (by decide) ?_
        exact z_lv [2, 3, 4, 1, 0] rfl (ih _ _ _ _ h)
set_option maxHeartbeats 4000000 in
set_option maxRecDepth 100000 in
theorem c_X4_isFit (l : Launch) (D : va_G) (X : zE) (z0 : zV) (a0 : Int32) (a1 : Int32) (hinj : zw_inj 9 X.1) {r : Int32} (h : f_X4_isFit z0 a0 a1 = some r) : zMr l yX4_isFit wsX4_isFit (zrm 3 70) D 9 X (zc shM X z0) [.ref (X.1 0), .int a0, .int a1] (some (.int r)) := by
  rw [f_X4_isFit] at h
  refine z_start_r (cc := cX4_isFit) (maxL := 5) (ret := (some .boolean)) (by decide) rfl (Nat.le_of_ble_eq_true rfl) hinj ?_
  intro p e s m below meth c S
  refine z_aload_n S 0 dX4_isFit_0 rfl rfl ?_
  refine z_iload_n S 2 dX4_isFit_1 rfl rfl ?_
  obtain ⟨v_2, hv_2, h⟩ := ob_some h
  refine z_callV_r (As := [.int a1]) S (c_X4_sizeOf l D X _ _ S.2.2.1 hv_2) (cwV 1 S.1.2.2.2.2 gX4_isFit_X4_sizeOf rfl rfl rfl hd_X4_sizeOf ⟨Nat.le_of_ble_eq_true rfl, Nat.le_of_ble_eq_true rfl⟩) (Nat.le_of_ble_eq_true rfl) (cM_0 X z0) rfl rfl rfl (Nat.le_of_ble_eq_true rfl) rfl dX4_isFit_2 ?_
  refine z_aload_n S 0 dX4_isFit_5 rfl rfl ?_
  refine z_get S (C := RX4) (T := TX4) (N := 12) (ci := 4) 7 m0_X4_isFit m1_X4_isFit (Nat.le_of_ble_eq_true rfl) (cM_0 X z0) rfl (Nat.le_of_ble_eq_true rfl) rfl rfl dX4_isFit_6 ?_
  refine z_iload_n S 1 dX4_isFit_9 rfl rfl ?_
  refine z_iald S (Nat.le_of_ble_eq_true rfl) (cM_6 X z0) dX4_isFit_10 h (fun v_10 h => ?_)
  refine z_icmp_ne S (tgt := 18) dX4_isFit_11 (by decide) h (fun h => ?_) (fun h => ?_)
  · refine z_iconst (v := (nI 0)) S dX4_isFit_18 (by decide) ?_
    refine z_istore_n S [(3, .int (nI 0)), (0, .ref (X.1 0)), (1, .int a0), (2, .int a1)] dX4_isFit_19 rfl (Nat.le_of_ble_eq_true rfl) rfl ?_
    refine z_iconst (v := (nI 0)) S dX4_isFit_20 (by decide) ?_
    refine z_istore S [(4, .int (nI 0)), (3, .int (nI 0)), (0, .ref (X.1 0)), (1, .int a0), (2, .int a1)] dX4_isFit_21 (Nat.le_of_ble_eq_true rfl) rfl ?_
    exact z_lv [2, 3, 4, 1, 0] rfl (tl_X4_isFit_23 S _ _ _ _ _ h)
  · refine z_iconst (v := (nI 1)) S dX4_isFit_14 (by decide) ?_
    refine z_goto S (tgt := 19) dX4_isFit_15 (by decide) ?_
    refine z_istore_n S [(3, .int (nI 1)), (0, .ref (X.1 0)), (1, .int a0), (2, .int a1)] dX4_isFit_19 rfl (Nat.le_of_ble_eq_true rfl) rfl ?_
    refine z_iconst (v := (nI 0)) S dX4_isFit_20 (by decide) ?_
    refine z_istore S [(4, .int (nI 0)), (3, .int (nI 1)), (0, .ref (X.1 0)), (1, .int a0), (2, .int a1)] dX4_isFit_21 (Nat.le_of_ble_eq_true rfl) rfl ?_
    exact z_lv [2, 3, 4, 1, 0] rfl (tl_X4_isFit_23 S _ _ _ _ _ h)
/-! SoldLettersModel.type: a walk -/
theorem hd_X4_type : yX4_type.cls = RX4 ∧ yX4_type.cls ≠ "java/lang/invoke/MethodHandle" ∧ yX4_type.cls ≠ "java/lang/invoke/VarHandle" ∧ (parseMethodDescriptor yX4_type.desc).map (fun d => d.parameters.length) = some 1 := by decide +kernel
theorem m0_X4_type : Cond.fieldLink RX4 88 RX4 (TX4 11).2.1 (TX4 11).2.2.1 ∈ wsX4_type := by decide +kernel
theorem m1_X4_type : ∀ w ∈ u_ws RX4 TX4 12, w ∈ wsX4_type := by decide +kernel
theorem m2_X4_type : Cond.fieldLink RX4 31 RX4 (TX4 10).2.1 (TX4 10).2.2.1 ∈ wsX4_type := by decide +kernel
set_option maxHeartbeats 4000000 in
set_option maxRecDepth 100000 in
theorem c_X4_type (l : Launch) (D : va_G) (X : zE) (z0 : zV) (a0 : Int32) (hinj : zw_inj 9 X.1) {r : Int32} {z1 : zV} (h : f_X4_type z0 a0 = some (r, z1)) : zMw l yX4_type wsX4_type (zrm 0 0) D 9 X (zc shM X z0) [.ref (X.1 0), .int a0] (some (.int r)) (zc shM X z1) := by
  rw [f_X4_type] at h
  refine z_start_w (cc := cX4_type) (maxL := 2) (ret := (some .int)) (by decide) rfl (Nat.le_of_ble_eq_true rfl) hinj ?_
  intro p e s m below meth c S
  refine z_aload_n S 0 dX4_type_0 rfl rfl ?_
  refine z_get S (C := RX4) (T := TX4) (N := 12) (ci := 4) 11 m0_X4_type m1_X4_type (Nat.le_of_ble_eq_true rfl) (cM_0 X z0) rfl (Nat.le_of_ble_eq_true rfl) rfl rfl dX4_type_1 ?_
  refine z_bipush (v := (nI 60)) S dX4_type_4 (by decide) ?_
  refine z_icmp_ne S (tgt := 12) dX4_type_6 (by decide) h (fun h => ?_) (fun h => ?_)
  · refine z_aload_n S 0 dX4_type_12 rfl rfl ?_
    refine z_get S (C := RX4) (T := TX4) (N := 12) (ci := 4) 10 m2_X4_type m1_X4_type (Nat.le_of_ble_eq_true rfl) (cM_0 X z0) rfl (Nat.le_of_ble_eq_true rfl) rfl rfl dX4_type_13 ?_
    refine z_aload_n S 0 dX4_type_16 rfl rfl ?_
    refine z_get S (C := RX4) (T := TX4) (N := 12) (ci := 4) 11 m0_X4_type m1_X4_type (Nat.le_of_ble_eq_true rfl) (cM_0 X z0) rfl (Nat.le_of_ble_eq_true rfl) rfl rfl dX4_type_17 ?_
    refine z_iload_n S 1 dX4_type_20 rfl rfl ?_
    refine z_iast S (Nat.le_of_ble_eq_true rfl) (fun _ => rfl) dX4_type_21 h (fun z_21 h => ?_)
    refine z_aload_n S 0 dX4_type_22 rfl rfl ?_
    refine z_dup S dX4_type_23 rfl ?_
    refine z_get S (C := RX4) (T := TX4) (N := 12) (ci := 4) 11 m0_X4_type m1_X4_type (Nat.le_of_ble_eq_true rfl) (cM_0 X z_21) rfl (Nat.le_of_ble_eq_true rfl) rfl rfl dX4_type_24 ?_
    refine z_iconst (v := (nI 1)) S dX4_type_27 (by decide) ?_
    refine z_iadd S dX4_type_28 ?_
    refine z_put S (C := RX4) (T := TX4) (N := 12) (ci := 4) 11 tyX4_ok nmX4 m0_X4_type m1_X4_type (Nat.le_of_ble_eq_true rfl) (cM_0 X z_21) rfl (Nat.le_of_ble_eq_true rfl) rfl rfl rfl rfl (Nat.le_of_ble_eq_true rfl) rfl dX4_type_29 h (fun z_29 h => ?_)
    refine z_aload_n S 0 dX4_type_32 rfl rfl ?_
    refine z_get S (C := RX4) (T := TX4) (N := 12) (ci := 4) 11 m0_X4_type m1_X4_type (Nat.le_of_ble_eq_true rfl) (cM_0 X z_29) rfl (Nat.le_of_ble_eq_true rfl) rfl rfl dX4_type_33 ?_
    exact z_iret_w S dX4_type_36 h
  · refine z_bipush (v := (-3)) S dX4_type_9 (by decide) ?_
    exact z_iret_w S dX4_type_11 h
/-! SoldLettersModel.clearText: a walk -/
theorem hd_X4_clearText : yX4_clearText.cls = RX4 ∧ yX4_clearText.cls ≠ "java/lang/invoke/MethodHandle" ∧ yX4_clearText.cls ≠ "java/lang/invoke/VarHandle" ∧ (parseMethodDescriptor yX4_clearText.desc).map (fun d => d.parameters.length) = some 0 := by decide +kernel
theorem m0_X4_clearText : Cond.fieldLink RX4 88 RX4 (TX4 11).2.1 (TX4 11).2.2.1 ∈ wsX4_clearText := by decide +kernel
theorem m1_X4_clearText : ∀ w ∈ u_ws RX4 TX4 12, w ∈ wsX4_clearText := by decide +kernel
set_option maxHeartbeats 4000000 in
set_option maxRecDepth 100000 in
theorem c_X4_clearText (l : Launch) (D : va_G) (X : zE) (z0 : zV) (hinj : zw_inj 9 X.1) {r : Int32} {z1 : zV} (h : f_X4_clearText z0 = some (r, z1)) : zMw l yX4_clearText wsX4_clearText (zrm 0 0) D 9 X (zc shM X z0) [.ref (X.1 0)] (some (.int r)) (zc shM X z1) := by
  rw [f_X4_clearText] at h
  refine z_start_w (cc := cX4_clearText) (maxL := 2) (ret := (some .int)) (by decide) rfl (Nat.le_of_ble_eq_true rfl) hinj ?_
  intro p e s m below meth c S
  refine z_aload_n S 0 dX4_clearText_0 rfl rfl ?_
  refine z_get S (C := RX4) (T := TX4) (N := 12) (ci := 4) 11 m0_X4_clearText m1_X4_clearText (Nat.le_of_ble_eq_true rfl) (cM_0 X z0) rfl (Nat.le_of_ble_eq_true rfl) rfl rfl dX4_clearText_1 ?_
  refine z_istore_n S [(1, .int (z0.1 0 11)), (0, .ref (X.1 0))] dX4_clearText_4 rfl (Nat.le_of_ble_eq_true rfl) rfl ?_
  refine z_aload_n S 1 dX4_clearText_5 rfl rfl ?_
  refine z_iconst (v := (nI 0)) S dX4_clearText_6 (by decide) ?_
  refine z_put S (C := RX4) (T := TX4) (N := 12) (ci := 4) 11 tyX4_ok nmX4 m0_X4_clearText m1_X4_clearText (Nat.le_of_ble_eq_true rfl) (cM_0 X z0) rfl (Nat.le_of_ble_eq_true rfl) rfl rfl rfl rfl (Nat.le_of_ble_eq_true rfl) rfl dX4_clearText_7 h (fun z_7 h => ?_)
  refine z_iload_n S 0 dX4_clearText_10 rfl rfl ?_
  exact z_iret_w S dX4_clearText_11 h
/-! SoldLettersModel.isLetter: a walk -/
theorem hd_X4_isLetter : yX4_isLetter.cls = RX4 ∧ yX4_isLetter.cls ≠ "java/lang/invoke/MethodHandle" ∧ yX4_isLetter.cls ≠ "java/lang/invoke/VarHandle" ∧ (parseMethodDescriptor yX4_isLetter.desc).map (fun d => d.parameters.length) = some 1 := by decide +kernel
theorem m0_X4_isLetter : Cond.fieldLink RX4 31 RX4 (TX4 10).2.1 (TX4 10).2.2.1 ∈ wsX4_isLetter := by decide +kernel
theorem m1_X4_isLetter : ∀ w ∈ u_ws RX4 TX4 12, w ∈ wsX4_isLetter := by decide +kernel
theorem m2_X4_isLetter : Jvm.Cond.constantLong RX4 91 97 ∈ wsX4_isLetter := by decide +kernel
theorem m3_X4_isLetter : Jvm.Cond.constantLong RX4 93 122 ∈ wsX4_isLetter := by decide +kernel
set_option maxHeartbeats 4000000 in
set_option maxRecDepth 100000 in
theorem c_X4_isLetter (l : Launch) (D : va_G) (X : zE) (z0 : zV) (a0 : Int32) (hinj : zw_inj 9 X.1) {r : Int32} (h : f_X4_isLetter z0 a0 = some r) : zMr l yX4_isLetter wsX4_isLetter (zrm 1 25) D 9 X (zc shM X z0) [.ref (X.1 0), .int a0] (some (.int r)) := by
  rw [f_X4_isLetter] at h
  refine z_start_r (cc := cX4_isLetter) (maxL := 2) (ret := (some .boolean)) (by decide) rfl (Nat.le_of_ble_eq_true rfl) hinj ?_
  intro p e s m below meth c S
  refine z_aload_n S 0 dX4_isLetter_0 rfl rfl ?_
  refine z_get S (C := RX4) (T := TX4) (N := 12) (ci := 4) 10 m0_X4_isLetter m1_X4_isLetter (Nat.le_of_ble_eq_true rfl) (cM_0 X z0) rfl (Nat.le_of_ble_eq_true rfl) rfl rfl dX4_isLetter_1 ?_
  refine z_iload_n S 1 dX4_isLetter_4 rfl rfl ?_
  refine z_iald S (Nat.le_of_ble_eq_true rfl) (cM_8 X z0) dX4_isLetter_5 h (fun v_5 h => ?_)
  refine z_i2l S dX4_isLetter_6 ?_
  refine z_ldc2 (v := (lN 97)) S m2_X4_isLetter dX4_isLetter_7 ?_
  refine z_ldc2 (v := (lN 122)) S m3_X4_isLetter dX4_isLetter_10 ?_
  obtain ⟨v_13, hv_13, h⟩ := ob_some h
  refine z_callS_r (As := [.long (Int32.toInt64 v_5), .long (lN 97), .long (lN 122)]) S (c_X4_in l D X _ _ _ _ S.2.2.1 hv_13) (va_cwS 3 S.1.2.2.2.2 gX4_isLetter_X4_in rfl rfl rfl hd_X4_in ⟨Nat.le_of_ble_eq_true rfl, Nat.le_of_ble_eq_true rfl⟩) rfl rfl (Nat.le_of_ble_eq_true rfl) rfl dX4_isLetter_13 ?_
  exact z_zret_r S dX4_isLetter_16 h
/-! SoldLettersModel.faultOfRow: a walk -/
theorem hd_X4_faultOfRow : yX4_faultOfRow.cls = RX4 ∧ yX4_faultOfRow.cls ≠ "java/lang/invoke/MethodHandle" ∧ yX4_faultOfRow.cls ≠ "java/lang/invoke/VarHandle" ∧ (parseMethodDescriptor yX4_faultOfRow.desc).map (fun d => d.parameters.length) = some 0 := by decide +kernel
theorem m0_X4_faultOfRow : Cond.fieldLink RX4 88 RX4 (TX4 11).2.1 (TX4 11).2.2.1 ∈ wsX4_faultOfRow := by decide +kernel
theorem m1_X4_faultOfRow : ∀ w ∈ u_ws RX4 TX4 12, w ∈ wsX4_faultOfRow := by decide +kernel
theorem m2_X4_faultOfRow : Cond.fieldLink RX4 31 RX4 (TX4 10).2.1 (TX4 10).2.2.1 ∈ wsX4_faultOfRow := by decide +kernel
set_option maxHeartbeats 4000000 in
set_option maxRecDepth 100000 in
theorem tj_X4_faultOfRow_41 {l : Launch} {D : va_G} {X : zE} {p : Program} {e : Env} {s : State} {m : MethodId} {args : Array Value} {below : List Frame} {meth : Method} {c : Code} (S : zS p m meth c cX4_faultOfRow 2 (some .int) s args wsX4_faultOfRow RX4 D 9 X) {z0 : zV} {r : Int32} : ∀ (x1 : Int32), j_X4_faultOfRow_41 z0 x1 = some r → Zj false D 9 X p l e (zrm 2 46) s m args below meth c (MQ below (zQr (some (.int r))) args s 0 0 (fun _ => False)) 2 41 [(0, .ref (X.1 0)), (1, .int x1)] [] (zc shM X z0) := by
  intro x1 h
  rw [j_X4_faultOfRow_41] at h
  refine z_iload_n S 1 dX4_faultOfRow_41 rfl rfl ?_
  refine z_if_le S (tgt := 58) dX4_faultOfRow_42 (by decide) h (fun h => ?_) (fun h => ?_)
  · refine z_iload_n S 1 dX4_faultOfRow_58 rfl rfl ?_
    exact z_iret_r S dX4_faultOfRow_59 h
  · refine z_iload_n S 1 dX4_faultOfRow_45 rfl rfl ?_
    refine z_aload_n S 0 dX4_faultOfRow_46 rfl rfl ?_
    refine z_get S (C := RX4) (T := TX4) (N := 12) (ci := 4) 11 m0_X4_faultOfRow m1_X4_faultOfRow (Nat.le_of_ble_eq_true rfl) (cM_0 X z0) rfl (Nat.le_of_ble_eq_true rfl) rfl rfl dX4_faultOfRow_47 ?_
    refine z_icmp_ne S (tgt := 58) dX4_faultOfRow_50 (by decide) h (fun h => ?_) (fun h => ?_)
    · refine z_iload_n S 1 dX4_faultOfRow_58 rfl rfl ?_
      exact z_iret_r S dX4_faultOfRow_59 h
    · refine z_bipush (v := (-5)) S dX4_faultOfRow_53 (by decide) ?_
      refine z_goto S (tgt := 59) dX4_faultOfRow_55 (by decide) ?_
      exact z_iret_r S dX4_faultOfRow_59 h
set_option maxHeartbeats 4000000 in
set_option maxRecDepth 100000 in
theorem tl_X4_faultOfRow_2 {l : Launch} {D : va_G} {X : zE} {p : Program} {e : Env} {s : State} {m : MethodId} {args : Array Value} {below : List Frame} {meth : Method} {c : Code} (S : zS p m meth c cX4_faultOfRow 2 (some .int) s args wsX4_faultOfRow RX4 D 9 X) {z0 : zV} {r : Int32} : ∀ (n_ : Nat), ∀ (x1 : Int32), l_X4_faultOfRow_2 z0 n_ x1 = some r → Zj false D 9 X p l e (zrm 2 46) s m args below meth c (MQ below (zQr (some (.int r))) args s 0 0 (fun _ => False)) 2 2 [(0, .ref (X.1 0)), (1, .int x1)] [] (zc shM X z0) := by
  intro n_
  induction n_ with
  | zero =>
    intro x1 h
    cases h
  | succ n_ ih =>
    intro x1 h
    rw [l_X4_faultOfRow_2] at h
    refine z_iload_n S 1 dX4_faultOfRow_2 rfl rfl ?_
    refine z_aload_n S 0 dX4_faultOfRow_3 rfl rfl ?_
    refine z_get S (C := RX4) (T := TX4) (N := 12) (ci := 4) 11 m0_X4_faultOfRow m1_X4_faultOfRow (Nat.le_of_ble_eq_true rfl) (cM_0 X z0) rfl (Nat.le_of_ble_eq_true rfl) rfl rfl dX4_faultOfRow_4 ?_
    refine z_icmp_ge S (tgt := 41) dX4_faultOfRow_7 (by decide) h (fun h => ?_) (fun h => ?_)
    · exact z_lv [0, 1] rfl (tj_X4_faultOfRow_41 S _ h)
    · refine z_iload_n S 1 dX4_faultOfRow_10 rfl rfl ?_
      refine z_bipush (v := (nI 7)) S dX4_faultOfRow_11 (by decide) ?_
      refine z_icmp_ge S (tgt := 41) dX4_faultOfRow_13 (by decide) h (fun h => ?_) (fun h => ?_)
      · exact z_lv [0, 1] rfl (tj_X4_faultOfRow_41 S _ h)
      · refine z_aload_n S 0 dX4_faultOfRow_16 rfl rfl ?_
        refine z_iload_n S 1 dX4_faultOfRow_17 rfl rfl ?_
        obtain ⟨v_18, hv_18, h⟩ := ob_some h
        refine z_callV_r (As := [.int x1]) S (c_X4_isLetter l D X _ _ S.2.2.1 hv_18) (cwV 1 S.1.2.2.2.2 gX4_faultOfRow_X4_isLetter rfl rfl rfl hd_X4_isLetter ⟨Nat.le_of_ble_eq_true rfl, Nat.le_of_ble_eq_true rfl⟩) (Nat.le_of_ble_eq_true rfl) (cM_0 X z0) rfl rfl rfl (Nat.le_of_ble_eq_true rfl) rfl dX4_faultOfRow_18 ?_
        refine z_if_ne S (tgt := 35) dX4_faultOfRow_21 (by decide) h (fun h => ?_) (fun h => ?_)
        · refine z_iinc S 1 [(1, .int (x1 + nI 1)), (0, .ref (X.1 0))] dX4_faultOfRow_35 rfl rfl (Nat.le_of_ble_eq_true rfl) rfl ?_
          refine z_goto S (tgt := 2) dX4_faultOfRow_38 (by decide) ?_
          exact z_lv [1, 0] rfl (ih _ h)
        · refine z_aload_n S 0 dX4_faultOfRow_24 rfl rfl ?_
          refine z_get S (C := RX4) (T := TX4) (N := 12) (ci := 4) 10 m2_X4_faultOfRow m1_X4_faultOfRow (Nat.le_of_ble_eq_true rfl) (cM_0 X z0) rfl (Nat.le_of_ble_eq_true rfl) rfl rfl dX4_faultOfRow_25 ?_
          refine z_iload_n S 1 dX4_faultOfRow_28 rfl rfl ?_
          refine z_iald S (Nat.le_of_ble_eq_true rfl) (cM_8 X z0) dX4_faultOfRow_29 h (fun v_29 h => ?_)
          refine z_bipush (v := (nI 46)) S dX4_faultOfRow_30 (by decide) ?_
          refine z_icmp_ne S (tgt := 41) dX4_faultOfRow_32 (by decide) h (fun h => ?_) (fun h => ?_)
          · exact z_lv [0, 1] rfl (tj_X4_faultOfRow_41 S _ h)
          · refine z_iinc S 1 [(1, .int (x1 + nI 1)), (0, .ref (X.1 0))] dX4_faultOfRow_35 rfl rfl (Nat.le_of_ble_eq_true rfl) rfl ?_
            refine z_goto S (tgt := 2) dX4_faultOfRow_38 (by decide) ?_
            exact z_lv [1, 0] rfl (ih _ h)
set_option maxHeartbeats 4000000 in
set_option maxRecDepth 100000 in
theorem c_X4_faultOfRow (l : Launch) (D : va_G) (X : zE) (z0 : zV) (hinj : zw_inj 9 X.1) {r : Int32} (h : f_X4_faultOfRow z0 = some r) : zMr l yX4_faultOfRow wsX4_faultOfRow (zrm 2 46) D 9 X (zc shM X z0) [.ref (X.1 0)] (some (.int r)) := by
  rw [f_X4_faultOfRow] at h
  refine z_start_r (cc := cX4_faultOfRow) (maxL := 2) (ret := (some .int)) (by decide) rfl (Nat.le_of_ble_eq_true rfl) hinj ?_
  intro p e s m below meth c S
  refine z_iconst (v := (nI 0)) S dX4_faultOfRow_0 (by decide) ?_
  refine z_istore_n S [(1, .int (nI 0)), (0, .ref (X.1 0))] dX4_faultOfRow_1 rfl (Nat.le_of_ble_eq_true rfl) rfl ?_
  exact z_lv [1, 0] rfl (tl_X4_faultOfRow_2 S _ _ h)
/-! SoldLettersModel.faultOfWords: a walk -/
theorem hd_X4_faultOfWords : yX4_faultOfWords.cls = RX4 ∧ yX4_faultOfWords.cls ≠ "java/lang/invoke/MethodHandle" ∧ yX4_faultOfWords.cls ≠ "java/lang/invoke/VarHandle" ∧ (parseMethodDescriptor yX4_faultOfWords.desc).map (fun d => d.parameters.length) = some 0 := by decide +kernel
theorem m0_X4_faultOfWords : Cond.fieldLink RX4 88 RX4 (TX4 11).2.1 (TX4 11).2.2.1 ∈ wsX4_faultOfWords := by decide +kernel
theorem m1_X4_faultOfWords : ∀ w ∈ u_ws RX4 TX4 12, w ∈ wsX4_faultOfWords := by decide +kernel
theorem m2_X4_faultOfWords : Cond.fieldLink RX4 31 RX4 (TX4 10).2.1 (TX4 10).2.2.1 ∈ wsX4_faultOfWords := by decide +kernel
set_option maxHeartbeats 4000000 in
set_option maxRecDepth 100000 in
theorem tj_X4_faultOfWords_54 {l : Launch} {D : va_G} {X : zE} {p : Program} {e : Env} {s : State} {m : MethodId} {args : Array Value} {below : List Frame} {meth : Method} {c : Code} (S : zS p m meth c cX4_faultOfWords 4 (some .int) s args wsX4_faultOfWords RX4 D 9 X) {z0 : zV} {r : Int32} {k_4 : Int32 → Int32 → Option (Int32)} (hk_4 : ∀ (x1 : Int32) (x2 : Int32), k_4 x1 x2 = some r → Zj false D 9 X p l e (zrm 2 46) s m args below meth c (MQ below (zQr (some (.int r))) args s 0 0 (fun _ => False)) 4 4 [(0, .ref (X.1 0)), (1, .int x1), (2, .int x2)] [] (zc shM X z0)) : ∀ (x1 : Int32) (x2 : Int32) (x3 : Int32), j_X4_faultOfWords_54 z0 k_4 x1 x2 x3 = some r → Zj false D 9 X p l e (zrm 2 46) s m args below meth c (MQ below (zQr (some (.int r))) args s 0 0 (fun _ => False)) 4 54 [(0, .ref (X.1 0)), (1, .int x1), (2, .int x2), (3, .int x3)] [] (zc shM X z0) := by
  intro x1 x2 x3 h
  rw [j_X4_faultOfWords_54] at h
  refine z_iload_n S 3 dX4_faultOfWords_54 rfl rfl ?_
  refine z_if_eq S (tgt := 64) dX4_faultOfWords_55 (by decide) h (fun h => ?_) (fun h => ?_)
  · refine z_iconst (v := (nI 0)) S dX4_faultOfWords_64 (by decide) ?_
    refine z_istore_n S [(1, .int (nI 0)), (0, .ref (X.1 0)), (2, .int x2), (3, .int x3)] dX4_faultOfWords_65 rfl (Nat.le_of_ble_eq_true rfl) rfl ?_
    refine z_iinc S 2 [(2, .int (x2 + nI 1)), (1, .int (nI 0)), (0, .ref (X.1 0)), (3, .int x3)] dX4_faultOfWords_66 rfl rfl (Nat.le_of_ble_eq_true rfl) rfl ?_
    refine z_goto S (tgt := 4) dX4_faultOfWords_69 (by decide) ?_
    exact z_lv [2, 1, 0] rfl (hk_4 _ _ h)
  · refine z_iload_n S 1 dX4_faultOfWords_58 rfl rfl ?_
    refine z_iconst (v := (nI 1)) S dX4_faultOfWords_59 (by decide) ?_
    refine z_iadd S dX4_faultOfWords_60 ?_
    refine z_goto S (tgt := 65) dX4_faultOfWords_61 (by decide) ?_
    refine z_istore_n S [(1, .int (x1 + (nI 1))), (0, .ref (X.1 0)), (2, .int x2), (3, .int x3)] dX4_faultOfWords_65 rfl (Nat.le_of_ble_eq_true rfl) rfl ?_
    refine z_iinc S 2 [(2, .int (x2 + nI 1)), (1, .int (x1 + (nI 1))), (0, .ref (X.1 0)), (3, .int x3)] dX4_faultOfWords_66 rfl rfl (Nat.le_of_ble_eq_true rfl) rfl ?_
    refine z_goto S (tgt := 4) dX4_faultOfWords_69 (by decide) ?_
    exact z_lv [2, 1, 0] rfl (hk_4 _ _ h)
set_option maxHeartbeats 4000000 in
set_option maxRecDepth 100000 in
theorem tj_X4_faultOfWords_31 {l : Launch} {D : va_G} {X : zE} {p : Program} {e : Env} {s : State} {m : MethodId} {args : Array Value} {below : List Frame} {meth : Method} {c : Code} (S : zS p m meth c cX4_faultOfWords 4 (some .int) s args wsX4_faultOfWords RX4 D 9 X) {z0 : zV} {r : Int32} {k_4 : Int32 → Int32 → Option (Int32)} (hk_4 : ∀ (x1 : Int32) (x2 : Int32), k_4 x1 x2 = some r → Zj false D 9 X p l e (zrm 2 46) s m args below meth c (MQ below (zQr (some (.int r))) args s 0 0 (fun _ => False)) 4 4 [(0, .ref (X.1 0)), (1, .int x1), (2, .int x2)] [] (zc shM X z0)) : ∀ (x1 : Int32) (x2 : Int32) (y0 : Int32), j_X4_faultOfWords_31 z0 k_4 x1 x2 y0 = some r → Zj false D 9 X p l e (zrm 2 46) s m args below meth c (MQ below (zQr (some (.int r))) args s 0 0 (fun _ => False)) 4 31 [(0, .ref (X.1 0)), (1, .int x1), (2, .int x2)] [.int y0] (zc shM X z0) := by
  intro x1 x2 y0 h
  rw [j_X4_faultOfWords_31] at h
  refine z_istore_n S [(3, .int y0), (0, .ref (X.1 0)), (1, .int x1), (2, .int x2)] dX4_faultOfWords_31 rfl (Nat.le_of_ble_eq_true rfl) rfl ?_
  refine z_iload_n S 0 dX4_faultOfWords_32 rfl rfl ?_
  refine z_if_ne S (tgt := 54) dX4_faultOfWords_33 (by decide) h (fun h => ?_) (fun h => ?_)
  · exact z_lv [1, 2, 3, 0] rfl (tj_X4_faultOfWords_54 S hk_4 _ _ _ h)
  · refine z_aload_n S 1 dX4_faultOfWords_36 rfl rfl ?_
    refine z_get S (C := RX4) (T := TX4) (N := 12) (ci := 4) 10 m2_X4_faultOfWords m1_X4_faultOfWords (Nat.le_of_ble_eq_true rfl) (cM_0 X z0) rfl (Nat.le_of_ble_eq_true rfl) rfl rfl dX4_faultOfWords_37 ?_
    refine z_iload_n S 3 dX4_faultOfWords_40 rfl rfl ?_
    refine z_iald S (Nat.le_of_ble_eq_true rfl) (cM_8 X z0) dX4_faultOfWords_41 h (fun v_41 h => ?_)
    refine z_bipush (v := (nI 44)) S dX4_faultOfWords_42 (by decide) ?_
    refine z_icmp_ne S (tgt := 52) dX4_faultOfWords_44 (by decide) h (fun h => ?_) (fun h => ?_)
    · refine z_iload_n S 3 dX4_faultOfWords_52 rfl rfl ?_
      exact z_iret_r S dX4_faultOfWords_53 h
    · refine z_iload_n S 2 dX4_faultOfWords_47 rfl rfl ?_
      refine z_iconst (v := (nI 2)) S dX4_faultOfWords_48 (by decide) ?_
      refine z_icmp_ge S (tgt := 54) dX4_faultOfWords_49 (by decide) h (fun h => ?_) (fun h => ?_)
      · exact z_lv [1, 2, 3, 0] rfl (tj_X4_faultOfWords_54 S hk_4 _ _ _ h)
      · refine z_iload_n S 3 dX4_faultOfWords_52 rfl rfl ?_
        exact z_iret_r S dX4_faultOfWords_53 h
set_option maxHeartbeats 4000000 in
set_option maxRecDepth 100000 in
theorem tj_X4_faultOfWords_30 {l : Launch} {D : va_G} {X : zE} {p : Program} {e : Env} {s : State} {m : MethodId} {args : Array Value} {below : List Frame} {meth : Method} {c : Code} (S : zS p m meth c cX4_faultOfWords 4 (some .int) s args wsX4_faultOfWords RX4 D 9 X) {z0 : zV} {r : Int32} {k_31 : Int32 → Int32 → Int32 → Option (Int32)} (hk_31 : ∀ (x1 : Int32) (x2 : Int32) (y0 : Int32), k_31 x1 x2 y0 = some r → Zj false D 9 X p l e (zrm 2 46) s m args below meth c (MQ below (zQr (some (.int r))) args s 0 0 (fun _ => False)) 4 31 [(0, .ref (X.1 0)), (1, .int x1), (2, .int x2)] [.int y0] (zc shM X z0)) : ∀ (x1 : Int32) (x2 : Int32), j_X4_faultOfWords_30 z0 k_31 x1 x2 = some r → Zj false D 9 X p l e (zrm 2 46) s m args below meth c (MQ below (zQr (some (.int r))) args s 0 0 (fun _ => False)) 4 30 [(0, .ref (X.1 0)), (1, .int x1), (2, .int x2)] [] (zc shM X z0) := by
  intro x1 x2 h
  rw [j_X4_faultOfWords_30] at h
  refine z_iconst (v := (nI 0)) S dX4_faultOfWords_30 (by decide) ?_
  exact z_lv [0, 1, 2] rfl (hk_31 _ _ _ h)
set_option maxHeartbeats 4000000 in
set_option maxRecDepth 100000 in
theorem tl_X4_faultOfWords_4 {l : Launch} {D : va_G} {X : zE} {p : Program} {e : Env} {s : State} {m : MethodId} {args : Array Value} {below : List Frame} {meth : Method} {c : Code} (S : zS p m meth c cX4_faultOfWords 4 (some .int) s args wsX4_faultOfWords RX4 D 9 X) {z0 : zV} {r : Int32} : ∀ (n_ : Nat), ∀ (x1 : Int32) (x2 : Int32), l_X4_faultOfWords_4 z0 n_ x1 x2 = some r → Zj false D 9 X p l e (zrm 2 46) s m args below meth c (MQ below (zQr (some (.int r))) args s 0 0 (fun _ => False)) 4 4 [(0, .ref (X.1 0)), (1, .int x1), (2, .int x2)] [] (zc shM X z0) := by
  intro n_
  induction n_ with
  | zero =>
    intro x1 x2 h
    cases h
  | succ n_ ih =>
    intro x1 x2 h
    rw [l_X4_faultOfWords_4] at h
    refine z_iload_n S 2 dX4_faultOfWords_4 rfl rfl ?_
    refine z_aload_n S 0 dX4_faultOfWords_5 rfl rfl ?_
    refine z_get S (C := RX4) (T := TX4) (N := 12) (ci := 4) 11 m0_X4_faultOfWords m1_X4_faultOfWords (Nat.le_of_ble_eq_true rfl) (cM_0 X z0) rfl (Nat.le_of_ble_eq_true rfl) rfl rfl dX4_faultOfWords_6 ?_
    refine z_icmp_ge S (tgt := 72) dX4_faultOfWords_9 (by decide) h (fun h => ?_) (fun h => ?_)
    · refine z_iload_n S 1 dX4_faultOfWords_72 rfl rfl ?_
      refine z_iconst (v := (nI 2)) S dX4_faultOfWords_73 (by decide) ?_
      refine z_icmp_ge S (tgt := 84) dX4_faultOfWords_74 (by decide) h (fun h => ?_) (fun h => ?_)
      · refine z_bipush (v := (-5)) S dX4_faultOfWords_84 (by decide) ?_
        exact z_iret_r S dX4_faultOfWords_86 h
      · refine z_aload_n S 0 dX4_faultOfWords_77 rfl rfl ?_
        refine z_get S (C := RX4) (T := TX4) (N := 12) (ci := 4) 11 m0_X4_faultOfWords m1_X4_faultOfWords (Nat.le_of_ble_eq_true rfl) (cM_0 X z0) rfl (Nat.le_of_ble_eq_true rfl) rfl rfl dX4_faultOfWords_78 ?_
        refine z_goto S (tgt := 86) dX4_faultOfWords_81 (by decide) ?_
        exact z_iret_r S dX4_faultOfWords_86 h
    · refine z_aload_n S 0 dX4_faultOfWords_12 rfl rfl ?_
      refine z_iload_n S 2 dX4_faultOfWords_13 rfl rfl ?_
      obtain ⟨v_14, hv_14, h⟩ := ob_some h
      refine z_callV_r (As := [.int x2]) S (c_X4_isLetter l D X _ _ S.2.2.1 hv_14) (cwV 1 S.1.2.2.2.2 gX4_faultOfWords_X4_isLetter rfl rfl rfl hd_X4_isLetter ⟨Nat.le_of_ble_eq_true rfl, Nat.le_of_ble_eq_true rfl⟩) (Nat.le_of_ble_eq_true rfl) (cM_0 X z0) rfl rfl rfl (Nat.le_of_ble_eq_true rfl) rfl dX4_faultOfWords_14 ?_
      refine z_if_eq S (tgt := 30) dX4_faultOfWords_17 (by decide) h (fun h => ?_) (fun h => ?_)
      · exact z_lv [0, 1, 2] rfl (tj_X4_faultOfWords_30 S (tj_X4_faultOfWords_31 S ih) _ _ h)
      · refine z_iload_n S 1 dX4_faultOfWords_20 rfl rfl ?_
        refine z_bipush (v := (nI 7)) S dX4_faultOfWords_21 (by decide) ?_
        refine z_icmp_ge S (tgt := 30) dX4_faultOfWords_23 (by decide) h (fun h => ?_) (fun h => ?_)
        · exact z_lv [0, 1, 2] rfl (tj_X4_faultOfWords_30 S (tj_X4_faultOfWords_31 S ih) _ _ h)
        · refine z_iconst (v := (nI 1)) S dX4_faultOfWords_26 (by decide) ?_
          refine z_goto S (tgt := 31) dX4_faultOfWords_27 (by decide) ?_
          exact z_lv [0, 1, 2] rfl (tj_X4_faultOfWords_31 S ih _ _ _ h)
set_option maxHeartbeats 4000000 in
set_option maxRecDepth 100000 in
theorem c_X4_faultOfWords (l : Launch) (D : va_G) (X : zE) (z0 : zV) (hinj : zw_inj 9 X.1) {r : Int32} (h : f_X4_faultOfWords z0 = some r) : zMr l yX4_faultOfWords wsX4_faultOfWords (zrm 2 46) D 9 X (zc shM X z0) [.ref (X.1 0)] (some (.int r)) := by
  rw [f_X4_faultOfWords] at h
  refine z_start_r (cc := cX4_faultOfWords) (maxL := 4) (ret := (some .int)) (by decide) rfl (Nat.le_of_ble_eq_true rfl) hinj ?_
  intro p e s m below meth c S
  refine z_iconst (v := (nI 0)) S dX4_faultOfWords_0 (by decide) ?_
  refine z_istore_n S [(1, .int (nI 0)), (0, .ref (X.1 0))] dX4_faultOfWords_1 rfl (Nat.le_of_ble_eq_true rfl) rfl ?_
  refine z_iconst (v := (nI 0)) S dX4_faultOfWords_2 (by decide) ?_
  refine z_istore_n S [(2, .int (nI 0)), (1, .int (nI 0)), (0, .ref (X.1 0))] dX4_faultOfWords_3 rfl (Nat.le_of_ble_eq_true rfl) rfl ?_
  exact z_lv [2, 1, 0] rfl (tl_X4_faultOfWords_4 S _ _ _ h)
