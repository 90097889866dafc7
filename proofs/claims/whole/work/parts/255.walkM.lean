/-! SoldLettersModel.buy: a walk -/
theorem hd_X4_buy : yX4_buy.cls = RX4 ∧ yX4_buy.cls ≠ "java/lang/invoke/MethodHandle" ∧ yX4_buy.cls ≠ "java/lang/invoke/VarHandle" ∧ (parseMethodDescriptor yX4_buy.desc).map (fun d => d.parameters.length) = some 1 := by decide +kernel
theorem m0_X4_buy : Cond.fieldLink RX4 7 RX4 (TX4 0).2.1 (TX4 0).2.2.1 ∈ wsX4_buy := by decide +kernel
theorem m1_X4_buy : ∀ w ∈ u_ws RX4 TX4 12, w ∈ wsX4_buy := by decide +kernel
set_option maxHeartbeats 4000000 in
set_option maxRecDepth 100000 in
theorem tl_X4_buy_66 {l : Launch} {D : va_G} {X : zE} {p : Program} {e : Env} {s : State} {m : MethodId} {args : Array Value} {below : List Frame} {meth : Method} {c : Code} (S : zS p m meth c cX4_buy 5 (some .int) s args wsX4_buy RX4 D 9 X) {r : Int32} {z1 : zV} : ∀ (n_ : Nat), ∀ (z0 : zV) (x1 : Int32) (x2 : Int32) (x3 : Int32) (x4 : Int32), l_X4_buy_66 n_ z0 x1 x2 x3 x4 = some (r, z1) → Zj true D 9 X p l e (zrm 4 87) s m args below meth c (MQ below (zQw D 9 X (zc shM X z1) (some (.int r))) args s 0 0 (zw_A 9 X.1)) 5 66 [(0, .ref (X.1 0)), (1, .int x1), (2, .int x2), (3, .int x3), (4, .int x4)] [] (zc shM X z0) := by
  intro n_
  induction n_ with
  | zero =>
    intro z0 x1 x2 x3 x4 h
    cases h
  | succ n_ ih =>
    intro z0 x1 x2 x3 x4 h
    rw [l_X4_buy_66] at h
    refine z_iload S 4 dX4_buy_66 rfl ?_
    refine z_bipush (v := (nI 26)) S dX4_buy_68 (by decide) ?_
    refine z_icmp_gt S (tgt := 117) dX4_buy_70 (by decide) h (fun h => ?_) (fun h => ?_)
    · refine z_aload_n S 0 dX4_buy_117 rfl rfl ?_
      refine z_get S (C := RX4) (T := TX4) (N := 12) (ci := 4) 0 m0_X4_buy m1_X4_buy (Nat.le_of_ble_eq_true rfl) (cM_0 X z0) rfl (Nat.le_of_ble_eq_true rfl) rfl rfl dX4_buy_118 ?_
      refine z_bipush (v := (nI 51)) S dX4_buy_121 (by decide) ?_
      refine z_iload_n S 1 dX4_buy_123 rfl rfl ?_
      refine z_iadd S dX4_buy_124 ?_
      refine z_iload_n S 3 dX4_buy_125 rfl rfl ?_
      refine z_iast S (Nat.le_of_ble_eq_true rfl) (fun _ => rfl) dX4_buy_126 h (fun z_126 h => ?_)
      refine z_aload_n S 0 dX4_buy_127 rfl rfl ?_
      refine z_get S (C := RX4) (T := TX4) (N := 12) (ci := 4) 0 m0_X4_buy m1_X4_buy (Nat.le_of_ble_eq_true rfl) (cM_0 X z_126) rfl (Nat.le_of_ble_eq_true rfl) rfl rfl dX4_buy_128 ?_
      refine z_bipush (v := (nI 78)) S dX4_buy_131 (by decide) ?_
      refine z_iload_n S 1 dX4_buy_133 rfl rfl ?_
      refine z_iadd S dX4_buy_134 ?_
      refine z_iconst (v := (nI 1)) S dX4_buy_135 (by decide) ?_
      refine z_iast S (Nat.le_of_ble_eq_true rfl) (fun _ => rfl) dX4_buy_136 h (fun z_136 h => ?_)
      refine z_aload_n S 0 dX4_buy_137 rfl rfl ?_
      refine z_get S (C := RX4) (T := TX4) (N := 12) (ci := 4) 0 m0_X4_buy m1_X4_buy (Nat.le_of_ble_eq_true rfl) (cM_0 X z_136) rfl (Nat.le_of_ble_eq_true rfl) rfl rfl dX4_buy_138 ?_
      refine z_bipush (v := (nI 105)) S dX4_buy_141 (by decide) ?_
      refine z_dup2 S dX4_buy_143 rfl rfl ?_
      refine z_iald S (Nat.le_of_ble_eq_true rfl) (cM_1 X z_136) dX4_buy_144 h (fun v_144 h => ?_)
      refine z_iload_n S 2 dX4_buy_145 rfl rfl ?_
      refine z_isub S dX4_buy_146 ?_
      refine z_iast S (Nat.le_of_ble_eq_true rfl) (fun _ => rfl) dX4_buy_147 h (fun z_147 h => ?_)
      refine z_aload_n S 0 dX4_buy_148 rfl rfl ?_
      refine z_get S (C := RX4) (T := TX4) (N := 12) (ci := 4) 0 m0_X4_buy m1_X4_buy (Nat.le_of_ble_eq_true rfl) (cM_0 X z_147) rfl (Nat.le_of_ble_eq_true rfl) rfl rfl dX4_buy_149 ?_
      refine z_bipush (v := (nI 107)) S dX4_buy_152 (by decide) ?_
      refine z_dup2 S dX4_buy_154 rfl rfl ?_
      refine z_iald S (Nat.le_of_ble_eq_true rfl) (cM_1 X z_147) dX4_buy_155 h (fun v_155 h => ?_)
      refine z_iconst (v := (nI 1)) S dX4_buy_156 (by decide) ?_
      refine z_iadd S dX4_buy_157 ?_
      refine z_iast S (Nat.le_of_ble_eq_true rfl) (fun _ => rfl) dX4_buy_158 h (fun z_158 h => ?_)
      refine z_aload_n S 0 dX4_buy_159 rfl rfl ?_
      refine z_bipush (v := (nI 97)) S dX4_buy_160 (by decide) ?_
      refine z_iload_n S 3 dX4_buy_162 rfl rfl ?_
      refine z_iadd S dX4_buy_163 ?_
      obtain ⟨v_164, z_164, hv_164, h⟩ := bd2_some h
      refine z_callV_w (As := [.int ((nI 97) + x3)]) S (c_X4_acted l D X _ _ S.2.2.1 hv_164) (cwV 1 S.1.2.2.2.2 gX4_buy_X4_acted rfl rfl rfl hd_X4_acted ⟨Nat.le_of_ble_eq_true rfl, Nat.le_of_ble_eq_true rfl⟩) (Nat.le_of_ble_eq_true rfl) (cM_0 X z_158) rfl rfl rfl (Nat.le_of_ble_eq_true rfl) rfl dX4_buy_164 ?_
      exact z_iret_w S dX4_buy_167 h
    · refine z_aload_n S 0 dX4_buy_73 rfl rfl ?_
      refine z_get S (C := RX4) (T := TX4) (N := 12) (ci := 4) 0 m0_X4_buy m1_X4_buy (Nat.le_of_ble_eq_true rfl) (cM_0 X z0) rfl (Nat.le_of_ble_eq_true rfl) rfl rfl dX4_buy_74 ?_
      refine z_bipush (v := (nI 51)) S dX4_buy_77 (by decide) ?_
      refine z_iload S 4 dX4_buy_79 rfl ?_
      refine z_iadd S dX4_buy_81 ?_
      refine z_aload_n S 0 dX4_buy_82 rfl rfl ?_
      refine z_get S (C := RX4) (T := TX4) (N := 12) (ci := 4) 0 m0_X4_buy m1_X4_buy (Nat.le_of_ble_eq_true rfl) (cM_0 X z0) rfl (Nat.le_of_ble_eq_true rfl) rfl rfl dX4_buy_83 ?_
      refine z_bipush (v := (nI 51)) S dX4_buy_86 (by decide) ?_
      refine z_iload S 4 dX4_buy_88 rfl ?_
      refine z_iadd S dX4_buy_90 ?_
      refine z_iald S (Nat.le_of_ble_eq_true rfl) (cM_1 X z0) dX4_buy_91 h (fun v_91 h => ?_)
      refine z_iload_n S 3 dX4_buy_92 rfl rfl ?_
      refine z_icmp_ne S (tgt := 100) dX4_buy_93 (by decide) h (fun h => ?_) (fun h => ?_)
      · refine z_aload_n S 0 dX4_buy_100 rfl rfl ?_
        refine z_get S (C := RX4) (T := TX4) (N := 12) (ci := 4) 0 m0_X4_buy m1_X4_buy (Nat.le_of_ble_eq_true rfl) (cM_0 X z0) rfl (Nat.le_of_ble_eq_true rfl) rfl rfl dX4_buy_101 ?_
        refine z_bipush (v := (nI 51)) S dX4_buy_104 (by decide) ?_
        refine z_iload S 4 dX4_buy_106 rfl ?_
        refine z_iadd S dX4_buy_108 ?_
        refine z_iald S (Nat.le_of_ble_eq_true rfl) (cM_1 X z0) dX4_buy_109 h (fun v_109 h => ?_)
        refine z_iast S (Nat.le_of_ble_eq_true rfl) (fun _ => rfl) dX4_buy_110 h (fun z_110 h => ?_)
        refine z_iinc S 4 [(4, .int (x4 + nI 1)), (0, .ref (X.1 0)), (1, .int x1), (2, .int x2), (3, .int x3)] dX4_buy_111 rfl rfl (Nat.le_of_ble_eq_true rfl) rfl ?_
        refine z_goto S (tgt := 66) dX4_buy_114 (by decide) ?_
        exact z_lv [1, 2, 3, 4, 0] rfl (ih _ _ _ _ _ h)
      · refine z_iconst (v := (-1)) S dX4_buy_96 (by decide) ?_
        refine z_goto S (tgt := 110) dX4_buy_97 (by decide) ?_
        refine z_iast S (Nat.le_of_ble_eq_true rfl) (fun _ => rfl) dX4_buy_110 h (fun z_110 h => ?_)
        refine z_iinc S 4 [(4, .int (x4 + nI 1)), (0, .ref (X.1 0)), (1, .int x1), (2, .int x2), (3, .int x3)] dX4_buy_111 rfl rfl (Nat.le_of_ble_eq_true rfl) rfl ?_
        refine z_goto S (tgt := 66) dX4_buy_114 (by decide) ?_
        exact z_lv [1, 2, 3, 4, 0] rfl (ih _ _ _ _ _ h)
set_option maxHeartbeats 4000000 in
set_option maxRecDepth 100000 in
theorem c_X4_buy (l : Launch) (D : va_G) (X : zE) (z0 : zV) (a0 : Int32) (hinj : zw_inj 9 X.1) {r : Int32} {z1 : zV} (h : f_X4_buy z0 a0 = some (r, z1)) : zMw l yX4_buy wsX4_buy (zrm 4 87) D 9 X (zc shM X z0) [.ref (X.1 0), .int a0] (some (.int r)) (zc shM X z1) := by
  rw [f_X4_buy] at h
  refine z_start_w (cc := cX4_buy) (maxL := 5) (ret := (some .int)) (by decide) rfl (Nat.le_of_ble_eq_true rfl) hinj ?_
  intro p e s m below meth c S
  refine z_iload_n S 1 dX4_buy_0 rfl rfl ?_
  obtain ⟨v_1, hv_1, h⟩ := ob_some h
  refine z_callS_r (As := [.int a0]) S (c_X4_isNumber l D X _ _ S.2.2.1 hv_1) (va_cwS 1 S.1.2.2.2.2 gX4_buy_X4_isNumber rfl rfl rfl hd_X4_isNumber ⟨Nat.le_of_ble_eq_true rfl, Nat.le_of_ble_eq_true rfl⟩) rfl rfl (Nat.le_of_ble_eq_true rfl) rfl dX4_buy_1 ?_
  refine z_if_ne S (tgt := 9) dX4_buy_4 (by decide) h (fun h => ?_) (fun h => ?_)
  · refine z_aload_n S 0 dX4_buy_9 rfl rfl ?_
    refine z_iload_n S 1 dX4_buy_10 rfl rfl ?_
    obtain ⟨v_11, hv_11, h⟩ := ob_some h
    refine z_callV_r (As := [.int a0]) S (c_X4_priceOf l D X _ _ S.2.2.1 hv_11) (cwV 1 S.1.2.2.2.2 gX4_buy_X4_priceOf rfl rfl rfl hd_X4_priceOf ⟨Nat.le_of_ble_eq_true rfl, Nat.le_of_ble_eq_true rfl⟩) (Nat.le_of_ble_eq_true rfl) (cM_0 X z0) rfl rfl rfl (Nat.le_of_ble_eq_true rfl) rfl dX4_buy_11 ?_
    refine z_istore_n S [(2, .int v_11), (0, .ref (X.1 0)), (1, .int a0)] dX4_buy_14 rfl (Nat.le_of_ble_eq_true rfl) rfl ?_
    refine z_aload_n S 1 dX4_buy_15 rfl rfl ?_
    refine z_get S (C := RX4) (T := TX4) (N := 12) (ci := 4) 0 m0_X4_buy m1_X4_buy (Nat.le_of_ble_eq_true rfl) (cM_0 X z0) rfl (Nat.le_of_ble_eq_true rfl) rfl rfl dX4_buy_16 ?_
    refine z_bipush (v := (nI 78)) S dX4_buy_19 (by decide) ?_
    refine z_iload_n S 2 dX4_buy_21 rfl rfl ?_
    refine z_iadd S dX4_buy_22 ?_
    refine z_iald S (Nat.le_of_ble_eq_true rfl) (cM_1 X z0) dX4_buy_23 h (fun v_23 h => ?_)
    refine z_iconst (v := (nI 1)) S dX4_buy_24 (by decide) ?_
    refine z_icmp_eq S (tgt := 39) dX4_buy_25 (by decide) h (fun h => ?_) (fun h => ?_)
    · refine z_bipush (v := (-4)) S dX4_buy_39 (by decide) ?_
      exact z_iret_w S dX4_buy_41 h
    · refine z_aload_n S 1 dX4_buy_28 rfl rfl ?_
      refine z_get S (C := RX4) (T := TX4) (N := 12) (ci := 4) 0 m0_X4_buy m1_X4_buy (Nat.le_of_ble_eq_true rfl) (cM_0 X z0) rfl (Nat.le_of_ble_eq_true rfl) rfl rfl dX4_buy_29 ?_
      refine z_bipush (v := (nI 105)) S dX4_buy_32 (by decide) ?_
      refine z_iald S (Nat.le_of_ble_eq_true rfl) (cM_1 X z0) dX4_buy_34 h (fun v_34 h => ?_)
      refine z_iload_n S 0 dX4_buy_35 rfl rfl ?_
      refine z_icmp_ge S (tgt := 42) dX4_buy_36 (by decide) h (fun h => ?_) (fun h => ?_)
      · refine z_aload_n S 1 dX4_buy_42 rfl rfl ?_
        refine z_iload_n S 2 dX4_buy_43 rfl rfl ?_
        obtain ⟨v_44, hv_44, h⟩ := ob_some h
        refine z_callV_r (As := [.int a0]) S (c_X4_cellsWith l D X _ _ S.2.2.1 hv_44) (cwV 1 S.1.2.2.2.2 gX4_buy_X4_cellsWith rfl rfl rfl hd_X4_cellsWith ⟨Nat.le_of_ble_eq_true rfl, Nat.le_of_ble_eq_true rfl⟩) (Nat.le_of_ble_eq_true rfl) (cM_0 X z0) rfl rfl rfl (Nat.le_of_ble_eq_true rfl) rfl dX4_buy_44 ?_
        refine z_if_ne S (tgt := 53) dX4_buy_47 (by decide) h (fun h => ?_) (fun h => ?_)
        · refine z_aload_n S 1 dX4_buy_53 rfl rfl ?_
          obtain ⟨z_54, hv_54, h⟩ := ob_some h
          refine z_callV_w (As := []) S (c_X4_remember l D X _ S.2.2.1 hv_54) (cwV 0 S.1.2.2.2.2 gX4_buy_X4_remember rfl rfl rfl hd_X4_remember ⟨Nat.le_of_ble_eq_true rfl, Nat.le_of_ble_eq_true rfl⟩) (Nat.le_of_ble_eq_true rfl) (cM_0 X z0) rfl rfl rfl (Nat.le_of_ble_eq_true rfl) rfl dX4_buy_54 ?_
          refine z_aload_n S 1 dX4_buy_57 rfl rfl ?_
          refine z_iload_n S 2 dX4_buy_58 rfl rfl ?_
          obtain ⟨v_59, hv_59, h⟩ := ob_some h
          refine z_callV_r (As := [.int a0]) S (c_X4_letterOf l D X _ _ S.2.2.1 hv_59) (cwV 1 S.1.2.2.2.2 gX4_buy_X4_letterOf rfl rfl rfl hd_X4_letterOf ⟨Nat.le_of_ble_eq_true rfl, Nat.le_of_ble_eq_true rfl⟩) (Nat.le_of_ble_eq_true rfl) (cM_0 X z_54) rfl rfl rfl (Nat.le_of_ble_eq_true rfl) rfl dX4_buy_59 ?_
          refine z_istore_n S [(3, .int v_59), (2, .int v_11), (0, .ref (X.1 0)), (1, .int a0)] dX4_buy_62 rfl (Nat.le_of_ble_eq_true rfl) rfl ?_
          refine z_iconst (v := (nI 1)) S dX4_buy_63 (by decide) ?_
          refine z_istore S [(4, .int (nI 1)), (3, .int v_59), (2, .int v_11), (0, .ref (X.1 0)), (1, .int a0)] dX4_buy_64 (Nat.le_of_ble_eq_true rfl) rfl ?_
          exact z_lv [3, 4, 2, 1, 0] rfl (tl_X4_buy_66 S _ _ _ _ _ _ h)
        · refine z_bipush (v := (-5)) S dX4_buy_50 (by decide) ?_
          exact z_iret_w S dX4_buy_52 h
      · refine z_bipush (v := (-4)) S dX4_buy_39 (by decide) ?_
        exact z_iret_w S dX4_buy_41 h
  · refine z_iconst (v := (-1)) S dX4_buy_7 (by decide) ?_
    exact z_iret_w S dX4_buy_8 h
/-! SoldLettersModel.check: a walk -/
theorem hd_X4_check : yX4_check.cls = RX4 ∧ yX4_check.cls ≠ "java/lang/invoke/MethodHandle" ∧ yX4_check.cls ≠ "java/lang/invoke/VarHandle" ∧ (parseMethodDescriptor yX4_check.desc).map (fun d => d.parameters.length) = some 1 := by decide +kernel
theorem m0_X4_check : Cond.fieldLink RX4 7 RX4 (TX4 0).2.1 (TX4 0).2.2.1 ∈ wsX4_check := by decide +kernel
theorem m1_X4_check : ∀ w ∈ u_ws RX4 TX4 12, w ∈ wsX4_check := by decide +kernel
theorem m2_X4_check : Cond.fieldLink RX4 25 RX4 (TX4 7).2.1 (TX4 7).2.2.1 ∈ wsX4_check := by decide +kernel
set_option maxHeartbeats 4000000 in
set_option maxRecDepth 100000 in
theorem tl_X4_check_53 {l : Launch} {D : va_G} {X : zE} {p : Program} {e : Env} {s : State} {m : MethodId} {args : Array Value} {below : List Frame} {meth : Method} {c : Code} (S : zS p m meth c cX4_check 5 (some .int) s args wsX4_check RX4 D 9 X) {r : Int32} {z1 : zV} : ∀ (n_ : Nat), ∀ (z0 : zV) (x1 : Int32) (x2 : Int32) (x3 : Int32), l_X4_check_53 n_ z0 x1 x2 x3 = some (r, z1) → Zj true D 9 X p l e (zrm 3 66) s m args below meth c (MQ below (zQw D 9 X (zc shM X z1) (some (.int r))) args s 0 0 (zw_A 9 X.1)) 5 53 [(0, .ref (X.1 0)), (1, .int x1), (2, .int x2), (3, .int x3)] [] (zc shM X z0) := by
  intro n_
  induction n_ with
  | zero =>
    intro z0 x1 x2 x3 h
    cases h
  | succ n_ ih =>
    intro z0 x1 x2 x3 h
    rw [l_X4_check_53] at h
    refine z_iload_n S 3 dX4_check_53 rfl rfl ?_
    refine z_aload_n S 0 dX4_check_54 rfl rfl ?_
    refine z_get S (C := RX4) (T := TX4) (N := 12) (ci := 4) 7 m2_X4_check m1_X4_check (Nat.le_of_ble_eq_true rfl) (cM_0 X z0) rfl (Nat.le_of_ble_eq_true rfl) rfl rfl dX4_check_55 ?_
    refine z_iload_n S 1 dX4_check_58 rfl rfl ?_
    refine z_iald S (Nat.le_of_ble_eq_true rfl) (cM_6 X z0) dX4_check_59 h (fun v_59 h => ?_)
    refine z_icmp_ge S (tgt := 113) dX4_check_60 (by decide) h (fun h => ?_) (fun h => ?_)
    · refine z_aload_n S 0 dX4_check_113 rfl rfl ?_
      refine z_iload_n S 2 dX4_check_114 rfl rfl ?_
      obtain ⟨v_115, z_115, hv_115, h⟩ := bd2_some h
      refine z_callV_w (As := [.int x2]) S (c_X4_acted l D X _ _ S.2.2.1 hv_115) (cwV 1 S.1.2.2.2.2 gX4_check_X4_acted rfl rfl rfl hd_X4_acted ⟨Nat.le_of_ble_eq_true rfl, Nat.le_of_ble_eq_true rfl⟩) (Nat.le_of_ble_eq_true rfl) (cM_0 X z0) rfl rfl rfl (Nat.le_of_ble_eq_true rfl) rfl dX4_check_115 ?_
      exact z_iret_w S dX4_check_118 h
    · refine z_aload_n S 0 dX4_check_63 rfl rfl ?_
      refine z_iload_n S 1 dX4_check_64 rfl rfl ?_
      refine z_iload_n S 3 dX4_check_65 rfl rfl ?_
      obtain ⟨v_66, hv_66, h⟩ := ob_some h
      refine z_callV_r (As := [.int x1, .int x3]) S (c_X4_cellOf l D X _ _ _ S.2.2.1 hv_66) (cwV 2 S.1.2.2.2.2 gX4_check_X4_cellOf rfl rfl rfl hd_X4_cellOf ⟨Nat.le_of_ble_eq_true rfl, Nat.le_of_ble_eq_true rfl⟩) (Nat.le_of_ble_eq_true rfl) (cM_0 X z0) rfl rfl rfl (Nat.le_of_ble_eq_true rfl) rfl dX4_check_66 ?_
      refine z_istore S [(4, .int v_66), (0, .ref (X.1 0)), (1, .int x1), (2, .int x2), (3, .int x3)] dX4_check_69 (Nat.le_of_ble_eq_true rfl) rfl ?_
      refine z_iload_n S 3 dX4_check_71 rfl rfl ?_
      refine z_aload_n S 1 dX4_check_72 rfl rfl ?_
      refine z_iload S 0 dX4_check_73 rfl ?_
      obtain ⟨v_75, hv_75, h⟩ := ob_some h
      refine z_callV_r (As := [.int v_66]) S (c_X4_guessAt l D X _ _ S.2.2.1 hv_75) (cwV 1 S.1.2.2.2.2 gX4_check_X4_guessAt rfl rfl rfl hd_X4_guessAt ⟨Nat.le_of_ble_eq_true rfl, Nat.le_of_ble_eq_true rfl⟩) (Nat.le_of_ble_eq_true rfl) (cM_0 X z0) rfl rfl rfl (Nat.le_of_ble_eq_true rfl) rfl dX4_check_75 ?_
      refine z_iconst (v := (-1)) S dX4_check_78 (by decide) ?_
      refine z_icmp_eq S (tgt := 104) dX4_check_79 (by decide) h (fun h => ?_) (fun h => ?_)
      · refine z_iconst (v := (nI 0)) S dX4_check_104 (by decide) ?_
        refine z_iadd S dX4_check_105 ?_
        refine z_istore_n S [(2, .int (x2 + (nI 0))), (4, .int v_66), (0, .ref (X.1 0)), (1, .int x1), (3, .int x3)] dX4_check_106 rfl (Nat.le_of_ble_eq_true rfl) rfl ?_
        refine z_iinc S 4 [(3, .int (x3 + nI 1)), (2, .int (x2 + (nI 0))), (4, .int v_66), (0, .ref (X.1 0)), (1, .int x1)] dX4_check_107 rfl rfl (Nat.le_of_ble_eq_true rfl) rfl ?_
        refine z_goto S (tgt := 53) dX4_check_110 (by decide) ?_
        exact z_lv [3, 4, 1, 0] rfl (ih _ _ _ _ h)
      · refine z_aload_n S 1 dX4_check_82 rfl rfl ?_
        refine z_iload S 0 dX4_check_83 rfl ?_
        obtain ⟨v_85, hv_85, h⟩ := ob_some h
        refine z_callV_r (As := [.int v_66]) S (c_X4_guessAt l D X _ _ S.2.2.1 hv_85) (cwV 1 S.1.2.2.2.2 gX4_check_X4_guessAt rfl rfl rfl hd_X4_guessAt ⟨Nat.le_of_ble_eq_true rfl, Nat.le_of_ble_eq_true rfl⟩) (Nat.le_of_ble_eq_true rfl) (cM_0 X z0) rfl rfl rfl (Nat.le_of_ble_eq_true rfl) rfl dX4_check_85 ?_
        refine z_aload_n S 1 dX4_check_88 rfl rfl ?_
        refine z_get S (C := RX4) (T := TX4) (N := 12) (ci := 4) 0 m0_X4_check m1_X4_check (Nat.le_of_ble_eq_true rfl) (cM_0 X z0) rfl (Nat.le_of_ble_eq_true rfl) rfl rfl dX4_check_89 ?_
        refine z_iconst (v := (nI 0)) S dX4_check_92 (by decide) ?_
        refine z_iload S 0 dX4_check_93 rfl ?_
        refine z_iadd S dX4_check_95 ?_
        refine z_iald S (Nat.le_of_ble_eq_true rfl) (cM_1 X z0) dX4_check_96 h (fun v_96 h => ?_)
        refine z_icmp_eq S (tgt := 104) dX4_check_97 (by decide) h (fun h => ?_) (fun h => ?_)
        · refine z_iconst (v := (nI 0)) S dX4_check_104 (by decide) ?_
          refine z_iadd S dX4_check_105 ?_
          refine z_istore_n S [(2, .int (x2 + (nI 0))), (4, .int v_66), (0, .ref (X.1 0)), (1, .int x1), (3, .int x3)] dX4_check_106 rfl (Nat.le_of_ble_eq_true rfl) rfl ?_
          refine z_iinc S 4 [(3, .int (x3 + nI 1)), (2, .int (x2 + (nI 0))), (4, .int v_66), (0, .ref (X.1 0)), (1, .int x1)] dX4_check_107 rfl rfl (Nat.le_of_ble_eq_true rfl) rfl ?_
          refine z_goto S (tgt := 53) dX4_check_110 (by decide) ?_
          exact z_lv [3, 4, 1, 0] rfl (ih _ _ _ _ h)
        · refine z_iconst (v := (nI 1)) S dX4_check_100 (by decide) ?_
          refine z_goto S (tgt := 105) dX4_check_101 (by decide) ?_
          refine z_iadd S dX4_check_105 ?_
          refine z_istore_n S [(2, .int (x2 + (nI 1))), (4, .int v_66), (0, .ref (X.1 0)), (1, .int x1), (3, .int x3)] dX4_check_106 rfl (Nat.le_of_ble_eq_true rfl) rfl ?_
          refine z_iinc S 4 [(3, .int (x3 + nI 1)), (2, .int (x2 + (nI 1))), (4, .int v_66), (0, .ref (X.1 0)), (1, .int x1)] dX4_check_107 rfl rfl (Nat.le_of_ble_eq_true rfl) rfl ?_
          refine z_goto S (tgt := 53) dX4_check_110 (by decide) ?_
          exact z_lv [3, 4, 1, 0] rfl (ih _ _ _ _ h)
set_option maxHeartbeats 4000000 in
set_option maxRecDepth 100000 in
theorem c_X4_check (l : Launch) (D : va_G) (X : zE) (z0 : zV) (a0 : Int32) (hinj : zw_inj 9 X.1) {r : Int32} {z1 : zV} (h : f_X4_check z0 a0 = some (r, z1)) : zMw l yX4_check wsX4_check (zrm 3 66) D 9 X (zc shM X z0) [.ref (X.1 0), .int a0] (some (.int r)) (zc shM X z1) := by
  rw [f_X4_check] at h
  refine z_start_w (cc := cX4_check) (maxL := 5) (ret := (some .int)) (by decide) rfl (Nat.le_of_ble_eq_true rfl) hinj ?_
  intro p e s m below meth c S
  refine z_aload_n S 0 dX4_check_0 rfl rfl ?_
  refine z_iload_n S 1 dX4_check_1 rfl rfl ?_
  obtain ⟨v_2, z_2, hv_2, h⟩ := bd2_some h
  refine z_callV_w (As := [.int a0]) S (c_X4_isWord l D X _ _ S.2.2.1 hv_2) (cwV 1 S.1.2.2.2.2 gX4_check_X4_isWord rfl rfl rfl hd_X4_isWord ⟨Nat.le_of_ble_eq_true rfl, Nat.le_of_ble_eq_true rfl⟩) (Nat.le_of_ble_eq_true rfl) (cM_0 X z0) rfl rfl rfl (Nat.le_of_ble_eq_true rfl) rfl dX4_check_2 ?_
  refine z_if_ne S (tgt := 10) dX4_check_5 (by decide) h (fun h => ?_) (fun h => ?_)
  · refine z_aload_n S 0 dX4_check_10 rfl rfl ?_
    refine z_get S (C := RX4) (T := TX4) (N := 12) (ci := 4) 0 m0_X4_check m1_X4_check (Nat.le_of_ble_eq_true rfl) (cM_0 X z_2) rfl (Nat.le_of_ble_eq_true rfl) rfl rfl dX4_check_11 ?_
    refine z_bipush (v := (nI 105)) S dX4_check_14 (by decide) ?_
    refine z_iald S (Nat.le_of_ble_eq_true rfl) (cM_1 X z_2) dX4_check_16 h (fun v_16 h => ?_)
    refine z_if_ne S (tgt := 23) dX4_check_17 (by decide) h (fun h => ?_) (fun h => ?_)
    · refine z_aload_n S 0 dX4_check_23 rfl rfl ?_
      obtain ⟨z_24, hv_24, h⟩ := ob_some h
      refine z_callV_w (As := []) S (c_X4_remember l D X _ S.2.2.1 hv_24) (cwV 0 S.1.2.2.2.2 gX4_check_X4_remember rfl rfl rfl hd_X4_remember ⟨Nat.le_of_ble_eq_true rfl, Nat.le_of_ble_eq_true rfl⟩) (Nat.le_of_ble_eq_true rfl) (cM_0 X z_2) rfl rfl rfl (Nat.le_of_ble_eq_true rfl) rfl dX4_check_24 ?_
      refine z_aload_n S 0 dX4_check_27 rfl rfl ?_
      refine z_get S (C := RX4) (T := TX4) (N := 12) (ci := 4) 0 m0_X4_check m1_X4_check (Nat.le_of_ble_eq_true rfl) (cM_0 X z_24) rfl (Nat.le_of_ble_eq_true rfl) rfl rfl dX4_check_28 ?_
      refine z_bipush (v := (nI 105)) S dX4_check_31 (by decide) ?_
      refine z_dup2 S dX4_check_33 rfl rfl ?_
      refine z_iald S (Nat.le_of_ble_eq_true rfl) (cM_1 X z_24) dX4_check_34 h (fun v_34 h => ?_)
      refine z_iconst (v := (nI 1)) S dX4_check_35 (by decide) ?_
      refine z_isub S dX4_check_36 ?_
      refine z_iast S (Nat.le_of_ble_eq_true rfl) (fun _ => rfl) dX4_check_37 h (fun z_37 h => ?_)
      refine z_aload_n S 0 dX4_check_38 rfl rfl ?_
      refine z_get S (C := RX4) (T := TX4) (N := 12) (ci := 4) 0 m0_X4_check m1_X4_check (Nat.le_of_ble_eq_true rfl) (cM_0 X z_37) rfl (Nat.le_of_ble_eq_true rfl) rfl rfl dX4_check_39 ?_
      refine z_bipush (v := (nI 108)) S dX4_check_42 (by decide) ?_
      refine z_dup2 S dX4_check_44 rfl rfl ?_
      refine z_iald S (Nat.le_of_ble_eq_true rfl) (cM_1 X z_37) dX4_check_45 h (fun v_45 h => ?_)
      refine z_iconst (v := (nI 1)) S dX4_check_46 (by decide) ?_
      refine z_iadd S dX4_check_47 ?_
      refine z_iast S (Nat.le_of_ble_eq_true rfl) (fun _ => rfl) dX4_check_48 h (fun z_48 h => ?_)
      refine z_iconst (v := (nI 0)) S dX4_check_49 (by decide) ?_
      refine z_istore_n S [(2, .int (nI 0)), (0, .ref (X.1 0)), (1, .int a0)] dX4_check_50 rfl (Nat.le_of_ble_eq_true rfl) rfl ?_
      refine z_iconst (v := (nI 0)) S dX4_check_51 (by decide) ?_
      refine z_istore_n S [(3, .int (nI 0)), (2, .int (nI 0)), (0, .ref (X.1 0)), (1, .int a0)] dX4_check_52 rfl (Nat.le_of_ble_eq_true rfl) rfl ?_
      exact z_lv [2, 3, 1, 0] rfl (tl_X4_check_53 S _ _ _ _ _ h)
    · refine z_bipush (v := (-4)) S dX4_check_20 (by decide) ?_
      exact z_iret_w S dX4_check_22 h
  · refine z_iconst (v := (-1)) S dX4_check_8 (by decide) ?_
    exact z_iret_w S dX4_check_9 h
/-! SoldLettersModel.give: a walk -/
theorem hd_X4_give : yX4_give.cls = RX4 ∧ yX4_give.cls ≠ "java/lang/invoke/MethodHandle" ∧ yX4_give.cls ≠ "java/lang/invoke/VarHandle" ∧ (parseMethodDescriptor yX4_give.desc).map (fun d => d.parameters.length) = some 1 := by decide +kernel
theorem m0_X4_give : Jvm.Cond.constantLong RX4 147 99 ∈ wsX4_give := by decide +kernel
theorem m1_X4_give : Cond.fieldLink RX4 7 RX4 (TX4 0).2.1 (TX4 0).2.2.1 ∈ wsX4_give := by decide +kernel
theorem m2_X4_give : ∀ w ∈ u_ws RX4 TX4 12, w ∈ wsX4_give := by decide +kernel
set_option maxHeartbeats 4000000 in
set_option maxRecDepth 100000 in
theorem c_X4_give (l : Launch) (D : va_G) (X : zE) (z0 : zV) (a0 : Int32) (hinj : zw_inj 9 X.1) {r : Int32} {z1 : zV} (h : f_X4_give z0 a0 = some (r, z1)) : zMw l yX4_give wsX4_give (zrm 1 25) D 9 X (zc shM X z0) [.ref (X.1 0), .int a0] (some (.int r)) (zc shM X z1) := by
  rw [f_X4_give] at h
  refine z_start_w (cc := cX4_give) (maxL := 3) (ret := (some .int)) (by decide) rfl (Nat.le_of_ble_eq_true rfl) hinj ?_
  intro p e s m below meth c S
  refine z_iload_n S 1 dX4_give_0 rfl rfl ?_
  refine z_i2l S dX4_give_1 ?_
  refine z_lconst (v := (lN 1)) S dX4_give_2 (by decide) ?_
  refine z_ldc2 (v := (lN 99)) S m0_X4_give dX4_give_3 ?_
  obtain ⟨v_6, hv_6, h⟩ := ob_some h
  refine z_callS_r (As := [.long (Int32.toInt64 a0), .long (lN 1), .long (lN 99)]) S (c_X4_in l D X _ _ _ _ S.2.2.1 hv_6) (va_cwS 3 S.1.2.2.2.2 gX4_give_X4_in rfl rfl rfl hd_X4_in ⟨Nat.le_of_ble_eq_true rfl, Nat.le_of_ble_eq_true rfl⟩) rfl rfl (Nat.le_of_ble_eq_true rfl) rfl dX4_give_6 ?_
  refine z_if_ne S (tgt := 15) dX4_give_9 (by decide) h (fun h => ?_) (fun h => ?_)
  · refine z_aload_n S 0 dX4_give_15 rfl rfl ?_
    refine z_get S (C := RX4) (T := TX4) (N := 12) (ci := 4) 0 m1_X4_give m2_X4_give (Nat.le_of_ble_eq_true rfl) (cM_0 X z0) rfl (Nat.le_of_ble_eq_true rfl) rfl rfl dX4_give_16 ?_
    refine z_bipush (v := (nI 105)) S dX4_give_19 (by decide) ?_
    refine z_iald S (Nat.le_of_ble_eq_true rfl) (cM_1 X z0) dX4_give_21 h (fun v_21 h => ?_)
    refine z_sipush (v := (nI 999)) S dX4_give_22 (by decide) ?_
    refine z_icmp_ne S (tgt := 31) dX4_give_25 (by decide) h (fun h => ?_) (fun h => ?_)
    · refine z_aload_n S 0 dX4_give_31 rfl rfl ?_
      obtain ⟨z_32, hv_32, h⟩ := ob_some h
      refine z_callV_w (As := []) S (c_X4_remember l D X _ S.2.2.1 hv_32) (cwV 0 S.1.2.2.2.2 gX4_give_X4_remember rfl rfl rfl hd_X4_remember ⟨Nat.le_of_ble_eq_true rfl, Nat.le_of_ble_eq_true rfl⟩) (Nat.le_of_ble_eq_true rfl) (cM_0 X z0) rfl rfl rfl (Nat.le_of_ble_eq_true rfl) rfl dX4_give_32 ?_
      refine z_aload_n S 0 dX4_give_35 rfl rfl ?_
      refine z_get S (C := RX4) (T := TX4) (N := 12) (ci := 4) 0 m1_X4_give m2_X4_give (Nat.le_of_ble_eq_true rfl) (cM_0 X z_32) rfl (Nat.le_of_ble_eq_true rfl) rfl rfl dX4_give_36 ?_
      refine z_bipush (v := (nI 105)) S dX4_give_39 (by decide) ?_
      refine z_iald S (Nat.le_of_ble_eq_true rfl) (cM_1 X z_32) dX4_give_41 h (fun v_41 h => ?_)
      refine z_iload_n S 1 dX4_give_42 rfl rfl ?_
      refine z_iadd S dX4_give_43 ?_
      refine z_istore_n S [(2, .int (v_41 + a0)), (0, .ref (X.1 0)), (1, .int a0)] dX4_give_44 rfl (Nat.le_of_ble_eq_true rfl) rfl ?_
      refine z_aload_n S 1 dX4_give_45 rfl rfl ?_
      refine z_get S (C := RX4) (T := TX4) (N := 12) (ci := 4) 0 m1_X4_give m2_X4_give (Nat.le_of_ble_eq_true rfl) (cM_0 X z_32) rfl (Nat.le_of_ble_eq_true rfl) rfl rfl dX4_give_46 ?_
      refine z_bipush (v := (nI 105)) S dX4_give_49 (by decide) ?_
      refine z_iload_n S 0 dX4_give_51 rfl rfl ?_
      refine z_sipush (v := (nI 999)) S dX4_give_52 (by decide) ?_
      refine z_icmp_ge S (tgt := 62) dX4_give_55 (by decide) h (fun h => ?_) (fun h => ?_)
      · refine z_sipush (v := (nI 999)) S dX4_give_62 (by decide) ?_
        refine z_iast S (Nat.le_of_ble_eq_true rfl) (fun _ => rfl) dX4_give_65 h (fun z_65 h => ?_)
        refine z_aload_n S 1 dX4_give_66 rfl rfl ?_
        refine z_aload_n S 1 dX4_give_67 rfl rfl ?_
        refine z_get S (C := RX4) (T := TX4) (N := 12) (ci := 4) 0 m1_X4_give m2_X4_give (Nat.le_of_ble_eq_true rfl) (cM_0 X z_65) rfl (Nat.le_of_ble_eq_true rfl) rfl rfl dX4_give_68 ?_
        refine z_bipush (v := (nI 105)) S dX4_give_71 (by decide) ?_
        refine z_iald S (Nat.le_of_ble_eq_true rfl) (cM_1 X z_65) dX4_give_73 h (fun v_73 h => ?_)
        obtain ⟨v_74, z_74, hv_74, h⟩ := bd2_some h
        refine z_callV_w (As := [.int v_73]) S (c_X4_acted l D X _ _ S.2.2.1 hv_74) (cwV 1 S.1.2.2.2.2 gX4_give_X4_acted rfl rfl rfl hd_X4_acted ⟨Nat.le_of_ble_eq_true rfl, Nat.le_of_ble_eq_true rfl⟩) (Nat.le_of_ble_eq_true rfl) (cM_0 X z_65) rfl rfl rfl (Nat.le_of_ble_eq_true rfl) rfl dX4_give_74 ?_
        exact z_iret_w S dX4_give_77 h
      · refine z_iload_n S 0 dX4_give_58 rfl rfl ?_
        refine z_goto S (tgt := 65) dX4_give_59 (by decide) ?_
        refine z_iast S (Nat.le_of_ble_eq_true rfl) (fun _ => rfl) dX4_give_65 h (fun z_65 h => ?_)
        refine z_aload_n S 1 dX4_give_66 rfl rfl ?_
        refine z_aload_n S 1 dX4_give_67 rfl rfl ?_
        refine z_get S (C := RX4) (T := TX4) (N := 12) (ci := 4) 0 m1_X4_give m2_X4_give (Nat.le_of_ble_eq_true rfl) (cM_0 X z_65) rfl (Nat.le_of_ble_eq_true rfl) rfl rfl dX4_give_68 ?_
        refine z_bipush (v := (nI 105)) S dX4_give_71 (by decide) ?_
        refine z_iald S (Nat.le_of_ble_eq_true rfl) (cM_1 X z_65) dX4_give_73 h (fun v_73 h => ?_)
        obtain ⟨v_74, z_74, hv_74, h⟩ := bd2_some h
        refine z_callV_w (As := [.int v_73]) S (c_X4_acted l D X _ _ S.2.2.1 hv_74) (cwV 1 S.1.2.2.2.2 gX4_give_X4_acted rfl rfl rfl hd_X4_acted ⟨Nat.le_of_ble_eq_true rfl, Nat.le_of_ble_eq_true rfl⟩) (Nat.le_of_ble_eq_true rfl) (cM_0 X z_65) rfl rfl rfl (Nat.le_of_ble_eq_true rfl) rfl dX4_give_74 ?_
        exact z_iret_w S dX4_give_77 h
    · refine z_bipush (v := (-5)) S dX4_give_28 (by decide) ?_
      exact z_iret_w S dX4_give_30 h
  · refine z_bipush (v := (-2)) S dX4_give_12 (by decide) ?_
    exact z_iret_w S dX4_give_14 h
/-! SoldLettersModel.undo: a walk -/
theorem hd_X4_undo : yX4_undo.cls = RX4 ∧ yX4_undo.cls ≠ "java/lang/invoke/MethodHandle" ∧ yX4_undo.cls ≠ "java/lang/invoke/VarHandle" ∧ (parseMethodDescriptor yX4_undo.desc).map (fun d => d.parameters.length) = some 0 := by decide +kernel
theorem m0_X4_undo : Cond.fieldLink RX4 37 RX4 (TX4 3).2.1 (TX4 3).2.2.1 ∈ wsX4_undo := by decide +kernel
theorem m1_X4_undo : ∀ w ∈ u_ws RX4 TX4 12, w ∈ wsX4_undo := by decide +kernel
theorem m2_X4_undo : Cond.fieldLink RX4 7 RX4 (TX4 0).2.1 (TX4 0).2.2.1 ∈ wsX4_undo := by decide +kernel
theorem m3_X4_undo : Cond.fieldLink RX4 16 RX4 (TX4 2).2.1 (TX4 2).2.2.1 ∈ wsX4_undo := by decide +kernel
set_option maxHeartbeats 4000000 in
set_option maxRecDepth 100000 in
theorem tl_X4_undo_22 {l : Launch} {D : va_G} {X : zE} {p : Program} {e : Env} {s : State} {m : MethodId} {args : Array Value} {below : List Frame} {meth : Method} {c : Code} (S : zS p m meth c cX4_undo 2 (some .int) s args wsX4_undo RX4 D 9 X) {r : Int32} {z1 : zV} : ∀ (n_ : Nat), ∀ (z0 : zV) (x1 : Int32), l_X4_undo_22 n_ z0 x1 = some (r, z1) → Zj true D 9 X p l e (zrm 0 0) s m args below meth c (MQ below (zQw D 9 X (zc shM X z1) (some (.int r))) args s 0 0 (zw_A 9 X.1)) 2 22 [(0, .ref (X.1 0)), (1, .int x1)] [] (zc shM X z0) := by
  intro n_
  induction n_ with
  | zero =>
    intro z0 x1 h
    cases h
  | succ n_ ih =>
    intro z0 x1 h
    rw [l_X4_undo_22] at h
    refine z_iload_n S 1 dX4_undo_22 rfl rfl ?_
    refine z_sipush (v := (nI 205)) S dX4_undo_23 (by decide) ?_
    refine z_icmp_ge S (tgt := 56) dX4_undo_26 (by decide) h (fun h => ?_) (fun h => ?_)
    · refine z_aload_n S 0 dX4_undo_56 rfl rfl ?_
      refine z_get S (C := RX4) (T := TX4) (N := 12) (ci := 4) 3 m0_X4_undo m1_X4_undo (Nat.le_of_ble_eq_true rfl) (cM_0 X z0) rfl (Nat.le_of_ble_eq_true rfl) rfl rfl dX4_undo_57 ?_
      exact z_iret_w S dX4_undo_60 h
    · refine z_aload_n S 0 dX4_undo_29 rfl rfl ?_
      refine z_get S (C := RX4) (T := TX4) (N := 12) (ci := 4) 0 m2_X4_undo m1_X4_undo (Nat.le_of_ble_eq_true rfl) (cM_0 X z0) rfl (Nat.le_of_ble_eq_true rfl) rfl rfl dX4_undo_30 ?_
      refine z_iload_n S 1 dX4_undo_33 rfl rfl ?_
      refine z_aload_n S 0 dX4_undo_34 rfl rfl ?_
      refine z_get S (C := RX4) (T := TX4) (N := 12) (ci := 4) 2 m3_X4_undo m1_X4_undo (Nat.le_of_ble_eq_true rfl) (cM_0 X z0) rfl (Nat.le_of_ble_eq_true rfl) rfl rfl dX4_undo_35 ?_
      refine z_sipush (v := (nI 205)) S dX4_undo_38 (by decide) ?_
      refine z_aload_n S 0 dX4_undo_41 rfl rfl ?_
      refine z_get S (C := RX4) (T := TX4) (N := 12) (ci := 4) 3 m0_X4_undo m1_X4_undo (Nat.le_of_ble_eq_true rfl) (cM_0 X z0) rfl (Nat.le_of_ble_eq_true rfl) rfl rfl dX4_undo_42 ?_
      refine z_imul S dX4_undo_45 ?_
      refine z_iload_n S 1 dX4_undo_46 rfl rfl ?_
      refine z_iadd S dX4_undo_47 ?_
      refine z_iald S (Nat.le_of_ble_eq_true rfl) (cM_3 X z0) dX4_undo_48 h (fun v_48 h => ?_)
      refine z_iast S (Nat.le_of_ble_eq_true rfl) (fun _ => rfl) dX4_undo_49 h (fun z_49 h => ?_)
      refine z_iinc S 1 [(1, .int (x1 + nI 1)), (0, .ref (X.1 0))] dX4_undo_50 rfl rfl (Nat.le_of_ble_eq_true rfl) rfl ?_
      refine z_goto S (tgt := 22) dX4_undo_53 (by decide) ?_
      exact z_lv [1, 0] rfl (ih _ _ h)
set_option maxHeartbeats 4000000 in
set_option maxRecDepth 100000 in
theorem c_X4_undo (l : Launch) (D : va_G) (X : zE) (z0 : zV) (hinj : zw_inj 9 X.1) {r : Int32} {z1 : zV} (h : f_X4_undo z0 = some (r, z1)) : zMw l yX4_undo wsX4_undo (zrm 0 0) D 9 X (zc shM X z0) [.ref (X.1 0)] (some (.int r)) (zc shM X z1) := by
  rw [f_X4_undo] at h
  refine z_start_w (cc := cX4_undo) (maxL := 2) (ret := (some .int)) (by decide) rfl (Nat.le_of_ble_eq_true rfl) hinj ?_
  intro p e s m below meth c S
  refine z_aload_n S 0 dX4_undo_0 rfl rfl ?_
  refine z_get S (C := RX4) (T := TX4) (N := 12) (ci := 4) 3 m0_X4_undo m1_X4_undo (Nat.le_of_ble_eq_true rfl) (cM_0 X z0) rfl (Nat.le_of_ble_eq_true rfl) rfl rfl dX4_undo_1 ?_
  refine z_if_ne S (tgt := 10) dX4_undo_4 (by decide) h (fun h => ?_) (fun h => ?_)
  · refine z_aload_n S 0 dX4_undo_10 rfl rfl ?_
    refine z_dup S dX4_undo_11 rfl ?_
    refine z_get S (C := RX4) (T := TX4) (N := 12) (ci := 4) 3 m0_X4_undo m1_X4_undo (Nat.le_of_ble_eq_true rfl) (cM_0 X z0) rfl (Nat.le_of_ble_eq_true rfl) rfl rfl dX4_undo_12 ?_
    refine z_iconst (v := (nI 1)) S dX4_undo_15 (by decide) ?_
    refine z_isub S dX4_undo_16 ?_
    refine z_put S (C := RX4) (T := TX4) (N := 12) (ci := 4) 3 tyX4_ok nmX4 m0_X4_undo m1_X4_undo (Nat.le_of_ble_eq_true rfl) (cM_0 X z0) rfl (Nat.le_of_ble_eq_true rfl) rfl rfl rfl rfl (Nat.le_of_ble_eq_true rfl) rfl dX4_undo_17 h (fun z_17 h => ?_)
    refine z_iconst (v := (nI 0)) S dX4_undo_20 (by decide) ?_
    refine z_istore_n S [(1, .int (nI 0)), (0, .ref (X.1 0))] dX4_undo_21 rfl (Nat.le_of_ble_eq_true rfl) rfl ?_
    exact z_lv [1, 0] rfl (tl_X4_undo_22 S _ _ _ h)
  · refine z_bipush (v := (-5)) S dX4_undo_7 (by decide) ?_
    exact z_iret_w S dX4_undo_9 h
/-! SoldLettersModel.keep: a walk -/
theorem hd_X4_keep : yX4_keep.cls = RX4 ∧ yX4_keep.cls ≠ "java/lang/invoke/MethodHandle" ∧ yX4_keep.cls ≠ "java/lang/invoke/VarHandle" ∧ (parseMethodDescriptor yX4_keep.desc).map (fun d => d.parameters.length) = some 0 := by decide +kernel
theorem m0_X4_keep : Cond.fieldLink RX4 149 RX4 (TX4 5).2.1 (TX4 5).2.2.1 ∈ wsX4_keep := by decide +kernel
theorem m1_X4_keep : ∀ w ∈ u_ws RX4 TX4 12, w ∈ wsX4_keep := by decide +kernel
theorem m2_X4_keep : Cond.fieldLink RX4 7 RX4 (TX4 0).2.1 (TX4 0).2.2.1 ∈ wsX4_keep := by decide +kernel
theorem m3_X4_keep : Cond.fieldLink RX4 19 RX4 (TX4 4).2.1 (TX4 4).2.2.1 ∈ wsX4_keep := by decide +kernel
set_option maxHeartbeats 4000000 in
set_option maxRecDepth 100000 in
theorem tl_X4_keep_2 {l : Launch} {D : va_G} {X : zE} {p : Program} {e : Env} {s : State} {m : MethodId} {args : Array Value} {below : List Frame} {meth : Method} {c : Code} (S : zS p m meth c cX4_keep 2 (some .int) s args wsX4_keep RX4 D 9 X) {r : Int32} {z1 : zV} : ∀ (n_ : Nat), ∀ (z0 : zV) (x1 : Int32), l_X4_keep_2 n_ z0 x1 = some (r, z1) → Zj true D 9 X p l e (zrm 0 0) s m args below meth c (MQ below (zQw D 9 X (zc shM X z1) (some (.int r))) args s 0 0 (zw_A 9 X.1)) 2 2 [(0, .ref (X.1 0)), (1, .int x1)] [] (zc shM X z0) := by
  intro n_
  induction n_ with
  | zero =>
    intro z0 x1 h
    cases h
  | succ n_ ih =>
    intro z0 x1 h
    rw [l_X4_keep_2] at h
    refine z_iload_n S 1 dX4_keep_2 rfl rfl ?_
    refine z_sipush (v := (nI 205)) S dX4_keep_3 (by decide) ?_
    refine z_icmp_ge S (tgt := 27) dX4_keep_6 (by decide) h (fun h => ?_) (fun h => ?_)
    · refine z_aload_n S 0 dX4_keep_27 rfl rfl ?_
      refine z_iconst (v := (nI 1)) S dX4_keep_28 (by decide) ?_
      refine z_put S (C := RX4) (T := TX4) (N := 12) (ci := 4) 5 tyX4_ok nmX4 m0_X4_keep m1_X4_keep (Nat.le_of_ble_eq_true rfl) (cM_0 X z0) rfl (Nat.le_of_ble_eq_true rfl) rfl rfl rfl rfl (Nat.le_of_ble_eq_true rfl) rfl dX4_keep_29 h (fun z_29 h => ?_)
      refine z_aload_n S 0 dX4_keep_32 rfl rfl ?_
      refine z_get S (C := RX4) (T := TX4) (N := 12) (ci := 4) 0 m2_X4_keep m1_X4_keep (Nat.le_of_ble_eq_true rfl) (cM_0 X z_29) rfl (Nat.le_of_ble_eq_true rfl) rfl rfl dX4_keep_33 ?_
      refine z_bipush (v := (nI 105)) S dX4_keep_36 (by decide) ?_
      refine z_iald S (Nat.le_of_ble_eq_true rfl) (cM_1 X z_29) dX4_keep_38 h (fun v_38 h => ?_)
      exact z_iret_w S dX4_keep_39 h
    · refine z_aload_n S 0 dX4_keep_9 rfl rfl ?_
      refine z_get S (C := RX4) (T := TX4) (N := 12) (ci := 4) 4 m3_X4_keep m1_X4_keep (Nat.le_of_ble_eq_true rfl) (cM_0 X z0) rfl (Nat.le_of_ble_eq_true rfl) rfl rfl dX4_keep_10 ?_
      refine z_iload_n S 1 dX4_keep_13 rfl rfl ?_
      refine z_aload_n S 0 dX4_keep_14 rfl rfl ?_
      refine z_get S (C := RX4) (T := TX4) (N := 12) (ci := 4) 0 m2_X4_keep m1_X4_keep (Nat.le_of_ble_eq_true rfl) (cM_0 X z0) rfl (Nat.le_of_ble_eq_true rfl) rfl rfl dX4_keep_15 ?_
      refine z_iload_n S 1 dX4_keep_18 rfl rfl ?_
      refine z_iald S (Nat.le_of_ble_eq_true rfl) (cM_1 X z0) dX4_keep_19 h (fun v_19 h => ?_)
      refine z_iast S (Nat.le_of_ble_eq_true rfl) (fun _ => rfl) dX4_keep_20 h (fun z_20 h => ?_)
      refine z_iinc S 1 [(1, .int (x1 + nI 1)), (0, .ref (X.1 0))] dX4_keep_21 rfl rfl (Nat.le_of_ble_eq_true rfl) rfl ?_
      refine z_goto S (tgt := 2) dX4_keep_24 (by decide) ?_
      exact z_lv [1, 0] rfl (ih _ _ h)
set_option maxHeartbeats 4000000 in
set_option maxRecDepth 100000 in
theorem c_X4_keep (l : Launch) (D : va_G) (X : zE) (z0 : zV) (hinj : zw_inj 9 X.1) {r : Int32} {z1 : zV} (h : f_X4_keep z0 = some (r, z1)) : zMw l yX4_keep wsX4_keep (zrm 0 0) D 9 X (zc shM X z0) [.ref (X.1 0)] (some (.int r)) (zc shM X z1) := by
  rw [f_X4_keep] at h
  refine z_start_w (cc := cX4_keep) (maxL := 2) (ret := (some .int)) (by decide) rfl (Nat.le_of_ble_eq_true rfl) hinj ?_
  intro p e s m below meth c S
  refine z_iconst (v := (nI 0)) S dX4_keep_0 (by decide) ?_
  refine z_istore_n S [(1, .int (nI 0)), (0, .ref (X.1 0))] dX4_keep_1 rfl (Nat.le_of_ble_eq_true rfl) rfl ?_
  exact z_lv [1, 0] rfl (tl_X4_keep_2 S _ _ _ h)
/-! SoldLettersModel.restore: a walk -/
theorem hd_X4_restore : yX4_restore.cls = RX4 ∧ yX4_restore.cls ≠ "java/lang/invoke/MethodHandle" ∧ yX4_restore.cls ≠ "java/lang/invoke/VarHandle" ∧ (parseMethodDescriptor yX4_restore.desc).map (fun d => d.parameters.length) = some 0 := by decide +kernel
theorem m0_X4_restore : Cond.fieldLink RX4 149 RX4 (TX4 5).2.1 (TX4 5).2.2.1 ∈ wsX4_restore := by decide +kernel
theorem m1_X4_restore : ∀ w ∈ u_ws RX4 TX4 12, w ∈ wsX4_restore := by decide +kernel
theorem m2_X4_restore : Cond.fieldLink RX4 7 RX4 (TX4 0).2.1 (TX4 0).2.2.1 ∈ wsX4_restore := by decide +kernel
theorem m3_X4_restore : Cond.fieldLink RX4 19 RX4 (TX4 4).2.1 (TX4 4).2.2.1 ∈ wsX4_restore := by decide +kernel
set_option maxHeartbeats 4000000 in
set_option maxRecDepth 100000 in
theorem tl_X4_restore_16 {l : Launch} {D : va_G} {X : zE} {p : Program} {e : Env} {s : State} {m : MethodId} {args : Array Value} {below : List Frame} {meth : Method} {c : Code} (S : zS p m meth c cX4_restore 2 (some .int) s args wsX4_restore RX4 D 9 X) {r : Int32} {z1 : zV} : ∀ (n_ : Nat), ∀ (z0 : zV) (x1 : Int32), l_X4_restore_16 n_ z0 x1 = some (r, z1) → Zj true D 9 X p l e (zrm 1 22) s m args below meth c (MQ below (zQw D 9 X (zc shM X z1) (some (.int r))) args s 0 0 (zw_A 9 X.1)) 2 16 [(0, .ref (X.1 0)), (1, .int x1)] [] (zc shM X z0) := by
  intro n_
  induction n_ with
  | zero =>
    intro z0 x1 h
    cases h
  | succ n_ ih =>
    intro z0 x1 h
    rw [l_X4_restore_16] at h
    refine z_iload_n S 1 dX4_restore_16 rfl rfl ?_
    refine z_sipush (v := (nI 205)) S dX4_restore_17 (by decide) ?_
    refine z_icmp_ge S (tgt := 41) dX4_restore_20 (by decide) h (fun h => ?_) (fun h => ?_)
    · refine z_aload_n S 0 dX4_restore_41 rfl rfl ?_
      refine z_aload_n S 0 dX4_restore_42 rfl rfl ?_
      refine z_get S (C := RX4) (T := TX4) (N := 12) (ci := 4) 0 m2_X4_restore m1_X4_restore (Nat.le_of_ble_eq_true rfl) (cM_0 X z0) rfl (Nat.le_of_ble_eq_true rfl) rfl rfl dX4_restore_43 ?_
      refine z_bipush (v := (nI 105)) S dX4_restore_46 (by decide) ?_
      refine z_iald S (Nat.le_of_ble_eq_true rfl) (cM_1 X z0) dX4_restore_48 h (fun v_48 h => ?_)
      obtain ⟨v_49, z_49, hv_49, h⟩ := bd2_some h
      refine z_callV_w (As := [.int v_48]) S (c_X4_acted l D X _ _ S.2.2.1 hv_49) (cwV 1 S.1.2.2.2.2 gX4_restore_X4_acted rfl rfl rfl hd_X4_acted ⟨Nat.le_of_ble_eq_true rfl, Nat.le_of_ble_eq_true rfl⟩) (Nat.le_of_ble_eq_true rfl) (cM_0 X z0) rfl rfl rfl (Nat.le_of_ble_eq_true rfl) rfl dX4_restore_49 ?_
      exact z_iret_w S dX4_restore_52 h
    · refine z_aload_n S 0 dX4_restore_23 rfl rfl ?_
      refine z_get S (C := RX4) (T := TX4) (N := 12) (ci := 4) 0 m2_X4_restore m1_X4_restore (Nat.le_of_ble_eq_true rfl) (cM_0 X z0) rfl (Nat.le_of_ble_eq_true rfl) rfl rfl dX4_restore_24 ?_
      refine z_iload_n S 1 dX4_restore_27 rfl rfl ?_
      refine z_aload_n S 0 dX4_restore_28 rfl rfl ?_
      refine z_get S (C := RX4) (T := TX4) (N := 12) (ci := 4) 4 m3_X4_restore m1_X4_restore (Nat.le_of_ble_eq_true rfl) (cM_0 X z0) rfl (Nat.le_of_ble_eq_true rfl) rfl rfl dX4_restore_29 ?_
      refine z_iload_n S 1 dX4_restore_32 rfl rfl ?_
      refine z_iald S (Nat.le_of_ble_eq_true rfl) (cM_4 X z0) dX4_restore_33 h (fun v_33 h => ?_)
      refine z_iast S (Nat.le_of_ble_eq_true rfl) (fun _ => rfl) dX4_restore_34 h (fun z_34 h => ?_)
      refine z_iinc S 1 [(1, .int (x1 + nI 1)), (0, .ref (X.1 0))] dX4_restore_35 rfl rfl (Nat.le_of_ble_eq_true rfl) rfl ?_
      refine z_goto S (tgt := 16) dX4_restore_38 (by decide) ?_
      exact z_lv [1, 0] rfl (ih _ _ h)
set_option maxHeartbeats 4000000 in
set_option maxRecDepth 100000 in
theorem c_X4_restore (l : Launch) (D : va_G) (X : zE) (z0 : zV) (hinj : zw_inj 9 X.1) {r : Int32} {z1 : zV} (h : f_X4_restore z0 = some (r, z1)) : zMw l yX4_restore wsX4_restore (zrm 1 22) D 9 X (zc shM X z0) [.ref (X.1 0)] (some (.int r)) (zc shM X z1) := by
  rw [f_X4_restore] at h
  refine z_start_w (cc := cX4_restore) (maxL := 2) (ret := (some .int)) (by decide) rfl (Nat.le_of_ble_eq_true rfl) hinj ?_
  intro p e s m below meth c S
  refine z_aload_n S 0 dX4_restore_0 rfl rfl ?_
  refine z_get S (C := RX4) (T := TX4) (N := 12) (ci := 4) 5 m0_X4_restore m1_X4_restore (Nat.le_of_ble_eq_true rfl) (cM_0 X z0) rfl (Nat.le_of_ble_eq_true rfl) rfl rfl dX4_restore_1 ?_
  refine z_if_ne S (tgt := 10) dX4_restore_4 (by decide) h (fun h => ?_) (fun h => ?_)
  · refine z_aload_n S 0 dX4_restore_10 rfl rfl ?_
    obtain ⟨z_11, hv_11, h⟩ := ob_some h
    refine z_callV_w (As := []) S (c_X4_remember l D X _ S.2.2.1 hv_11) (cwV 0 S.1.2.2.2.2 gX4_restore_X4_remember rfl rfl rfl hd_X4_remember ⟨Nat.le_of_ble_eq_true rfl, Nat.le_of_ble_eq_true rfl⟩) (Nat.le_of_ble_eq_true rfl) (cM_0 X z0) rfl rfl rfl (Nat.le_of_ble_eq_true rfl) rfl dX4_restore_11 ?_
    refine z_iconst (v := (nI 0)) S dX4_restore_14 (by decide) ?_
    refine z_istore_n S [(1, .int (nI 0)), (0, .ref (X.1 0))] dX4_restore_15 rfl (Nat.le_of_ble_eq_true rfl) rfl ?_
    exact z_lv [1, 0] rfl (tl_X4_restore_16 S _ _ _ h)
  · refine z_bipush (v := (-5)) S dX4_restore_7 (by decide) ?_
    exact z_iret_w S dX4_restore_9 h
