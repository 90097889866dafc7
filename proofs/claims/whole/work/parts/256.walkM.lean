/-! SoldLettersModel.cell: a walk -/
theorem hd_X4_cell : yX4_cell.cls = RX4 ∧ yX4_cell.cls ≠ "java/lang/invoke/MethodHandle" ∧ yX4_cell.cls ≠ "java/lang/invoke/VarHandle" ∧ (parseMethodDescriptor yX4_cell.desc).map (fun d => d.parameters.length) = some 3 := by decide +kernel
theorem m0_X4_cell : Jvm.Cond.constantLong RX4 99 6 ∈ wsX4_cell := by decide +kernel
set_option maxHeartbeats 4000000 in
set_option maxRecDepth 100000 in
theorem c_X4_cell (l : Launch) (D : va_G) (X : zE) (z0 : zV) (a0 : Int32) (a1 : Int32) (a2 : Int32) (hinj : zw_inj 9 X.1) {r : Int32} {z1 : zV} (h : f_X4_cell z0 a0 a1 a2 = some (r, z1)) : zMw l yX4_cell wsX4_cell (zrm 3 69) D 9 X (zc shM X z0) [.ref (X.1 0), .int a0, .int a1, .int a2] (some (.int r)) (zc shM X z1) := by
  rw [f_X4_cell] at h
  refine z_start_w (cc := cX4_cell) (maxL := 5) (ret := (some .int)) (by decide) rfl (Nat.le_of_ble_eq_true rfl) hinj ?_
  intro p e s m below meth c S
  refine z_iload_n S 1 dX4_cell_0 rfl rfl ?_
  refine z_i2l S dX4_cell_1 ?_
  refine z_lconst (v := (lN 0)) S dX4_cell_2 (by decide) ?_
  refine z_ldc2 (v := (lN 6)) S m0_X4_cell dX4_cell_3 ?_
  obtain ⟨v_6, hv_6, h⟩ := ob_some h
  refine z_callS_r (As := [.long (Int32.toInt64 a0), .long (lN 0), .long (lN 6)]) S (c_X4_in l D X _ _ _ _ S.2.2.1 hv_6) (va_cwS 3 S.1.2.2.2.2 gX4_cell_X4_in rfl rfl rfl hd_X4_in ⟨Nat.le_of_ble_eq_true rfl, Nat.le_of_ble_eq_true rfl⟩) rfl rfl (Nat.le_of_ble_eq_true rfl) rfl dX4_cell_6 ?_
  refine z_if_eq S (tgt := 24) dX4_cell_9 (by decide) h (fun h => ?_) (fun h => ?_)
  · refine z_iconst (v := (-1)) S dX4_cell_24 (by decide) ?_
    exact z_iret_w S dX4_cell_25 h
  · refine z_iload_n S 2 dX4_cell_12 rfl rfl ?_
    refine z_i2l S dX4_cell_13 ?_
    refine z_lconst (v := (lN 0)) S dX4_cell_14 (by decide) ?_
    refine z_ldc2 (v := (lN 6)) S m0_X4_cell dX4_cell_15 ?_
    obtain ⟨v_18, hv_18, h⟩ := ob_some h
    refine z_callS_r (As := [.long (Int32.toInt64 a1), .long (lN 0), .long (lN 6)]) S (c_X4_in l D X _ _ _ _ S.2.2.1 hv_18) (va_cwS 3 S.1.2.2.2.2 gX4_cell_X4_in rfl rfl rfl hd_X4_in ⟨Nat.le_of_ble_eq_true rfl, Nat.le_of_ble_eq_true rfl⟩) rfl rfl (Nat.le_of_ble_eq_true rfl) rfl dX4_cell_18 ?_
    refine z_if_ne S (tgt := 26) dX4_cell_21 (by decide) h (fun h => ?_) (fun h => ?_)
    · refine z_bipush (v := (nI 7)) S dX4_cell_26 (by decide) ?_
      refine z_iload_n S 1 dX4_cell_28 rfl rfl ?_
      refine z_imul S dX4_cell_29 ?_
      refine z_iload_n S 2 dX4_cell_30 rfl rfl ?_
      refine z_iadd S dX4_cell_31 ?_
      refine z_istore S [(4, .int (((nI 7) * a0) + a1)), (0, .ref (X.1 0)), (1, .int a0), (2, .int a1), (3, .int a2)] dX4_cell_32 (Nat.le_of_ble_eq_true rfl) rfl ?_
      refine z_iload_n S 4 dX4_cell_34 rfl rfl ?_
      by_cases c0 : a2 = nI 0
      · have h := (zif h).1 c0
        refine z_tableIn S (tgt := 64) c0 dX4_cell_35 (by decide) (by decide) rfl (by decide) ?_
        refine z_aload_n S 1 dX4_cell_64 rfl rfl ?_
        refine z_iload S 0 dX4_cell_65 rfl ?_
        obtain ⟨v_67, hv_67, h⟩ := ob_some h
        refine z_callV_r (As := [.int (((nI 7) * a0) + a1)]) S (c_X4_numberAt l D X _ _ S.2.2.1 hv_67) (cwV 1 S.1.2.2.2.2 gX4_cell_X4_numberAt rfl rfl rfl hd_X4_numberAt ⟨Nat.le_of_ble_eq_true rfl, Nat.le_of_ble_eq_true rfl⟩) (Nat.le_of_ble_eq_true rfl) (cM_0 X z0) rfl rfl rfl (Nat.le_of_ble_eq_true rfl) rfl dX4_cell_67 ?_
        exact z_iret_w S dX4_cell_70 h
      have h := (zif h).2 c0
      by_cases c1 : a2 = nI 1
      · have h := (zif h).1 c1
        refine z_tableIn S (tgt := 71) c1 dX4_cell_35 (by decide) (by decide) rfl (by decide) ?_
        refine z_aload_n S 1 dX4_cell_71 rfl rfl ?_
        refine z_iload S 0 dX4_cell_72 rfl ?_
        obtain ⟨v_74, hv_74, h⟩ := ob_some h
        refine z_callV_r (As := [.int (((nI 7) * a0) + a1)]) S (c_X4_guessAt l D X _ _ S.2.2.1 hv_74) (cwV 1 S.1.2.2.2.2 gX4_cell_X4_guessAt rfl rfl rfl hd_X4_guessAt ⟨Nat.le_of_ble_eq_true rfl, Nat.le_of_ble_eq_true rfl⟩) (Nat.le_of_ble_eq_true rfl) (cM_0 X z0) rfl rfl rfl (Nat.le_of_ble_eq_true rfl) rfl dX4_cell_74 ?_
        obtain ⟨v_77, hv_77, h⟩ := ob_some h
        refine z_callS_r (As := [.int v_74]) S (c_X4_coded l D X _ _ S.2.2.1 hv_77) (va_cwS 1 S.1.2.2.2.2 gX4_cell_X4_coded rfl rfl rfl hd_X4_coded ⟨Nat.le_of_ble_eq_true rfl, Nat.le_of_ble_eq_true rfl⟩) rfl rfl (Nat.le_of_ble_eq_true rfl) rfl dX4_cell_77 ?_
        exact z_iret_w S dX4_cell_80 h
      have h := (zif h).2 c1
      by_cases c2 : a2 = nI 2
      · have h := (zif h).1 c2
        refine z_tableIn S (tgt := 81) c2 dX4_cell_35 (by decide) (by decide) rfl (by decide) ?_
        refine z_aload_n S 1 dX4_cell_81 rfl rfl ?_
        refine z_iload S 0 dX4_cell_82 rfl ?_
        refine z_iconst (v := (nI 1)) S dX4_cell_84 (by decide) ?_
        obtain ⟨v_85, z_85, hv_85, h⟩ := bd2_some h
        refine z_callV_w (As := [.int (((nI 7) * a0) + a1), .int (nI 1)]) S (c_X4_wordAt l D X _ _ _ S.2.2.1 hv_85) (cwV 2 S.1.2.2.2.2 gX4_cell_X4_wordAt rfl rfl rfl hd_X4_wordAt ⟨Nat.le_of_ble_eq_true rfl, Nat.le_of_ble_eq_true rfl⟩) (Nat.le_of_ble_eq_true rfl) (cM_0 X z0) rfl rfl rfl (Nat.le_of_ble_eq_true rfl) rfl dX4_cell_85 ?_
        exact z_iret_w S dX4_cell_88 h
      have h := (zif h).2 c2
      by_cases c3 : a2 = nI 3
      · have h := (zif h).1 c3
        refine z_tableIn S (tgt := 89) c3 dX4_cell_35 (by decide) (by decide) rfl (by decide) ?_
        refine z_aload_n S 1 dX4_cell_89 rfl rfl ?_
        refine z_iload S 0 dX4_cell_90 rfl ?_
        refine z_bipush (v := (nI 7)) S dX4_cell_92 (by decide) ?_
        obtain ⟨v_94, z_94, hv_94, h⟩ := bd2_some h
        refine z_callV_w (As := [.int (((nI 7) * a0) + a1), .int (nI 7)]) S (c_X4_wordAt l D X _ _ _ S.2.2.1 hv_94) (cwV 2 S.1.2.2.2.2 gX4_cell_X4_wordAt rfl rfl rfl hd_X4_wordAt ⟨Nat.le_of_ble_eq_true rfl, Nat.le_of_ble_eq_true rfl⟩) (Nat.le_of_ble_eq_true rfl) (cM_0 X z0) rfl rfl rfl (Nat.le_of_ble_eq_true rfl) rfl dX4_cell_94 ?_
        exact z_iret_w S dX4_cell_97 h
      have h := (zif h).2 c3
      have e0 := lv_neT (a := 0) c0 rfl
      have e1 := lv_neT (a := 1) c1 rfl
      have e2 := lv_neT (a := 2) c2 rfl
      have e3 := lv_neT (a := 3) c3 rfl
      refine z_tableOut S (tgt := 98) dX4_cell_35 (by omega) (by decide) ?_
      refine z_bipush (v := (-2)) S dX4_cell_98 (by decide) ?_
      exact z_iret_w S dX4_cell_100 h
    · refine z_iconst (v := (-1)) S dX4_cell_24 (by decide) ?_
      exact z_iret_w S dX4_cell_25 h
/-! SoldLettersModel.number: a walk -/
theorem hd_X4_number : yX4_number.cls = RX4 ∧ yX4_number.cls ≠ "java/lang/invoke/MethodHandle" ∧ yX4_number.cls ≠ "java/lang/invoke/VarHandle" ∧ (parseMethodDescriptor yX4_number.desc).map (fun d => d.parameters.length) = some 2 := by decide +kernel
theorem m0_X4_number : Cond.fieldLink RX4 7 RX4 (TX4 0).2.1 (TX4 0).2.2.1 ∈ wsX4_number := by decide +kernel
theorem m1_X4_number : ∀ w ∈ u_ws RX4 TX4 12, w ∈ wsX4_number := by decide +kernel
set_option maxHeartbeats 4000000 in
set_option maxRecDepth 100000 in
theorem c_X4_number (l : Launch) (D : va_G) (X : zE) (z0 : zV) (a0 : Int32) (a1 : Int32) (hinj : zw_inj 9 X.1) {r : Int32} {z1 : zV} (h : f_X4_number z0 a0 a1 = some (r, z1)) : zMw l yX4_number wsX4_number (zrm 4 89) D 9 X (zc shM X z0) [.ref (X.1 0), .int a0, .int a1] (some (.int r)) (zc shM X z1) := by
  rw [f_X4_number] at h
  refine z_start_w (cc := cX4_number) (maxL := 3) (ret := (some .int)) (by decide) rfl (Nat.le_of_ble_eq_true rfl) hinj ?_
  intro p e s m below meth c S
  refine z_iload_n S 1 dX4_number_0 rfl rfl ?_
  obtain ⟨v_1, hv_1, h⟩ := ob_some h
  refine z_callS_r (As := [.int a0]) S (c_X4_isNumber l D X _ _ S.2.2.1 hv_1) (va_cwS 1 S.1.2.2.2.2 gX4_number_X4_isNumber rfl rfl rfl hd_X4_isNumber ⟨Nat.le_of_ble_eq_true rfl, Nat.le_of_ble_eq_true rfl⟩) rfl rfl (Nat.le_of_ble_eq_true rfl) rfl dX4_number_1 ?_
  refine z_if_ne S (tgt := 9) dX4_number_4 (by decide) h (fun h => ?_) (fun h => ?_)
  · refine z_iload_n S 2 dX4_number_9 rfl rfl ?_
    by_cases c0 : a1 = nI 0
    · have h := (zif h).1 c0
      refine z_tableIn S (tgt := 44) c0 dX4_number_10 (by decide) (by decide) rfl (by decide) ?_
      refine z_aload_n S 0 dX4_number_44 rfl rfl ?_
      refine z_iload_n S 1 dX4_number_45 rfl rfl ?_
      obtain ⟨v_46, hv_46, h⟩ := ob_some h
      refine z_callV_r (As := [.int a0]) S (c_X4_cellsWith l D X _ _ S.2.2.1 hv_46) (cwV 1 S.1.2.2.2.2 gX4_number_X4_cellsWith rfl rfl rfl hd_X4_cellsWith ⟨Nat.le_of_ble_eq_true rfl, Nat.le_of_ble_eq_true rfl⟩) (Nat.le_of_ble_eq_true rfl) (cM_0 X z0) rfl rfl rfl (Nat.le_of_ble_eq_true rfl) rfl dX4_number_46 ?_
      exact z_iret_w S dX4_number_49 h
    have h := (zif h).2 c0
    by_cases c1 : a1 = nI 1
    · have h := (zif h).1 c1
      refine z_tableIn S (tgt := 50) c1 dX4_number_10 (by decide) (by decide) rfl (by decide) ?_
      refine z_aload_n S 0 dX4_number_50 rfl rfl ?_
      refine z_get S (C := RX4) (T := TX4) (N := 12) (ci := 4) 0 m0_X4_number m1_X4_number (Nat.le_of_ble_eq_true rfl) (cM_0 X z0) rfl (Nat.le_of_ble_eq_true rfl) rfl rfl dX4_number_51 ?_
      refine z_bipush (v := (nI 51)) S dX4_number_54 (by decide) ?_
      refine z_iload_n S 1 dX4_number_56 rfl rfl ?_
      refine z_iadd S dX4_number_57 ?_
      refine z_iald S (Nat.le_of_ble_eq_true rfl) (cM_1 X z0) dX4_number_58 h (fun v_58 h => ?_)
      obtain ⟨v_59, hv_59, h⟩ := ob_some h
      refine z_callS_r (As := [.int v_58]) S (c_X4_coded l D X _ _ S.2.2.1 hv_59) (va_cwS 1 S.1.2.2.2.2 gX4_number_X4_coded rfl rfl rfl hd_X4_coded ⟨Nat.le_of_ble_eq_true rfl, Nat.le_of_ble_eq_true rfl⟩) rfl rfl (Nat.le_of_ble_eq_true rfl) rfl dX4_number_59 ?_
      exact z_iret_w S dX4_number_62 h
    have h := (zif h).2 c1
    by_cases c2 : a1 = nI 2
    · have h := (zif h).1 c2
      refine z_tableIn S (tgt := 63) c2 dX4_number_10 (by decide) (by decide) rfl (by decide) ?_
      refine z_aload_n S 0 dX4_number_63 rfl rfl ?_
      refine z_iload_n S 1 dX4_number_64 rfl rfl ?_
      obtain ⟨v_65, hv_65, h⟩ := ob_some h
      refine z_callV_r (As := [.int a0]) S (c_X4_priceOf l D X _ _ S.2.2.1 hv_65) (cwV 1 S.1.2.2.2.2 gX4_number_X4_priceOf rfl rfl rfl hd_X4_priceOf ⟨Nat.le_of_ble_eq_true rfl, Nat.le_of_ble_eq_true rfl⟩) (Nat.le_of_ble_eq_true rfl) (cM_0 X z0) rfl rfl rfl (Nat.le_of_ble_eq_true rfl) rfl dX4_number_65 ?_
      exact z_iret_w S dX4_number_68 h
    have h := (zif h).2 c2
    by_cases c3 : a1 = nI 3
    · have h := (zif h).1 c3
      refine z_tableIn S (tgt := 69) c3 dX4_number_10 (by decide) (by decide) rfl (by decide) ?_
      refine z_aload_n S 0 dX4_number_69 rfl rfl ?_
      refine z_get S (C := RX4) (T := TX4) (N := 12) (ci := 4) 0 m0_X4_number m1_X4_number (Nat.le_of_ble_eq_true rfl) (cM_0 X z0) rfl (Nat.le_of_ble_eq_true rfl) rfl rfl dX4_number_70 ?_
      refine z_bipush (v := (nI 78)) S dX4_number_73 (by decide) ?_
      refine z_iload_n S 1 dX4_number_75 rfl rfl ?_
      refine z_iadd S dX4_number_76 ?_
      refine z_iald S (Nat.le_of_ble_eq_true rfl) (cM_1 X z0) dX4_number_77 h (fun v_77 h => ?_)
      exact z_iret_w S dX4_number_78 h
    have h := (zif h).2 c3
    by_cases c4 : a1 = nI 4
    · have h := (zif h).1 c4
      refine z_tableIn S (tgt := 79) c4 dX4_number_10 (by decide) (by decide) rfl (by decide) ?_
      refine z_aload_n S 0 dX4_number_79 rfl rfl ?_
      refine z_iload_n S 1 dX4_number_80 rfl rfl ?_
      obtain ⟨v_81, z_81, hv_81, h⟩ := bd2_some h
      refine z_callV_w (As := [.int a0]) S (c_X4_wordsWith l D X _ _ S.2.2.1 hv_81) (cwV 1 S.1.2.2.2.2 gX4_number_X4_wordsWith rfl rfl rfl hd_X4_wordsWith ⟨Nat.le_of_ble_eq_true rfl, Nat.le_of_ble_eq_true rfl⟩) (Nat.le_of_ble_eq_true rfl) (cM_0 X z0) rfl rfl rfl (Nat.le_of_ble_eq_true rfl) rfl dX4_number_81 ?_
      exact z_iret_w S dX4_number_84 h
    have h := (zif h).2 c4
    have e0 := lv_neT (a := 0) c0 rfl
    have e1 := lv_neT (a := 1) c1 rfl
    have e2 := lv_neT (a := 2) c2 rfl
    have e3 := lv_neT (a := 3) c3 rfl
    have e4 := lv_neT (a := 4) c4 rfl
    refine z_tableOut S (tgt := 85) dX4_number_10 (by omega) (by decide) ?_
    refine z_bipush (v := (-2)) S dX4_number_85 (by decide) ?_
    exact z_iret_w S dX4_number_87 h
  · refine z_iconst (v := (-1)) S dX4_number_7 (by decide) ?_
    exact z_iret_w S dX4_number_8 h
/-! SoldLettersModel.guessedOf: a walk -/
theorem hd_X4_guessedOf : yX4_guessedOf.cls = RX4 ∧ yX4_guessedOf.cls ≠ "java/lang/invoke/MethodHandle" ∧ yX4_guessedOf.cls ≠ "java/lang/invoke/VarHandle" ∧ (parseMethodDescriptor yX4_guessedOf.desc).map (fun d => d.parameters.length) = some 1 := by decide +kernel
theorem m0_X4_guessedOf : Cond.fieldLink RX4 25 RX4 (TX4 7).2.1 (TX4 7).2.2.1 ∈ wsX4_guessedOf := by decide +kernel
theorem m1_X4_guessedOf : ∀ w ∈ u_ws RX4 TX4 12, w ∈ wsX4_guessedOf := by decide +kernel
set_option maxHeartbeats 4000000 in
set_option maxRecDepth 100000 in
theorem tl_X4_guessedOf_4 {l : Launch} {D : va_G} {X : zE} {p : Program} {e : Env} {s : State} {m : MethodId} {args : Array Value} {below : List Frame} {meth : Method} {c : Code} (S : zS p m meth c cX4_guessedOf 4 (some .int) s args wsX4_guessedOf RX4 D 9 X) {z0 : zV} {r : Int32} : ∀ (n_ : Nat), ∀ (x1 : Int32) (x2 : Int32) (x3 : Int32), l_X4_guessedOf_4 z0 n_ x1 x2 x3 = some r → Zj false D 9 X p l e (zrm 3 63) s m args below meth c (MQ below (zQr (some (.int r))) args s 0 0 (fun _ => False)) 4 4 [(0, .ref (X.1 0)), (1, .int x1), (2, .int x2), (3, .int x3)] [] (zc shM X z0) := by
  intro n_
  induction n_ with
  | zero =>
    intro x1 x2 x3 h
    cases h
  | succ n_ ih =>
    intro x1 x2 x3 h
    rw [l_X4_guessedOf_4] at h
    refine z_iload_n S 3 dX4_guessedOf_4 rfl rfl ?_
    refine z_aload_n S 0 dX4_guessedOf_5 rfl rfl ?_
    refine z_get S (C := RX4) (T := TX4) (N := 12) (ci := 4) 7 m0_X4_guessedOf m1_X4_guessedOf (Nat.le_of_ble_eq_true rfl) (cM_0 X z0) rfl (Nat.le_of_ble_eq_true rfl) rfl rfl dX4_guessedOf_6 ?_
    refine z_iload_n S 1 dX4_guessedOf_9 rfl rfl ?_
    refine z_iald S (Nat.le_of_ble_eq_true rfl) (cM_6 X z0) dX4_guessedOf_10 h (fun v_10 h => ?_)
    refine z_icmp_ge S (tgt := 42) dX4_guessedOf_11 (by decide) h (fun h => ?_) (fun h => ?_)
    · refine z_iload_n S 2 dX4_guessedOf_42 rfl rfl ?_
      exact z_iret_r S dX4_guessedOf_43 h
    · refine z_iload_n S 2 dX4_guessedOf_14 rfl rfl ?_
      refine z_aload_n S 0 dX4_guessedOf_15 rfl rfl ?_
      refine z_aload_n S 0 dX4_guessedOf_16 rfl rfl ?_
      refine z_iload_n S 1 dX4_guessedOf_17 rfl rfl ?_
      refine z_iload_n S 3 dX4_guessedOf_18 rfl rfl ?_
      obtain ⟨v_19, hv_19, h⟩ := ob_some h
      refine z_callV_r (As := [.int x1, .int x3]) S (c_X4_cellOf l D X _ _ _ S.2.2.1 hv_19) (cwV 2 S.1.2.2.2.2 gX4_guessedOf_X4_cellOf rfl rfl rfl hd_X4_cellOf ⟨Nat.le_of_ble_eq_true rfl, Nat.le_of_ble_eq_true rfl⟩) (Nat.le_of_ble_eq_true rfl) (cM_0 X z0) rfl rfl rfl (Nat.le_of_ble_eq_true rfl) rfl dX4_guessedOf_19 ?_
      obtain ⟨v_22, hv_22, h⟩ := ob_some h
      refine z_callV_r (As := [.int v_19]) S (c_X4_guessAt l D X _ _ S.2.2.1 hv_22) (cwV 1 S.1.2.2.2.2 gX4_guessedOf_X4_guessAt rfl rfl rfl hd_X4_guessAt ⟨Nat.le_of_ble_eq_true rfl, Nat.le_of_ble_eq_true rfl⟩) (Nat.le_of_ble_eq_true rfl) (cM_0 X z0) rfl rfl rfl (Nat.le_of_ble_eq_true rfl) rfl dX4_guessedOf_22 ?_
      refine z_iconst (v := (-1)) S dX4_guessedOf_25 (by decide) ?_
      refine z_icmp_eq S (tgt := 33) dX4_guessedOf_26 (by decide) h (fun h => ?_) (fun h => ?_)
      · refine z_iconst (v := (nI 0)) S dX4_guessedOf_33 (by decide) ?_
        refine z_iadd S dX4_guessedOf_34 ?_
        refine z_istore_n S [(2, .int (x2 + (nI 0))), (0, .ref (X.1 0)), (1, .int x1), (3, .int x3)] dX4_guessedOf_35 rfl (Nat.le_of_ble_eq_true rfl) rfl ?_
        refine z_iinc S 3 [(3, .int (x3 + nI 1)), (2, .int (x2 + (nI 0))), (0, .ref (X.1 0)), (1, .int x1)] dX4_guessedOf_36 rfl rfl (Nat.le_of_ble_eq_true rfl) rfl ?_
        refine z_goto S (tgt := 4) dX4_guessedOf_39 (by decide) ?_
        exact z_lv [2, 3, 1, 0] rfl (ih _ _ _ h)
      · refine z_iconst (v := (nI 1)) S dX4_guessedOf_29 (by decide) ?_
        refine z_goto S (tgt := 34) dX4_guessedOf_30 (by decide) ?_
        refine z_iadd S dX4_guessedOf_34 ?_
        refine z_istore_n S [(2, .int (x2 + (nI 1))), (0, .ref (X.1 0)), (1, .int x1), (3, .int x3)] dX4_guessedOf_35 rfl (Nat.le_of_ble_eq_true rfl) rfl ?_
        refine z_iinc S 3 [(3, .int (x3 + nI 1)), (2, .int (x2 + (nI 1))), (0, .ref (X.1 0)), (1, .int x1)] dX4_guessedOf_36 rfl rfl (Nat.le_of_ble_eq_true rfl) rfl ?_
        refine z_goto S (tgt := 4) dX4_guessedOf_39 (by decide) ?_
        exact z_lv [2, 3, 1, 0] rfl (ih _ _ _ h)
set_option maxHeartbeats 4000000 in
set_option maxRecDepth 100000 in
theorem c_X4_guessedOf (l : Launch) (D : va_G) (X : zE) (z0 : zV) (a0 : Int32) (hinj : zw_inj 9 X.1) {r : Int32} (h : f_X4_guessedOf z0 a0 = some r) : zMr l yX4_guessedOf wsX4_guessedOf (zrm 3 63) D 9 X (zc shM X z0) [.ref (X.1 0), .int a0] (some (.int r)) := by
  rw [f_X4_guessedOf] at h
  refine z_start_r (cc := cX4_guessedOf) (maxL := 4) (ret := (some .int)) (by decide) rfl (Nat.le_of_ble_eq_true rfl) hinj ?_
  intro p e s m below meth c S
  refine z_iconst (v := (nI 0)) S dX4_guessedOf_0 (by decide) ?_
  refine z_istore_n S [(2, .int (nI 0)), (0, .ref (X.1 0)), (1, .int a0)] dX4_guessedOf_1 rfl (Nat.le_of_ble_eq_true rfl) rfl ?_
  refine z_iconst (v := (nI 0)) S dX4_guessedOf_2 (by decide) ?_
  refine z_istore_n S [(3, .int (nI 0)), (2, .int (nI 0)), (0, .ref (X.1 0)), (1, .int a0)] dX4_guessedOf_3 rfl (Nat.le_of_ble_eq_true rfl) rfl ?_
  exact z_lv [2, 3, 1, 0] rfl (tl_X4_guessedOf_4 S _ _ _ _ h)
/-! SoldLettersModel.fitting: a walk -/
theorem hd_X4_fitting : yX4_fitting.cls = RX4 ∧ yX4_fitting.cls ≠ "java/lang/invoke/MethodHandle" ∧ yX4_fitting.cls ≠ "java/lang/invoke/VarHandle" ∧ (parseMethodDescriptor yX4_fitting.desc).map (fun d => d.parameters.length) = some 1 := by decide +kernel
theorem m0_X4_fitting : Cond.fieldLink RX4 7 RX4 (TX4 0).2.1 (TX4 0).2.2.1 ∈ wsX4_fitting := by decide +kernel
theorem m1_X4_fitting : ∀ w ∈ u_ws RX4 TX4 12, w ∈ wsX4_fitting := by decide +kernel
set_option maxHeartbeats 4000000 in
set_option maxRecDepth 100000 in
theorem tl_X4_fitting_4 {l : Launch} {D : va_G} {X : zE} {p : Program} {e : Env} {s : State} {m : MethodId} {args : Array Value} {below : List Frame} {meth : Method} {c : Code} (S : zS p m meth c cX4_fitting 4 (some .int) s args wsX4_fitting RX4 D 9 X) {z0 : zV} {r : Int32} : ∀ (n_ : Nat), ∀ (x1 : Int32) (x2 : Int32) (x3 : Int32), l_X4_fitting_4 z0 n_ x1 x2 x3 = some r → Zj false D 9 X p l e (zrm 4 94) s m args below meth c (MQ below (zQr (some (.int r))) args s 0 0 (fun _ => False)) 4 4 [(0, .ref (X.1 0)), (1, .int x1), (2, .int x2), (3, .int x3)] [] (zc shM X z0) := by
  intro n_
  induction n_ with
  | zero =>
    intro x1 x2 x3 h
    cases h
  | succ n_ ih =>
    intro x1 x2 x3 h
    rw [l_X4_fitting_4] at h
    refine z_iload_n S 3 dX4_fitting_4 rfl rfl ?_
    refine z_aload_n S 0 dX4_fitting_5 rfl rfl ?_
    refine z_get S (C := RX4) (T := TX4) (N := 12) (ci := 4) 0 m0_X4_fitting m1_X4_fitting (Nat.le_of_ble_eq_true rfl) (cM_0 X z0) rfl (Nat.le_of_ble_eq_true rfl) rfl rfl dX4_fitting_6 ?_
    refine z_bipush (v := (nI 106)) S dX4_fitting_9 (by decide) ?_
    refine z_iald S (Nat.le_of_ble_eq_true rfl) (cM_1 X z0) dX4_fitting_11 h (fun v_11 h => ?_)
    refine z_icmp_ge S (tgt := 38) dX4_fitting_12 (by decide) h (fun h => ?_) (fun h => ?_)
    · refine z_iload_n S 2 dX4_fitting_38 rfl rfl ?_
      exact z_iret_r S dX4_fitting_39 h
    · refine z_iload_n S 2 dX4_fitting_15 rfl rfl ?_
      refine z_aload_n S 0 dX4_fitting_16 rfl rfl ?_
      refine z_iload_n S 1 dX4_fitting_17 rfl rfl ?_
      refine z_iload_n S 3 dX4_fitting_18 rfl rfl ?_
      obtain ⟨v_19, hv_19, h⟩ := ob_some h
      refine z_callV_r (As := [.int x1, .int x3]) S (c_X4_isFit l D X _ _ _ S.2.2.1 hv_19) (cwV 2 S.1.2.2.2.2 gX4_fitting_X4_isFit rfl rfl rfl hd_X4_isFit ⟨Nat.le_of_ble_eq_true rfl, Nat.le_of_ble_eq_true rfl⟩) (Nat.le_of_ble_eq_true rfl) (cM_0 X z0) rfl rfl rfl (Nat.le_of_ble_eq_true rfl) rfl dX4_fitting_19 ?_
      refine z_if_eq S (tgt := 29) dX4_fitting_22 (by decide) h (fun h => ?_) (fun h => ?_)
      · refine z_iconst (v := (nI 0)) S dX4_fitting_29 (by decide) ?_
        refine z_iadd S dX4_fitting_30 ?_
        refine z_istore_n S [(2, .int (x2 + (nI 0))), (0, .ref (X.1 0)), (1, .int x1), (3, .int x3)] dX4_fitting_31 rfl (Nat.le_of_ble_eq_true rfl) rfl ?_
        refine z_iinc S 3 [(3, .int (x3 + nI 1)), (2, .int (x2 + (nI 0))), (0, .ref (X.1 0)), (1, .int x1)] dX4_fitting_32 rfl rfl (Nat.le_of_ble_eq_true rfl) rfl ?_
        refine z_goto S (tgt := 4) dX4_fitting_35 (by decide) ?_
        exact z_lv [2, 3, 1, 0] rfl (ih _ _ _ h)
      · refine z_iconst (v := (nI 1)) S dX4_fitting_25 (by decide) ?_
        refine z_goto S (tgt := 30) dX4_fitting_26 (by decide) ?_
        refine z_iadd S dX4_fitting_30 ?_
        refine z_istore_n S [(2, .int (x2 + (nI 1))), (0, .ref (X.1 0)), (1, .int x1), (3, .int x3)] dX4_fitting_31 rfl (Nat.le_of_ble_eq_true rfl) rfl ?_
        refine z_iinc S 3 [(3, .int (x3 + nI 1)), (2, .int (x2 + (nI 1))), (0, .ref (X.1 0)), (1, .int x1)] dX4_fitting_32 rfl rfl (Nat.le_of_ble_eq_true rfl) rfl ?_
        refine z_goto S (tgt := 4) dX4_fitting_35 (by decide) ?_
        exact z_lv [2, 3, 1, 0] rfl (ih _ _ _ h)
set_option maxHeartbeats 4000000 in
set_option maxRecDepth 100000 in
theorem c_X4_fitting (l : Launch) (D : va_G) (X : zE) (z0 : zV) (a0 : Int32) (hinj : zw_inj 9 X.1) {r : Int32} (h : f_X4_fitting z0 a0 = some r) : zMr l yX4_fitting wsX4_fitting (zrm 4 94) D 9 X (zc shM X z0) [.ref (X.1 0), .int a0] (some (.int r)) := by
  rw [f_X4_fitting] at h
  refine z_start_r (cc := cX4_fitting) (maxL := 4) (ret := (some .int)) (by decide) rfl (Nat.le_of_ble_eq_true rfl) hinj ?_
  intro p e s m below meth c S
  refine z_iconst (v := (nI 0)) S dX4_fitting_0 (by decide) ?_
  refine z_istore_n S [(2, .int (nI 0)), (0, .ref (X.1 0)), (1, .int a0)] dX4_fitting_1 rfl (Nat.le_of_ble_eq_true rfl) rfl ?_
  refine z_iconst (v := (nI 0)) S dX4_fitting_2 (by decide) ?_
  refine z_istore_n S [(3, .int (nI 0)), (2, .int (nI 0)), (0, .ref (X.1 0)), (1, .int a0)] dX4_fitting_3 rfl (Nat.le_of_ble_eq_true rfl) rfl ?_
  exact z_lv [2, 3, 1, 0] rfl (tl_X4_fitting_4 S _ _ _ _ h)
/-! SoldLettersModel.firstFitting: a walk -/
theorem hd_X4_firstFitting : yX4_firstFitting.cls = RX4 ∧ yX4_firstFitting.cls ≠ "java/lang/invoke/MethodHandle" ∧ yX4_firstFitting.cls ≠ "java/lang/invoke/VarHandle" ∧ (parseMethodDescriptor yX4_firstFitting.desc).map (fun d => d.parameters.length) = some 1 := by decide +kernel
theorem m0_X4_firstFitting : Cond.fieldLink RX4 7 RX4 (TX4 0).2.1 (TX4 0).2.2.1 ∈ wsX4_firstFitting := by decide +kernel
theorem m1_X4_firstFitting : ∀ w ∈ u_ws RX4 TX4 12, w ∈ wsX4_firstFitting := by decide +kernel
set_option maxHeartbeats 4000000 in
set_option maxRecDepth 100000 in
theorem tl_X4_firstFitting_2 {l : Launch} {D : va_G} {X : zE} {p : Program} {e : Env} {s : State} {m : MethodId} {args : Array Value} {below : List Frame} {meth : Method} {c : Code} (S : zS p m meth c cX4_firstFitting 3 (some .int) s args wsX4_firstFitting RX4 D 9 X) {z0 : zV} {r : Int32} : ∀ (n_ : Nat), ∀ (x1 : Int32) (x2 : Int32), l_X4_firstFitting_2 z0 n_ x1 x2 = some r → Zj false D 9 X p l e (zrm 4 94) s m args below meth c (MQ below (zQr (some (.int r))) args s 0 0 (fun _ => False)) 3 2 [(0, .ref (X.1 0)), (1, .int x1), (2, .int x2)] [] (zc shM X z0) := by
  intro n_
  induction n_ with
  | zero =>
    intro x1 x2 h
    cases h
  | succ n_ ih =>
    intro x1 x2 h
    rw [l_X4_firstFitting_2] at h
    refine z_iload_n S 2 dX4_firstFitting_2 rfl rfl ?_
    refine z_aload_n S 0 dX4_firstFitting_3 rfl rfl ?_
    refine z_get S (C := RX4) (T := TX4) (N := 12) (ci := 4) 0 m0_X4_firstFitting m1_X4_firstFitting (Nat.le_of_ble_eq_true rfl) (cM_0 X z0) rfl (Nat.le_of_ble_eq_true rfl) rfl rfl dX4_firstFitting_4 ?_
    refine z_bipush (v := (nI 106)) S dX4_firstFitting_7 (by decide) ?_
    refine z_iald S (Nat.le_of_ble_eq_true rfl) (cM_1 X z0) dX4_firstFitting_9 h (fun v_9 h => ?_)
    refine z_icmp_ge S (tgt := 30) dX4_firstFitting_10 (by decide) h (fun h => ?_) (fun h => ?_)
    · refine z_bipush (v := (-5)) S dX4_firstFitting_30 (by decide) ?_
      exact z_iret_r S dX4_firstFitting_32 h
    · refine z_aload_n S 0 dX4_firstFitting_13 rfl rfl ?_
      refine z_iload_n S 1 dX4_firstFitting_14 rfl rfl ?_
      refine z_iload_n S 2 dX4_firstFitting_15 rfl rfl ?_
      obtain ⟨v_16, hv_16, h⟩ := ob_some h
      refine z_callV_r (As := [.int x1, .int x2]) S (c_X4_isFit l D X _ _ _ S.2.2.1 hv_16) (cwV 2 S.1.2.2.2.2 gX4_firstFitting_X4_isFit rfl rfl rfl hd_X4_isFit ⟨Nat.le_of_ble_eq_true rfl, Nat.le_of_ble_eq_true rfl⟩) (Nat.le_of_ble_eq_true rfl) (cM_0 X z0) rfl rfl rfl (Nat.le_of_ble_eq_true rfl) rfl dX4_firstFitting_16 ?_
      refine z_if_eq S (tgt := 24) dX4_firstFitting_19 (by decide) h (fun h => ?_) (fun h => ?_)
      · refine z_iinc S 2 [(2, .int (x2 + nI 1)), (0, .ref (X.1 0)), (1, .int x1)] dX4_firstFitting_24 rfl rfl (Nat.le_of_ble_eq_true rfl) rfl ?_
        refine z_goto S (tgt := 2) dX4_firstFitting_27 (by decide) ?_
        exact z_lv [1, 2, 0] rfl (ih _ _ h)
      · refine z_iload_n S 2 dX4_firstFitting_22 rfl rfl ?_
        exact z_iret_r S dX4_firstFitting_23 h
set_option maxHeartbeats 4000000 in
set_option maxRecDepth 100000 in
theorem c_X4_firstFitting (l : Launch) (D : va_G) (X : zE) (z0 : zV) (a0 : Int32) (hinj : zw_inj 9 X.1) {r : Int32} (h : f_X4_firstFitting z0 a0 = some r) : zMr l yX4_firstFitting wsX4_firstFitting (zrm 4 94) D 9 X (zc shM X z0) [.ref (X.1 0), .int a0] (some (.int r)) := by
  rw [f_X4_firstFitting] at h
  refine z_start_r (cc := cX4_firstFitting) (maxL := 3) (ret := (some .int)) (by decide) rfl (Nat.le_of_ble_eq_true rfl) hinj ?_
  intro p e s m below meth c S
  refine z_iconst (v := (nI 0)) S dX4_firstFitting_0 (by decide) ?_
  refine z_istore_n S [(2, .int (nI 0)), (0, .ref (X.1 0)), (1, .int a0)] dX4_firstFitting_1 rfl (Nat.le_of_ble_eq_true rfl) rfl ?_
  exact z_lv [1, 2, 0] rfl (tl_X4_firstFitting_2 S _ _ _ h)
/-! SoldLettersModel.word: a walk -/
theorem hd_X4_word : yX4_word.cls = RX4 ∧ yX4_word.cls ≠ "java/lang/invoke/MethodHandle" ∧ yX4_word.cls ≠ "java/lang/invoke/VarHandle" ∧ (parseMethodDescriptor yX4_word.desc).map (fun d => d.parameters.length) = some 2 := by decide +kernel
theorem m0_X4_word : Cond.fieldLink RX4 22 RX4 (TX4 6).2.1 (TX4 6).2.2.1 ∈ wsX4_word := by decide +kernel
theorem m1_X4_word : ∀ w ∈ u_ws RX4 TX4 12, w ∈ wsX4_word := by decide +kernel
theorem m2_X4_word : Cond.fieldLink RX4 25 RX4 (TX4 7).2.1 (TX4 7).2.2.1 ∈ wsX4_word := by decide +kernel
theorem m3_X4_word : Cond.fieldLink RX4 28 RX4 (TX4 8).2.1 (TX4 8).2.2.1 ∈ wsX4_word := by decide +kernel
set_option maxHeartbeats 4000000 in
set_option maxRecDepth 100000 in
theorem c_X4_word (l : Launch) (D : va_G) (X : zE) (z0 : zV) (a0 : Int32) (a1 : Int32) (hinj : zw_inj 9 X.1) {r : Int32} {z1 : zV} (h : f_X4_word z0 a0 a1 = some (r, z1)) : zMw l yX4_word wsX4_word (zrm 5 117) D 9 X (zc shM X z0) [.ref (X.1 0), .int a0, .int a1] (some (.int r)) (zc shM X z1) := by
  rw [f_X4_word] at h
  refine z_start_w (cc := cX4_word) (maxL := 3) (ret := (some .int)) (by decide) rfl (Nat.le_of_ble_eq_true rfl) hinj ?_
  intro p e s m below meth c S
  refine z_aload_n S 0 dX4_word_0 rfl rfl ?_
  refine z_iload_n S 1 dX4_word_1 rfl rfl ?_
  obtain ⟨v_2, z_2, hv_2, h⟩ := bd2_some h
  refine z_callV_w (As := [.int a0]) S (c_X4_isWord l D X _ _ S.2.2.1 hv_2) (cwV 1 S.1.2.2.2.2 gX4_word_X4_isWord rfl rfl rfl hd_X4_isWord ⟨Nat.le_of_ble_eq_true rfl, Nat.le_of_ble_eq_true rfl⟩) (Nat.le_of_ble_eq_true rfl) (cM_0 X z0) rfl rfl rfl (Nat.le_of_ble_eq_true rfl) rfl dX4_word_2 ?_
  refine z_if_ne S (tgt := 10) dX4_word_5 (by decide) h (fun h => ?_) (fun h => ?_)
  · refine z_iload_n S 2 dX4_word_10 rfl rfl ?_
    by_cases c0 : a1 = nI 0
    · have h := (zif h).1 c0
      refine z_tableIn S (tgt := 52) c0 dX4_word_11 (by decide) (by decide) rfl (by decide) ?_
      refine z_aload_n S 0 dX4_word_52 rfl rfl ?_
      refine z_get S (C := RX4) (T := TX4) (N := 12) (ci := 4) 6 m0_X4_word m1_X4_word (Nat.le_of_ble_eq_true rfl) (cM_0 X z_2) rfl (Nat.le_of_ble_eq_true rfl) rfl rfl dX4_word_53 ?_
      refine z_iload_n S 1 dX4_word_56 rfl rfl ?_
      refine z_iald S (Nat.le_of_ble_eq_true rfl) (cM_5 X z_2) dX4_word_57 h (fun v_57 h => ?_)
      refine z_bipush (v := (nI 7)) S dX4_word_58 (by decide) ?_
      refine z_idiv S dX4_word_60 (by decide) ?_
      exact z_iret_w S dX4_word_61 h
    have h := (zif h).2 c0
    by_cases c1 : a1 = nI 1
    · have h := (zif h).1 c1
      refine z_tableIn S (tgt := 62) c1 dX4_word_11 (by decide) (by decide) rfl (by decide) ?_
      refine z_aload_n S 0 dX4_word_62 rfl rfl ?_
      refine z_get S (C := RX4) (T := TX4) (N := 12) (ci := 4) 6 m0_X4_word m1_X4_word (Nat.le_of_ble_eq_true rfl) (cM_0 X z_2) rfl (Nat.le_of_ble_eq_true rfl) rfl rfl dX4_word_63 ?_
      refine z_iload_n S 1 dX4_word_66 rfl rfl ?_
      refine z_iald S (Nat.le_of_ble_eq_true rfl) (cM_5 X z_2) dX4_word_67 h (fun v_67 h => ?_)
      refine z_bipush (v := (nI 7)) S dX4_word_68 (by decide) ?_
      refine z_irem S dX4_word_70 (by decide) ?_
      exact z_iret_w S dX4_word_71 h
    have h := (zif h).2 c1
    by_cases c2 : a1 = nI 2
    · have h := (zif h).1 c2
      refine z_tableIn S (tgt := 72) c2 dX4_word_11 (by decide) (by decide) rfl (by decide) ?_
      refine z_aload_n S 0 dX4_word_72 rfl rfl ?_
      refine z_get S (C := RX4) (T := TX4) (N := 12) (ci := 4) 7 m2_X4_word m1_X4_word (Nat.le_of_ble_eq_true rfl) (cM_0 X z_2) rfl (Nat.le_of_ble_eq_true rfl) rfl rfl dX4_word_73 ?_
      refine z_iload_n S 1 dX4_word_76 rfl rfl ?_
      refine z_iald S (Nat.le_of_ble_eq_true rfl) (cM_6 X z_2) dX4_word_77 h (fun v_77 h => ?_)
      exact z_iret_w S dX4_word_78 h
    have h := (zif h).2 c2
    by_cases c3 : a1 = nI 3
    · have h := (zif h).1 c3
      refine z_tableIn S (tgt := 79) c3 dX4_word_11 (by decide) (by decide) rfl (by decide) ?_
      refine z_aload_n S 0 dX4_word_79 rfl rfl ?_
      refine z_get S (C := RX4) (T := TX4) (N := 12) (ci := 4) 8 m3_X4_word m1_X4_word (Nat.le_of_ble_eq_true rfl) (cM_0 X z_2) rfl (Nat.le_of_ble_eq_true rfl) rfl rfl dX4_word_80 ?_
      refine z_iload_n S 1 dX4_word_83 rfl rfl ?_
      refine z_iald S (Nat.le_of_ble_eq_true rfl) (cM_7 X z_2) dX4_word_84 h (fun v_84 h => ?_)
      refine z_bipush (v := (nI 7)) S dX4_word_85 (by decide) ?_
      refine z_icmp_ne S (tgt := 94) dX4_word_87 (by decide) h (fun h => ?_) (fun h => ?_)
      · refine z_iconst (v := (nI 0)) S dX4_word_94 (by decide) ?_
        exact z_iret_w S dX4_word_95 h
      · refine z_iconst (v := (nI 1)) S dX4_word_90 (by decide) ?_
        refine z_goto S (tgt := 95) dX4_word_91 (by decide) ?_
        exact z_iret_w S dX4_word_95 h
    have h := (zif h).2 c3
    by_cases c4 : a1 = nI 4
    · have h := (zif h).1 c4
      refine z_tableIn S (tgt := 96) c4 dX4_word_11 (by decide) (by decide) rfl (by decide) ?_
      refine z_aload_n S 0 dX4_word_96 rfl rfl ?_
      refine z_iload_n S 1 dX4_word_97 rfl rfl ?_
      obtain ⟨v_98, hv_98, h⟩ := ob_some h
      refine z_callV_r (As := [.int a0]) S (c_X4_guessedOf l D X _ _ S.2.2.1 hv_98) (cwV 1 S.1.2.2.2.2 gX4_word_X4_guessedOf rfl rfl rfl hd_X4_guessedOf ⟨Nat.le_of_ble_eq_true rfl, Nat.le_of_ble_eq_true rfl⟩) (Nat.le_of_ble_eq_true rfl) (cM_0 X z_2) rfl rfl rfl (Nat.le_of_ble_eq_true rfl) rfl dX4_word_98 ?_
      exact z_iret_w S dX4_word_101 h
    have h := (zif h).2 c4
    by_cases c5 : a1 = nI 5
    · have h := (zif h).1 c5
      refine z_tableIn S (tgt := 102) c5 dX4_word_11 (by decide) (by decide) rfl (by decide) ?_
      refine z_aload_n S 0 dX4_word_102 rfl rfl ?_
      refine z_iload_n S 1 dX4_word_103 rfl rfl ?_
      obtain ⟨v_104, hv_104, h⟩ := ob_some h
      refine z_callV_r (As := [.int a0]) S (c_X4_fitting l D X _ _ S.2.2.1 hv_104) (cwV 1 S.1.2.2.2.2 gX4_word_X4_fitting rfl rfl rfl hd_X4_fitting ⟨Nat.le_of_ble_eq_true rfl, Nat.le_of_ble_eq_true rfl⟩) (Nat.le_of_ble_eq_true rfl) (cM_0 X z_2) rfl rfl rfl (Nat.le_of_ble_eq_true rfl) rfl dX4_word_104 ?_
      exact z_iret_w S dX4_word_107 h
    have h := (zif h).2 c5
    by_cases c6 : a1 = nI 6
    · have h := (zif h).1 c6
      refine z_tableIn S (tgt := 108) c6 dX4_word_11 (by decide) (by decide) rfl (by decide) ?_
      refine z_aload_n S 0 dX4_word_108 rfl rfl ?_
      refine z_iload_n S 1 dX4_word_109 rfl rfl ?_
      obtain ⟨v_110, hv_110, h⟩ := ob_some h
      refine z_callV_r (As := [.int a0]) S (c_X4_firstFitting l D X _ _ S.2.2.1 hv_110) (cwV 1 S.1.2.2.2.2 gX4_word_X4_firstFitting rfl rfl rfl hd_X4_firstFitting ⟨Nat.le_of_ble_eq_true rfl, Nat.le_of_ble_eq_true rfl⟩) (Nat.le_of_ble_eq_true rfl) (cM_0 X z_2) rfl rfl rfl (Nat.le_of_ble_eq_true rfl) rfl dX4_word_110 ?_
      exact z_iret_w S dX4_word_113 h
    have h := (zif h).2 c6
    have e0 := lv_neT (a := 0) c0 rfl
    have e1 := lv_neT (a := 1) c1 rfl
    have e2 := lv_neT (a := 2) c2 rfl
    have e3 := lv_neT (a := 3) c3 rfl
    have e4 := lv_neT (a := 4) c4 rfl
    have e5 := lv_neT (a := 5) c5 rfl
    have e6 := lv_neT (a := 6) c6 rfl
    refine z_tableOut S (tgt := 114) dX4_word_11 (by omega) (by decide) ?_
    refine z_bipush (v := (-2)) S dX4_word_114 (by decide) ?_
    exact z_iret_w S dX4_word_116 h
  · refine z_iconst (v := (-1)) S dX4_word_8 (by decide) ?_
    exact z_iret_w S dX4_word_9 h
/-! SoldLettersModel.fits: a walk -/
theorem hd_X4_fits : yX4_fits.cls = RX4 ∧ yX4_fits.cls ≠ "java/lang/invoke/MethodHandle" ∧ yX4_fits.cls ≠ "java/lang/invoke/VarHandle" ∧ (parseMethodDescriptor yX4_fits.desc).map (fun d => d.parameters.length) = some 2 := by decide +kernel
set_option maxHeartbeats 4000000 in
set_option maxRecDepth 100000 in
theorem c_X4_fits (l : Launch) (D : va_G) (X : zE) (z0 : zV) (a0 : Int32) (a1 : Int32) (hinj : zw_inj 9 X.1) {r : Int32} {z1 : zV} (h : f_X4_fits z0 a0 a1 = some (r, z1)) : zMw l yX4_fits wsX4_fits (zrm 4 94) D 9 X (zc shM X z0) [.ref (X.1 0), .int a0, .int a1] (some (.int r)) (zc shM X z1) := by
  rw [f_X4_fits] at h
  refine z_start_w (cc := cX4_fits) (maxL := 3) (ret := (some .int)) (by decide) rfl (Nat.le_of_ble_eq_true rfl) hinj ?_
  intro p e s m below meth c S
  refine z_aload_n S 0 dX4_fits_0 rfl rfl ?_
  refine z_iload_n S 1 dX4_fits_1 rfl rfl ?_
  obtain ⟨v_2, z_2, hv_2, h⟩ := bd2_some h
  refine z_callV_w (As := [.int a0]) S (c_X4_isWord l D X _ _ S.2.2.1 hv_2) (cwV 1 S.1.2.2.2.2 gX4_fits_X4_isWord rfl rfl rfl hd_X4_isWord ⟨Nat.le_of_ble_eq_true rfl, Nat.le_of_ble_eq_true rfl⟩) (Nat.le_of_ble_eq_true rfl) (cM_0 X z0) rfl rfl rfl (Nat.le_of_ble_eq_true rfl) rfl dX4_fits_2 ?_
  refine z_if_eq S (tgt := 16) dX4_fits_5 (by decide) h (fun h => ?_) (fun h => ?_)
  · refine z_iconst (v := (-1)) S dX4_fits_16 (by decide) ?_
    exact z_iret_w S dX4_fits_17 h
  · refine z_aload_n S 0 dX4_fits_8 rfl rfl ?_
    refine z_iload_n S 2 dX4_fits_9 rfl rfl ?_
    obtain ⟨v_10, hv_10, h⟩ := ob_some h
    refine z_callV_r (As := [.int a1]) S (c_X4_isListed l D X _ _ S.2.2.1 hv_10) (cwV 1 S.1.2.2.2.2 gX4_fits_X4_isListed rfl rfl rfl hd_X4_isListed ⟨Nat.le_of_ble_eq_true rfl, Nat.le_of_ble_eq_true rfl⟩) (Nat.le_of_ble_eq_true rfl) (cM_0 X z_2) rfl rfl rfl (Nat.le_of_ble_eq_true rfl) rfl dX4_fits_10 ?_
    refine z_if_ne S (tgt := 18) dX4_fits_13 (by decide) h (fun h => ?_) (fun h => ?_)
    · refine z_aload_n S 0 dX4_fits_18 rfl rfl ?_
      refine z_iload_n S 1 dX4_fits_19 rfl rfl ?_
      refine z_iload_n S 2 dX4_fits_20 rfl rfl ?_
      obtain ⟨v_21, hv_21, h⟩ := ob_some h
      refine z_callV_r (As := [.int a0, .int a1]) S (c_X4_isFit l D X _ _ _ S.2.2.1 hv_21) (cwV 2 S.1.2.2.2.2 gX4_fits_X4_isFit rfl rfl rfl hd_X4_isFit ⟨Nat.le_of_ble_eq_true rfl, Nat.le_of_ble_eq_true rfl⟩) (Nat.le_of_ble_eq_true rfl) (cM_0 X z_2) rfl rfl rfl (Nat.le_of_ble_eq_true rfl) rfl dX4_fits_21 ?_
      refine z_if_eq S (tgt := 31) dX4_fits_24 (by decide) h (fun h => ?_) (fun h => ?_)
      · refine z_iconst (v := (nI 0)) S dX4_fits_31 (by decide) ?_
        exact z_iret_w S dX4_fits_32 h
      · refine z_iconst (v := (nI 1)) S dX4_fits_27 (by decide) ?_
        refine z_goto S (tgt := 32) dX4_fits_28 (by decide) ?_
        exact z_iret_w S dX4_fits_32 h
    · refine z_iconst (v := (-1)) S dX4_fits_16 (by decide) ?_
      exact z_iret_w S dX4_fits_17 h
