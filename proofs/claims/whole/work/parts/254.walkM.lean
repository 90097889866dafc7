/-! SoldLettersModel.addWords: a walk -/
theorem hd_X4_addWords : yX4_addWords.cls = RX4 ∧ yX4_addWords.cls ≠ "java/lang/invoke/MethodHandle" ∧ yX4_addWords.cls ≠ "java/lang/invoke/VarHandle" ∧ (parseMethodDescriptor yX4_addWords.desc).map (fun d => d.parameters.length) = some 0 := by decide +kernel
theorem m0_X4_addWords : Cond.fieldLink RX4 7 RX4 (TX4 0).2.1 (TX4 0).2.2.1 ∈ wsX4_addWords := by decide +kernel
theorem m1_X4_addWords : ∀ w ∈ u_ws RX4 TX4 12, w ∈ wsX4_addWords := by decide +kernel
theorem m2_X4_addWords : Cond.fieldLink RX4 13 RX4 (TX4 1).2.1 (TX4 1).2.2.1 ∈ wsX4_addWords := by decide +kernel
set_option maxHeartbeats 4000000 in
set_option maxRecDepth 100000 in
theorem tl_X4_addWords_29 {l : Launch} {D : va_G} {X : zE} {p : Program} {e : Env} {s : State} {m : MethodId} {args : Array Value} {below : List Frame} {meth : Method} {c : Code} (S : zS p m meth c cX4_addWords 3 (some .int) s args wsX4_addWords RX4 D 9 X) {r : Int32} {z1 : zV} : ∀ (n_ : Nat), ∀ (z0 : zV) (x2 : Int32), l_X4_addWords_29 n_ z0 x2 = some (r, z1) → Zj true D 9 X p l e (zrm 3 72) s m args below meth c (MQ below (zQw D 9 X (zc shM X z1) (some (.int r))) args s 0 0 (zw_A 9 X.1)) 3 29 [(0, .ref (X.1 0)), (2, .int x2)] [] (zc shM X z0) := by
  intro n_
  induction n_ with
  | zero =>
    intro z0 x2 h
    cases h
  | succ n_ ih =>
    intro z0 x2 h
    rw [l_X4_addWords_29] at h
    refine z_iload_n S 1 dX4_addWords_29 rfl rfl ?_
    refine z_sipush (v := (nI 205)) S dX4_addWords_30 (by decide) ?_
    refine z_icmp_ge S (tgt := 54) dX4_addWords_33 (by decide) h (fun h => ?_) (fun h => ?_)
    · refine z_bipush (v := (-3)) S dX4_addWords_54 (by decide) ?_
      exact z_iret_w S dX4_addWords_56 h
    · refine z_aload_n S 0 dX4_addWords_36 rfl rfl ?_
      refine z_get S (C := RX4) (T := TX4) (N := 12) (ci := 4) 0 m0_X4_addWords m1_X4_addWords (Nat.le_of_ble_eq_true rfl) (cM_0 X z0) rfl (Nat.le_of_ble_eq_true rfl) rfl rfl dX4_addWords_37 ?_
      refine z_iload_n S 1 dX4_addWords_40 rfl rfl ?_
      refine z_aload_n S 0 dX4_addWords_41 rfl rfl ?_
      refine z_get S (C := RX4) (T := TX4) (N := 12) (ci := 4) 1 m2_X4_addWords m1_X4_addWords (Nat.le_of_ble_eq_true rfl) (cM_0 X z0) rfl (Nat.le_of_ble_eq_true rfl) rfl rfl dX4_addWords_42 ?_
      refine z_iload_n S 1 dX4_addWords_45 rfl rfl ?_
      refine z_iald S (Nat.le_of_ble_eq_true rfl) (cM_2 X z0) dX4_addWords_46 h (fun v_46 h => ?_)
      refine z_iast S (Nat.le_of_ble_eq_true rfl) (fun _ => rfl) dX4_addWords_47 h (fun z_47 h => ?_)
      refine z_iinc S 1 [(2, .int (x2 + nI 1)), (0, .ref (X.1 0))] dX4_addWords_48 rfl rfl (Nat.le_of_ble_eq_true rfl) rfl ?_
      refine z_goto S (tgt := 29) dX4_addWords_51 (by decide) ?_
      exact z_lv [1, 0] rfl (ih _ _ h)
set_option maxHeartbeats 4000000 in
set_option maxRecDepth 100000 in
theorem c_X4_addWords (l : Launch) (D : va_G) (X : zE) (z0 : zV) (hinj : zw_inj 9 X.1) {r : Int32} {z1 : zV} (h : f_X4_addWords z0 = some (r, z1)) : zMw l yX4_addWords wsX4_addWords (zrm 3 72) D 9 X (zc shM X z0) [.ref (X.1 0)] (some (.int r)) (zc shM X z1) := by
  rw [f_X4_addWords] at h
  refine z_start_w (cc := cX4_addWords) (maxL := 3) (ret := (some .int)) (by decide) rfl (Nat.le_of_ble_eq_true rfl) hinj ?_
  intro p e s m below meth c S
  refine z_aload_n S 0 dX4_addWords_0 rfl rfl ?_
  obtain ⟨v_1, hv_1, h⟩ := ob_some h
  refine z_callV_r (As := []) S (c_X4_faultOfWords l D X _ S.2.2.1 hv_1) (cwV 0 S.1.2.2.2.2 gX4_addWords_X4_faultOfWords rfl rfl rfl hd_X4_faultOfWords ⟨Nat.le_of_ble_eq_true rfl, Nat.le_of_ble_eq_true rfl⟩) (Nat.le_of_ble_eq_true rfl) (cM_0 X z0) rfl rfl rfl (Nat.le_of_ble_eq_true rfl) rfl dX4_addWords_1 ?_
  refine z_istore_n S [(1, .int v_1), (0, .ref (X.1 0))] dX4_addWords_4 rfl (Nat.le_of_ble_eq_true rfl) rfl ?_
  refine z_iload_n S 0 dX4_addWords_5 rfl rfl ?_
  refine z_bipush (v := (-5)) S dX4_addWords_6 (by decide) ?_
  refine z_icmp_eq S (tgt := 16) dX4_addWords_8 (by decide) h (fun h => ?_) (fun h => ?_)
  · refine z_aload_n S 1 dX4_addWords_16 rfl rfl ?_
    obtain ⟨z_17, hv_17, h⟩ := ob_some h
    refine z_callV_w (As := []) S (c_X4_remember l D X _ S.2.2.1 hv_17) (cwV 0 S.1.2.2.2.2 gX4_addWords_X4_remember rfl rfl rfl hd_X4_remember ⟨Nat.le_of_ble_eq_true rfl, Nat.le_of_ble_eq_true rfl⟩) (Nat.le_of_ble_eq_true rfl) (cM_0 X z0) rfl rfl rfl (Nat.le_of_ble_eq_true rfl) rfl dX4_addWords_17 ?_
    refine z_aload_n S 1 dX4_addWords_20 rfl rfl ?_
    obtain ⟨v_21, z_21, hv_21, h⟩ := bd2_some h
    refine z_callV_w (As := []) S (c_X4_addsAll l D X _ S.2.2.1 hv_21) (cwV 0 S.1.2.2.2.2 gX4_addWords_X4_addsAll rfl rfl rfl hd_X4_addsAll ⟨Nat.le_of_ble_eq_true rfl, Nat.le_of_ble_eq_true rfl⟩) (Nat.le_of_ble_eq_true rfl) (cM_0 X z_17) rfl rfl rfl (Nat.le_of_ble_eq_true rfl) rfl dX4_addWords_21 ?_
    refine z_if_ne S (tgt := 57) dX4_addWords_24 (by decide) h (fun h => ?_) (fun h => ?_)
    · refine z_aload_n S 1 dX4_addWords_57 rfl rfl ?_
      refine z_get S (C := RX4) (T := TX4) (N := 12) (ci := 4) 0 m0_X4_addWords m1_X4_addWords (Nat.le_of_ble_eq_true rfl) (cM_0 X z_21) rfl (Nat.le_of_ble_eq_true rfl) rfl rfl dX4_addWords_58 ?_
      refine z_bipush (v := (nI 106)) S dX4_addWords_61 (by decide) ?_
      refine z_iald S (Nat.le_of_ble_eq_true rfl) (cM_1 X z_21) dX4_addWords_63 h (fun v_63 h => ?_)
      refine z_aload_n S 1 dX4_addWords_64 rfl rfl ?_
      refine z_get S (C := RX4) (T := TX4) (N := 12) (ci := 4) 1 m2_X4_addWords m1_X4_addWords (Nat.le_of_ble_eq_true rfl) (cM_0 X z_21) rfl (Nat.le_of_ble_eq_true rfl) rfl rfl dX4_addWords_65 ?_
      refine z_bipush (v := (nI 106)) S dX4_addWords_68 (by decide) ?_
      refine z_iald S (Nat.le_of_ble_eq_true rfl) (cM_2 X z_21) dX4_addWords_70 h (fun v_70 h => ?_)
      refine z_isub S dX4_addWords_71 ?_
      refine z_istore_n S [(2, .int (v_63 - v_70)), (1, .int v_1), (0, .ref (X.1 0))] dX4_addWords_72 rfl (Nat.le_of_ble_eq_true rfl) rfl ?_
      refine z_iload_n S 0 dX4_addWords_73 rfl rfl ?_
      refine z_if_ne S (tgt := 82) dX4_addWords_74 (by decide) h (fun h => ?_) (fun h => ?_)
      · refine z_aload_n S 2 dX4_addWords_82 rfl rfl ?_
        refine z_iload_n S 0 dX4_addWords_83 rfl rfl ?_
        obtain ⟨v_84, z_84, hv_84, h⟩ := bd2_some h
        refine z_callV_w (As := [.int (v_63 - v_70)]) S (c_X4_acted l D X _ _ S.2.2.1 hv_84) (cwV 1 S.1.2.2.2.2 gX4_addWords_X4_acted rfl rfl rfl hd_X4_acted ⟨Nat.le_of_ble_eq_true rfl, Nat.le_of_ble_eq_true rfl⟩) (Nat.le_of_ble_eq_true rfl) (cM_0 X z_21) rfl rfl rfl (Nat.le_of_ble_eq_true rfl) rfl dX4_addWords_84 ?_
        exact z_iret_w S dX4_addWords_87 h
      · refine z_bipush (v := (-5)) S dX4_addWords_77 (by decide) ?_
        refine z_goto S (tgt := 87) dX4_addWords_79 (by decide) ?_
        exact z_iret_w S dX4_addWords_87 h
    · refine z_iconst (v := (nI 0)) S dX4_addWords_27 (by decide) ?_
      refine z_istore_n S [(2, .int (nI 0)), (1, .int v_1), (0, .ref (X.1 0))] dX4_addWords_28 rfl (Nat.le_of_ble_eq_true rfl) rfl ?_
      exact z_lv [2, 0] rfl (tl_X4_addWords_29 S _ _ _ h)
  · refine z_bipush (v := (-100)) S dX4_addWords_11 (by decide) ?_
    refine z_iload_n S 0 dX4_addWords_13 rfl rfl ?_
    refine z_isub S dX4_addWords_14 ?_
    exact z_iret_w S dX4_addWords_15 h
/-! SoldLettersModel.dropWord: a walk -/
theorem hd_X4_dropWord : yX4_dropWord.cls = RX4 ∧ yX4_dropWord.cls ≠ "java/lang/invoke/MethodHandle" ∧ yX4_dropWord.cls ≠ "java/lang/invoke/VarHandle" ∧ (parseMethodDescriptor yX4_dropWord.desc).map (fun d => d.parameters.length) = some 1 := by decide +kernel
theorem m0_X4_dropWord : Cond.fieldLink RX4 7 RX4 (TX4 0).2.1 (TX4 0).2.2.1 ∈ wsX4_dropWord := by decide +kernel
theorem m1_X4_dropWord : ∀ w ∈ u_ws RX4 TX4 12, w ∈ wsX4_dropWord := by decide +kernel
set_option maxHeartbeats 4000000 in
set_option maxRecDepth 100000 in
theorem tl_X4_dropWord_33 {l : Launch} {D : va_G} {X : zE} {p : Program} {e : Env} {s : State} {m : MethodId} {args : Array Value} {below : List Frame} {meth : Method} {c : Code} (S : zS p m meth c cX4_dropWord 3 (some .int) s args wsX4_dropWord RX4 D 9 X) {r : Int32} {z1 : zV} : ∀ (n_ : Nat), ∀ (z0 : zV) (x2 : Int32), l_X4_dropWord_33 n_ z0 x2 = some (r, z1) → Zj true D 9 X p l e (zrm 2 46) s m args below meth c (MQ below (zQw D 9 X (zc shM X z1) (some (.int r))) args s 0 0 (zw_A 9 X.1)) 3 33 [(0, .ref (X.1 0)), (2, .int x2)] [] (zc shM X z0) := by
  intro n_
  induction n_ with
  | zero =>
    intro z0 x2 h
    cases h
  | succ n_ ih =>
    intro z0 x2 h
    rw [l_X4_dropWord_33] at h
    refine z_iload_n S 1 dX4_dropWord_33 rfl rfl ?_
    refine z_bipush (v := (nI 109)) S dX4_dropWord_34 (by decide) ?_
    refine z_bipush (v := (nI 8)) S dX4_dropWord_36 (by decide) ?_
    refine z_aload_n S 0 dX4_dropWord_38 rfl rfl ?_
    refine z_get S (C := RX4) (T := TX4) (N := 12) (ci := 4) 0 m0_X4_dropWord m1_X4_dropWord (Nat.le_of_ble_eq_true rfl) (cM_0 X z0) rfl (Nat.le_of_ble_eq_true rfl) rfl rfl dX4_dropWord_39 ?_
    refine z_bipush (v := (nI 106)) S dX4_dropWord_42 (by decide) ?_
    refine z_iald S (Nat.le_of_ble_eq_true rfl) (cM_1 X z0) dX4_dropWord_44 h (fun v_44 h => ?_)
    refine z_imul S dX4_dropWord_45 ?_
    refine z_iadd S dX4_dropWord_46 ?_
    refine z_icmp_ge S (tgt := 71) dX4_dropWord_47 (by decide) h (fun h => ?_) (fun h => ?_)
    · refine z_aload_n S 0 dX4_dropWord_71 rfl rfl ?_
      refine z_aload_n S 0 dX4_dropWord_72 rfl rfl ?_
      refine z_get S (C := RX4) (T := TX4) (N := 12) (ci := 4) 0 m0_X4_dropWord m1_X4_dropWord (Nat.le_of_ble_eq_true rfl) (cM_0 X z0) rfl (Nat.le_of_ble_eq_true rfl) rfl rfl dX4_dropWord_73 ?_
      refine z_bipush (v := (nI 106)) S dX4_dropWord_76 (by decide) ?_
      refine z_iald S (Nat.le_of_ble_eq_true rfl) (cM_1 X z0) dX4_dropWord_78 h (fun v_78 h => ?_)
      obtain ⟨v_79, z_79, hv_79, h⟩ := bd2_some h
      refine z_callV_w (As := [.int v_78]) S (c_X4_acted l D X _ _ S.2.2.1 hv_79) (cwV 1 S.1.2.2.2.2 gX4_dropWord_X4_acted rfl rfl rfl hd_X4_acted ⟨Nat.le_of_ble_eq_true rfl, Nat.le_of_ble_eq_true rfl⟩) (Nat.le_of_ble_eq_true rfl) (cM_0 X z0) rfl rfl rfl (Nat.le_of_ble_eq_true rfl) rfl dX4_dropWord_79 ?_
      exact z_iret_w S dX4_dropWord_82 h
    · refine z_aload_n S 0 dX4_dropWord_50 rfl rfl ?_
      refine z_get S (C := RX4) (T := TX4) (N := 12) (ci := 4) 0 m0_X4_dropWord m1_X4_dropWord (Nat.le_of_ble_eq_true rfl) (cM_0 X z0) rfl (Nat.le_of_ble_eq_true rfl) rfl rfl dX4_dropWord_51 ?_
      refine z_iload_n S 1 dX4_dropWord_54 rfl rfl ?_
      refine z_aload_n S 0 dX4_dropWord_55 rfl rfl ?_
      refine z_get S (C := RX4) (T := TX4) (N := 12) (ci := 4) 0 m0_X4_dropWord m1_X4_dropWord (Nat.le_of_ble_eq_true rfl) (cM_0 X z0) rfl (Nat.le_of_ble_eq_true rfl) rfl rfl dX4_dropWord_56 ?_
      refine z_iload_n S 1 dX4_dropWord_59 rfl rfl ?_
      refine z_bipush (v := (nI 8)) S dX4_dropWord_60 (by decide) ?_
      refine z_iadd S dX4_dropWord_62 ?_
      refine z_iald S (Nat.le_of_ble_eq_true rfl) (cM_1 X z0) dX4_dropWord_63 h (fun v_63 h => ?_)
      refine z_iast S (Nat.le_of_ble_eq_true rfl) (fun _ => rfl) dX4_dropWord_64 h (fun z_64 h => ?_)
      refine z_iinc S 1 [(2, .int (x2 + nI 1)), (0, .ref (X.1 0))] dX4_dropWord_65 rfl rfl (Nat.le_of_ble_eq_true rfl) rfl ?_
      refine z_goto S (tgt := 33) dX4_dropWord_68 (by decide) ?_
      exact z_lv [1, 0] rfl (ih _ _ h)
set_option maxHeartbeats 4000000 in
set_option maxRecDepth 100000 in
theorem c_X4_dropWord (l : Launch) (D : va_G) (X : zE) (z0 : zV) (a0 : Int32) (hinj : zw_inj 9 X.1) {r : Int32} {z1 : zV} (h : f_X4_dropWord z0 a0 = some (r, z1)) : zMw l yX4_dropWord wsX4_dropWord (zrm 2 46) D 9 X (zc shM X z0) [.ref (X.1 0), .int a0] (some (.int r)) (zc shM X z1) := by
  rw [f_X4_dropWord] at h
  refine z_start_w (cc := cX4_dropWord) (maxL := 3) (ret := (some .int)) (by decide) rfl (Nat.le_of_ble_eq_true rfl) hinj ?_
  intro p e s m below meth c S
  refine z_aload_n S 0 dX4_dropWord_0 rfl rfl ?_
  refine z_iload_n S 1 dX4_dropWord_1 rfl rfl ?_
  obtain ⟨v_2, hv_2, h⟩ := ob_some h
  refine z_callV_r (As := [.int a0]) S (c_X4_isListed l D X _ _ S.2.2.1 hv_2) (cwV 1 S.1.2.2.2.2 gX4_dropWord_X4_isListed rfl rfl rfl hd_X4_isListed ⟨Nat.le_of_ble_eq_true rfl, Nat.le_of_ble_eq_true rfl⟩) (Nat.le_of_ble_eq_true rfl) (cM_0 X z0) rfl rfl rfl (Nat.le_of_ble_eq_true rfl) rfl dX4_dropWord_2 ?_
  refine z_if_ne S (tgt := 10) dX4_dropWord_5 (by decide) h (fun h => ?_) (fun h => ?_)
  · refine z_aload_n S 0 dX4_dropWord_10 rfl rfl ?_
    obtain ⟨z_11, hv_11, h⟩ := ob_some h
    refine z_callV_w (As := []) S (c_X4_remember l D X _ S.2.2.1 hv_11) (cwV 0 S.1.2.2.2.2 gX4_dropWord_X4_remember rfl rfl rfl hd_X4_remember ⟨Nat.le_of_ble_eq_true rfl, Nat.le_of_ble_eq_true rfl⟩) (Nat.le_of_ble_eq_true rfl) (cM_0 X z0) rfl rfl rfl (Nat.le_of_ble_eq_true rfl) rfl dX4_dropWord_11 ?_
    refine z_aload_n S 0 dX4_dropWord_14 rfl rfl ?_
    refine z_get S (C := RX4) (T := TX4) (N := 12) (ci := 4) 0 m0_X4_dropWord m1_X4_dropWord (Nat.le_of_ble_eq_true rfl) (cM_0 X z_11) rfl (Nat.le_of_ble_eq_true rfl) rfl rfl dX4_dropWord_15 ?_
    refine z_bipush (v := (nI 106)) S dX4_dropWord_18 (by decide) ?_
    refine z_dup2 S dX4_dropWord_20 rfl rfl ?_
    refine z_iald S (Nat.le_of_ble_eq_true rfl) (cM_1 X z_11) dX4_dropWord_21 h (fun v_21 h => ?_)
    refine z_iconst (v := (nI 1)) S dX4_dropWord_22 (by decide) ?_
    refine z_isub S dX4_dropWord_23 ?_
    refine z_iast S (Nat.le_of_ble_eq_true rfl) (fun _ => rfl) dX4_dropWord_24 h (fun z_24 h => ?_)
    refine z_bipush (v := (nI 109)) S dX4_dropWord_25 (by decide) ?_
    refine z_bipush (v := (nI 8)) S dX4_dropWord_27 (by decide) ?_
    refine z_iload_n S 1 dX4_dropWord_29 rfl rfl ?_
    refine z_imul S dX4_dropWord_30 ?_
    refine z_iadd S dX4_dropWord_31 ?_
    refine z_istore_n S [(2, .int ((nI 109) + ((nI 8) * a0))), (0, .ref (X.1 0)), (1, .int a0)] dX4_dropWord_32 rfl (Nat.le_of_ble_eq_true rfl) rfl ?_
    exact z_lv [1, 0] rfl (tl_X4_dropWord_33 S _ _ _ h)
  · refine z_iconst (v := (-1)) S dX4_dropWord_8 (by decide) ?_
    exact z_iret_w S dX4_dropWord_9 h
/-! SoldLettersModel.guessedCells: a walk -/
theorem hd_X4_guessedCells : yX4_guessedCells.cls = RX4 ∧ yX4_guessedCells.cls ≠ "java/lang/invoke/MethodHandle" ∧ yX4_guessedCells.cls ≠ "java/lang/invoke/VarHandle" ∧ (parseMethodDescriptor yX4_guessedCells.desc).map (fun d => d.parameters.length) = some 0 := by decide +kernel
set_option maxHeartbeats 4000000 in
set_option maxRecDepth 100000 in
theorem tl_X4_guessedCells_4 {l : Launch} {D : va_G} {X : zE} {p : Program} {e : Env} {s : State} {m : MethodId} {args : Array Value} {below : List Frame} {meth : Method} {c : Code} (S : zS p m meth c cX4_guessedCells 3 (some .int) s args wsX4_guessedCells RX4 D 9 X) {z0 : zV} {r : Int32} : ∀ (n_ : Nat), ∀ (x1 : Int32) (x2 : Int32), l_X4_guessedCells_4 z0 n_ x1 x2 = some r → Zj false D 9 X p l e (zrm 3 63) s m args below meth c (MQ below (zQr (some (.int r))) args s 0 0 (fun _ => False)) 3 4 [(0, .ref (X.1 0)), (1, .int x1), (2, .int x2)] [] (zc shM X z0) := by
  intro n_
  induction n_ with
  | zero =>
    intro x1 x2 h
    cases h
  | succ n_ ih =>
    intro x1 x2 h
    rw [l_X4_guessedCells_4] at h
    refine z_iload_n S 2 dX4_guessedCells_4 rfl rfl ?_
    refine z_bipush (v := (nI 49)) S dX4_guessedCells_5 (by decide) ?_
    refine z_icmp_ge S (tgt := 33) dX4_guessedCells_7 (by decide) h (fun h => ?_) (fun h => ?_)
    · refine z_iload_n S 1 dX4_guessedCells_33 rfl rfl ?_
      exact z_iret_r S dX4_guessedCells_34 h
    · refine z_iload_n S 1 dX4_guessedCells_10 rfl rfl ?_
      refine z_aload_n S 0 dX4_guessedCells_11 rfl rfl ?_
      refine z_iload_n S 2 dX4_guessedCells_12 rfl rfl ?_
      obtain ⟨v_13, hv_13, h⟩ := ob_some h
      refine z_callV_r (As := [.int x2]) S (c_X4_guessAt l D X _ _ S.2.2.1 hv_13) (cwV 1 S.1.2.2.2.2 gX4_guessedCells_X4_guessAt rfl rfl rfl hd_X4_guessAt ⟨Nat.le_of_ble_eq_true rfl, Nat.le_of_ble_eq_true rfl⟩) (Nat.le_of_ble_eq_true rfl) (cM_0 X z0) rfl rfl rfl (Nat.le_of_ble_eq_true rfl) rfl dX4_guessedCells_13 ?_
      refine z_iconst (v := (-1)) S dX4_guessedCells_16 (by decide) ?_
      refine z_icmp_eq S (tgt := 24) dX4_guessedCells_17 (by decide) h (fun h => ?_) (fun h => ?_)
      · refine z_iconst (v := (nI 0)) S dX4_guessedCells_24 (by decide) ?_
        refine z_iadd S dX4_guessedCells_25 ?_
        refine z_istore_n S [(1, .int (x1 + (nI 0))), (0, .ref (X.1 0)), (2, .int x2)] dX4_guessedCells_26 rfl (Nat.le_of_ble_eq_true rfl) rfl ?_
        refine z_iinc S 2 [(2, .int (x2 + nI 1)), (1, .int (x1 + (nI 0))), (0, .ref (X.1 0))] dX4_guessedCells_27 rfl rfl (Nat.le_of_ble_eq_true rfl) rfl ?_
        refine z_goto S (tgt := 4) dX4_guessedCells_30 (by decide) ?_
        exact z_lv [2, 1, 0] rfl (ih _ _ h)
      · refine z_iconst (v := (nI 1)) S dX4_guessedCells_20 (by decide) ?_
        refine z_goto S (tgt := 25) dX4_guessedCells_21 (by decide) ?_
        refine z_iadd S dX4_guessedCells_25 ?_
        refine z_istore_n S [(1, .int (x1 + (nI 1))), (0, .ref (X.1 0)), (2, .int x2)] dX4_guessedCells_26 rfl (Nat.le_of_ble_eq_true rfl) rfl ?_
        refine z_iinc S 2 [(2, .int (x2 + nI 1)), (1, .int (x1 + (nI 1))), (0, .ref (X.1 0))] dX4_guessedCells_27 rfl rfl (Nat.le_of_ble_eq_true rfl) rfl ?_
        refine z_goto S (tgt := 4) dX4_guessedCells_30 (by decide) ?_
        exact z_lv [2, 1, 0] rfl (ih _ _ h)
set_option maxHeartbeats 4000000 in
set_option maxRecDepth 100000 in
theorem c_X4_guessedCells (l : Launch) (D : va_G) (X : zE) (z0 : zV) (hinj : zw_inj 9 X.1) {r : Int32} (h : f_X4_guessedCells z0 = some r) : zMr l yX4_guessedCells wsX4_guessedCells (zrm 3 63) D 9 X (zc shM X z0) [.ref (X.1 0)] (some (.int r)) := by
  rw [f_X4_guessedCells] at h
  refine z_start_r (cc := cX4_guessedCells) (maxL := 3) (ret := (some .int)) (by decide) rfl (Nat.le_of_ble_eq_true rfl) hinj ?_
  intro p e s m below meth c S
  refine z_iconst (v := (nI 0)) S dX4_guessedCells_0 (by decide) ?_
  refine z_istore_n S [(1, .int (nI 0)), (0, .ref (X.1 0))] dX4_guessedCells_1 rfl (Nat.le_of_ble_eq_true rfl) rfl ?_
  refine z_iconst (v := (nI 0)) S dX4_guessedCells_2 (by decide) ?_
  refine z_istore_n S [(2, .int (nI 0)), (1, .int (nI 0)), (0, .ref (X.1 0))] dX4_guessedCells_3 rfl (Nat.le_of_ble_eq_true rfl) rfl ?_
  exact z_lv [2, 1, 0] rfl (tl_X4_guessedCells_4 S _ _ _ h)
/-! SoldLettersModel.guess: a walk -/
theorem hd_X4_guess : yX4_guess.cls = RX4 ∧ yX4_guess.cls ≠ "java/lang/invoke/MethodHandle" ∧ yX4_guess.cls ≠ "java/lang/invoke/VarHandle" ∧ (parseMethodDescriptor yX4_guess.desc).map (fun d => d.parameters.length) = some 2 := by decide +kernel
theorem m0_X4_guess : Cond.fieldLink RX4 7 RX4 (TX4 0).2.1 (TX4 0).2.2.1 ∈ wsX4_guess := by decide +kernel
theorem m1_X4_guess : ∀ w ∈ u_ws RX4 TX4 12, w ∈ wsX4_guess := by decide +kernel
theorem m2_X4_guess : Jvm.Cond.constantLong RX4 91 97 ∈ wsX4_guess := by decide +kernel
theorem m3_X4_guess : Jvm.Cond.constantLong RX4 93 122 ∈ wsX4_guess := by decide +kernel
set_option maxHeartbeats 4000000 in
set_option maxRecDepth 100000 in
theorem tj_X4_guess_77 {l : Launch} {D : va_G} {X : zE} {p : Program} {e : Env} {s : State} {m : MethodId} {args : Array Value} {below : List Frame} {meth : Method} {c : Code} (S : zS p m meth c cX4_guess 4 (some .int) s args wsX4_guess RX4 D 9 X) {r : Int32} {z1 : zV} : ∀ (z0 : zV) (x1 : Int32) (x3 : Int32), j_X4_guess_77 z0 x1 x3 = some (r, z1) → Zj true D 9 X p l e (zrm 4 85) s m args below meth c (MQ below (zQw D 9 X (zc shM X z1) (some (.int r))) args s 0 0 (zw_A 9 X.1)) 4 77 [(0, .ref (X.1 0)), (1, .int x1), (3, .int x3)] [] (zc shM X z0) := by
  intro z0 x1 x3 h
  rw [j_X4_guess_77] at h
  refine z_aload_n S 0 dX4_guess_77 rfl rfl ?_
  refine z_get S (C := RX4) (T := TX4) (N := 12) (ci := 4) 0 m0_X4_guess m1_X4_guess (Nat.le_of_ble_eq_true rfl) (cM_0 X z0) rfl (Nat.le_of_ble_eq_true rfl) rfl rfl dX4_guess_78 ?_
  refine z_bipush (v := (nI 51)) S dX4_guess_81 (by decide) ?_
  refine z_iload_n S 1 dX4_guess_83 rfl rfl ?_
  refine z_iadd S dX4_guess_84 ?_
  refine z_iald S (Nat.le_of_ble_eq_true rfl) (cM_1 X z0) dX4_guess_85 h (fun v_85 h => ?_)
  refine z_iload_n S 2 dX4_guess_86 rfl rfl ?_
  refine z_icmp_ne S (tgt := 93) dX4_guess_87 (by decide) h (fun h => ?_) (fun h => ?_)
  · refine z_aload_n S 0 dX4_guess_93 rfl rfl ?_
    obtain ⟨z_94, hv_94, h⟩ := ob_some h
    refine z_callV_w (As := []) S (c_X4_remember l D X _ S.2.2.1 hv_94) (cwV 0 S.1.2.2.2.2 gX4_guess_X4_remember rfl rfl rfl hd_X4_remember ⟨Nat.le_of_ble_eq_true rfl, Nat.le_of_ble_eq_true rfl⟩) (Nat.le_of_ble_eq_true rfl) (cM_0 X z0) rfl rfl rfl (Nat.le_of_ble_eq_true rfl) rfl dX4_guess_94 ?_
    refine z_aload_n S 0 dX4_guess_97 rfl rfl ?_
    refine z_get S (C := RX4) (T := TX4) (N := 12) (ci := 4) 0 m0_X4_guess m1_X4_guess (Nat.le_of_ble_eq_true rfl) (cM_0 X z_94) rfl (Nat.le_of_ble_eq_true rfl) rfl rfl dX4_guess_98 ?_
    refine z_bipush (v := (nI 51)) S dX4_guess_101 (by decide) ?_
    refine z_iload_n S 1 dX4_guess_103 rfl rfl ?_
    refine z_iadd S dX4_guess_104 ?_
    refine z_iload_n S 2 dX4_guess_105 rfl rfl ?_
    refine z_iast S (Nat.le_of_ble_eq_true rfl) (fun _ => rfl) dX4_guess_106 h (fun z_106 h => ?_)
    refine z_aload_n S 0 dX4_guess_107 rfl rfl ?_
    refine z_aload_n S 0 dX4_guess_108 rfl rfl ?_
    obtain ⟨v_109, hv_109, h⟩ := ob_some h
    refine z_callV_r (As := []) S (c_X4_guessedCells l D X _ S.2.2.1 hv_109) (cwV 0 S.1.2.2.2.2 gX4_guess_X4_guessedCells rfl rfl rfl hd_X4_guessedCells ⟨Nat.le_of_ble_eq_true rfl, Nat.le_of_ble_eq_true rfl⟩) (Nat.le_of_ble_eq_true rfl) (cM_0 X z_106) rfl rfl rfl (Nat.le_of_ble_eq_true rfl) rfl dX4_guess_109 ?_
    obtain ⟨v_112, z_112, hv_112, h⟩ := bd2_some h
    refine z_callV_w (As := [.int v_109]) S (c_X4_acted l D X _ _ S.2.2.1 hv_112) (cwV 1 S.1.2.2.2.2 gX4_guess_X4_acted rfl rfl rfl hd_X4_acted ⟨Nat.le_of_ble_eq_true rfl, Nat.le_of_ble_eq_true rfl⟩) (Nat.le_of_ble_eq_true rfl) (cM_0 X z_106) rfl rfl rfl (Nat.le_of_ble_eq_true rfl) rfl dX4_guess_112 ?_
    exact z_iret_w S dX4_guess_115 h
  · refine z_bipush (v := (-5)) S dX4_guess_90 (by decide) ?_
    exact z_iret_w S dX4_guess_92 h
set_option maxHeartbeats 4000000 in
set_option maxRecDepth 100000 in
theorem tj_X4_guess_46 {l : Launch} {D : va_G} {X : zE} {p : Program} {e : Env} {s : State} {m : MethodId} {args : Array Value} {below : List Frame} {meth : Method} {c : Code} (S : zS p m meth c cX4_guess 4 (some .int) s args wsX4_guess RX4 D 9 X) {r : Int32} {z1 : zV} : ∀ (z0 : zV) (x1 : Int32) (y0 : Int32), j_X4_guess_46 z0 x1 y0 = some (r, z1) → Zj true D 9 X p l e (zrm 4 85) s m args below meth c (MQ below (zQw D 9 X (zc shM X z1) (some (.int r))) args s 0 0 (zw_A 9 X.1)) 4 46 [(0, .ref (X.1 0)), (1, .int x1)] [.int y0] (zc shM X z0) := by
  intro z0 x1 y0 h
  rw [j_X4_guess_46] at h
  refine z_istore_n S [(3, .int y0), (0, .ref (X.1 0)), (1, .int x1)] dX4_guess_46 rfl (Nat.le_of_ble_eq_true rfl) rfl ?_
  refine z_aload_n S 1 dX4_guess_47 rfl rfl ?_
  refine z_get S (C := RX4) (T := TX4) (N := 12) (ci := 4) 0 m0_X4_guess m1_X4_guess (Nat.le_of_ble_eq_true rfl) (cM_0 X z0) rfl (Nat.le_of_ble_eq_true rfl) rfl rfl dX4_guess_48 ?_
  refine z_bipush (v := (nI 78)) S dX4_guess_51 (by decide) ?_
  refine z_iload_n S 2 dX4_guess_53 rfl rfl ?_
  refine z_iadd S dX4_guess_54 ?_
  refine z_iald S (Nat.le_of_ble_eq_true rfl) (cM_1 X z0) dX4_guess_55 h (fun v_55 h => ?_)
  refine z_iconst (v := (nI 1)) S dX4_guess_56 (by decide) ?_
  refine z_icmp_eq S (tgt := 74) dX4_guess_57 (by decide) h (fun h => ?_) (fun h => ?_)
  · refine z_bipush (v := (-4)) S dX4_guess_74 (by decide) ?_
    exact z_iret_w S dX4_guess_76 h
  · refine z_iload_n S 0 dX4_guess_60 rfl rfl ?_
    refine z_iconst (v := (-1)) S dX4_guess_61 (by decide) ?_
    refine z_icmp_eq S (tgt := 77) dX4_guess_62 (by decide) h (fun h => ?_) (fun h => ?_)
    · exact z_lv [1, 2, 0] rfl (tj_X4_guess_77 S _ _ _ h)
    · refine z_aload_n S 1 dX4_guess_65 rfl rfl ?_
      refine z_iload_n S 0 dX4_guess_66 rfl rfl ?_
      refine z_iload_n S 2 dX4_guess_67 rfl rfl ?_
      obtain ⟨v_68, hv_68, h⟩ := ob_some h
      refine z_callV_r (As := [.int y0, .int x1]) S (c_X4_isGuessOfAnother l D X _ _ _ S.2.2.1 hv_68) (cwV 2 S.1.2.2.2.2 gX4_guess_X4_isGuessOfAnother rfl rfl rfl hd_X4_isGuessOfAnother ⟨Nat.le_of_ble_eq_true rfl, Nat.le_of_ble_eq_true rfl⟩) (Nat.le_of_ble_eq_true rfl) (cM_0 X z0) rfl rfl rfl (Nat.le_of_ble_eq_true rfl) rfl dX4_guess_68 ?_
      refine z_if_eq S (tgt := 77) dX4_guess_71 (by decide) h (fun h => ?_) (fun h => ?_)
      · exact z_lv [1, 2, 0] rfl (tj_X4_guess_77 S _ _ _ h)
      · refine z_bipush (v := (-4)) S dX4_guess_74 (by decide) ?_
        exact z_iret_w S dX4_guess_76 h
set_option maxHeartbeats 4000000 in
set_option maxRecDepth 100000 in
theorem tj_X4_guess_32 {l : Launch} {D : va_G} {X : zE} {p : Program} {e : Env} {s : State} {m : MethodId} {args : Array Value} {below : List Frame} {meth : Method} {c : Code} (S : zS p m meth c cX4_guess 4 (some .int) s args wsX4_guess RX4 D 9 X) {r : Int32} {z1 : zV} : ∀ (z0 : zV) (x1 : Int32) (x2 : Int32), j_X4_guess_32 z0 x1 x2 = some (r, z1) → Zj true D 9 X p l e (zrm 4 85) s m args below meth c (MQ below (zQw D 9 X (zc shM X z1) (some (.int r))) args s 0 0 (zw_A 9 X.1)) 4 32 [(0, .ref (X.1 0)), (1, .int x1), (2, .int x2)] [] (zc shM X z0) := by
  intro z0 x1 x2 h
  rw [j_X4_guess_32] at h
  refine z_iload_n S 2 dX4_guess_32 rfl rfl ?_
  refine z_bipush (v := (nI 46)) S dX4_guess_33 (by decide) ?_
  refine z_icmp_ne S (tgt := 42) dX4_guess_35 (by decide) h (fun h => ?_) (fun h => ?_)
  · refine z_iload_n S 2 dX4_guess_42 rfl rfl ?_
    refine z_bipush (v := (nI 97)) S dX4_guess_43 (by decide) ?_
    refine z_isub S dX4_guess_45 ?_
    exact z_lv [0, 1] rfl (tj_X4_guess_46 S _ _ _ h)
  · refine z_iconst (v := (-1)) S dX4_guess_38 (by decide) ?_
    refine z_goto S (tgt := 46) dX4_guess_39 (by decide) ?_
    exact z_lv [0, 1] rfl (tj_X4_guess_46 S _ _ _ h)
set_option maxHeartbeats 4000000 in
set_option maxRecDepth 100000 in
theorem c_X4_guess (l : Launch) (D : va_G) (X : zE) (z0 : zV) (a0 : Int32) (a1 : Int32) (hinj : zw_inj 9 X.1) {r : Int32} {z1 : zV} (h : f_X4_guess z0 a0 a1 = some (r, z1)) : zMw l yX4_guess wsX4_guess (zrm 4 85) D 9 X (zc shM X z0) [.ref (X.1 0), .int a0, .int a1] (some (.int r)) (zc shM X z1) := by
  rw [f_X4_guess] at h
  refine z_start_w (cc := cX4_guess) (maxL := 4) (ret := (some .int)) (by decide) rfl (Nat.le_of_ble_eq_true rfl) hinj ?_
  intro p e s m below meth c S
  refine z_iload_n S 1 dX4_guess_0 rfl rfl ?_
  obtain ⟨v_1, hv_1, h⟩ := ob_some h
  refine z_callS_r (As := [.int a0]) S (c_X4_isNumber l D X _ _ S.2.2.1 hv_1) (va_cwS 1 S.1.2.2.2.2 gX4_guess_X4_isNumber rfl rfl rfl hd_X4_isNumber ⟨Nat.le_of_ble_eq_true rfl, Nat.le_of_ble_eq_true rfl⟩) rfl rfl (Nat.le_of_ble_eq_true rfl) rfl dX4_guess_1 ?_
  refine z_if_ne S (tgt := 9) dX4_guess_4 (by decide) h (fun h => ?_) (fun h => ?_)
  · refine z_iload_n S 2 dX4_guess_9 rfl rfl ?_
    refine z_bipush (v := (nI 46)) S dX4_guess_10 (by decide) ?_
    refine z_icmp_eq S (tgt := 32) dX4_guess_12 (by decide) h (fun h => ?_) (fun h => ?_)
    · exact z_lv [0, 1, 2] rfl (tj_X4_guess_32 S _ _ _ h)
    · refine z_iload_n S 2 dX4_guess_15 rfl rfl ?_
      refine z_i2l S dX4_guess_16 ?_
      refine z_ldc2 (v := (lN 97)) S m2_X4_guess dX4_guess_17 ?_
      refine z_ldc2 (v := (lN 122)) S m3_X4_guess dX4_guess_20 ?_
      obtain ⟨v_23, hv_23, h⟩ := ob_some h
      refine z_callS_r (As := [.long (Int32.toInt64 a1), .long (lN 97), .long (lN 122)]) S (c_X4_in l D X _ _ _ _ S.2.2.1 hv_23) (va_cwS 3 S.1.2.2.2.2 gX4_guess_X4_in rfl rfl rfl hd_X4_in ⟨Nat.le_of_ble_eq_true rfl, Nat.le_of_ble_eq_true rfl⟩) rfl rfl (Nat.le_of_ble_eq_true rfl) rfl dX4_guess_23 ?_
      refine z_if_ne S (tgt := 32) dX4_guess_26 (by decide) h (fun h => ?_) (fun h => ?_)
      · exact z_lv [0, 1, 2] rfl (tj_X4_guess_32 S _ _ _ h)
      · refine z_bipush (v := (-2)) S dX4_guess_29 (by decide) ?_
        exact z_iret_w S dX4_guess_31 h
  · refine z_iconst (v := (-1)) S dX4_guess_7 (by decide) ?_
    exact z_iret_w S dX4_guess_8 h
/-! SoldLettersModel.guessWord: a walk -/
theorem hd_X4_guessWord : yX4_guessWord.cls = RX4 ∧ yX4_guessWord.cls ≠ "java/lang/invoke/MethodHandle" ∧ yX4_guessWord.cls ≠ "java/lang/invoke/VarHandle" ∧ (parseMethodDescriptor yX4_guessWord.desc).map (fun d => d.parameters.length) = some 2 := by decide +kernel
theorem m0_X4_guessWord : Cond.fieldLink RX4 25 RX4 (TX4 7).2.1 (TX4 7).2.2.1 ∈ wsX4_guessWord := by decide +kernel
theorem m1_X4_guessWord : ∀ w ∈ u_ws RX4 TX4 12, w ∈ wsX4_guessWord := by decide +kernel
theorem m2_X4_guessWord : Cond.fieldLink RX4 7 RX4 (TX4 0).2.1 (TX4 0).2.2.1 ∈ wsX4_guessWord := by decide +kernel
set_option maxHeartbeats 4000000 in
set_option maxRecDepth 100000 in
theorem tl_X4_guessWord_39 {l : Launch} {D : va_G} {X : zE} {p : Program} {e : Env} {s : State} {m : MethodId} {args : Array Value} {below : List Frame} {meth : Method} {c : Code} (S : zS p m meth c cX4_guessWord 6 (some .int) s args wsX4_guessWord RX4 D 9 X) {r : Int32} {z1 : zV} : ∀ (n_ : Nat), ∀ (z0 : zV) (x1 : Int32) (x2 : Int32) (x3 : Int32) (x4 : Int32), l_X4_guessWord_39 n_ z0 x1 x2 x3 x4 = some (r, z1) → Zj true D 9 X p l e (zrm 4 94) s m args below meth c (MQ below (zQw D 9 X (zc shM X z1) (some (.int r))) args s 0 0 (zw_A 9 X.1)) 6 39 [(0, .ref (X.1 0)), (1, .int x1), (2, .int x2), (3, .int x3), (4, .int x4)] [] (zc shM X z0) := by
  intro n_
  induction n_ with
  | zero =>
    intro z0 x1 x2 x3 x4 h
    cases h
  | succ n_ ih =>
    intro z0 x1 x2 x3 x4 h
    rw [l_X4_guessWord_39] at h
    refine z_iload S 4 dX4_guessWord_39 rfl ?_
    refine z_aload_n S 0 dX4_guessWord_41 rfl rfl ?_
    refine z_get S (C := RX4) (T := TX4) (N := 12) (ci := 4) 7 m0_X4_guessWord m1_X4_guessWord (Nat.le_of_ble_eq_true rfl) (cM_0 X z0) rfl (Nat.le_of_ble_eq_true rfl) rfl rfl dX4_guessWord_42 ?_
    refine z_iload_n S 1 dX4_guessWord_45 rfl rfl ?_
    refine z_iald S (Nat.le_of_ble_eq_true rfl) (cM_6 X z0) dX4_guessWord_46 h (fun v_46 h => ?_)
    refine z_icmp_ge S (tgt := 108) dX4_guessWord_47 (by decide) h (fun h => ?_) (fun h => ?_)
    · refine z_iload_n S 3 dX4_guessWord_108 rfl rfl ?_
      refine z_if_ne S (tgt := 117) dX4_guessWord_109 (by decide) h (fun h => ?_) (fun h => ?_)
      · refine z_aload_n S 0 dX4_guessWord_117 rfl rfl ?_
        refine z_iload_n S 3 dX4_guessWord_118 rfl rfl ?_
        obtain ⟨v_119, z_119, hv_119, h⟩ := bd2_some h
        refine z_callV_w (As := [.int x3]) S (c_X4_acted l D X _ _ S.2.2.1 hv_119) (cwV 1 S.1.2.2.2.2 gX4_guessWord_X4_acted rfl rfl rfl hd_X4_acted ⟨Nat.le_of_ble_eq_true rfl, Nat.le_of_ble_eq_true rfl⟩) (Nat.le_of_ble_eq_true rfl) (cM_0 X z0) rfl rfl rfl (Nat.le_of_ble_eq_true rfl) rfl dX4_guessWord_119 ?_
        exact z_iret_w S dX4_guessWord_122 h
      · refine z_bipush (v := (-5)) S dX4_guessWord_112 (by decide) ?_
        refine z_goto S (tgt := 122) dX4_guessWord_114 (by decide) ?_
        exact z_iret_w S dX4_guessWord_122 h
    · refine z_aload_n S 0 dX4_guessWord_50 rfl rfl ?_
      refine z_aload_n S 0 dX4_guessWord_51 rfl rfl ?_
      refine z_iload_n S 1 dX4_guessWord_52 rfl rfl ?_
      refine z_iload S 4 dX4_guessWord_53 rfl ?_
      obtain ⟨v_55, hv_55, h⟩ := ob_some h
      refine z_callV_r (As := [.int x1, .int x4]) S (c_X4_cellOf l D X _ _ _ S.2.2.1 hv_55) (cwV 2 S.1.2.2.2.2 gX4_guessWord_X4_cellOf rfl rfl rfl hd_X4_cellOf ⟨Nat.le_of_ble_eq_true rfl, Nat.le_of_ble_eq_true rfl⟩) (Nat.le_of_ble_eq_true rfl) (cM_0 X z0) rfl rfl rfl (Nat.le_of_ble_eq_true rfl) rfl dX4_guessWord_55 ?_
      obtain ⟨v_58, hv_58, h⟩ := ob_some h
      refine z_callV_r (As := [.int v_55]) S (c_X4_numberAt l D X _ _ S.2.2.1 hv_58) (cwV 1 S.1.2.2.2.2 gX4_guessWord_X4_numberAt rfl rfl rfl hd_X4_numberAt ⟨Nat.le_of_ble_eq_true rfl, Nat.le_of_ble_eq_true rfl⟩) (Nat.le_of_ble_eq_true rfl) (cM_0 X z0) rfl rfl rfl (Nat.le_of_ble_eq_true rfl) rfl dX4_guessWord_58 ?_
      refine z_istore S [(5, .int v_58), (0, .ref (X.1 0)), (1, .int x1), (2, .int x2), (3, .int x3), (4, .int x4)] dX4_guessWord_61 (Nat.le_of_ble_eq_true rfl) rfl ?_
      refine z_iload_n S 4 dX4_guessWord_63 rfl rfl ?_
      refine z_aload_n S 1 dX4_guessWord_64 rfl rfl ?_
      refine z_get S (C := RX4) (T := TX4) (N := 12) (ci := 4) 0 m2_X4_guessWord m1_X4_guessWord (Nat.le_of_ble_eq_true rfl) (cM_0 X z0) rfl (Nat.le_of_ble_eq_true rfl) rfl rfl dX4_guessWord_65 ?_
      refine z_bipush (v := (nI 51)) S dX4_guessWord_68 (by decide) ?_
      refine z_iload S 0 dX4_guessWord_70 rfl ?_
      refine z_iadd S dX4_guessWord_72 ?_
      refine z_iald S (Nat.le_of_ble_eq_true rfl) (cM_1 X z0) dX4_guessWord_73 h (fun v_73 h => ?_)
      refine z_iconst (v := (-1)) S dX4_guessWord_74 (by decide) ?_
      refine z_icmp_ne S (tgt := 82) dX4_guessWord_75 (by decide) h (fun h => ?_) (fun h => ?_)
      · refine z_iconst (v := (nI 0)) S dX4_guessWord_82 (by decide) ?_
        refine z_iadd S dX4_guessWord_83 ?_
        refine z_istore_n S [(3, .int (x3 + (nI 0))), (5, .int v_58), (0, .ref (X.1 0)), (1, .int x1), (2, .int x2), (4, .int x4)] dX4_guessWord_84 rfl (Nat.le_of_ble_eq_true rfl) rfl ?_
        refine z_aload_n S 2 dX4_guessWord_85 rfl rfl ?_
        refine z_get S (C := RX4) (T := TX4) (N := 12) (ci := 4) 0 m2_X4_guessWord m1_X4_guessWord (Nat.le_of_ble_eq_true rfl) (cM_0 X z0) rfl (Nat.le_of_ble_eq_true rfl) rfl rfl dX4_guessWord_86 ?_
        refine z_bipush (v := (nI 51)) S dX4_guessWord_89 (by decide) ?_
        refine z_iload S 1 dX4_guessWord_91 rfl ?_
        refine z_iadd S dX4_guessWord_93 ?_
        refine z_aload_n S 2 dX4_guessWord_94 rfl rfl ?_
        refine z_iload_n S 4 dX4_guessWord_95 rfl rfl ?_
        refine z_iload S 5 dX4_guessWord_96 rfl ?_
        obtain ⟨v_98, hv_98, h⟩ := ob_some h
        refine z_callV_r (As := [.int x2, .int x4]) S (c_X4_letterOfListed l D X _ _ _ S.2.2.1 hv_98) (cwV 2 S.1.2.2.2.2 gX4_guessWord_X4_letterOfListed rfl rfl rfl hd_X4_letterOfListed ⟨Nat.le_of_ble_eq_true rfl, Nat.le_of_ble_eq_true rfl⟩) (Nat.le_of_ble_eq_true rfl) (cM_0 X z0) rfl rfl rfl (Nat.le_of_ble_eq_true rfl) rfl dX4_guessWord_98 ?_
        refine z_iast S (Nat.le_of_ble_eq_true rfl) (fun _ => rfl) dX4_guessWord_101 h (fun z_101 h => ?_)
        refine z_iinc S 5 [(4, .int (x4 + nI 1)), (3, .int (x3 + (nI 0))), (5, .int v_58), (0, .ref (X.1 0)), (1, .int x1), (2, .int x2)] dX4_guessWord_102 rfl rfl (Nat.le_of_ble_eq_true rfl) rfl ?_
        refine z_goto S (tgt := 39) dX4_guessWord_105 (by decide) ?_
        exact z_lv [3, 4, 5, 1, 0] rfl (ih _ _ _ _ _ h)
      · refine z_iconst (v := (nI 1)) S dX4_guessWord_78 (by decide) ?_
        refine z_goto S (tgt := 83) dX4_guessWord_79 (by decide) ?_
        refine z_iadd S dX4_guessWord_83 ?_
        refine z_istore_n S [(3, .int (x3 + (nI 1))), (5, .int v_58), (0, .ref (X.1 0)), (1, .int x1), (2, .int x2), (4, .int x4)] dX4_guessWord_84 rfl (Nat.le_of_ble_eq_true rfl) rfl ?_
        refine z_aload_n S 2 dX4_guessWord_85 rfl rfl ?_
        refine z_get S (C := RX4) (T := TX4) (N := 12) (ci := 4) 0 m2_X4_guessWord m1_X4_guessWord (Nat.le_of_ble_eq_true rfl) (cM_0 X z0) rfl (Nat.le_of_ble_eq_true rfl) rfl rfl dX4_guessWord_86 ?_
        refine z_bipush (v := (nI 51)) S dX4_guessWord_89 (by decide) ?_
        refine z_iload S 1 dX4_guessWord_91 rfl ?_
        refine z_iadd S dX4_guessWord_93 ?_
        refine z_aload_n S 2 dX4_guessWord_94 rfl rfl ?_
        refine z_iload_n S 4 dX4_guessWord_95 rfl rfl ?_
        refine z_iload S 5 dX4_guessWord_96 rfl ?_
        obtain ⟨v_98, hv_98, h⟩ := ob_some h
        refine z_callV_r (As := [.int x2, .int x4]) S (c_X4_letterOfListed l D X _ _ _ S.2.2.1 hv_98) (cwV 2 S.1.2.2.2.2 gX4_guessWord_X4_letterOfListed rfl rfl rfl hd_X4_letterOfListed ⟨Nat.le_of_ble_eq_true rfl, Nat.le_of_ble_eq_true rfl⟩) (Nat.le_of_ble_eq_true rfl) (cM_0 X z0) rfl rfl rfl (Nat.le_of_ble_eq_true rfl) rfl dX4_guessWord_98 ?_
        refine z_iast S (Nat.le_of_ble_eq_true rfl) (fun _ => rfl) dX4_guessWord_101 h (fun z_101 h => ?_)
        refine z_iinc S 5 [(4, .int (x4 + nI 1)), (3, .int (x3 + (nI 1))), (5, .int v_58), (0, .ref (X.1 0)), (1, .int x1), (2, .int x2)] dX4_guessWord_102 rfl rfl (Nat.le_of_ble_eq_true rfl) rfl ?_
        refine z_goto S (tgt := 39) dX4_guessWord_105 (by decide) ?_
        exact z_lv [3, 4, 5, 1, 0] rfl (ih _ _ _ _ _ h)
set_option maxHeartbeats 4000000 in
set_option maxRecDepth 100000 in
theorem c_X4_guessWord (l : Launch) (D : va_G) (X : zE) (z0 : zV) (a0 : Int32) (a1 : Int32) (hinj : zw_inj 9 X.1) {r : Int32} {z1 : zV} (h : f_X4_guessWord z0 a0 a1 = some (r, z1)) : zMw l yX4_guessWord wsX4_guessWord (zrm 4 94) D 9 X (zc shM X z0) [.ref (X.1 0), .int a0, .int a1] (some (.int r)) (zc shM X z1) := by
  rw [f_X4_guessWord] at h
  refine z_start_w (cc := cX4_guessWord) (maxL := 6) (ret := (some .int)) (by decide) rfl (Nat.le_of_ble_eq_true rfl) hinj ?_
  intro p e s m below meth c S
  refine z_aload_n S 0 dX4_guessWord_0 rfl rfl ?_
  refine z_iload_n S 1 dX4_guessWord_1 rfl rfl ?_
  obtain ⟨v_2, z_2, hv_2, h⟩ := bd2_some h
  refine z_callV_w (As := [.int a0]) S (c_X4_isWord l D X _ _ S.2.2.1 hv_2) (cwV 1 S.1.2.2.2.2 gX4_guessWord_X4_isWord rfl rfl rfl hd_X4_isWord ⟨Nat.le_of_ble_eq_true rfl, Nat.le_of_ble_eq_true rfl⟩) (Nat.le_of_ble_eq_true rfl) (cM_0 X z0) rfl rfl rfl (Nat.le_of_ble_eq_true rfl) rfl dX4_guessWord_2 ?_
  refine z_if_eq S (tgt := 16) dX4_guessWord_5 (by decide) h (fun h => ?_) (fun h => ?_)
  · refine z_iconst (v := (-1)) S dX4_guessWord_16 (by decide) ?_
    exact z_iret_w S dX4_guessWord_17 h
  · refine z_aload_n S 0 dX4_guessWord_8 rfl rfl ?_
    refine z_iload_n S 2 dX4_guessWord_9 rfl rfl ?_
    obtain ⟨v_10, hv_10, h⟩ := ob_some h
    refine z_callV_r (As := [.int a1]) S (c_X4_isListed l D X _ _ S.2.2.1 hv_10) (cwV 1 S.1.2.2.2.2 gX4_guessWord_X4_isListed rfl rfl rfl hd_X4_isListed ⟨Nat.le_of_ble_eq_true rfl, Nat.le_of_ble_eq_true rfl⟩) (Nat.le_of_ble_eq_true rfl) (cM_0 X z_2) rfl rfl rfl (Nat.le_of_ble_eq_true rfl) rfl dX4_guessWord_10 ?_
    refine z_if_ne S (tgt := 18) dX4_guessWord_13 (by decide) h (fun h => ?_) (fun h => ?_)
    · refine z_aload_n S 0 dX4_guessWord_18 rfl rfl ?_
      refine z_iload_n S 1 dX4_guessWord_19 rfl rfl ?_
      refine z_iload_n S 2 dX4_guessWord_20 rfl rfl ?_
      obtain ⟨v_21, hv_21, h⟩ := ob_some h
      refine z_callV_r (As := [.int a0, .int a1]) S (c_X4_isFit l D X _ _ _ S.2.2.1 hv_21) (cwV 2 S.1.2.2.2.2 gX4_guessWord_X4_isFit rfl rfl rfl hd_X4_isFit ⟨Nat.le_of_ble_eq_true rfl, Nat.le_of_ble_eq_true rfl⟩) (Nat.le_of_ble_eq_true rfl) (cM_0 X z_2) rfl rfl rfl (Nat.le_of_ble_eq_true rfl) rfl dX4_guessWord_21 ?_
      refine z_if_ne S (tgt := 30) dX4_guessWord_24 (by decide) h (fun h => ?_) (fun h => ?_)
      · refine z_aload_n S 0 dX4_guessWord_30 rfl rfl ?_
        obtain ⟨z_31, hv_31, h⟩ := ob_some h
        refine z_callV_w (As := []) S (c_X4_remember l D X _ S.2.2.1 hv_31) (cwV 0 S.1.2.2.2.2 gX4_guessWord_X4_remember rfl rfl rfl hd_X4_remember ⟨Nat.le_of_ble_eq_true rfl, Nat.le_of_ble_eq_true rfl⟩) (Nat.le_of_ble_eq_true rfl) (cM_0 X z_2) rfl rfl rfl (Nat.le_of_ble_eq_true rfl) rfl dX4_guessWord_31 ?_
        refine z_iconst (v := (nI 0)) S dX4_guessWord_34 (by decide) ?_
        refine z_istore_n S [(3, .int (nI 0)), (0, .ref (X.1 0)), (1, .int a0), (2, .int a1)] dX4_guessWord_35 rfl (Nat.le_of_ble_eq_true rfl) rfl ?_
        refine z_iconst (v := (nI 0)) S dX4_guessWord_36 (by decide) ?_
        refine z_istore S [(4, .int (nI 0)), (3, .int (nI 0)), (0, .ref (X.1 0)), (1, .int a0), (2, .int a1)] dX4_guessWord_37 (Nat.le_of_ble_eq_true rfl) rfl ?_
        exact z_lv [2, 3, 4, 1, 0] rfl (tl_X4_guessWord_39 S _ _ _ _ _ _ h)
      · refine z_bipush (v := (-4)) S dX4_guessWord_27 (by decide) ?_
        exact z_iret_w S dX4_guessWord_29 h
    · refine z_iconst (v := (-1)) S dX4_guessWord_16 (by decide) ?_
      exact z_iret_w S dX4_guessWord_17 h
