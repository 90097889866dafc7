/-! SoldLetters.bringBack: a walk -/
theorem hd_X3_bringBack : yX3_bringBack.cls = RX3 ∧ yX3_bringBack.cls ≠ "java/lang/invoke/MethodHandle" ∧ yX3_bringBack.cls ≠ "java/lang/invoke/VarHandle" ∧ (parseMethodDescriptor yX3_bringBack.desc).map (fun d => d.parameters.length) = some 1 := by decide +kernel
theorem m0_X3_bringBack : Cond.fieldLink RX3 12 RX3 (TX3 0).2.1 (TX3 0).2.2.1 ∈ wsX3_bringBack := by decide +kernel
theorem m1_X3_bringBack : ∀ w ∈ u_ws RX3 TX3 7, w ∈ wsX3_bringBack := by decide +kernel
theorem m2_X3_bringBack : Cond.fieldLink RX3 19 RX3 (TX3 1).2.1 (TX3 1).2.2.1 ∈ wsX3_bringBack := by decide +kernel
theorem m3_X3_bringBack : Cond.fieldLink RX3 48 RX0 (TX0 0).2.1 (TX0 0).2.2.1 ∈ wsX3_bringBack := by decide +kernel
theorem m4_X3_bringBack : ∀ w ∈ u_ws RX0 TX0 11, w ∈ wsX3_bringBack := by decide +kernel
set_option maxHeartbeats 4000000 in
set_option maxRecDepth 100000 in
theorem c_X3_bringBack (l : Launch) (D : va_G) (X : zE) (z0 : zV) (q1 : Nat) (hinj : zw_inj 44 X.1) {z1 : zV} (h : f_X3_bringBack z0 q1 = some z1) : zMw l yX3_bringBack wsX3_bringBack (zrm 3 82) D 44 X (zc shC X z0) [.ref (X.1 42), .ref (X.1 q1)] none (zc shC X z1) := by
  rw [f_X3_bringBack] at h
  obtain ⟨h_q1, h⟩ := gSt_some h
  refine z_start_w (cc := cX3_bringBack) (maxL := 2) (ret := none) (by decide) rfl (Nat.le_of_ble_eq_true rfl) hinj ?_
  intro p e s m below meth c S
  refine z_aload_n S 0 dX3_bringBack_0 rfl rfl ?_
  refine z_get S (C := RX3) (T := TX3) (N := 7) (ci := 3) 0 m0_X3_bringBack m1_X3_bringBack (Nat.le_of_ble_eq_true rfl) (cC_42 X z0) rfl (Nat.le_of_ble_eq_true rfl) rfl rfl dX3_bringBack_1 ?_
  refine z_aload_n S 1 dX3_bringBack_4 rfl rfl ?_
  obtain ⟨z_5, hv_5, h⟩ := ob_some h
  refine z_callV_w (As := [.ref (X.1 q1)]) S (c_X0_copyFrom l D X _ _ _ S.2.2.1 hv_5) (cwV 1 S.1.2.2.2.2 gX3_bringBack_X0_copyFrom rfl rfl rfl hd_X0_copyFrom ⟨Nat.le_of_ble_eq_true rfl, Nat.le_of_ble_eq_true rfl⟩) (Nat.le_of_ble_eq_true rfl) (cC_0 X z0) rfl rfl rfl (Nat.le_of_ble_eq_true rfl) rfl dX3_bringBack_5 ?_
  refine z_aload_n S 0 dX3_bringBack_8 rfl rfl ?_
  refine z_get S (C := RX3) (T := TX3) (N := 7) (ci := 3) 1 m2_X3_bringBack m1_X3_bringBack (Nat.le_of_ble_eq_true rfl) (cC_42 X z_5) rfl (Nat.le_of_ble_eq_true rfl) rfl rfl dX3_bringBack_9 ?_
  refine z_aload_n S 0 dX3_bringBack_12 rfl rfl ?_
  refine z_get S (C := RX3) (T := TX3) (N := 7) (ci := 3) 0 m0_X3_bringBack m1_X3_bringBack (Nat.le_of_ble_eq_true rfl) (cC_42 X z_5) rfl (Nat.le_of_ble_eq_true rfl) rfl rfl dX3_bringBack_13 ?_
  refine z_get S (C := RX0) (T := TX0) (N := 11) (ci := 0) 0 m3_X3_bringBack m4_X3_bringBack (Nat.le_of_ble_eq_true rfl) (cC_0 X z_5) rfl (Nat.le_of_ble_eq_true rfl) rfl rfl dX3_bringBack_16 ?_
  obtain ⟨z_19, hv_19, h⟩ := ob_some h
  refine z_callV_w (As := [.ref (X.1 1)]) S (c_X2_find l D X _ S.2.2.1 hv_19) (cwV 1 S.1.2.2.2.2 gX3_bringBack_X2_find rfl rfl rfl hd_X2_find ⟨Nat.le_of_ble_eq_true rfl, Nat.le_of_ble_eq_true rfl⟩) (Nat.le_of_ble_eq_true rfl) (cC_36 X z_5) rfl rfl rfl (Nat.le_of_ble_eq_true rfl) rfl dX3_bringBack_19 ?_
  exact z_vret_w S dX3_bringBack_22 h
/-! SoldLetters.undo: a walk -/
theorem hd_X3_undo : yX3_undo.cls = RX3 ∧ yX3_undo.cls ≠ "java/lang/invoke/MethodHandle" ∧ yX3_undo.cls ≠ "java/lang/invoke/VarHandle" ∧ (parseMethodDescriptor yX3_undo.desc).map (fun d => d.parameters.length) = some 0 := by decide +kernel
theorem m0_X3_undo : Cond.fieldLink RX3 184 RX3 (TX3 5).2.1 (TX3 5).2.2.1 ∈ wsX3_undo := by decide +kernel
theorem m1_X3_undo : ∀ w ∈ u_ws RX3 TX3 7, w ∈ wsX3_undo := by decide +kernel
theorem m2_X3_undo : Cond.fieldLink RX3 30 RX3 (TX3 3).2.1 (TX3 3).2.2.1 ∈ wsX3_undo := by decide +kernel
set_option maxHeartbeats 4000000 in
set_option maxRecDepth 100000 in
theorem c_X3_undo (l : Launch) (D : va_G) (X : zE) (z0 : zV) (hinj : zw_inj 44 X.1) {r : Int32} {z1 : zV} (h : f_X3_undo z0 = some (r, z1)) : zMw l yX3_undo wsX3_undo (zrm 4 103) D 44 X (zc shC X z0) [.ref (X.1 42)] (some (.int r)) (zc shC X z1) := by
  rw [f_X3_undo] at h
  refine z_start_w (cc := cX3_undo) (maxL := 1) (ret := (some .int)) (by decide) rfl (Nat.le_of_ble_eq_true rfl) hinj ?_
  intro p e s m below meth c S
  refine z_aload_n S 0 dX3_undo_0 rfl rfl ?_
  refine z_get S (C := RX3) (T := TX3) (N := 7) (ci := 3) 5 m0_X3_undo m1_X3_undo (Nat.le_of_ble_eq_true rfl) (cC_42 X z0) rfl (Nat.le_of_ble_eq_true rfl) rfl rfl dX3_undo_1 ?_
  refine z_if_ne S (tgt := 10) dX3_undo_4 (by decide) h (fun h => ?_) (fun h => ?_)
  · refine z_aload_n S 0 dX3_undo_10 rfl rfl ?_
    refine z_dup S dX3_undo_11 rfl ?_
    refine z_get S (C := RX3) (T := TX3) (N := 7) (ci := 3) 5 m0_X3_undo m1_X3_undo (Nat.le_of_ble_eq_true rfl) (cC_42 X z0) rfl (Nat.le_of_ble_eq_true rfl) rfl rfl dX3_undo_12 ?_
    refine z_iconst (v := (nI 1)) S dX3_undo_15 (by decide) ?_
    refine z_isub S dX3_undo_16 ?_
    refine z_put S (C := RX3) (T := TX3) (N := 7) (ci := 3) 5 tyX3_ok nmX3 m0_X3_undo m1_X3_undo (Nat.le_of_ble_eq_true rfl) (cC_42 X z0) rfl (Nat.le_of_ble_eq_true rfl) rfl rfl rfl rfl (Nat.le_of_ble_eq_true rfl) rfl dX3_undo_17 h (fun z_17 h => ?_)
    refine z_aload_n S 0 dX3_undo_20 rfl rfl ?_
    refine z_aload_n S 0 dX3_undo_21 rfl rfl ?_
    refine z_get S (C := RX3) (T := TX3) (N := 7) (ci := 3) 3 m2_X3_undo m1_X3_undo (Nat.le_of_ble_eq_true rfl) (cC_42 X z_17) rfl (Nat.le_of_ble_eq_true rfl) rfl rfl dX3_undo_22 ?_
    refine z_aload_n S 0 dX3_undo_25 rfl rfl ?_
    refine z_get S (C := RX3) (T := TX3) (N := 7) (ci := 3) 5 m0_X3_undo m1_X3_undo (Nat.le_of_ble_eq_true rfl) (cC_42 X z_17) rfl (Nat.le_of_ble_eq_true rfl) rfl rfl dX3_undo_26 ?_
    refine z_aald S (Nat.le_of_ble_eq_true rfl) (cC_43 X z_17) dX3_undo_29 h (fun q_29 h => ?_)
    obtain ⟨z_30, hv_30, h⟩ := ob_some h
    refine z_callV_w (As := [.ref (X.1 q_29)]) S (c_X3_bringBack l D X _ _ S.2.2.1 hv_30) (cwV 1 S.1.2.2.2.2 gX3_undo_X3_bringBack rfl rfl rfl hd_X3_bringBack ⟨Nat.le_of_ble_eq_true rfl, Nat.le_of_ble_eq_true rfl⟩) (Nat.le_of_ble_eq_true rfl) (cC_42 X z_17) rfl rfl rfl (Nat.le_of_ble_eq_true rfl) rfl dX3_undo_30 ?_
    refine z_aload_n S 0 dX3_undo_33 rfl rfl ?_
    refine z_get S (C := RX3) (T := TX3) (N := 7) (ci := 3) 5 m0_X3_undo m1_X3_undo (Nat.le_of_ble_eq_true rfl) (cC_42 X z_30) rfl (Nat.le_of_ble_eq_true rfl) rfl rfl dX3_undo_34 ?_
    exact z_iret_w S dX3_undo_37 h
  · refine z_bipush (v := (-5)) S dX3_undo_7 (by decide) ?_
    exact z_iret_w S dX3_undo_9 h
/-! SoldLetters.keep: a walk -/
theorem hd_X3_keep : yX3_keep.cls = RX3 ∧ yX3_keep.cls ≠ "java/lang/invoke/MethodHandle" ∧ yX3_keep.cls ≠ "java/lang/invoke/VarHandle" ∧ (parseMethodDescriptor yX3_keep.desc).map (fun d => d.parameters.length) = some 0 := by decide +kernel
theorem m0_X3_keep : Cond.fieldLink RX3 34 RX3 (TX3 4).2.1 (TX3 4).2.2.1 ∈ wsX3_keep := by decide +kernel
theorem m1_X3_keep : ∀ w ∈ u_ws RX3 TX3 7, w ∈ wsX3_keep := by decide +kernel
theorem m2_X3_keep : Cond.fieldLink RX3 12 RX3 (TX3 0).2.1 (TX3 0).2.2.1 ∈ wsX3_keep := by decide +kernel
theorem m3_X3_keep : Cond.fieldLink RX3 194 RX3 (TX3 6).2.1 (TX3 6).2.2.1 ∈ wsX3_keep := by decide +kernel
theorem m4_X3_keep : Cond.fieldLink RX3 152 RX0 (TX0 8).2.1 (TX0 8).2.2.1 ∈ wsX3_keep := by decide +kernel
theorem m5_X3_keep : ∀ w ∈ u_ws RX0 TX0 11, w ∈ wsX3_keep := by decide +kernel
set_option maxHeartbeats 4000000 in
set_option maxRecDepth 100000 in
theorem c_X3_keep (l : Launch) (D : va_G) (X : zE) (z0 : zV) (hinj : zw_inj 44 X.1) {r : Int32} {z1 : zV} (h : f_X3_keep z0 = some (r, z1)) : zMw l yX3_keep wsX3_keep (zrm 2 82) D 44 X (zc shC X z0) [.ref (X.1 42)] (some (.int r)) (zc shC X z1) := by
  rw [f_X3_keep] at h
  refine z_start_w (cc := cX3_keep) (maxL := 1) (ret := (some .int)) (by decide) rfl (Nat.le_of_ble_eq_true rfl) hinj ?_
  intro p e s m below meth c S
  refine z_aload_n S 0 dX3_keep_0 rfl rfl ?_
  refine z_get S (C := RX3) (T := TX3) (N := 7) (ci := 3) 4 m0_X3_keep m1_X3_keep (Nat.le_of_ble_eq_true rfl) (cC_42 X z0) rfl (Nat.le_of_ble_eq_true rfl) rfl rfl dX3_keep_1 ?_
  refine z_aload_n S 0 dX3_keep_4 rfl rfl ?_
  refine z_get S (C := RX3) (T := TX3) (N := 7) (ci := 3) 0 m2_X3_keep m1_X3_keep (Nat.le_of_ble_eq_true rfl) (cC_42 X z0) rfl (Nat.le_of_ble_eq_true rfl) rfl rfl dX3_keep_5 ?_
  obtain ⟨z_8, hv_8, h⟩ := ob_some h
  refine z_callV_w (As := [.ref (X.1 0)]) S (c_X0_copyFrom l D X _ _ _ S.2.2.1 hv_8) (cwV 1 S.1.2.2.2.2 gX3_keep_X0_copyFrom rfl rfl rfl hd_X0_copyFrom ⟨Nat.le_of_ble_eq_true rfl, Nat.le_of_ble_eq_true rfl⟩) (Nat.le_of_ble_eq_true rfl) (cC_30 X z0) rfl rfl rfl (Nat.le_of_ble_eq_true rfl) rfl dX3_keep_8 ?_
  refine z_aload_n S 0 dX3_keep_11 rfl rfl ?_
  refine z_iconst (v := (nI 1)) S dX3_keep_12 (by decide) ?_
  refine z_put S (C := RX3) (T := TX3) (N := 7) (ci := 3) 6 tyX3_ok nmX3 m3_X3_keep m1_X3_keep (Nat.le_of_ble_eq_true rfl) (cC_42 X z_8) rfl (Nat.le_of_ble_eq_true rfl) rfl rfl rfl rfl (Nat.le_of_ble_eq_true rfl) rfl dX3_keep_13 h (fun z_13 h => ?_)
  refine z_aload_n S 0 dX3_keep_16 rfl rfl ?_
  refine z_get S (C := RX3) (T := TX3) (N := 7) (ci := 3) 0 m2_X3_keep m1_X3_keep (Nat.le_of_ble_eq_true rfl) (cC_42 X z_13) rfl (Nat.le_of_ble_eq_true rfl) rfl rfl dX3_keep_17 ?_
  refine z_get S (C := RX0) (T := TX0) (N := 11) (ci := 0) 8 m4_X3_keep m5_X3_keep (Nat.le_of_ble_eq_true rfl) (cC_0 X z_13) rfl (Nat.le_of_ble_eq_true rfl) rfl rfl dX3_keep_20 ?_
  exact z_iret_w S dX3_keep_23 h
/-! SoldLetters.restore: a walk -/
theorem hd_X3_restore : yX3_restore.cls = RX3 ∧ yX3_restore.cls ≠ "java/lang/invoke/MethodHandle" ∧ yX3_restore.cls ≠ "java/lang/invoke/VarHandle" ∧ (parseMethodDescriptor yX3_restore.desc).map (fun d => d.parameters.length) = some 0 := by decide +kernel
theorem m0_X3_restore : Cond.fieldLink RX3 194 RX3 (TX3 6).2.1 (TX3 6).2.2.1 ∈ wsX3_restore := by decide +kernel
theorem m1_X3_restore : ∀ w ∈ u_ws RX3 TX3 7, w ∈ wsX3_restore := by decide +kernel
theorem m2_X3_restore : Cond.fieldLink RX3 34 RX3 (TX3 4).2.1 (TX3 4).2.2.1 ∈ wsX3_restore := by decide +kernel
theorem m3_X3_restore : Cond.fieldLink RX3 12 RX3 (TX3 0).2.1 (TX3 0).2.2.1 ∈ wsX3_restore := by decide +kernel
theorem m4_X3_restore : Cond.fieldLink RX3 152 RX0 (TX0 8).2.1 (TX0 8).2.2.1 ∈ wsX3_restore := by decide +kernel
theorem m5_X3_restore : ∀ w ∈ u_ws RX0 TX0 11, w ∈ wsX3_restore := by decide +kernel
set_option maxHeartbeats 4000000 in
set_option maxRecDepth 100000 in
theorem c_X3_restore (l : Launch) (D : va_G) (X : zE) (z0 : zV) (hinj : zw_inj 44 X.1) {r : Int32} {z1 : zV} (h : f_X3_restore z0 = some (r, z1)) : zMw l yX3_restore wsX3_restore (zrm 4 104) D 44 X (zc shC X z0) [.ref (X.1 42)] (some (.int r)) (zc shC X z1) := by
  rw [f_X3_restore] at h
  refine z_start_w (cc := cX3_restore) (maxL := 1) (ret := (some .int)) (by decide) rfl (Nat.le_of_ble_eq_true rfl) hinj ?_
  intro p e s m below meth c S
  refine z_aload_n S 0 dX3_restore_0 rfl rfl ?_
  refine z_get S (C := RX3) (T := TX3) (N := 7) (ci := 3) 6 m0_X3_restore m1_X3_restore (Nat.le_of_ble_eq_true rfl) (cC_42 X z0) rfl (Nat.le_of_ble_eq_true rfl) rfl rfl dX3_restore_1 ?_
  refine z_if_ne S (tgt := 10) dX3_restore_4 (by decide) h (fun h => ?_) (fun h => ?_)
  · refine z_aload_n S 0 dX3_restore_10 rfl rfl ?_
    obtain ⟨z_11, hv_11, h⟩ := ob_some h
    refine z_callV_w (As := []) S (c_X3_remember l D X _ S.2.2.1 hv_11) (cwV 0 S.1.2.2.2.2 gX3_restore_X3_remember rfl rfl rfl hd_X3_remember ⟨Nat.le_of_ble_eq_true rfl, Nat.le_of_ble_eq_true rfl⟩) (Nat.le_of_ble_eq_true rfl) (cC_42 X z0) rfl rfl rfl (Nat.le_of_ble_eq_true rfl) rfl dX3_restore_11 ?_
    refine z_aload_n S 0 dX3_restore_14 rfl rfl ?_
    refine z_aload_n S 0 dX3_restore_15 rfl rfl ?_
    refine z_get S (C := RX3) (T := TX3) (N := 7) (ci := 3) 4 m2_X3_restore m1_X3_restore (Nat.le_of_ble_eq_true rfl) (cC_42 X z_11) rfl (Nat.le_of_ble_eq_true rfl) rfl rfl dX3_restore_16 ?_
    obtain ⟨z_19, hv_19, h⟩ := ob_some h
    refine z_callV_w (As := [.ref (X.1 30)]) S (c_X3_bringBack l D X _ _ S.2.2.1 hv_19) (cwV 1 S.1.2.2.2.2 gX3_restore_X3_bringBack rfl rfl rfl hd_X3_bringBack ⟨Nat.le_of_ble_eq_true rfl, Nat.le_of_ble_eq_true rfl⟩) (Nat.le_of_ble_eq_true rfl) (cC_42 X z_11) rfl rfl rfl (Nat.le_of_ble_eq_true rfl) rfl dX3_restore_19 ?_
    refine z_aload_n S 0 dX3_restore_22 rfl rfl ?_
    refine z_get S (C := RX3) (T := TX3) (N := 7) (ci := 3) 0 m3_X3_restore m1_X3_restore (Nat.le_of_ble_eq_true rfl) (cC_42 X z_19) rfl (Nat.le_of_ble_eq_true rfl) rfl rfl dX3_restore_23 ?_
    refine z_get S (C := RX0) (T := TX0) (N := 11) (ci := 0) 8 m4_X3_restore m5_X3_restore (Nat.le_of_ble_eq_true rfl) (cC_0 X z_19) rfl (Nat.le_of_ble_eq_true rfl) rfl rfl dX3_restore_26 ?_
    exact z_iret_w S dX3_restore_29 h
  · refine z_bipush (v := (-5)) S dX3_restore_7 (by decide) ?_
    exact z_iret_w S dX3_restore_9 h
/-! SoldLetters.orNone: a walk -/
theorem hd_X3_orNone : yX3_orNone.cls ≠ "java/lang/invoke/MethodHandle" ∧ yX3_orNone.cls ≠ "java/lang/invoke/VarHandle" ∧ (parseMethodDescriptor yX3_orNone.desc).map (fun d => d.parameters.length) = some 1 := by decide +kernel
set_option maxHeartbeats 4000000 in
set_option maxRecDepth 100000 in
theorem c_X3_orNone (l : Launch) (D : va_G) (X : zE) (z0 : zV) (a0 : Int32) (hinj : zw_inj 44 X.1) {r : Int32} (h : f_X3_orNone z0 a0 = some r) : zMr l yX3_orNone wsX3_orNone (zrm 0 0) D 44 X (zc shC X z0) [.int a0] (some (.int r)) := by
  rw [f_X3_orNone] at h
  refine z_start_r (cc := cX3_orNone) (maxL := 1) (ret := (some .int)) (by decide) rfl (Nat.le_of_ble_eq_true rfl) hinj ?_
  intro p e s m below meth c S
  refine z_iload_n S 0 dX3_orNone_0 rfl rfl ?_
  refine z_if_ne S (tgt := 9) dX3_orNone_1 (by decide) h (fun h => ?_) (fun h => ?_)
  · refine z_iload_n S 0 dX3_orNone_9 rfl rfl ?_
    exact z_iret_r S dX3_orNone_10 h
  · refine z_bipush (v := (-5)) S dX3_orNone_4 (by decide) ?_
    refine z_goto S (tgt := 10) dX3_orNone_6 (by decide) ?_
    exact z_iret_r S dX3_orNone_10 h
/-! SoldLetters$Words.isDown: a walk -/
theorem hd_X2_isDown : yX2_isDown.cls = RX2 ∧ yX2_isDown.cls ≠ "java/lang/invoke/MethodHandle" ∧ yX2_isDown.cls ≠ "java/lang/invoke/VarHandle" ∧ (parseMethodDescriptor yX2_isDown.desc).map (fun d => d.parameters.length) = some 1 := by decide +kernel
theorem m0_X2_isDown : Cond.fieldLink RX2 18 RX2 (TX2 2).2.1 (TX2 2).2.2.1 ∈ wsX2_isDown := by decide +kernel
theorem m1_X2_isDown : ∀ w ∈ u_ws RX2 TX2 4, w ∈ wsX2_isDown := by decide +kernel
set_option maxHeartbeats 4000000 in
set_option maxRecDepth 100000 in
theorem c_X2_isDown (l : Launch) (D : va_G) (X : zE) (z0 : zV) (a0 : Int32) (hinj : zw_inj 44 X.1) {r : Int32} (h : f_X2_isDown z0 a0 = some r) : zMr l yX2_isDown wsX2_isDown (zrm 0 0) D 44 X (zc shC X z0) [.ref (X.1 36), .int a0] (some (.int r)) := by
  rw [f_X2_isDown] at h
  refine z_start_r (cc := cX2_isDown) (maxL := 2) (ret := (some .boolean)) (by decide) rfl (Nat.le_of_ble_eq_true rfl) hinj ?_
  intro p e s m below meth c S
  refine z_aload_n S 0 dX2_isDown_0 rfl rfl ?_
  refine z_get S (C := RX2) (T := TX2) (N := 4) (ci := 2) 2 m0_X2_isDown m1_X2_isDown (Nat.le_of_ble_eq_true rfl) (cC_36 X z0) rfl (Nat.le_of_ble_eq_true rfl) rfl rfl dX2_isDown_1 ?_
  refine z_iload_n S 1 dX2_isDown_4 rfl rfl ?_
  refine z_iald S (Nat.le_of_ble_eq_true rfl) (cC_39 X z0) dX2_isDown_5 h (fun v_5 h => ?_)
  refine z_bipush (v := (nI 7)) S dX2_isDown_6 (by decide) ?_
  refine z_icmp_ne S (tgt := 15) dX2_isDown_8 (by decide) h (fun h => ?_) (fun h => ?_)
  · refine z_iconst (v := (nI 0)) S dX2_isDown_15 (by decide) ?_
    exact z_zret_r S dX2_isDown_16 h
  · refine z_iconst (v := (nI 1)) S dX2_isDown_11 (by decide) ?_
    refine z_goto S (tgt := 16) dX2_isDown_12 (by decide) ?_
    exact z_zret_r S dX2_isDown_16 h
/-! SoldLetters$Words.hasCell: a walk -/
theorem hd_X2_hasCell : yX2_hasCell.cls = RX2 ∧ yX2_hasCell.cls ≠ "java/lang/invoke/MethodHandle" ∧ yX2_hasCell.cls ≠ "java/lang/invoke/VarHandle" ∧ (parseMethodDescriptor yX2_hasCell.desc).map (fun d => d.parameters.length) = some 2 := by decide +kernel
theorem m0_X2_hasCell : Cond.fieldLink RX2 15 RX2 (TX2 1).2.1 (TX2 1).2.2.1 ∈ wsX2_hasCell := by decide +kernel
theorem m1_X2_hasCell : ∀ w ∈ u_ws RX2 TX2 4, w ∈ wsX2_hasCell := by decide +kernel
set_option maxHeartbeats 4000000 in
set_option maxRecDepth 100000 in
theorem tl_X2_hasCell_2 {l : Launch} {D : va_G} {X : zE} {p : Program} {e : Env} {s : State} {m : MethodId} {args : Array Value} {below : List Frame} {meth : Method} {c : Code} (S : zS p m meth c cX2_hasCell 4 (some .boolean) s args wsX2_hasCell RX2 D 44 X) {z0 : zV} {r : Int32} : ∀ (n_ : Nat), ∀ (x1 : Int32) (x2 : Int32) (x3 : Int32), l_X2_hasCell_2 z0 n_ x1 x2 x3 = some r → Zj false D 44 X p l e (zrm 1 22) s m args below meth c (MQ below (zQr (some (.int r))) args s 0 0 (fun _ => False)) 4 2 [(0, .ref (X.1 36)), (1, .int x1), (2, .int x2), (3, .int x3)] [] (zc shC X z0) := by
  intro n_
  induction n_ with
  | zero =>
    intro x1 x2 x3 h
    cases h
  | succ n_ ih =>
    intro x1 x2 x3 h
    rw [l_X2_hasCell_2] at h
    refine z_iload_n S 3 dX2_hasCell_2 rfl rfl ?_
    refine z_aload_n S 0 dX2_hasCell_3 rfl rfl ?_
    refine z_get S (C := RX2) (T := TX2) (N := 4) (ci := 2) 1 m0_X2_hasCell m1_X2_hasCell (Nat.le_of_ble_eq_true rfl) (cC_36 X z0) rfl (Nat.le_of_ble_eq_true rfl) rfl rfl dX2_hasCell_4 ?_
    refine z_iload_n S 1 dX2_hasCell_7 rfl rfl ?_
    refine z_iald S (Nat.le_of_ble_eq_true rfl) (cC_38 X z0) dX2_hasCell_8 h (fun v_8 h => ?_)
    refine z_icmp_ge S (tgt := 30) dX2_hasCell_9 (by decide) h (fun h => ?_) (fun h => ?_)
    · refine z_iconst (v := (nI 0)) S dX2_hasCell_30 (by decide) ?_
      exact z_zret_r S dX2_hasCell_31 h
    · refine z_aload_n S 0 dX2_hasCell_12 rfl rfl ?_
      refine z_iload_n S 1 dX2_hasCell_13 rfl rfl ?_
      refine z_iload_n S 3 dX2_hasCell_14 rfl rfl ?_
      obtain ⟨v_15, hv_15, h⟩ := ob_some h
      refine z_callV_r (As := [.int x1, .int x3]) S (c_X2_cellOf l D X _ _ _ S.2.2.1 hv_15) (cwV 2 S.1.2.2.2.2 gX2_hasCell_X2_cellOf rfl rfl rfl hd_X2_cellOf ⟨Nat.le_of_ble_eq_true rfl, Nat.le_of_ble_eq_true rfl⟩) (Nat.le_of_ble_eq_true rfl) (cC_36 X z0) rfl rfl rfl (Nat.le_of_ble_eq_true rfl) rfl dX2_hasCell_15 ?_
      refine z_iload_n S 2 dX2_hasCell_18 rfl rfl ?_
      refine z_icmp_ne S (tgt := 24) dX2_hasCell_19 (by decide) h (fun h => ?_) (fun h => ?_)
      · refine z_iinc S 3 [(3, .int (x3 + nI 1)), (0, .ref (X.1 36)), (1, .int x1), (2, .int x2)] dX2_hasCell_24 rfl rfl (Nat.le_of_ble_eq_true rfl) rfl ?_
        refine z_goto S (tgt := 2) dX2_hasCell_27 (by decide) ?_
        exact z_lv [1, 2, 3, 0] rfl (ih _ _ _ h)
      · refine z_iconst (v := (nI 1)) S dX2_hasCell_22 (by decide) ?_
        exact z_zret_r S dX2_hasCell_23 h
set_option maxHeartbeats 4000000 in
set_option maxRecDepth 100000 in
theorem c_X2_hasCell (l : Launch) (D : va_G) (X : zE) (z0 : zV) (a0 : Int32) (a1 : Int32) (hinj : zw_inj 44 X.1) {r : Int32} (h : f_X2_hasCell z0 a0 a1 = some r) : zMr l yX2_hasCell wsX2_hasCell (zrm 1 22) D 44 X (zc shC X z0) [.ref (X.1 36), .int a0, .int a1] (some (.int r)) := by
  rw [f_X2_hasCell] at h
  refine z_start_r (cc := cX2_hasCell) (maxL := 4) (ret := (some .boolean)) (by decide) rfl (Nat.le_of_ble_eq_true rfl) hinj ?_
  intro p e s m below meth c S
  refine z_iconst (v := (nI 0)) S dX2_hasCell_0 (by decide) ?_
  refine z_istore_n S [(3, .int (nI 0)), (0, .ref (X.1 36)), (1, .int a0), (2, .int a1)] dX2_hasCell_1 rfl (Nat.le_of_ble_eq_true rfl) rfl ?_
  exact z_lv [1, 2, 3, 0] rfl (tl_X2_hasCell_2 S _ _ _ _ h)
/-! SoldLetters$Words.wordAt: a walk -/
theorem hd_X2_wordAt : yX2_wordAt.cls = RX2 ∧ yX2_wordAt.cls ≠ "java/lang/invoke/MethodHandle" ∧ yX2_wordAt.cls ≠ "java/lang/invoke/VarHandle" ∧ (parseMethodDescriptor yX2_wordAt.desc).map (fun d => d.parameters.length) = some 2 := by decide +kernel
theorem m0_X2_wordAt : Cond.fieldLink RX2 21 RX2 (TX2 3).2.1 (TX2 3).2.2.1 ∈ wsX2_wordAt := by decide +kernel
theorem m1_X2_wordAt : ∀ w ∈ u_ws RX2 TX2 4, w ∈ wsX2_wordAt := by decide +kernel
set_option maxHeartbeats 4000000 in
set_option maxRecDepth 100000 in
theorem tl_X2_wordAt_2 {l : Launch} {D : va_G} {X : zE} {p : Program} {e : Env} {s : State} {m : MethodId} {args : Array Value} {below : List Frame} {meth : Method} {c : Code} (S : zS p m meth c cX2_wordAt 4 (some .int) s args wsX2_wordAt RX2 D 44 X) {z0 : zV} {r : Int32} : ∀ (n_ : Nat), ∀ (x1 : Int32) (x2 : Int32) (x3 : Int32), l_X2_wordAt_2 z0 n_ x1 x2 x3 = some r → Zj false D 44 X p l e (zrm 2 45) s m args below meth c (MQ below (zQr (some (.int r))) args s 0 0 (fun _ => False)) 4 2 [(0, .ref (X.1 36)), (1, .int x1), (2, .int x2), (3, .int x3)] [] (zc shC X z0) := by
  intro n_
  induction n_ with
  | zero =>
    intro x1 x2 x3 h
    cases h
  | succ n_ ih =>
    intro x1 x2 x3 h
    rw [l_X2_wordAt_2] at h
    refine z_iload_n S 3 dX2_wordAt_2 rfl rfl ?_
    refine z_aload_n S 0 dX2_wordAt_3 rfl rfl ?_
    refine z_get S (C := RX2) (T := TX2) (N := 4) (ci := 2) 3 m0_X2_wordAt m1_X2_wordAt (Nat.le_of_ble_eq_true rfl) (cC_36 X z0) rfl (Nat.le_of_ble_eq_true rfl) rfl rfl dX2_wordAt_4 ?_
    refine z_icmp_ge S (tgt := 36) dX2_wordAt_7 (by decide) h (fun h => ?_) (fun h => ?_)
    · refine z_bipush (v := (-5)) S dX2_wordAt_36 (by decide) ?_
      exact z_iret_r S dX2_wordAt_38 h
    · refine z_aload_n S 0 dX2_wordAt_10 rfl rfl ?_
      refine z_iload_n S 3 dX2_wordAt_11 rfl rfl ?_
      obtain ⟨v_12, hv_12, h⟩ := ob_some h
      refine z_callV_r (As := [.int x3]) S (c_X2_isDown l D X _ _ S.2.2.1 hv_12) (cwV 1 S.1.2.2.2.2 gX2_wordAt_X2_isDown rfl rfl rfl hd_X2_isDown ⟨Nat.le_of_ble_eq_true rfl, Nat.le_of_ble_eq_true rfl⟩) (Nat.le_of_ble_eq_true rfl) (cC_36 X z0) rfl rfl rfl (Nat.le_of_ble_eq_true rfl) rfl dX2_wordAt_12 ?_
      refine z_iload_n S 2 dX2_wordAt_15 rfl rfl ?_
      refine z_icmp_ne S (tgt := 30) dX2_wordAt_16 (by decide) h (fun h => ?_) (fun h => ?_)
      · refine z_iinc S 3 [(3, .int (x3 + nI 1)), (0, .ref (X.1 36)), (1, .int x1), (2, .int x2)] dX2_wordAt_30 rfl rfl (Nat.le_of_ble_eq_true rfl) rfl ?_
        refine z_goto S (tgt := 2) dX2_wordAt_33 (by decide) ?_
        exact z_lv [1, 2, 3, 0] rfl (ih _ _ _ h)
      · refine z_aload_n S 0 dX2_wordAt_19 rfl rfl ?_
        refine z_iload_n S 3 dX2_wordAt_20 rfl rfl ?_
        refine z_iload_n S 1 dX2_wordAt_21 rfl rfl ?_
        obtain ⟨v_22, hv_22, h⟩ := ob_some h
        refine z_callV_r (As := [.int x3, .int x1]) S (c_X2_hasCell l D X _ _ _ S.2.2.1 hv_22) (cwV 2 S.1.2.2.2.2 gX2_wordAt_X2_hasCell rfl rfl rfl hd_X2_hasCell ⟨Nat.le_of_ble_eq_true rfl, Nat.le_of_ble_eq_true rfl⟩) (Nat.le_of_ble_eq_true rfl) (cC_36 X z0) rfl rfl rfl (Nat.le_of_ble_eq_true rfl) rfl dX2_wordAt_22 ?_
        refine z_if_eq S (tgt := 30) dX2_wordAt_25 (by decide) h (fun h => ?_) (fun h => ?_)
        · refine z_iinc S 3 [(3, .int (x3 + nI 1)), (0, .ref (X.1 36)), (1, .int x1), (2, .int x2)] dX2_wordAt_30 rfl rfl (Nat.le_of_ble_eq_true rfl) rfl ?_
          refine z_goto S (tgt := 2) dX2_wordAt_33 (by decide) ?_
          exact z_lv [1, 2, 3, 0] rfl (ih _ _ _ h)
        · refine z_iload_n S 3 dX2_wordAt_28 rfl rfl ?_
          exact z_iret_r S dX2_wordAt_29 h
set_option maxHeartbeats 4000000 in
set_option maxRecDepth 100000 in
theorem c_X2_wordAt (l : Launch) (D : va_G) (X : zE) (z0 : zV) (a0 : Int32) (a1 : Int32) (hinj : zw_inj 44 X.1) {r : Int32} (h : f_X2_wordAt z0 a0 a1 = some r) : zMr l yX2_wordAt wsX2_wordAt (zrm 2 45) D 44 X (zc shC X z0) [.ref (X.1 36), .int a0, .int a1] (some (.int r)) := by
  rw [f_X2_wordAt] at h
  refine z_start_r (cc := cX2_wordAt) (maxL := 4) (ret := (some .int)) (by decide) rfl (Nat.le_of_ble_eq_true rfl) hinj ?_
  intro p e s m below meth c S
  refine z_iconst (v := (nI 0)) S dX2_wordAt_0 (by decide) ?_
  refine z_istore_n S [(3, .int (nI 0)), (0, .ref (X.1 36)), (1, .int a0), (2, .int a1)] dX2_wordAt_1 rfl (Nat.le_of_ble_eq_true rfl) rfl ?_
  exact z_lv [1, 2, 3, 0] rfl (tl_X2_wordAt_2 S _ _ _ _ h)
/-! SoldLetters.cell: a walk -/
theorem hd_X3_cell : yX3_cell.cls = RX3 ∧ yX3_cell.cls ≠ "java/lang/invoke/MethodHandle" ∧ yX3_cell.cls ≠ "java/lang/invoke/VarHandle" ∧ (parseMethodDescriptor yX3_cell.desc).map (fun d => d.parameters.length) = some 3 := by decide +kernel
theorem m0_X3_cell : Cond.fieldLink RX3 12 RX3 (TX3 0).2.1 (TX3 0).2.2.1 ∈ wsX3_cell := by decide +kernel
theorem m1_X3_cell : ∀ w ∈ u_ws RX3 TX3 7, w ∈ wsX3_cell := by decide +kernel
theorem m2_X3_cell : Cond.fieldLink RX3 19 RX3 (TX3 1).2.1 (TX3 1).2.2.1 ∈ wsX3_cell := by decide +kernel
set_option maxHeartbeats 4000000 in
set_option maxRecDepth 100000 in
theorem c_X3_cell (l : Launch) (D : va_G) (X : zE) (z0 : zV) (a0 : Int32) (a1 : Int32) (a2 : Int32) (hinj : zw_inj 44 X.1) {r : Int32} (h : f_X3_cell z0 a0 a1 a2 = some r) : zMr l yX3_cell wsX3_cell (zrm 3 68) D 44 X (zc shC X z0) [.ref (X.1 42), .int a0, .int a1, .int a2] (some (.int r)) := by
  rw [f_X3_cell] at h
  refine z_start_r (cc := cX3_cell) (maxL := 5) (ret := (some .int)) (by decide) rfl (Nat.le_of_ble_eq_true rfl) hinj ?_
  intro p e s m below meth c S
  refine z_iload_n S 1 dX3_cell_0 rfl rfl ?_
  obtain ⟨v_1, hv_1, h⟩ := ob_some h
  refine z_callS_r (As := [.int a0]) S (c_X3_isInGrid l D X _ _ S.2.2.1 hv_1) (va_cwS 1 S.1.2.2.2.2 gX3_cell_X3_isInGrid rfl rfl rfl hd_X3_isInGrid ⟨Nat.le_of_ble_eq_true rfl, Nat.le_of_ble_eq_true rfl⟩) rfl rfl (Nat.le_of_ble_eq_true rfl) rfl dX3_cell_1 ?_
  refine z_if_eq S (tgt := 14) dX3_cell_4 (by decide) h (fun h => ?_) (fun h => ?_)
  · refine z_iconst (v := (-1)) S dX3_cell_14 (by decide) ?_
    exact z_iret_r S dX3_cell_15 h
  · refine z_iload_n S 2 dX3_cell_7 rfl rfl ?_
    obtain ⟨v_8, hv_8, h⟩ := ob_some h
    refine z_callS_r (As := [.int a1]) S (c_X3_isInGrid l D X _ _ S.2.2.1 hv_8) (va_cwS 1 S.1.2.2.2.2 gX3_cell_X3_isInGrid rfl rfl rfl hd_X3_isInGrid ⟨Nat.le_of_ble_eq_true rfl, Nat.le_of_ble_eq_true rfl⟩) rfl rfl (Nat.le_of_ble_eq_true rfl) rfl dX3_cell_8 ?_
    refine z_if_ne S (tgt := 16) dX3_cell_11 (by decide) h (fun h => ?_) (fun h => ?_)
    · refine z_iload_n S 1 dX3_cell_16 rfl rfl ?_
      refine z_bipush (v := (nI 7)) S dX3_cell_17 (by decide) ?_
      refine z_imul S dX3_cell_19 ?_
      refine z_iload_n S 2 dX3_cell_20 rfl rfl ?_
      refine z_iadd S dX3_cell_21 ?_
      refine z_istore S [(4, .int ((a0 * (nI 7)) + a1)), (0, .ref (X.1 42)), (1, .int a0), (2, .int a1), (3, .int a2)] dX3_cell_22 (Nat.le_of_ble_eq_true rfl) rfl ?_
      refine z_iload_n S 4 dX3_cell_24 rfl rfl ?_
      by_cases c0 : a2 = nI 0
      · have h := (zif h).1 c0
        refine z_tableIn S (tgt := 56) c0 dX3_cell_25 (by decide) (by decide) rfl (by decide) ?_
        refine z_aload_n S 1 dX3_cell_56 rfl rfl ?_
        refine z_get S (C := RX3) (T := TX3) (N := 7) (ci := 3) 0 m0_X3_cell m1_X3_cell (Nat.le_of_ble_eq_true rfl) (cC_42 X z0) rfl (Nat.le_of_ble_eq_true rfl) rfl rfl dX3_cell_57 ?_
        refine z_iload S 0 dX3_cell_60 rfl ?_
        obtain ⟨v_62, hv_62, h⟩ := ob_some h
        refine z_callV_r (As := [.int ((a0 * (nI 7)) + a1)]) S (c_X0_numberAt l D X _ _ S.2.2.1 hv_62) (cwV 1 S.1.2.2.2.2 gX3_cell_X0_numberAt rfl rfl rfl hd_X0_numberAt ⟨Nat.le_of_ble_eq_true rfl, Nat.le_of_ble_eq_true rfl⟩) (Nat.le_of_ble_eq_true rfl) (cC_0 X z0) rfl rfl rfl (Nat.le_of_ble_eq_true rfl) rfl dX3_cell_62 ?_
        obtain ⟨v_65, hv_65, h⟩ := ob_some h
        refine z_callS_r (As := [.int v_62]) S (c_X3_orNone l D X _ _ S.2.2.1 hv_65) (va_cwS 1 S.1.2.2.2.2 gX3_cell_X3_orNone rfl rfl rfl hd_X3_orNone ⟨Nat.le_of_ble_eq_true rfl, Nat.le_of_ble_eq_true rfl⟩) rfl rfl (Nat.le_of_ble_eq_true rfl) rfl dX3_cell_65 ?_
        exact z_iret_r S dX3_cell_68 h
      have h := (zif h).2 c0
      by_cases c1 : a2 = nI 1
      · have h := (zif h).1 c1
        refine z_tableIn S (tgt := 69) c1 dX3_cell_25 (by decide) (by decide) rfl (by decide) ?_
        refine z_aload_n S 1 dX3_cell_69 rfl rfl ?_
        refine z_get S (C := RX3) (T := TX3) (N := 7) (ci := 3) 0 m0_X3_cell m1_X3_cell (Nat.le_of_ble_eq_true rfl) (cC_42 X z0) rfl (Nat.le_of_ble_eq_true rfl) rfl rfl dX3_cell_70 ?_
        refine z_iload S 0 dX3_cell_73 rfl ?_
        obtain ⟨v_75, hv_75, h⟩ := ob_some h
        refine z_callV_r (As := [.int ((a0 * (nI 7)) + a1)]) S (c_X0_guessAt l D X _ _ S.2.2.1 hv_75) (cwV 1 S.1.2.2.2.2 gX3_cell_X0_guessAt rfl rfl rfl hd_X0_guessAt ⟨Nat.le_of_ble_eq_true rfl, Nat.le_of_ble_eq_true rfl⟩) (Nat.le_of_ble_eq_true rfl) (cC_0 X z0) rfl rfl rfl (Nat.le_of_ble_eq_true rfl) rfl dX3_cell_75 ?_
        obtain ⟨v_78, hv_78, h⟩ := ob_some h
        refine z_callS_r (As := [.int v_75]) S (c_X3_orNone l D X _ _ S.2.2.1 hv_78) (va_cwS 1 S.1.2.2.2.2 gX3_cell_X3_orNone rfl rfl rfl hd_X3_orNone ⟨Nat.le_of_ble_eq_true rfl, Nat.le_of_ble_eq_true rfl⟩) rfl rfl (Nat.le_of_ble_eq_true rfl) rfl dX3_cell_78 ?_
        exact z_iret_r S dX3_cell_81 h
      have h := (zif h).2 c1
      by_cases c2 : a2 = nI 2
      · have h := (zif h).1 c2
        refine z_tableIn S (tgt := 82) c2 dX3_cell_25 (by decide) (by decide) rfl (by decide) ?_
        refine z_aload_n S 1 dX3_cell_82 rfl rfl ?_
        refine z_get S (C := RX3) (T := TX3) (N := 7) (ci := 3) 1 m2_X3_cell m1_X3_cell (Nat.le_of_ble_eq_true rfl) (cC_42 X z0) rfl (Nat.le_of_ble_eq_true rfl) rfl rfl dX3_cell_83 ?_
        refine z_iload S 0 dX3_cell_86 rfl ?_
        refine z_iconst (v := (nI 0)) S dX3_cell_88 (by decide) ?_
        obtain ⟨v_89, hv_89, h⟩ := ob_some h
        refine z_callV_r (As := [.int ((a0 * (nI 7)) + a1), .int (nI 0)]) S (c_X2_wordAt l D X _ _ _ S.2.2.1 hv_89) (cwV 2 S.1.2.2.2.2 gX3_cell_X2_wordAt rfl rfl rfl hd_X2_wordAt ⟨Nat.le_of_ble_eq_true rfl, Nat.le_of_ble_eq_true rfl⟩) (Nat.le_of_ble_eq_true rfl) (cC_36 X z0) rfl rfl rfl (Nat.le_of_ble_eq_true rfl) rfl dX3_cell_89 ?_
        exact z_iret_r S dX3_cell_92 h
      have h := (zif h).2 c2
      by_cases c3 : a2 = nI 3
      · have h := (zif h).1 c3
        refine z_tableIn S (tgt := 93) c3 dX3_cell_25 (by decide) (by decide) rfl (by decide) ?_
        refine z_aload_n S 1 dX3_cell_93 rfl rfl ?_
        refine z_get S (C := RX3) (T := TX3) (N := 7) (ci := 3) 1 m2_X3_cell m1_X3_cell (Nat.le_of_ble_eq_true rfl) (cC_42 X z0) rfl (Nat.le_of_ble_eq_true rfl) rfl rfl dX3_cell_94 ?_
        refine z_iload S 0 dX3_cell_97 rfl ?_
        refine z_iconst (v := (nI 1)) S dX3_cell_99 (by decide) ?_
        obtain ⟨v_100, hv_100, h⟩ := ob_some h
        refine z_callV_r (As := [.int ((a0 * (nI 7)) + a1), .int (nI 1)]) S (c_X2_wordAt l D X _ _ _ S.2.2.1 hv_100) (cwV 2 S.1.2.2.2.2 gX3_cell_X2_wordAt rfl rfl rfl hd_X2_wordAt ⟨Nat.le_of_ble_eq_true rfl, Nat.le_of_ble_eq_true rfl⟩) (Nat.le_of_ble_eq_true rfl) (cC_36 X z0) rfl rfl rfl (Nat.le_of_ble_eq_true rfl) rfl dX3_cell_100 ?_
        exact z_iret_r S dX3_cell_103 h
      have h := (zif h).2 c3
      have e0 := lv_neT (a := 0) c0 rfl
      have e1 := lv_neT (a := 1) c1 rfl
      have e2 := lv_neT (a := 2) c2 rfl
      have e3 := lv_neT (a := 3) c3 rfl
      refine z_tableOut S (tgt := 104) dX3_cell_25 (by omega) (by decide) ?_
      refine z_bipush (v := (-2)) S dX3_cell_104 (by decide) ?_
      exact z_iret_r S dX3_cell_106 h
    · refine z_iconst (v := (-1)) S dX3_cell_14 (by decide) ?_
      exact z_iret_r S dX3_cell_15 h
/-! SoldLetters.oneIf: a walk -/
theorem hd_X3_oneIf : yX3_oneIf.cls ≠ "java/lang/invoke/MethodHandle" ∧ yX3_oneIf.cls ≠ "java/lang/invoke/VarHandle" ∧ (parseMethodDescriptor yX3_oneIf.desc).map (fun d => d.parameters.length) = some 1 := by decide +kernel
set_option maxHeartbeats 4000000 in
set_option maxRecDepth 100000 in
theorem c_X3_oneIf (l : Launch) (D : va_G) (X : zE) (z0 : zV) (a0 : Int32) (hinj : zw_inj 44 X.1) {r : Int32} (h : f_X3_oneIf z0 a0 = some r) : zMr l yX3_oneIf wsX3_oneIf (zrm 0 0) D 44 X (zc shC X z0) [.int a0] (some (.int r)) := by
  rw [f_X3_oneIf] at h
  refine z_start_r (cc := cX3_oneIf) (maxL := 1) (ret := (some .int)) (by decide) rfl (Nat.le_of_ble_eq_true rfl) hinj ?_
  intro p e s m below meth c S
  refine z_iload_n S 0 dX3_oneIf_0 rfl rfl ?_
  refine z_if_eq S (tgt := 8) dX3_oneIf_1 (by decide) h (fun h => ?_) (fun h => ?_)
  · refine z_iconst (v := (nI 0)) S dX3_oneIf_8 (by decide) ?_
    exact z_iret_r S dX3_oneIf_9 h
  · refine z_iconst (v := (nI 1)) S dX3_oneIf_4 (by decide) ?_
    refine z_goto S (tgt := 9) dX3_oneIf_5 (by decide) ?_
    exact z_iret_r S dX3_oneIf_9 h
/-! SoldLetters.firstPlaceOf: a walk -/
theorem hd_X3_firstPlaceOf : yX3_firstPlaceOf.cls = RX3 ∧ yX3_firstPlaceOf.cls ≠ "java/lang/invoke/MethodHandle" ∧ yX3_firstPlaceOf.cls ≠ "java/lang/invoke/VarHandle" ∧ (parseMethodDescriptor yX3_firstPlaceOf.desc).map (fun d => d.parameters.length) = some 2 := by decide +kernel
theorem m0_X3_firstPlaceOf : Cond.fieldLink RX3 19 RX3 (TX3 1).2.1 (TX3 1).2.2.1 ∈ wsX3_firstPlaceOf := by decide +kernel
theorem m1_X3_firstPlaceOf : ∀ w ∈ u_ws RX3 TX3 7, w ∈ wsX3_firstPlaceOf := by decide +kernel
theorem m2_X3_firstPlaceOf : Cond.fieldLink RX3 136 RX2 (TX2 1).2.1 (TX2 1).2.2.1 ∈ wsX3_firstPlaceOf := by decide +kernel
theorem m3_X3_firstPlaceOf : ∀ w ∈ u_ws RX2 TX2 4, w ∈ wsX3_firstPlaceOf := by decide +kernel
set_option maxHeartbeats 4000000 in
set_option maxRecDepth 100000 in
theorem tl_X3_firstPlaceOf_2 {l : Launch} {D : va_G} {X : zE} {p : Program} {e : Env} {s : State} {m : MethodId} {args : Array Value} {below : List Frame} {meth : Method} {c : Code} (S : zS p m meth c cX3_firstPlaceOf 4 (some .int) s args wsX3_firstPlaceOf RX3 D 44 X) {z0 : zV} {r : Int32} : ∀ (n_ : Nat), ∀ (x1 : Int32) (x2 : Int32) (x3 : Int32), l_X3_firstPlaceOf_2 z0 n_ x1 x2 x3 = some r → Zj false D 44 X p l e (zrm 3 64) s m args below meth c (MQ below (zQr (some (.int r))) args s 0 0 (fun _ => False)) 4 2 [(0, .ref (X.1 42)), (1, .int x1), (2, .int x2), (3, .int x3)] [] (zc shC X z0) := by
  intro n_
  induction n_ with
  | zero =>
    intro x1 x2 x3 h
    cases h
  | succ n_ ih =>
    intro x1 x2 x3 h
    rw [l_X3_firstPlaceOf_2] at h
    refine z_iload_n S 3 dX3_firstPlaceOf_2 rfl rfl ?_
    refine z_aload_n S 0 dX3_firstPlaceOf_3 rfl rfl ?_
    refine z_get S (C := RX3) (T := TX3) (N := 7) (ci := 3) 1 m0_X3_firstPlaceOf m1_X3_firstPlaceOf (Nat.le_of_ble_eq_true rfl) (cC_42 X z0) rfl (Nat.le_of_ble_eq_true rfl) rfl rfl dX3_firstPlaceOf_4 ?_
    refine z_get S (C := RX2) (T := TX2) (N := 4) (ci := 2) 1 m2_X3_firstPlaceOf m3_X3_firstPlaceOf (Nat.le_of_ble_eq_true rfl) (cC_36 X z0) rfl (Nat.le_of_ble_eq_true rfl) rfl rfl dX3_firstPlaceOf_7 ?_
    refine z_iload_n S 2 dX3_firstPlaceOf_10 rfl rfl ?_
    refine z_iald S (Nat.le_of_ble_eq_true rfl) (cC_38 X z0) dX3_firstPlaceOf_11 h (fun v_11 h => ?_)
    refine z_icmp_ge S (tgt := 31) dX3_firstPlaceOf_12 (by decide) h (fun h => ?_) (fun h => ?_)
    · refine z_iload_n S 3 dX3_firstPlaceOf_31 rfl rfl ?_
      exact z_iret_r S dX3_firstPlaceOf_32 h
    · refine z_aload_n S 0 dX3_firstPlaceOf_15 rfl rfl ?_
      refine z_iload_n S 2 dX3_firstPlaceOf_16 rfl rfl ?_
      refine z_iload_n S 3 dX3_firstPlaceOf_17 rfl rfl ?_
      obtain ⟨v_18, hv_18, h⟩ := ob_some h
      refine z_callV_r (As := [.int x2, .int x3]) S (c_X3_numberIn l D X _ _ _ S.2.2.1 hv_18) (cwV 2 S.1.2.2.2.2 gX3_firstPlaceOf_X3_numberIn rfl rfl rfl hd_X3_numberIn ⟨Nat.le_of_ble_eq_true rfl, Nat.le_of_ble_eq_true rfl⟩) (Nat.le_of_ble_eq_true rfl) (cC_42 X z0) rfl rfl rfl (Nat.le_of_ble_eq_true rfl) rfl dX3_firstPlaceOf_18 ?_
      refine z_iload_n S 1 dX3_firstPlaceOf_21 rfl rfl ?_
      refine z_icmp_eq S (tgt := 31) dX3_firstPlaceOf_22 (by decide) h (fun h => ?_) (fun h => ?_)
      · refine z_iload_n S 3 dX3_firstPlaceOf_31 rfl rfl ?_
        exact z_iret_r S dX3_firstPlaceOf_32 h
      · refine z_iinc S 3 [(3, .int (x3 + nI 1)), (0, .ref (X.1 42)), (1, .int x1), (2, .int x2)] dX3_firstPlaceOf_25 rfl rfl (Nat.le_of_ble_eq_true rfl) rfl ?_
        refine z_goto S (tgt := 2) dX3_firstPlaceOf_28 (by decide) ?_
        exact z_lv [1, 2, 3, 0] rfl (ih _ _ _ h)
set_option maxHeartbeats 4000000 in
set_option maxRecDepth 100000 in
theorem c_X3_firstPlaceOf (l : Launch) (D : va_G) (X : zE) (z0 : zV) (a0 : Int32) (a1 : Int32) (hinj : zw_inj 44 X.1) {r : Int32} (h : f_X3_firstPlaceOf z0 a0 a1 = some r) : zMr l yX3_firstPlaceOf wsX3_firstPlaceOf (zrm 3 64) D 44 X (zc shC X z0) [.ref (X.1 42), .int a0, .int a1] (some (.int r)) := by
  rw [f_X3_firstPlaceOf] at h
  refine z_start_r (cc := cX3_firstPlaceOf) (maxL := 4) (ret := (some .int)) (by decide) rfl (Nat.le_of_ble_eq_true rfl) hinj ?_
  intro p e s m below meth c S
  refine z_iconst (v := (nI 0)) S dX3_firstPlaceOf_0 (by decide) ?_
  refine z_istore_n S [(3, .int (nI 0)), (0, .ref (X.1 42)), (1, .int a0), (2, .int a1)] dX3_firstPlaceOf_1 rfl (Nat.le_of_ble_eq_true rfl) rfl ?_
  exact z_lv [1, 2, 3, 0] rfl (tl_X3_firstPlaceOf_2 S _ _ _ _ h)
/-! SoldLetters.hasNumber: a walk -/
theorem hd_X3_hasNumber : yX3_hasNumber.cls = RX3 ∧ yX3_hasNumber.cls ≠ "java/lang/invoke/MethodHandle" ∧ yX3_hasNumber.cls ≠ "java/lang/invoke/VarHandle" ∧ (parseMethodDescriptor yX3_hasNumber.desc).map (fun d => d.parameters.length) = some 2 := by decide +kernel
theorem m0_X3_hasNumber : Cond.fieldLink RX3 19 RX3 (TX3 1).2.1 (TX3 1).2.2.1 ∈ wsX3_hasNumber := by decide +kernel
theorem m1_X3_hasNumber : ∀ w ∈ u_ws RX3 TX3 7, w ∈ wsX3_hasNumber := by decide +kernel
theorem m2_X3_hasNumber : Cond.fieldLink RX3 136 RX2 (TX2 1).2.1 (TX2 1).2.2.1 ∈ wsX3_hasNumber := by decide +kernel
theorem m3_X3_hasNumber : ∀ w ∈ u_ws RX2 TX2 4, w ∈ wsX3_hasNumber := by decide +kernel
set_option maxHeartbeats 4000000 in
set_option maxRecDepth 100000 in
theorem c_X3_hasNumber (l : Launch) (D : va_G) (X : zE) (z0 : zV) (a0 : Int32) (a1 : Int32) (hinj : zw_inj 44 X.1) {r : Int32} (h : f_X3_hasNumber z0 a0 a1 = some r) : zMr l yX3_hasNumber wsX3_hasNumber (zrm 4 87) D 44 X (zc shC X z0) [.ref (X.1 42), .int a0, .int a1] (some (.int r)) := by
  rw [f_X3_hasNumber] at h
  refine z_start_r (cc := cX3_hasNumber) (maxL := 3) (ret := (some .boolean)) (by decide) rfl (Nat.le_of_ble_eq_true rfl) hinj ?_
  intro p e s m below meth c S
  refine z_aload_n S 0 dX3_hasNumber_0 rfl rfl ?_
  refine z_iload_n S 2 dX3_hasNumber_1 rfl rfl ?_
  refine z_iload_n S 1 dX3_hasNumber_2 rfl rfl ?_
  obtain ⟨v_3, hv_3, h⟩ := ob_some h
  refine z_callV_r (As := [.int a1, .int a0]) S (c_X3_firstPlaceOf l D X _ _ _ S.2.2.1 hv_3) (cwV 2 S.1.2.2.2.2 gX3_hasNumber_X3_firstPlaceOf rfl rfl rfl hd_X3_firstPlaceOf ⟨Nat.le_of_ble_eq_true rfl, Nat.le_of_ble_eq_true rfl⟩) (Nat.le_of_ble_eq_true rfl) (cC_42 X z0) rfl rfl rfl (Nat.le_of_ble_eq_true rfl) rfl dX3_hasNumber_3 ?_
  refine z_aload_n S 0 dX3_hasNumber_6 rfl rfl ?_
  refine z_get S (C := RX3) (T := TX3) (N := 7) (ci := 3) 1 m0_X3_hasNumber m1_X3_hasNumber (Nat.le_of_ble_eq_true rfl) (cC_42 X z0) rfl (Nat.le_of_ble_eq_true rfl) rfl rfl dX3_hasNumber_7 ?_
  refine z_get S (C := RX2) (T := TX2) (N := 4) (ci := 2) 1 m2_X3_hasNumber m3_X3_hasNumber (Nat.le_of_ble_eq_true rfl) (cC_36 X z0) rfl (Nat.le_of_ble_eq_true rfl) rfl rfl dX3_hasNumber_10 ?_
  refine z_iload_n S 1 dX3_hasNumber_13 rfl rfl ?_
  refine z_iald S (Nat.le_of_ble_eq_true rfl) (cC_38 X z0) dX3_hasNumber_14 h (fun v_14 h => ?_)
  refine z_icmp_ge S (tgt := 22) dX3_hasNumber_15 (by decide) h (fun h => ?_) (fun h => ?_)
  · refine z_iconst (v := (nI 0)) S dX3_hasNumber_22 (by decide) ?_
    exact z_zret_r S dX3_hasNumber_23 h
  · refine z_iconst (v := (nI 1)) S dX3_hasNumber_18 (by decide) ?_
    refine z_goto S (tgt := 23) dX3_hasNumber_19 (by decide) ?_
    exact z_zret_r S dX3_hasNumber_23 h
/-! SoldLetters.wordsWith: a walk -/
theorem hd_X3_wordsWith : yX3_wordsWith.cls = RX3 ∧ yX3_wordsWith.cls ≠ "java/lang/invoke/MethodHandle" ∧ yX3_wordsWith.cls ≠ "java/lang/invoke/VarHandle" ∧ (parseMethodDescriptor yX3_wordsWith.desc).map (fun d => d.parameters.length) = some 1 := by decide +kernel
theorem m0_X3_wordsWith : Cond.fieldLink RX3 19 RX3 (TX3 1).2.1 (TX3 1).2.2.1 ∈ wsX3_wordsWith := by decide +kernel
theorem m1_X3_wordsWith : ∀ w ∈ u_ws RX3 TX3 7, w ∈ wsX3_wordsWith := by decide +kernel
theorem m2_X3_wordsWith : Cond.fieldLink RX3 63 RX2 (TX2 3).2.1 (TX2 3).2.2.1 ∈ wsX3_wordsWith := by decide +kernel
theorem m3_X3_wordsWith : ∀ w ∈ u_ws RX2 TX2 4, w ∈ wsX3_wordsWith := by decide +kernel
set_option maxHeartbeats 4000000 in
set_option maxRecDepth 100000 in
theorem tl_X3_wordsWith_4 {l : Launch} {D : va_G} {X : zE} {p : Program} {e : Env} {s : State} {m : MethodId} {args : Array Value} {below : List Frame} {meth : Method} {c : Code} (S : zS p m meth c cX3_wordsWith 4 (some .int) s args wsX3_wordsWith RX3 D 44 X) {z0 : zV} {r : Int32} : ∀ (n_ : Nat), ∀ (x1 : Int32) (x2 : Int32) (x3 : Int32), l_X3_wordsWith_4 z0 n_ x1 x2 x3 = some r → Zj false D 44 X p l e (zrm 5 109) s m args below meth c (MQ below (zQr (some (.int r))) args s 0 0 (fun _ => False)) 4 4 [(0, .ref (X.1 42)), (1, .int x1), (2, .int x2), (3, .int x3)] [] (zc shC X z0) := by
  intro n_
  induction n_ with
  | zero =>
    intro x1 x2 x3 h
    cases h
  | succ n_ ih =>
    intro x1 x2 x3 h
    rw [l_X3_wordsWith_4] at h
    refine z_iload_n S 3 dX3_wordsWith_4 rfl rfl ?_
    refine z_aload_n S 0 dX3_wordsWith_5 rfl rfl ?_
    refine z_get S (C := RX3) (T := TX3) (N := 7) (ci := 3) 1 m0_X3_wordsWith m1_X3_wordsWith (Nat.le_of_ble_eq_true rfl) (cC_42 X z0) rfl (Nat.le_of_ble_eq_true rfl) rfl rfl dX3_wordsWith_6 ?_
    refine z_get S (C := RX2) (T := TX2) (N := 4) (ci := 2) 3 m2_X3_wordsWith m3_X3_wordsWith (Nat.le_of_ble_eq_true rfl) (cC_36 X z0) rfl (Nat.le_of_ble_eq_true rfl) rfl rfl dX3_wordsWith_9 ?_
    refine z_icmp_ge S (tgt := 33) dX3_wordsWith_12 (by decide) h (fun h => ?_) (fun h => ?_)
    · refine z_iload_n S 2 dX3_wordsWith_33 rfl rfl ?_
      exact z_iret_r S dX3_wordsWith_34 h
    · refine z_aload_n S 0 dX3_wordsWith_15 rfl rfl ?_
      refine z_iload_n S 3 dX3_wordsWith_16 rfl rfl ?_
      refine z_iload_n S 1 dX3_wordsWith_17 rfl rfl ?_
      obtain ⟨v_18, hv_18, h⟩ := ob_some h
      refine z_callV_r (As := [.int x3, .int x1]) S (c_X3_hasNumber l D X _ _ _ S.2.2.1 hv_18) (cwV 2 S.1.2.2.2.2 gX3_wordsWith_X3_hasNumber rfl rfl rfl hd_X3_hasNumber ⟨Nat.le_of_ble_eq_true rfl, Nat.le_of_ble_eq_true rfl⟩) (Nat.le_of_ble_eq_true rfl) (cC_42 X z0) rfl rfl rfl (Nat.le_of_ble_eq_true rfl) rfl dX3_wordsWith_18 ?_
      refine z_if_eq S (tgt := 27) dX3_wordsWith_21 (by decide) h (fun h => ?_) (fun h => ?_)
      · refine z_iinc S 3 [(3, .int (x3 + nI 1)), (0, .ref (X.1 42)), (1, .int x1), (2, .int x2)] dX3_wordsWith_27 rfl rfl (Nat.le_of_ble_eq_true rfl) rfl ?_
        refine z_goto S (tgt := 4) dX3_wordsWith_30 (by decide) ?_
        exact z_lv [1, 2, 3, 0] rfl (ih _ _ _ h)
      · refine z_iinc S 2 [(2, .int (x2 + nI 1)), (0, .ref (X.1 42)), (1, .int x1), (3, .int x3)] dX3_wordsWith_24 rfl rfl (Nat.le_of_ble_eq_true rfl) rfl ?_
        refine z_iinc S 3 [(3, .int (x3 + nI 1)), (2, .int (x2 + nI 1)), (0, .ref (X.1 42)), (1, .int x1)] dX3_wordsWith_27 rfl rfl (Nat.le_of_ble_eq_true rfl) rfl ?_
        refine z_goto S (tgt := 4) dX3_wordsWith_30 (by decide) ?_
        exact z_lv [2, 3, 1, 0] rfl (ih _ _ _ h)
set_option maxHeartbeats 4000000 in
set_option maxRecDepth 100000 in
theorem c_X3_wordsWith (l : Launch) (D : va_G) (X : zE) (z0 : zV) (a0 : Int32) (hinj : zw_inj 44 X.1) {r : Int32} (h : f_X3_wordsWith z0 a0 = some r) : zMr l yX3_wordsWith wsX3_wordsWith (zrm 5 109) D 44 X (zc shC X z0) [.ref (X.1 42), .int a0] (some (.int r)) := by
  rw [f_X3_wordsWith] at h
  refine z_start_r (cc := cX3_wordsWith) (maxL := 4) (ret := (some .int)) (by decide) rfl (Nat.le_of_ble_eq_true rfl) hinj ?_
  intro p e s m below meth c S
  refine z_iconst (v := (nI 0)) S dX3_wordsWith_0 (by decide) ?_
  refine z_istore_n S [(2, .int (nI 0)), (0, .ref (X.1 42)), (1, .int a0)] dX3_wordsWith_1 rfl (Nat.le_of_ble_eq_true rfl) rfl ?_
  refine z_iconst (v := (nI 0)) S dX3_wordsWith_2 (by decide) ?_
  refine z_istore_n S [(3, .int (nI 0)), (2, .int (nI 0)), (0, .ref (X.1 42)), (1, .int a0)] dX3_wordsWith_3 rfl (Nat.le_of_ble_eq_true rfl) rfl ?_
  exact z_lv [2, 3, 1, 0] rfl (tl_X3_wordsWith_4 S _ _ _ _ h)
