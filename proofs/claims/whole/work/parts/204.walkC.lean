/-! SoldLetters.isWord: a walk -/
theorem hd_X3_isWord : yX3_isWord.cls = RX3 ∧ yX3_isWord.cls ≠ "java/lang/invoke/MethodHandle" ∧ yX3_isWord.cls ≠ "java/lang/invoke/VarHandle" ∧ (parseMethodDescriptor yX3_isWord.desc).map (fun d => d.parameters.length) = some 1 := by decide +kernel
theorem m0_X3_isWord : Cond.fieldLink RX3 19 RX3 (TX3 1).2.1 (TX3 1).2.2.1 ∈ wsX3_isWord := by decide +kernel
theorem m1_X3_isWord : ∀ w ∈ u_ws RX3 TX3 7, w ∈ wsX3_isWord := by decide +kernel
theorem m2_X3_isWord : Cond.fieldLink RX3 63 RX2 (TX2 3).2.1 (TX2 3).2.2.1 ∈ wsX3_isWord := by decide +kernel
theorem m3_X3_isWord : ∀ w ∈ u_ws RX2 TX2 4, w ∈ wsX3_isWord := by decide +kernel
set_option maxHeartbeats 4000000 in
set_option maxRecDepth 100000 in
theorem c_X3_isWord (l : Launch) (D : va_G) (X : zE) (z0 : zV) (a0 : Int32) (hinj : zw_inj 44 X.1) {r : Int32} (h : f_X3_isWord z0 a0 = some r) : zMr l yX3_isWord wsX3_isWord (zrm 0 0) D 44 X (zc shC X z0) [.ref (X.1 42), .int a0] (some (.int r)) := by
  rw [f_X3_isWord] at h
  refine z_start_r (cc := cX3_isWord) (maxL := 2) (ret := (some .boolean)) (by decide) rfl (Nat.le_of_ble_eq_true rfl) hinj ?_
  intro p e s m below meth c S
  refine z_iload_n S 1 dX3_isWord_0 rfl rfl ?_
  refine z_if_lt S (tgt := 19) dX3_isWord_1 (by decide) h (fun h => ?_) (fun h => ?_)
  · refine z_iconst (v := (nI 0)) S dX3_isWord_19 (by decide) ?_
    exact z_zret_r S dX3_isWord_20 h
  · refine z_iload_n S 1 dX3_isWord_4 rfl rfl ?_
    refine z_aload_n S 0 dX3_isWord_5 rfl rfl ?_
    refine z_get S (C := RX3) (T := TX3) (N := 7) (ci := 3) 1 m0_X3_isWord m1_X3_isWord (Nat.le_of_ble_eq_true rfl) (cC_42 X z0) rfl (Nat.le_of_ble_eq_true rfl) rfl rfl dX3_isWord_6 ?_
    refine z_get S (C := RX2) (T := TX2) (N := 4) (ci := 2) 3 m2_X3_isWord m3_X3_isWord (Nat.le_of_ble_eq_true rfl) (cC_36 X z0) rfl (Nat.le_of_ble_eq_true rfl) rfl rfl dX3_isWord_9 ?_
    refine z_icmp_ge S (tgt := 19) dX3_isWord_12 (by decide) h (fun h => ?_) (fun h => ?_)
    · refine z_iconst (v := (nI 0)) S dX3_isWord_19 (by decide) ?_
      exact z_zret_r S dX3_isWord_20 h
    · refine z_iconst (v := (nI 1)) S dX3_isWord_15 (by decide) ?_
      refine z_goto S (tgt := 20) dX3_isWord_16 (by decide) ?_
      exact z_zret_r S dX3_isWord_20 h
/-! SoldLetters$Words.cellOf: a walk -/
theorem hd_X2_cellOf : yX2_cellOf.cls = RX2 ∧ yX2_cellOf.cls ≠ "java/lang/invoke/MethodHandle" ∧ yX2_cellOf.cls ≠ "java/lang/invoke/VarHandle" ∧ (parseMethodDescriptor yX2_cellOf.desc).map (fun d => d.parameters.length) = some 2 := by decide +kernel
theorem m0_X2_cellOf : Cond.fieldLink RX2 9 RX2 (TX2 0).2.1 (TX2 0).2.2.1 ∈ wsX2_cellOf := by decide +kernel
theorem m1_X2_cellOf : ∀ w ∈ u_ws RX2 TX2 4, w ∈ wsX2_cellOf := by decide +kernel
theorem m2_X2_cellOf : Cond.fieldLink RX2 18 RX2 (TX2 2).2.1 (TX2 2).2.2.1 ∈ wsX2_cellOf := by decide +kernel
set_option maxHeartbeats 4000000 in
set_option maxRecDepth 100000 in
theorem c_X2_cellOf (l : Launch) (D : va_G) (X : zE) (z0 : zV) (a0 : Int32) (a1 : Int32) (hinj : zw_inj 44 X.1) {r : Int32} (h : f_X2_cellOf z0 a0 a1 = some r) : zMr l yX2_cellOf wsX2_cellOf (zrm 0 0) D 44 X (zc shC X z0) [.ref (X.1 36), .int a0, .int a1] (some (.int r)) := by
  rw [f_X2_cellOf] at h
  refine z_start_r (cc := cX2_cellOf) (maxL := 3) (ret := (some .int)) (by decide) rfl (Nat.le_of_ble_eq_true rfl) hinj ?_
  intro p e s m below meth c S
  refine z_aload_n S 0 dX2_cellOf_0 rfl rfl ?_
  refine z_get S (C := RX2) (T := TX2) (N := 4) (ci := 2) 0 m0_X2_cellOf m1_X2_cellOf (Nat.le_of_ble_eq_true rfl) (cC_36 X z0) rfl (Nat.le_of_ble_eq_true rfl) rfl rfl dX2_cellOf_1 ?_
  refine z_iload_n S 1 dX2_cellOf_4 rfl rfl ?_
  refine z_iald S (Nat.le_of_ble_eq_true rfl) (cC_37 X z0) dX2_cellOf_5 h (fun v_5 h => ?_)
  refine z_iload_n S 2 dX2_cellOf_6 rfl rfl ?_
  refine z_aload_n S 0 dX2_cellOf_7 rfl rfl ?_
  refine z_get S (C := RX2) (T := TX2) (N := 4) (ci := 2) 2 m2_X2_cellOf m1_X2_cellOf (Nat.le_of_ble_eq_true rfl) (cC_36 X z0) rfl (Nat.le_of_ble_eq_true rfl) rfl rfl dX2_cellOf_8 ?_
  refine z_iload_n S 1 dX2_cellOf_11 rfl rfl ?_
  refine z_iald S (Nat.le_of_ble_eq_true rfl) (cC_39 X z0) dX2_cellOf_12 h (fun v_12 h => ?_)
  refine z_imul S dX2_cellOf_13 ?_
  refine z_iadd S dX2_cellOf_14 ?_
  exact z_iret_r S dX2_cellOf_15 h
/-! SoldLetters.numberIn: a walk -/
theorem hd_X3_numberIn : yX3_numberIn.cls = RX3 ∧ yX3_numberIn.cls ≠ "java/lang/invoke/MethodHandle" ∧ yX3_numberIn.cls ≠ "java/lang/invoke/VarHandle" ∧ (parseMethodDescriptor yX3_numberIn.desc).map (fun d => d.parameters.length) = some 2 := by decide +kernel
theorem m0_X3_numberIn : Cond.fieldLink RX3 12 RX3 (TX3 0).2.1 (TX3 0).2.2.1 ∈ wsX3_numberIn := by decide +kernel
theorem m1_X3_numberIn : ∀ w ∈ u_ws RX3 TX3 7, w ∈ wsX3_numberIn := by decide +kernel
theorem m2_X3_numberIn : Cond.fieldLink RX3 19 RX3 (TX3 1).2.1 (TX3 1).2.2.1 ∈ wsX3_numberIn := by decide +kernel
set_option maxHeartbeats 4000000 in
set_option maxRecDepth 100000 in
theorem c_X3_numberIn (l : Launch) (D : va_G) (X : zE) (z0 : zV) (a0 : Int32) (a1 : Int32) (hinj : zw_inj 44 X.1) {r : Int32} (h : f_X3_numberIn z0 a0 a1 = some r) : zMr l yX3_numberIn wsX3_numberIn (zrm 2 42) D 44 X (zc shC X z0) [.ref (X.1 42), .int a0, .int a1] (some (.int r)) := by
  rw [f_X3_numberIn] at h
  refine z_start_r (cc := cX3_numberIn) (maxL := 3) (ret := (some .int)) (by decide) rfl (Nat.le_of_ble_eq_true rfl) hinj ?_
  intro p e s m below meth c S
  refine z_aload_n S 0 dX3_numberIn_0 rfl rfl ?_
  refine z_get S (C := RX3) (T := TX3) (N := 7) (ci := 3) 0 m0_X3_numberIn m1_X3_numberIn (Nat.le_of_ble_eq_true rfl) (cC_42 X z0) rfl (Nat.le_of_ble_eq_true rfl) rfl rfl dX3_numberIn_1 ?_
  refine z_aload_n S 0 dX3_numberIn_4 rfl rfl ?_
  refine z_get S (C := RX3) (T := TX3) (N := 7) (ci := 3) 1 m2_X3_numberIn m1_X3_numberIn (Nat.le_of_ble_eq_true rfl) (cC_42 X z0) rfl (Nat.le_of_ble_eq_true rfl) rfl rfl dX3_numberIn_5 ?_
  refine z_iload_n S 1 dX3_numberIn_8 rfl rfl ?_
  refine z_iload_n S 2 dX3_numberIn_9 rfl rfl ?_
  obtain ⟨v_10, hv_10, h⟩ := ob_some h
  refine z_callV_r (As := [.int a0, .int a1]) S (c_X2_cellOf l D X _ _ _ S.2.2.1 hv_10) (cwV 2 S.1.2.2.2.2 gX3_numberIn_X2_cellOf rfl rfl rfl hd_X2_cellOf ⟨Nat.le_of_ble_eq_true rfl, Nat.le_of_ble_eq_true rfl⟩) (Nat.le_of_ble_eq_true rfl) (cC_36 X z0) rfl rfl rfl (Nat.le_of_ble_eq_true rfl) rfl dX3_numberIn_10 ?_
  obtain ⟨v_13, hv_13, h⟩ := ob_some h
  refine z_callV_r (As := [.int v_10]) S (c_X0_numberAt l D X _ _ S.2.2.1 hv_13) (cwV 1 S.1.2.2.2.2 gX3_numberIn_X0_numberAt rfl rfl rfl hd_X0_numberAt ⟨Nat.le_of_ble_eq_true rfl, Nat.le_of_ble_eq_true rfl⟩) (Nat.le_of_ble_eq_true rfl) (cC_0 X z0) rfl rfl rfl (Nat.le_of_ble_eq_true rfl) rfl dX3_numberIn_13 ?_
  exact z_iret_r S dX3_numberIn_16 h
/-! SoldLetters.isUnguessed: a walk -/
theorem hd_X3_isUnguessed : yX3_isUnguessed.cls = RX3 ∧ yX3_isUnguessed.cls ≠ "java/lang/invoke/MethodHandle" ∧ yX3_isUnguessed.cls ≠ "java/lang/invoke/VarHandle" ∧ (parseMethodDescriptor yX3_isUnguessed.desc).map (fun d => d.parameters.length) = some 1 := by decide +kernel
theorem m0_X3_isUnguessed : Cond.fieldLink RX3 12 RX3 (TX3 0).2.1 (TX3 0).2.2.1 ∈ wsX3_isUnguessed := by decide +kernel
theorem m1_X3_isUnguessed : ∀ w ∈ u_ws RX3 TX3 7, w ∈ wsX3_isUnguessed := by decide +kernel
theorem m2_X3_isUnguessed : Cond.fieldLink RX3 121 RX0 (TX0 1).2.1 (TX0 1).2.2.1 ∈ wsX3_isUnguessed := by decide +kernel
theorem m3_X3_isUnguessed : ∀ w ∈ u_ws RX0 TX0 11, w ∈ wsX3_isUnguessed := by decide +kernel
set_option maxHeartbeats 4000000 in
set_option maxRecDepth 100000 in
theorem c_X3_isUnguessed (l : Launch) (D : va_G) (X : zE) (z0 : zV) (a0 : Int32) (hinj : zw_inj 44 X.1) {r : Int32} (h : f_X3_isUnguessed z0 a0 = some r) : zMr l yX3_isUnguessed wsX3_isUnguessed (zrm 1 20) D 44 X (zc shC X z0) [.ref (X.1 42), .int a0] (some (.int r)) := by
  rw [f_X3_isUnguessed] at h
  refine z_start_r (cc := cX3_isUnguessed) (maxL := 2) (ret := (some .boolean)) (by decide) rfl (Nat.le_of_ble_eq_true rfl) hinj ?_
  intro p e s m below meth c S
  refine z_iload_n S 1 dX3_isUnguessed_0 rfl rfl ?_
  obtain ⟨v_1, hv_1, h⟩ := ob_some h
  refine z_callS_r (As := [.int a0]) S (c_X3_isNumber l D X _ _ S.2.2.1 hv_1) (va_cwS 1 S.1.2.2.2.2 gX3_isUnguessed_X3_isNumber rfl rfl rfl hd_X3_isNumber ⟨Nat.le_of_ble_eq_true rfl, Nat.le_of_ble_eq_true rfl⟩) rfl rfl (Nat.le_of_ble_eq_true rfl) rfl dX3_isUnguessed_1 ?_
  refine z_if_eq S (tgt := 23) dX3_isUnguessed_4 (by decide) h (fun h => ?_) (fun h => ?_)
  · refine z_iconst (v := (nI 0)) S dX3_isUnguessed_23 (by decide) ?_
    exact z_zret_r S dX3_isUnguessed_24 h
  · refine z_aload_n S 0 dX3_isUnguessed_7 rfl rfl ?_
    refine z_get S (C := RX3) (T := TX3) (N := 7) (ci := 3) 0 m0_X3_isUnguessed m1_X3_isUnguessed (Nat.le_of_ble_eq_true rfl) (cC_42 X z0) rfl (Nat.le_of_ble_eq_true rfl) rfl rfl dX3_isUnguessed_8 ?_
    refine z_get S (C := RX0) (T := TX0) (N := 11) (ci := 0) 1 m2_X3_isUnguessed m3_X3_isUnguessed (Nat.le_of_ble_eq_true rfl) (cC_0 X z0) rfl (Nat.le_of_ble_eq_true rfl) rfl rfl dX3_isUnguessed_11 ?_
    refine z_iload_n S 1 dX3_isUnguessed_14 rfl rfl ?_
    refine z_iald S (Nat.le_of_ble_eq_true rfl) (cC_2 X z0) dX3_isUnguessed_15 h (fun v_15 h => ?_)
    refine z_if_ne S (tgt := 23) dX3_isUnguessed_16 (by decide) h (fun h => ?_) (fun h => ?_)
    · refine z_iconst (v := (nI 0)) S dX3_isUnguessed_23 (by decide) ?_
      exact z_zret_r S dX3_isUnguessed_24 h
    · refine z_iconst (v := (nI 1)) S dX3_isUnguessed_19 (by decide) ?_
      refine z_goto S (tgt := 24) dX3_isUnguessed_20 (by decide) ?_
      exact z_zret_r S dX3_isUnguessed_24 h
/-! SoldLetters.mayStandFor: a walk -/
theorem hd_X3_mayStandFor : yX3_mayStandFor.cls = RX3 ∧ yX3_mayStandFor.cls ≠ "java/lang/invoke/MethodHandle" ∧ yX3_mayStandFor.cls ≠ "java/lang/invoke/VarHandle" ∧ (parseMethodDescriptor yX3_mayStandFor.desc).map (fun d => d.parameters.length) = some 2 := by decide +kernel
theorem m0_X3_mayStandFor : Cond.fieldLink RX3 12 RX3 (TX3 0).2.1 (TX3 0).2.2.1 ∈ wsX3_mayStandFor := by decide +kernel
theorem m1_X3_mayStandFor : ∀ w ∈ u_ws RX3 TX3 7, w ∈ wsX3_mayStandFor := by decide +kernel
set_option maxHeartbeats 4000000 in
set_option maxRecDepth 100000 in
theorem tj_X3_mayStandFor_21 {l : Launch} {D : va_G} {X : zE} {p : Program} {e : Env} {s : State} {m : MethodId} {args : Array Value} {below : List Frame} {meth : Method} {c : Code} (S : zS p m meth c cX3_mayStandFor 3 (some .boolean) s args wsX3_mayStandFor RX3 D 44 X) {z0 : zV} {r : Int32} : ∀ (y0 : Int32) (y1 : Int32), j_X3_mayStandFor_21 z0 y0 y1 = some r → Zj false D 44 X p l e (zrm 2 41) s m args below meth c (MQ below (zQr (some (.int r))) args s 0 0 (fun _ => False)) 3 21 [] [.int y1, .int y0] (zc shC X z0) := by
  intro y0 y1 h
  rw [j_X3_mayStandFor_21] at h
  refine z_icmp_ne S (tgt := 28) dX3_mayStandFor_21 (by decide) h (fun h => ?_) (fun h => ?_)
  · refine z_iconst (v := (nI 0)) S dX3_mayStandFor_28 (by decide) ?_
    exact z_zret_r S dX3_mayStandFor_29 h
  · refine z_iconst (v := (nI 1)) S dX3_mayStandFor_24 (by decide) ?_
    refine z_goto S (tgt := 29) dX3_mayStandFor_25 (by decide) ?_
    exact z_zret_r S dX3_mayStandFor_29 h
set_option maxHeartbeats 4000000 in
set_option maxRecDepth 100000 in
theorem c_X3_mayStandFor (l : Launch) (D : va_G) (X : zE) (z0 : zV) (a0 : Int32) (a1 : Int32) (hinj : zw_inj 44 X.1) {r : Int32} (h : f_X3_mayStandFor z0 a0 a1 = some r) : zMr l yX3_mayStandFor wsX3_mayStandFor (zrm 2 41) D 44 X (zc shC X z0) [.ref (X.1 42), .int a0, .int a1] (some (.int r)) := by
  rw [f_X3_mayStandFor] at h
  refine z_start_r (cc := cX3_mayStandFor) (maxL := 3) (ret := (some .boolean)) (by decide) rfl (Nat.le_of_ble_eq_true rfl) hinj ?_
  intro p e s m below meth c S
  refine z_aload_n S 0 dX3_mayStandFor_0 rfl rfl ?_
  refine z_get S (C := RX3) (T := TX3) (N := 7) (ci := 3) 0 m0_X3_mayStandFor m1_X3_mayStandFor (Nat.le_of_ble_eq_true rfl) (cC_42 X z0) rfl (Nat.le_of_ble_eq_true rfl) rfl rfl dX3_mayStandFor_1 ?_
  refine z_iload_n S 1 dX3_mayStandFor_4 rfl rfl ?_
  obtain ⟨v_5, hv_5, h⟩ := ob_some h
  refine z_callV_r (As := [.int a0]) S (c_X0_numberGuessedAs l D X _ _ S.2.2.1 hv_5) (cwV 1 S.1.2.2.2.2 gX3_mayStandFor_X0_numberGuessedAs rfl rfl rfl hd_X0_numberGuessedAs ⟨Nat.le_of_ble_eq_true rfl, Nat.le_of_ble_eq_true rfl⟩) (Nat.le_of_ble_eq_true rfl) (cC_0 X z0) rfl rfl rfl (Nat.le_of_ble_eq_true rfl) rfl dX3_mayStandFor_5 ?_
  refine z_aload_n S 0 dX3_mayStandFor_8 rfl rfl ?_
  refine z_iload_n S 2 dX3_mayStandFor_9 rfl rfl ?_
  obtain ⟨v_10, hv_10, h⟩ := ob_some h
  refine z_callV_r (As := [.int a1]) S (c_X3_isUnguessed l D X _ _ S.2.2.1 hv_10) (cwV 1 S.1.2.2.2.2 gX3_mayStandFor_X3_isUnguessed rfl rfl rfl hd_X3_isUnguessed ⟨Nat.le_of_ble_eq_true rfl, Nat.le_of_ble_eq_true rfl⟩) (Nat.le_of_ble_eq_true rfl) (cC_42 X z0) rfl rfl rfl (Nat.le_of_ble_eq_true rfl) rfl dX3_mayStandFor_10 ?_
  refine z_if_eq S (tgt := 20) dX3_mayStandFor_13 (by decide) h (fun h => ?_) (fun h => ?_)
  · refine z_iload_n S 2 dX3_mayStandFor_20 rfl rfl ?_
    exact z_lv [] rfl (tj_X3_mayStandFor_21 S _ _ h)
  · refine z_iconst (v := (nI 0)) S dX3_mayStandFor_16 (by decide) ?_
    refine z_goto S (tgt := 21) dX3_mayStandFor_17 (by decide) ?_
    exact z_lv [] rfl (tj_X3_mayStandFor_21 S _ _ h)
/-! SoldLetters.agreesWithEarlier: a walk -/
theorem hd_X3_agreesWithEarlier : yX3_agreesWithEarlier.cls = RX3 ∧ yX3_agreesWithEarlier.cls ≠ "java/lang/invoke/MethodHandle" ∧ yX3_agreesWithEarlier.cls ≠ "java/lang/invoke/VarHandle" ∧ (parseMethodDescriptor yX3_agreesWithEarlier.desc).map (fun d => d.parameters.length) = some 3 := by decide +kernel
theorem m0_X3_agreesWithEarlier : Cond.fieldLink RX3 12 RX3 (TX3 0).2.1 (TX3 0).2.2.1 ∈ wsX3_agreesWithEarlier := by decide +kernel
theorem m1_X3_agreesWithEarlier : ∀ w ∈ u_ws RX3 TX3 7, w ∈ wsX3_agreesWithEarlier := by decide +kernel
theorem m2_X3_agreesWithEarlier : Cond.fieldLink RX3 48 RX0 (TX0 0).2.1 (TX0 0).2.2.1 ∈ wsX3_agreesWithEarlier := by decide +kernel
theorem m3_X3_agreesWithEarlier : ∀ w ∈ u_ws RX0 TX0 11, w ∈ wsX3_agreesWithEarlier := by decide +kernel
theorem m4_X3_agreesWithEarlier : Cond.fieldLink RX3 19 RX3 (TX3 1).2.1 (TX3 1).2.2.1 ∈ wsX3_agreesWithEarlier := by decide +kernel
set_option maxHeartbeats 4000000 in
set_option maxRecDepth 100000 in
theorem tj_X3_agreesWithEarlier_85 {l : Launch} {D : va_G} {X : zE} {p : Program} {e : Env} {s : State} {m : MethodId} {args : Array Value} {below : List Frame} {meth : Method} {c : Code} (S : zS p m meth c cX3_agreesWithEarlier 8 (some .boolean) s args wsX3_agreesWithEarlier RX3 D 44 X) {z0 : zV} {r : Int32} {k_22 : Int32 → Int32 → Int32 → Int32 → Int32 → Option (Int32)} (hk_22 : ∀ (x1 : Int32) (x2 : Int32) (x3 : Int32) (x4 : Int32) (x5 : Int32), k_22 x1 x2 x3 x4 x5 = some r → Zj false D 44 X p l e (zrm 1 22) s m args below meth c (MQ below (zQr (some (.int r))) args s 0 0 (fun _ => False)) 8 22 [(0, .ref (X.1 42)), (1, .int x1), (2, .int x2), (3, .int x3), (4, .int x4), (5, .int x5)] [] (zc shC X z0)) : ∀ (x1 : Int32) (x2 : Int32) (x3 : Int32) (x4 : Int32) (x5 : Int32) (x6 : Int32) (y0 : Int32), j_X3_agreesWithEarlier_85 z0 k_22 x1 x2 x3 x4 x5 x6 y0 = some r → Zj false D 44 X p l e (zrm 1 22) s m args below meth c (MQ below (zQr (some (.int r))) args s 0 0 (fun _ => False)) 8 85 [(0, .ref (X.1 42)), (1, .int x1), (2, .int x2), (3, .int x3), (4, .int x4), (5, .int x5), (6, .int x6)] [.int y0] (zc shC X z0) := by
  intro x1 x2 x3 x4 x5 x6 y0 h
  rw [j_X3_agreesWithEarlier_85] at h
  refine z_istore S [(7, .int y0), (0, .ref (X.1 42)), (1, .int x1), (2, .int x2), (3, .int x3), (4, .int x4), (5, .int x5), (6, .int x6)] dX3_agreesWithEarlier_85 (Nat.le_of_ble_eq_true rfl) rfl ?_
  refine z_iload S 7 dX3_agreesWithEarlier_87 rfl ?_
  refine z_iload S 0 dX3_agreesWithEarlier_89 rfl ?_
  refine z_icmp_eq S (tgt := 96) dX3_agreesWithEarlier_91 (by decide) h (fun h => ?_) (fun h => ?_)
  · refine z_iinc S 6 [(5, .int (x5 + nI 1)), (7, .int y0), (0, .ref (X.1 42)), (1, .int x1), (2, .int x2), (3, .int x3), (4, .int x4), (6, .int x6)] dX3_agreesWithEarlier_96 rfl rfl (Nat.le_of_ble_eq_true rfl) rfl ?_
    refine z_goto S (tgt := 22) dX3_agreesWithEarlier_99 (by decide) ?_
    exact z_lv [2, 3, 4, 5, 6, 0] rfl (hk_22 _ _ _ _ _ h)
  · refine z_iconst (v := (nI 0)) S dX3_agreesWithEarlier_94 (by decide) ?_
    exact z_zret_r S dX3_agreesWithEarlier_95 h
set_option maxHeartbeats 4000000 in
set_option maxRecDepth 100000 in
theorem tj_X3_agreesWithEarlier_56 {l : Launch} {D : va_G} {X : zE} {p : Program} {e : Env} {s : State} {m : MethodId} {args : Array Value} {below : List Frame} {meth : Method} {c : Code} (S : zS p m meth c cX3_agreesWithEarlier 8 (some .boolean) s args wsX3_agreesWithEarlier RX3 D 44 X) {z0 : zV} {r : Int32} {k_22 : Int32 → Int32 → Int32 → Int32 → Int32 → Option (Int32)} (hk_22 : ∀ (x1 : Int32) (x2 : Int32) (x3 : Int32) (x4 : Int32) (x5 : Int32), k_22 x1 x2 x3 x4 x5 = some r → Zj false D 44 X p l e (zrm 1 22) s m args below meth c (MQ below (zQr (some (.int r))) args s 0 0 (fun _ => False)) 8 22 [(0, .ref (X.1 42)), (1, .int x1), (2, .int x2), (3, .int x3), (4, .int x4), (5, .int x5)] [] (zc shC X z0)) : ∀ (x1 : Int32) (x2 : Int32) (x3 : Int32) (x4 : Int32) (x5 : Int32) (y0 : Int32), j_X3_agreesWithEarlier_56 z0 k_22 x1 x2 x3 x4 x5 y0 = some r → Zj false D 44 X p l e (zrm 1 22) s m args below meth c (MQ below (zQr (some (.int r))) args s 0 0 (fun _ => False)) 8 56 [(0, .ref (X.1 42)), (1, .int x1), (2, .int x2), (3, .int x3), (4, .int x4), (5, .int x5)] [.int y0] (zc shC X z0) := by
  intro x1 x2 x3 x4 x5 y0 h
  rw [j_X3_agreesWithEarlier_56] at h
  refine z_istore S [(6, .int y0), (0, .ref (X.1 42)), (1, .int x1), (2, .int x2), (3, .int x3), (4, .int x4), (5, .int x5)] dX3_agreesWithEarlier_56 (Nat.le_of_ble_eq_true rfl) rfl ?_
  refine z_aload_n S 1 dX3_agreesWithEarlier_58 rfl rfl ?_
  refine z_get S (C := RX3) (T := TX3) (N := 7) (ci := 3) 0 m0_X3_agreesWithEarlier m1_X3_agreesWithEarlier (Nat.le_of_ble_eq_true rfl) (cC_42 X z0) rfl (Nat.le_of_ble_eq_true rfl) rfl rfl dX3_agreesWithEarlier_59 ?_
  refine z_iload_n S 3 dX3_agreesWithEarlier_62 rfl rfl ?_
  refine z_iload S 6 dX3_agreesWithEarlier_63 rfl ?_
  obtain ⟨v_65, hv_65, h⟩ := ob_some h
  refine z_callV_r (As := [.int x2, .int x5]) S (c_X0_listedLetter l D X _ _ _ S.2.2.1 hv_65) (cwV 2 S.1.2.2.2.2 gX3_agreesWithEarlier_X0_listedLetter rfl rfl rfl hd_X0_listedLetter ⟨Nat.le_of_ble_eq_true rfl, Nat.le_of_ble_eq_true rfl⟩) (Nat.le_of_ble_eq_true rfl) (cC_0 X z0) rfl rfl rfl (Nat.le_of_ble_eq_true rfl) rfl dX3_agreesWithEarlier_65 ?_
  refine z_aload_n S 1 dX3_agreesWithEarlier_68 rfl rfl ?_
  refine z_get S (C := RX3) (T := TX3) (N := 7) (ci := 3) 0 m0_X3_agreesWithEarlier m1_X3_agreesWithEarlier (Nat.le_of_ble_eq_true rfl) (cC_42 X z0) rfl (Nat.le_of_ble_eq_true rfl) rfl rfl dX3_agreesWithEarlier_69 ?_
  refine z_iload_n S 3 dX3_agreesWithEarlier_72 rfl rfl ?_
  refine z_iload_n S 4 dX3_agreesWithEarlier_73 rfl rfl ?_
  obtain ⟨v_74, hv_74, h⟩ := ob_some h
  refine z_callV_r (As := [.int x2, .int x3]) S (c_X0_listedLetter l D X _ _ _ S.2.2.1 hv_74) (cwV 2 S.1.2.2.2.2 gX3_agreesWithEarlier_X0_listedLetter rfl rfl rfl hd_X0_listedLetter ⟨Nat.le_of_ble_eq_true rfl, Nat.le_of_ble_eq_true rfl⟩) (Nat.le_of_ble_eq_true rfl) (cC_0 X z0) rfl rfl rfl (Nat.le_of_ble_eq_true rfl) rfl dX3_agreesWithEarlier_74 ?_
  refine z_icmp_ne S (tgt := 84) dX3_agreesWithEarlier_77 (by decide) h (fun h => ?_) (fun h => ?_)
  · refine z_iconst (v := (nI 0)) S dX3_agreesWithEarlier_84 (by decide) ?_
    exact z_lv [1, 2, 3, 4, 5, 6, 0] rfl (tj_X3_agreesWithEarlier_85 S hk_22 _ _ _ _ _ _ _ h)
  · refine z_iconst (v := (nI 1)) S dX3_agreesWithEarlier_80 (by decide) ?_
    refine z_goto S (tgt := 85) dX3_agreesWithEarlier_81 (by decide) ?_
    exact z_lv [1, 2, 3, 4, 5, 6, 0] rfl (tj_X3_agreesWithEarlier_85 S hk_22 _ _ _ _ _ _ _ h)
set_option maxHeartbeats 4000000 in
set_option maxRecDepth 100000 in
theorem tl_X3_agreesWithEarlier_22 {l : Launch} {D : va_G} {X : zE} {p : Program} {e : Env} {s : State} {m : MethodId} {args : Array Value} {below : List Frame} {meth : Method} {c : Code} (S : zS p m meth c cX3_agreesWithEarlier 8 (some .boolean) s args wsX3_agreesWithEarlier RX3 D 44 X) {z0 : zV} {r : Int32} : ∀ (n_ : Nat), ∀ (x1 : Int32) (x2 : Int32) (x3 : Int32) (x4 : Int32) (x5 : Int32), l_X3_agreesWithEarlier_22 z0 n_ x1 x2 x3 x4 x5 = some r → Zj false D 44 X p l e (zrm 1 22) s m args below meth c (MQ below (zQr (some (.int r))) args s 0 0 (fun _ => False)) 8 22 [(0, .ref (X.1 42)), (1, .int x1), (2, .int x2), (3, .int x3), (4, .int x4), (5, .int x5)] [] (zc shC X z0) := by
  intro n_
  induction n_ with
  | zero =>
    intro x1 x2 x3 x4 x5 h
    cases h
  | succ n_ ih =>
    intro x1 x2 x3 x4 x5 h
    rw [l_X3_agreesWithEarlier_22] at h
    refine z_iload S 5 dX3_agreesWithEarlier_22 rfl ?_
    refine z_iload_n S 3 dX3_agreesWithEarlier_24 rfl rfl ?_
    refine z_icmp_ge S (tgt := 102) dX3_agreesWithEarlier_25 (by decide) h (fun h => ?_) (fun h => ?_)
    · refine z_iconst (v := (nI 1)) S dX3_agreesWithEarlier_102 (by decide) ?_
      exact z_zret_r S dX3_agreesWithEarlier_103 h
    · refine z_aload_n S 0 dX3_agreesWithEarlier_28 rfl rfl ?_
      refine z_get S (C := RX3) (T := TX3) (N := 7) (ci := 3) 0 m0_X3_agreesWithEarlier m1_X3_agreesWithEarlier (Nat.le_of_ble_eq_true rfl) (cC_42 X z0) rfl (Nat.le_of_ble_eq_true rfl) rfl rfl dX3_agreesWithEarlier_29 ?_
      refine z_get S (C := RX0) (T := TX0) (N := 11) (ci := 0) 0 m2_X3_agreesWithEarlier m3_X3_agreesWithEarlier (Nat.le_of_ble_eq_true rfl) (cC_0 X z0) rfl (Nat.le_of_ble_eq_true rfl) rfl rfl dX3_agreesWithEarlier_32 ?_
      refine z_aload_n S 0 dX3_agreesWithEarlier_35 rfl rfl ?_
      refine z_get S (C := RX3) (T := TX3) (N := 7) (ci := 3) 1 m4_X3_agreesWithEarlier m1_X3_agreesWithEarlier (Nat.le_of_ble_eq_true rfl) (cC_42 X z0) rfl (Nat.le_of_ble_eq_true rfl) rfl rfl dX3_agreesWithEarlier_36 ?_
      refine z_iload_n S 1 dX3_agreesWithEarlier_39 rfl rfl ?_
      refine z_iload S 5 dX3_agreesWithEarlier_40 rfl ?_
      obtain ⟨v_42, hv_42, h⟩ := ob_some h
      refine z_callV_r (As := [.int x1, .int x5]) S (c_X2_cellOf l D X _ _ _ S.2.2.1 hv_42) (cwV 2 S.1.2.2.2.2 gX3_agreesWithEarlier_X2_cellOf rfl rfl rfl hd_X2_cellOf ⟨Nat.le_of_ble_eq_true rfl, Nat.le_of_ble_eq_true rfl⟩) (Nat.le_of_ble_eq_true rfl) (cC_36 X z0) rfl rfl rfl (Nat.le_of_ble_eq_true rfl) rfl dX3_agreesWithEarlier_42 ?_
      refine z_iald S (Nat.le_of_ble_eq_true rfl) (cC_1 X z0) dX3_agreesWithEarlier_45 h (fun v_45 h => ?_)
      refine z_iload S 4 dX3_agreesWithEarlier_46 rfl ?_
      refine z_icmp_ne S (tgt := 55) dX3_agreesWithEarlier_48 (by decide) h (fun h => ?_) (fun h => ?_)
      · refine z_iconst (v := (nI 0)) S dX3_agreesWithEarlier_55 (by decide) ?_
        exact z_lv [0, 1, 2, 3, 4, 5] rfl (tj_X3_agreesWithEarlier_56 S ih _ _ _ _ _ _ h)
      · refine z_iconst (v := (nI 1)) S dX3_agreesWithEarlier_51 (by decide) ?_
        refine z_goto S (tgt := 56) dX3_agreesWithEarlier_52 (by decide) ?_
        exact z_lv [0, 1, 2, 3, 4, 5] rfl (tj_X3_agreesWithEarlier_56 S ih _ _ _ _ _ _ h)
set_option maxHeartbeats 4000000 in
set_option maxRecDepth 100000 in
theorem c_X3_agreesWithEarlier (l : Launch) (D : va_G) (X : zE) (z0 : zV) (a0 : Int32) (a1 : Int32) (a2 : Int32) (hinj : zw_inj 44 X.1) {r : Int32} (h : f_X3_agreesWithEarlier z0 a0 a1 a2 = some r) : zMr l yX3_agreesWithEarlier wsX3_agreesWithEarlier (zrm 1 22) D 44 X (zc shC X z0) [.ref (X.1 42), .int a0, .int a1, .int a2] (some (.int r)) := by
  rw [f_X3_agreesWithEarlier] at h
  refine z_start_r (cc := cX3_agreesWithEarlier) (maxL := 8) (ret := (some .boolean)) (by decide) rfl (Nat.le_of_ble_eq_true rfl) hinj ?_
  intro p e s m below meth c S
  refine z_aload_n S 0 dX3_agreesWithEarlier_0 rfl rfl ?_
  refine z_get S (C := RX3) (T := TX3) (N := 7) (ci := 3) 0 m0_X3_agreesWithEarlier m1_X3_agreesWithEarlier (Nat.le_of_ble_eq_true rfl) (cC_42 X z0) rfl (Nat.le_of_ble_eq_true rfl) rfl rfl dX3_agreesWithEarlier_1 ?_
  refine z_get S (C := RX0) (T := TX0) (N := 11) (ci := 0) 0 m2_X3_agreesWithEarlier m3_X3_agreesWithEarlier (Nat.le_of_ble_eq_true rfl) (cC_0 X z0) rfl (Nat.le_of_ble_eq_true rfl) rfl rfl dX3_agreesWithEarlier_4 ?_
  refine z_aload_n S 0 dX3_agreesWithEarlier_7 rfl rfl ?_
  refine z_get S (C := RX3) (T := TX3) (N := 7) (ci := 3) 1 m4_X3_agreesWithEarlier m1_X3_agreesWithEarlier (Nat.le_of_ble_eq_true rfl) (cC_42 X z0) rfl (Nat.le_of_ble_eq_true rfl) rfl rfl dX3_agreesWithEarlier_8 ?_
  refine z_iload_n S 1 dX3_agreesWithEarlier_11 rfl rfl ?_
  refine z_iload_n S 3 dX3_agreesWithEarlier_12 rfl rfl ?_
  obtain ⟨v_13, hv_13, h⟩ := ob_some h
  refine z_callV_r (As := [.int a0, .int a2]) S (c_X2_cellOf l D X _ _ _ S.2.2.1 hv_13) (cwV 2 S.1.2.2.2.2 gX3_agreesWithEarlier_X2_cellOf rfl rfl rfl hd_X2_cellOf ⟨Nat.le_of_ble_eq_true rfl, Nat.le_of_ble_eq_true rfl⟩) (Nat.le_of_ble_eq_true rfl) (cC_36 X z0) rfl rfl rfl (Nat.le_of_ble_eq_true rfl) rfl dX3_agreesWithEarlier_13 ?_
  refine z_iald S (Nat.le_of_ble_eq_true rfl) (cC_1 X z0) dX3_agreesWithEarlier_16 h (fun v_16 h => ?_)
  refine z_istore S [(4, .int v_16), (0, .ref (X.1 42)), (1, .int a0), (2, .int a1), (3, .int a2)] dX3_agreesWithEarlier_17 (Nat.le_of_ble_eq_true rfl) rfl ?_
  refine z_iconst (v := (nI 0)) S dX3_agreesWithEarlier_19 (by decide) ?_
  refine z_istore S [(5, .int (nI 0)), (4, .int v_16), (0, .ref (X.1 42)), (1, .int a0), (2, .int a1), (3, .int a2)] dX3_agreesWithEarlier_20 (Nat.le_of_ble_eq_true rfl) rfl ?_
  exact z_lv [2, 3, 4, 5, 1, 0] rfl (tl_X3_agreesWithEarlier_22 S _ _ _ _ _ _ h)
/-! SoldLetters.isFitting: a walk -/
theorem hd_X3_isFitting : yX3_isFitting.cls = RX3 ∧ yX3_isFitting.cls ≠ "java/lang/invoke/MethodHandle" ∧ yX3_isFitting.cls ≠ "java/lang/invoke/VarHandle" ∧ (parseMethodDescriptor yX3_isFitting.desc).map (fun d => d.parameters.length) = some 2 := by decide +kernel
theorem m0_X3_isFitting : Cond.fieldLink RX3 19 RX3 (TX3 1).2.1 (TX3 1).2.2.1 ∈ wsX3_isFitting := by decide +kernel
theorem m1_X3_isFitting : ∀ w ∈ u_ws RX3 TX3 7, w ∈ wsX3_isFitting := by decide +kernel
theorem m2_X3_isFitting : Cond.fieldLink RX3 136 RX2 (TX2 1).2.1 (TX2 1).2.2.1 ∈ wsX3_isFitting := by decide +kernel
theorem m3_X3_isFitting : ∀ w ∈ u_ws RX2 TX2 4, w ∈ wsX3_isFitting := by decide +kernel
theorem m4_X3_isFitting : Cond.fieldLink RX3 12 RX3 (TX3 0).2.1 (TX3 0).2.2.1 ∈ wsX3_isFitting := by decide +kernel
theorem m5_X3_isFitting : Cond.fieldLink RX3 227 RX0 (TX0 4).2.1 (TX0 4).2.2.1 ∈ wsX3_isFitting := by decide +kernel
theorem m6_X3_isFitting : ∀ w ∈ u_ws RX0 TX0 11, w ∈ wsX3_isFitting := by decide +kernel
set_option maxHeartbeats 4000000 in
set_option maxRecDepth 100000 in
theorem tl_X3_isFitting_28 {l : Launch} {D : va_G} {X : zE} {p : Program} {e : Env} {s : State} {m : MethodId} {args : Array Value} {below : List Frame} {meth : Method} {c : Code} (S : zS p m meth c cX3_isFitting 6 (some .boolean) s args wsX3_isFitting RX3 D 44 X) {z0 : zV} {r : Int32} : ∀ (n_ : Nat), ∀ (x1 : Int32) (x2 : Int32) (x3 : Int32) (x4 : Int32), l_X3_isFitting_28 z0 n_ x1 x2 x3 x4 = some r → Zj false D 44 X p l e (zrm 3 64) s m args below meth c (MQ below (zQr (some (.int r))) args s 0 0 (fun _ => False)) 6 28 [(0, .ref (X.1 42)), (1, .int x1), (2, .int x2), (3, .int x3), (4, .int x4)] [] (zc shC X z0) := by
  intro n_
  induction n_ with
  | zero =>
    intro x1 x2 x3 x4 h
    cases h
  | succ n_ ih =>
    intro x1 x2 x3 x4 h
    rw [l_X3_isFitting_28] at h
    refine z_iload S 4 dX3_isFitting_28 rfl ?_
    refine z_iload_n S 3 dX3_isFitting_30 rfl rfl ?_
    refine z_icmp_ge S (tgt := 81) dX3_isFitting_31 (by decide) h (fun h => ?_) (fun h => ?_)
    · refine z_iconst (v := (nI 1)) S dX3_isFitting_81 (by decide) ?_
      exact z_zret_r S dX3_isFitting_82 h
    · refine z_aload_n S 0 dX3_isFitting_34 rfl rfl ?_
      refine z_get S (C := RX3) (T := TX3) (N := 7) (ci := 3) 0 m4_X3_isFitting m1_X3_isFitting (Nat.le_of_ble_eq_true rfl) (cC_42 X z0) rfl (Nat.le_of_ble_eq_true rfl) rfl rfl dX3_isFitting_35 ?_
      refine z_iload_n S 2 dX3_isFitting_38 rfl rfl ?_
      refine z_iload S 4 dX3_isFitting_39 rfl ?_
      obtain ⟨v_41, hv_41, h⟩ := ob_some h
      refine z_callV_r (As := [.int x2, .int x4]) S (c_X0_listedLetter l D X _ _ _ S.2.2.1 hv_41) (cwV 2 S.1.2.2.2.2 gX3_isFitting_X0_listedLetter rfl rfl rfl hd_X0_listedLetter ⟨Nat.le_of_ble_eq_true rfl, Nat.le_of_ble_eq_true rfl⟩) (Nat.le_of_ble_eq_true rfl) (cC_0 X z0) rfl rfl rfl (Nat.le_of_ble_eq_true rfl) rfl dX3_isFitting_41 ?_
      refine z_istore S [(5, .int v_41), (0, .ref (X.1 42)), (1, .int x1), (2, .int x2), (3, .int x3), (4, .int x4)] dX3_isFitting_44 (Nat.le_of_ble_eq_true rfl) rfl ?_
      refine z_aload_n S 1 dX3_isFitting_46 rfl rfl ?_
      refine z_iload S 0 dX3_isFitting_47 rfl ?_
      refine z_aload_n S 1 dX3_isFitting_49 rfl rfl ?_
      refine z_iload_n S 2 dX3_isFitting_50 rfl rfl ?_
      refine z_iload S 5 dX3_isFitting_51 rfl ?_
      obtain ⟨v_53, hv_53, h⟩ := ob_some h
      refine z_callV_r (As := [.int x1, .int x4]) S (c_X3_numberIn l D X _ _ _ S.2.2.1 hv_53) (cwV 2 S.1.2.2.2.2 gX3_isFitting_X3_numberIn rfl rfl rfl hd_X3_numberIn ⟨Nat.le_of_ble_eq_true rfl, Nat.le_of_ble_eq_true rfl⟩) (Nat.le_of_ble_eq_true rfl) (cC_42 X z0) rfl rfl rfl (Nat.le_of_ble_eq_true rfl) rfl dX3_isFitting_53 ?_
      obtain ⟨v_56, hv_56, h⟩ := ob_some h
      refine z_callV_r (As := [.int v_41, .int v_53]) S (c_X3_mayStandFor l D X _ _ _ S.2.2.1 hv_56) (cwV 2 S.1.2.2.2.2 gX3_isFitting_X3_mayStandFor rfl rfl rfl hd_X3_mayStandFor ⟨Nat.le_of_ble_eq_true rfl, Nat.le_of_ble_eq_true rfl⟩) (Nat.le_of_ble_eq_true rfl) (cC_42 X z0) rfl rfl rfl (Nat.le_of_ble_eq_true rfl) rfl dX3_isFitting_56 ?_
      refine z_if_eq S (tgt := 73) dX3_isFitting_59 (by decide) h (fun h => ?_) (fun h => ?_)
      · refine z_iconst (v := (nI 0)) S dX3_isFitting_73 (by decide) ?_
        exact z_zret_r S dX3_isFitting_74 h
      · refine z_aload_n S 1 dX3_isFitting_62 rfl rfl ?_
        refine z_iload_n S 2 dX3_isFitting_63 rfl rfl ?_
        refine z_iload_n S 3 dX3_isFitting_64 rfl rfl ?_
        refine z_iload S 5 dX3_isFitting_65 rfl ?_
        obtain ⟨v_67, hv_67, h⟩ := ob_some h
        refine z_callV_r (As := [.int x1, .int x2, .int x4]) S (c_X3_agreesWithEarlier l D X _ _ _ _ S.2.2.1 hv_67) (cwV 3 S.1.2.2.2.2 gX3_isFitting_X3_agreesWithEarlier rfl rfl rfl hd_X3_agreesWithEarlier ⟨Nat.le_of_ble_eq_true rfl, Nat.le_of_ble_eq_true rfl⟩) (Nat.le_of_ble_eq_true rfl) (cC_42 X z0) rfl rfl rfl (Nat.le_of_ble_eq_true rfl) rfl dX3_isFitting_67 ?_
        refine z_if_ne S (tgt := 75) dX3_isFitting_70 (by decide) h (fun h => ?_) (fun h => ?_)
        · refine z_iinc S 5 [(4, .int (x4 + nI 1)), (5, .int v_41), (0, .ref (X.1 42)), (1, .int x1), (2, .int x2), (3, .int x3)] dX3_isFitting_75 rfl rfl (Nat.le_of_ble_eq_true rfl) rfl ?_
          refine z_goto S (tgt := 28) dX3_isFitting_78 (by decide) ?_
          exact z_lv [2, 3, 4, 5, 0] rfl (ih _ _ _ _ h)
        · refine z_iconst (v := (nI 0)) S dX3_isFitting_73 (by decide) ?_
          exact z_zret_r S dX3_isFitting_74 h
set_option maxHeartbeats 4000000 in
set_option maxRecDepth 100000 in
theorem c_X3_isFitting (l : Launch) (D : va_G) (X : zE) (z0 : zV) (a0 : Int32) (a1 : Int32) (hinj : zw_inj 44 X.1) {r : Int32} (h : f_X3_isFitting z0 a0 a1 = some r) : zMr l yX3_isFitting wsX3_isFitting (zrm 3 64) D 44 X (zc shC X z0) [.ref (X.1 42), .int a0, .int a1] (some (.int r)) := by
  rw [f_X3_isFitting] at h
  refine z_start_r (cc := cX3_isFitting) (maxL := 6) (ret := (some .boolean)) (by decide) rfl (Nat.le_of_ble_eq_true rfl) hinj ?_
  intro p e s m below meth c S
  refine z_aload_n S 0 dX3_isFitting_0 rfl rfl ?_
  refine z_get S (C := RX3) (T := TX3) (N := 7) (ci := 3) 1 m0_X3_isFitting m1_X3_isFitting (Nat.le_of_ble_eq_true rfl) (cC_42 X z0) rfl (Nat.le_of_ble_eq_true rfl) rfl rfl dX3_isFitting_1 ?_
  refine z_get S (C := RX2) (T := TX2) (N := 4) (ci := 2) 1 m2_X3_isFitting m3_X3_isFitting (Nat.le_of_ble_eq_true rfl) (cC_36 X z0) rfl (Nat.le_of_ble_eq_true rfl) rfl rfl dX3_isFitting_4 ?_
  refine z_iload_n S 1 dX3_isFitting_7 rfl rfl ?_
  refine z_iald S (Nat.le_of_ble_eq_true rfl) (cC_38 X z0) dX3_isFitting_8 h (fun v_8 h => ?_)
  refine z_istore_n S [(3, .int v_8), (0, .ref (X.1 42)), (1, .int a0), (2, .int a1)] dX3_isFitting_9 rfl (Nat.le_of_ble_eq_true rfl) rfl ?_
  refine z_iload_n S 0 dX3_isFitting_10 rfl rfl ?_
  refine z_aload_n S 1 dX3_isFitting_11 rfl rfl ?_
  refine z_get S (C := RX3) (T := TX3) (N := 7) (ci := 3) 0 m4_X3_isFitting m1_X3_isFitting (Nat.le_of_ble_eq_true rfl) (cC_42 X z0) rfl (Nat.le_of_ble_eq_true rfl) rfl rfl dX3_isFitting_12 ?_
  refine z_get S (C := RX0) (T := TX0) (N := 11) (ci := 0) 4 m5_X3_isFitting m6_X3_isFitting (Nat.le_of_ble_eq_true rfl) (cC_0 X z0) rfl (Nat.le_of_ble_eq_true rfl) rfl rfl dX3_isFitting_15 ?_
  refine z_iload_n S 3 dX3_isFitting_18 rfl rfl ?_
  refine z_iald S (Nat.le_of_ble_eq_true rfl) (cC_5 X z0) dX3_isFitting_19 h (fun v_19 h => ?_)
  refine z_icmp_eq S (tgt := 25) dX3_isFitting_20 (by decide) h (fun h => ?_) (fun h => ?_)
  · refine z_iconst (v := (nI 0)) S dX3_isFitting_25 (by decide) ?_
    refine z_istore S [(4, .int (nI 0)), (3, .int v_8), (0, .ref (X.1 42)), (1, .int a0), (2, .int a1)] dX3_isFitting_26 (Nat.le_of_ble_eq_true rfl) rfl ?_
    exact z_lv [2, 3, 4, 1, 0] rfl (tl_X3_isFitting_28 S _ _ _ _ _ h)
  · refine z_iconst (v := (nI 0)) S dX3_isFitting_23 (by decide) ?_
    exact z_zret_r S dX3_isFitting_24 h
/-! SoldLetters.guessedCellsOf: a walk -/
theorem hd_X3_guessedCellsOf : yX3_guessedCellsOf.cls = RX3 ∧ yX3_guessedCellsOf.cls ≠ "java/lang/invoke/MethodHandle" ∧ yX3_guessedCellsOf.cls ≠ "java/lang/invoke/VarHandle" ∧ (parseMethodDescriptor yX3_guessedCellsOf.desc).map (fun d => d.parameters.length) = some 1 := by decide +kernel
theorem m0_X3_guessedCellsOf : Cond.fieldLink RX3 19 RX3 (TX3 1).2.1 (TX3 1).2.2.1 ∈ wsX3_guessedCellsOf := by decide +kernel
theorem m1_X3_guessedCellsOf : ∀ w ∈ u_ws RX3 TX3 7, w ∈ wsX3_guessedCellsOf := by decide +kernel
theorem m2_X3_guessedCellsOf : Cond.fieldLink RX3 136 RX2 (TX2 1).2.1 (TX2 1).2.2.1 ∈ wsX3_guessedCellsOf := by decide +kernel
theorem m3_X3_guessedCellsOf : ∀ w ∈ u_ws RX2 TX2 4, w ∈ wsX3_guessedCellsOf := by decide +kernel
theorem m4_X3_guessedCellsOf : Cond.fieldLink RX3 12 RX3 (TX3 0).2.1 (TX3 0).2.2.1 ∈ wsX3_guessedCellsOf := by decide +kernel
set_option maxHeartbeats 4000000 in
set_option maxRecDepth 100000 in
theorem tl_X3_guessedCellsOf_4 {l : Launch} {D : va_G} {X : zE} {p : Program} {e : Env} {s : State} {m : MethodId} {args : Array Value} {below : List Frame} {meth : Method} {c : Code} (S : zS p m meth c cX3_guessedCellsOf 4 (some .int) s args wsX3_guessedCellsOf RX3 D 44 X) {z0 : zV} {r : Int32} : ∀ (n_ : Nat), ∀ (x1 : Int32) (x2 : Int32) (x3 : Int32), l_X3_guessedCellsOf_4 z0 n_ x1 x2 x3 = some r → Zj false D 44 X p l e (zrm 3 64) s m args below meth c (MQ below (zQr (some (.int r))) args s 0 0 (fun _ => False)) 4 4 [(0, .ref (X.1 42)), (1, .int x1), (2, .int x2), (3, .int x3)] [] (zc shC X z0) := by
  intro n_
  induction n_ with
  | zero =>
    intro x1 x2 x3 h
    cases h
  | succ n_ ih =>
    intro x1 x2 x3 h
    rw [l_X3_guessedCellsOf_4] at h
    refine z_iload_n S 3 dX3_guessedCellsOf_4 rfl rfl ?_
    refine z_aload_n S 0 dX3_guessedCellsOf_5 rfl rfl ?_
    refine z_get S (C := RX3) (T := TX3) (N := 7) (ci := 3) 1 m0_X3_guessedCellsOf m1_X3_guessedCellsOf (Nat.le_of_ble_eq_true rfl) (cC_42 X z0) rfl (Nat.le_of_ble_eq_true rfl) rfl rfl dX3_guessedCellsOf_6 ?_
    refine z_get S (C := RX2) (T := TX2) (N := 4) (ci := 2) 1 m2_X3_guessedCellsOf m3_X3_guessedCellsOf (Nat.le_of_ble_eq_true rfl) (cC_36 X z0) rfl (Nat.le_of_ble_eq_true rfl) rfl rfl dX3_guessedCellsOf_9 ?_
    refine z_iload_n S 1 dX3_guessedCellsOf_12 rfl rfl ?_
    refine z_iald S (Nat.le_of_ble_eq_true rfl) (cC_38 X z0) dX3_guessedCellsOf_13 h (fun v_13 h => ?_)
    refine z_icmp_ge S (tgt := 45) dX3_guessedCellsOf_14 (by decide) h (fun h => ?_) (fun h => ?_)
    · refine z_iload_n S 2 dX3_guessedCellsOf_45 rfl rfl ?_
      exact z_iret_r S dX3_guessedCellsOf_46 h
    · refine z_aload_n S 0 dX3_guessedCellsOf_17 rfl rfl ?_
      refine z_get S (C := RX3) (T := TX3) (N := 7) (ci := 3) 0 m4_X3_guessedCellsOf m1_X3_guessedCellsOf (Nat.le_of_ble_eq_true rfl) (cC_42 X z0) rfl (Nat.le_of_ble_eq_true rfl) rfl rfl dX3_guessedCellsOf_18 ?_
      refine z_aload_n S 0 dX3_guessedCellsOf_21 rfl rfl ?_
      refine z_get S (C := RX3) (T := TX3) (N := 7) (ci := 3) 1 m0_X3_guessedCellsOf m1_X3_guessedCellsOf (Nat.le_of_ble_eq_true rfl) (cC_42 X z0) rfl (Nat.le_of_ble_eq_true rfl) rfl rfl dX3_guessedCellsOf_22 ?_
      refine z_iload_n S 1 dX3_guessedCellsOf_25 rfl rfl ?_
      refine z_iload_n S 3 dX3_guessedCellsOf_26 rfl rfl ?_
      obtain ⟨v_27, hv_27, h⟩ := ob_some h
      refine z_callV_r (As := [.int x1, .int x3]) S (c_X2_cellOf l D X _ _ _ S.2.2.1 hv_27) (cwV 2 S.1.2.2.2.2 gX3_guessedCellsOf_X2_cellOf rfl rfl rfl hd_X2_cellOf ⟨Nat.le_of_ble_eq_true rfl, Nat.le_of_ble_eq_true rfl⟩) (Nat.le_of_ble_eq_true rfl) (cC_36 X z0) rfl rfl rfl (Nat.le_of_ble_eq_true rfl) rfl dX3_guessedCellsOf_27 ?_
      obtain ⟨v_30, hv_30, h⟩ := ob_some h
      refine z_callV_r (As := [.int v_27]) S (c_X0_guessAt l D X _ _ S.2.2.1 hv_30) (cwV 1 S.1.2.2.2.2 gX3_guessedCellsOf_X0_guessAt rfl rfl rfl hd_X0_guessAt ⟨Nat.le_of_ble_eq_true rfl, Nat.le_of_ble_eq_true rfl⟩) (Nat.le_of_ble_eq_true rfl) (cC_0 X z0) rfl rfl rfl (Nat.le_of_ble_eq_true rfl) rfl dX3_guessedCellsOf_30 ?_
      refine z_if_eq S (tgt := 39) dX3_guessedCellsOf_33 (by decide) h (fun h => ?_) (fun h => ?_)
      · refine z_iinc S 3 [(3, .int (x3 + nI 1)), (0, .ref (X.1 42)), (1, .int x1), (2, .int x2)] dX3_guessedCellsOf_39 rfl rfl (Nat.le_of_ble_eq_true rfl) rfl ?_
        refine z_goto S (tgt := 4) dX3_guessedCellsOf_42 (by decide) ?_
        exact z_lv [1, 2, 3, 0] rfl (ih _ _ _ h)
      · refine z_iinc S 2 [(2, .int (x2 + nI 1)), (0, .ref (X.1 42)), (1, .int x1), (3, .int x3)] dX3_guessedCellsOf_36 rfl rfl (Nat.le_of_ble_eq_true rfl) rfl ?_
        refine z_iinc S 3 [(3, .int (x3 + nI 1)), (2, .int (x2 + nI 1)), (0, .ref (X.1 42)), (1, .int x1)] dX3_guessedCellsOf_39 rfl rfl (Nat.le_of_ble_eq_true rfl) rfl ?_
        refine z_goto S (tgt := 4) dX3_guessedCellsOf_42 (by decide) ?_
        exact z_lv [2, 3, 1, 0] rfl (ih _ _ _ h)
set_option maxHeartbeats 4000000 in
set_option maxRecDepth 100000 in
theorem c_X3_guessedCellsOf (l : Launch) (D : va_G) (X : zE) (z0 : zV) (a0 : Int32) (hinj : zw_inj 44 X.1) {r : Int32} (h : f_X3_guessedCellsOf z0 a0 = some r) : zMr l yX3_guessedCellsOf wsX3_guessedCellsOf (zrm 3 64) D 44 X (zc shC X z0) [.ref (X.1 42), .int a0] (some (.int r)) := by
  rw [f_X3_guessedCellsOf] at h
  refine z_start_r (cc := cX3_guessedCellsOf) (maxL := 4) (ret := (some .int)) (by decide) rfl (Nat.le_of_ble_eq_true rfl) hinj ?_
  intro p e s m below meth c S
  refine z_iconst (v := (nI 0)) S dX3_guessedCellsOf_0 (by decide) ?_
  refine z_istore_n S [(2, .int (nI 0)), (0, .ref (X.1 42)), (1, .int a0)] dX3_guessedCellsOf_1 rfl (Nat.le_of_ble_eq_true rfl) rfl ?_
  refine z_iconst (v := (nI 0)) S dX3_guessedCellsOf_2 (by decide) ?_
  refine z_istore_n S [(3, .int (nI 0)), (2, .int (nI 0)), (0, .ref (X.1 42)), (1, .int a0)] dX3_guessedCellsOf_3 rfl (Nat.le_of_ble_eq_true rfl) rfl ?_
  exact z_lv [2, 3, 1, 0] rfl (tl_X3_guessedCellsOf_4 S _ _ _ _ h)
/-! SoldLetters.guessWord: a walk -/
theorem hd_X3_guessWord : yX3_guessWord.cls = RX3 ∧ yX3_guessWord.cls ≠ "java/lang/invoke/MethodHandle" ∧ yX3_guessWord.cls ≠ "java/lang/invoke/VarHandle" ∧ (parseMethodDescriptor yX3_guessWord.desc).map (fun d => d.parameters.length) = some 2 := by decide +kernel
theorem m0_X3_guessWord : Cond.fieldLink RX3 19 RX3 (TX3 1).2.1 (TX3 1).2.2.1 ∈ wsX3_guessWord := by decide +kernel
theorem m1_X3_guessWord : ∀ w ∈ u_ws RX3 TX3 7, w ∈ wsX3_guessWord := by decide +kernel
theorem m2_X3_guessWord : Cond.fieldLink RX3 136 RX2 (TX2 1).2.1 (TX2 1).2.2.1 ∈ wsX3_guessWord := by decide +kernel
theorem m3_X3_guessWord : ∀ w ∈ u_ws RX2 TX2 4, w ∈ wsX3_guessWord := by decide +kernel
theorem m4_X3_guessWord : Cond.fieldLink RX3 12 RX3 (TX3 0).2.1 (TX3 0).2.2.1 ∈ wsX3_guessWord := by decide +kernel
theorem m5_X3_guessWord : Cond.fieldLink RX3 121 RX0 (TX0 1).2.1 (TX0 1).2.2.1 ∈ wsX3_guessWord := by decide +kernel
theorem m6_X3_guessWord : ∀ w ∈ u_ws RX0 TX0 11, w ∈ wsX3_guessWord := by decide +kernel
set_option maxHeartbeats 4000000 in
set_option maxRecDepth 100000 in
theorem tl_X3_guessWord_59 {l : Launch} {D : va_G} {X : zE} {p : Program} {e : Env} {s : State} {m : MethodId} {args : Array Value} {below : List Frame} {meth : Method} {c : Code} (S : zS p m meth c cX3_guessWord 6 (some .int) s args wsX3_guessWord RX3 D 44 X) {r : Int32} {z1 : zV} : ∀ (n_ : Nat), ∀ (z0 : zV) (x1 : Int32) (x2 : Int32) (x3 : Int32) (x4 : Int32), l_X3_guessWord_59 n_ z0 x1 x2 x3 x4 = some (r, z1) → Zj true D 44 X p l e (zrm 4 104) s m args below meth c (MQ below (zQw D 44 X (zc shC X z1) (some (.int r))) args s 0 0 (zw_A 44 X.1)) 6 59 [(0, .ref (X.1 42)), (1, .int x1), (2, .int x2), (3, .int x3), (4, .int x4)] [] (zc shC X z0) := by
  intro n_
  induction n_ with
  | zero =>
    intro z0 x1 x2 x3 x4 h
    cases h
  | succ n_ ih =>
    intro z0 x1 x2 x3 x4 h
    rw [l_X3_guessWord_59] at h
    refine z_iload S 4 dX3_guessWord_59 rfl ?_
    refine z_aload_n S 0 dX3_guessWord_61 rfl rfl ?_
    refine z_get S (C := RX3) (T := TX3) (N := 7) (ci := 3) 1 m0_X3_guessWord m1_X3_guessWord (Nat.le_of_ble_eq_true rfl) (cC_42 X z0) rfl (Nat.le_of_ble_eq_true rfl) rfl rfl dX3_guessWord_62 ?_
    refine z_get S (C := RX2) (T := TX2) (N := 4) (ci := 2) 1 m2_X3_guessWord m3_X3_guessWord (Nat.le_of_ble_eq_true rfl) (cC_36 X z0) rfl (Nat.le_of_ble_eq_true rfl) rfl rfl dX3_guessWord_65 ?_
    refine z_iload_n S 1 dX3_guessWord_68 rfl rfl ?_
    refine z_iald S (Nat.le_of_ble_eq_true rfl) (cC_38 X z0) dX3_guessWord_69 h (fun v_69 h => ?_)
    refine z_icmp_ge S (tgt := 120) dX3_guessWord_70 (by decide) h (fun h => ?_) (fun h => ?_)
    · refine z_iload_n S 3 dX3_guessWord_120 rfl rfl ?_
      exact z_iret_w S dX3_guessWord_121 h
    · refine z_aload_n S 0 dX3_guessWord_73 rfl rfl ?_
      refine z_iload_n S 1 dX3_guessWord_74 rfl rfl ?_
      refine z_iload S 4 dX3_guessWord_75 rfl ?_
      obtain ⟨v_77, hv_77, h⟩ := ob_some h
      refine z_callV_r (As := [.int x1, .int x4]) S (c_X3_numberIn l D X _ _ _ S.2.2.1 hv_77) (cwV 2 S.1.2.2.2.2 gX3_guessWord_X3_numberIn rfl rfl rfl hd_X3_numberIn ⟨Nat.le_of_ble_eq_true rfl, Nat.le_of_ble_eq_true rfl⟩) (Nat.le_of_ble_eq_true rfl) (cC_42 X z0) rfl rfl rfl (Nat.le_of_ble_eq_true rfl) rfl dX3_guessWord_77 ?_
      refine z_istore S [(5, .int v_77), (0, .ref (X.1 42)), (1, .int x1), (2, .int x2), (3, .int x3), (4, .int x4)] dX3_guessWord_80 (Nat.le_of_ble_eq_true rfl) rfl ?_
      refine z_aload_n S 1 dX3_guessWord_82 rfl rfl ?_
      refine z_iload S 0 dX3_guessWord_83 rfl ?_
      obtain ⟨v_85, hv_85, h⟩ := ob_some h
      refine z_callV_r (As := [.int v_77]) S (c_X3_isUnguessed l D X _ _ S.2.2.1 hv_85) (cwV 1 S.1.2.2.2.2 gX3_guessWord_X3_isUnguessed rfl rfl rfl hd_X3_isUnguessed ⟨Nat.le_of_ble_eq_true rfl, Nat.le_of_ble_eq_true rfl⟩) (Nat.le_of_ble_eq_true rfl) (cC_42 X z0) rfl rfl rfl (Nat.le_of_ble_eq_true rfl) rfl dX3_guessWord_85 ?_
      refine z_if_eq S (tgt := 114) dX3_guessWord_88 (by decide) h (fun h => ?_) (fun h => ?_)
      · refine z_iinc S 5 [(4, .int (x4 + nI 1)), (5, .int v_77), (0, .ref (X.1 42)), (1, .int x1), (2, .int x2), (3, .int x3)] dX3_guessWord_114 rfl rfl (Nat.le_of_ble_eq_true rfl) rfl ?_
        refine z_goto S (tgt := 59) dX3_guessWord_117 (by decide) ?_
        exact z_lv [2, 3, 4, 5, 0] rfl (ih _ _ _ _ _ h)
      · refine z_aload_n S 1 dX3_guessWord_91 rfl rfl ?_
        refine z_get S (C := RX3) (T := TX3) (N := 7) (ci := 3) 0 m4_X3_guessWord m1_X3_guessWord (Nat.le_of_ble_eq_true rfl) (cC_42 X z0) rfl (Nat.le_of_ble_eq_true rfl) rfl rfl dX3_guessWord_92 ?_
        refine z_get S (C := RX0) (T := TX0) (N := 11) (ci := 0) 1 m5_X3_guessWord m6_X3_guessWord (Nat.le_of_ble_eq_true rfl) (cC_0 X z0) rfl (Nat.le_of_ble_eq_true rfl) rfl rfl dX3_guessWord_95 ?_
        refine z_iload S 0 dX3_guessWord_98 rfl ?_
        refine z_aload_n S 1 dX3_guessWord_100 rfl rfl ?_
        refine z_get S (C := RX3) (T := TX3) (N := 7) (ci := 3) 0 m4_X3_guessWord m1_X3_guessWord (Nat.le_of_ble_eq_true rfl) (cC_42 X z0) rfl (Nat.le_of_ble_eq_true rfl) rfl rfl dX3_guessWord_101 ?_
        refine z_iload_n S 3 dX3_guessWord_104 rfl rfl ?_
        refine z_iload S 5 dX3_guessWord_105 rfl ?_
        obtain ⟨v_107, hv_107, h⟩ := ob_some h
        refine z_callV_r (As := [.int x2, .int x4]) S (c_X0_listedLetter l D X _ _ _ S.2.2.1 hv_107) (cwV 2 S.1.2.2.2.2 gX3_guessWord_X0_listedLetter rfl rfl rfl hd_X0_listedLetter ⟨Nat.le_of_ble_eq_true rfl, Nat.le_of_ble_eq_true rfl⟩) (Nat.le_of_ble_eq_true rfl) (cC_0 X z0) rfl rfl rfl (Nat.le_of_ble_eq_true rfl) rfl dX3_guessWord_107 ?_
        refine z_iast S (Nat.le_of_ble_eq_true rfl) (fun _ => rfl) dX3_guessWord_110 h (fun z_110 h => ?_)
        refine z_iinc S 4 [(3, .int (x3 + nI 1)), (5, .int v_77), (0, .ref (X.1 42)), (1, .int x1), (2, .int x2), (4, .int x4)] dX3_guessWord_111 rfl rfl (Nat.le_of_ble_eq_true rfl) rfl ?_
        refine z_iinc S 5 [(4, .int (x4 + nI 1)), (3, .int (x3 + nI 1)), (5, .int v_77), (0, .ref (X.1 42)), (1, .int x1), (2, .int x2)] dX3_guessWord_114 rfl rfl (Nat.le_of_ble_eq_true rfl) rfl ?_
        refine z_goto S (tgt := 59) dX3_guessWord_117 (by decide) ?_
        exact z_lv [3, 4, 5, 1, 0] rfl (ih _ _ _ _ _ h)
set_option maxHeartbeats 4000000 in
set_option maxRecDepth 100000 in
theorem c_X3_guessWord (l : Launch) (D : va_G) (X : zE) (z0 : zV) (a0 : Int32) (a1 : Int32) (hinj : zw_inj 44 X.1) {r : Int32} {z1 : zV} (h : f_X3_guessWord z0 a0 a1 = some (r, z1)) : zMw l yX3_guessWord wsX3_guessWord (zrm 4 104) D 44 X (zc shC X z0) [.ref (X.1 42), .int a0, .int a1] (some (.int r)) (zc shC X z1) := by
  rw [f_X3_guessWord] at h
  refine z_start_w (cc := cX3_guessWord) (maxL := 6) (ret := (some .int)) (by decide) rfl (Nat.le_of_ble_eq_true rfl) hinj ?_
  intro p e s m below meth c S
  refine z_aload_n S 0 dX3_guessWord_0 rfl rfl ?_
  refine z_iload_n S 1 dX3_guessWord_1 rfl rfl ?_
  obtain ⟨v_2, hv_2, h⟩ := ob_some h
  refine z_callV_r (As := [.int a0]) S (c_X3_isWord l D X _ _ S.2.2.1 hv_2) (cwV 1 S.1.2.2.2.2 gX3_guessWord_X3_isWord rfl rfl rfl hd_X3_isWord ⟨Nat.le_of_ble_eq_true rfl, Nat.le_of_ble_eq_true rfl⟩) (Nat.le_of_ble_eq_true rfl) (cC_42 X z0) rfl rfl rfl (Nat.le_of_ble_eq_true rfl) rfl dX3_guessWord_2 ?_
  refine z_if_eq S (tgt := 16) dX3_guessWord_5 (by decide) h (fun h => ?_) (fun h => ?_)
  · refine z_iconst (v := (-1)) S dX3_guessWord_16 (by decide) ?_
    exact z_iret_w S dX3_guessWord_17 h
  · refine z_aload_n S 0 dX3_guessWord_8 rfl rfl ?_
    refine z_iload_n S 2 dX3_guessWord_9 rfl rfl ?_
    obtain ⟨v_10, hv_10, h⟩ := ob_some h
    refine z_callV_r (As := [.int a1]) S (c_X3_isInList l D X _ _ S.2.2.1 hv_10) (cwV 1 S.1.2.2.2.2 gX3_guessWord_X3_isInList rfl rfl rfl hd_X3_isInList ⟨Nat.le_of_ble_eq_true rfl, Nat.le_of_ble_eq_true rfl⟩) (Nat.le_of_ble_eq_true rfl) (cC_42 X z0) rfl rfl rfl (Nat.le_of_ble_eq_true rfl) rfl dX3_guessWord_10 ?_
    refine z_if_ne S (tgt := 18) dX3_guessWord_13 (by decide) h (fun h => ?_) (fun h => ?_)
    · refine z_aload_n S 0 dX3_guessWord_18 rfl rfl ?_
      refine z_iload_n S 1 dX3_guessWord_19 rfl rfl ?_
      refine z_iload_n S 2 dX3_guessWord_20 rfl rfl ?_
      obtain ⟨v_21, hv_21, h⟩ := ob_some h
      refine z_callV_r (As := [.int a0, .int a1]) S (c_X3_isFitting l D X _ _ _ S.2.2.1 hv_21) (cwV 2 S.1.2.2.2.2 gX3_guessWord_X3_isFitting rfl rfl rfl hd_X3_isFitting ⟨Nat.le_of_ble_eq_true rfl, Nat.le_of_ble_eq_true rfl⟩) (Nat.le_of_ble_eq_true rfl) (cC_42 X z0) rfl rfl rfl (Nat.le_of_ble_eq_true rfl) rfl dX3_guessWord_21 ?_
      refine z_if_ne S (tgt := 30) dX3_guessWord_24 (by decide) h (fun h => ?_) (fun h => ?_)
      · refine z_aload_n S 0 dX3_guessWord_30 rfl rfl ?_
        refine z_iload_n S 1 dX3_guessWord_31 rfl rfl ?_
        obtain ⟨v_32, hv_32, h⟩ := ob_some h
        refine z_callV_r (As := [.int a0]) S (c_X3_guessedCellsOf l D X _ _ S.2.2.1 hv_32) (cwV 1 S.1.2.2.2.2 gX3_guessWord_X3_guessedCellsOf rfl rfl rfl hd_X3_guessedCellsOf ⟨Nat.le_of_ble_eq_true rfl, Nat.le_of_ble_eq_true rfl⟩) (Nat.le_of_ble_eq_true rfl) (cC_42 X z0) rfl rfl rfl (Nat.le_of_ble_eq_true rfl) rfl dX3_guessWord_32 ?_
        refine z_aload_n S 0 dX3_guessWord_35 rfl rfl ?_
        refine z_get S (C := RX3) (T := TX3) (N := 7) (ci := 3) 1 m0_X3_guessWord m1_X3_guessWord (Nat.le_of_ble_eq_true rfl) (cC_42 X z0) rfl (Nat.le_of_ble_eq_true rfl) rfl rfl dX3_guessWord_36 ?_
        refine z_get S (C := RX2) (T := TX2) (N := 4) (ci := 2) 1 m2_X3_guessWord m3_X3_guessWord (Nat.le_of_ble_eq_true rfl) (cC_36 X z0) rfl (Nat.le_of_ble_eq_true rfl) rfl rfl dX3_guessWord_39 ?_
        refine z_iload_n S 1 dX3_guessWord_42 rfl rfl ?_
        refine z_iald S (Nat.le_of_ble_eq_true rfl) (cC_38 X z0) dX3_guessWord_43 h (fun v_43 h => ?_)
        refine z_icmp_ne S (tgt := 50) dX3_guessWord_44 (by decide) h (fun h => ?_) (fun h => ?_)
        · refine z_aload_n S 0 dX3_guessWord_50 rfl rfl ?_
          obtain ⟨z_51, hv_51, h⟩ := ob_some h
          refine z_callV_w (As := []) S (c_X3_remember l D X _ S.2.2.1 hv_51) (cwV 0 S.1.2.2.2.2 gX3_guessWord_X3_remember rfl rfl rfl hd_X3_remember ⟨Nat.le_of_ble_eq_true rfl, Nat.le_of_ble_eq_true rfl⟩) (Nat.le_of_ble_eq_true rfl) (cC_42 X z0) rfl rfl rfl (Nat.le_of_ble_eq_true rfl) rfl dX3_guessWord_51 ?_
          refine z_iconst (v := (nI 0)) S dX3_guessWord_54 (by decide) ?_
          refine z_istore_n S [(3, .int (nI 0)), (0, .ref (X.1 42)), (1, .int a0), (2, .int a1)] dX3_guessWord_55 rfl (Nat.le_of_ble_eq_true rfl) rfl ?_
          refine z_iconst (v := (nI 0)) S dX3_guessWord_56 (by decide) ?_
          refine z_istore S [(4, .int (nI 0)), (3, .int (nI 0)), (0, .ref (X.1 42)), (1, .int a0), (2, .int a1)] dX3_guessWord_57 (Nat.le_of_ble_eq_true rfl) rfl ?_
          exact z_lv [2, 3, 4, 1, 0] rfl (tl_X3_guessWord_59 S _ _ _ _ _ _ h)
        · refine z_bipush (v := (-5)) S dX3_guessWord_47 (by decide) ?_
          exact z_iret_w S dX3_guessWord_49 h
      · refine z_bipush (v := (-4)) S dX3_guessWord_27 (by decide) ?_
        exact z_iret_w S dX3_guessWord_29 h
    · refine z_iconst (v := (-1)) S dX3_guessWord_16 (by decide) ?_
      exact z_iret_w S dX3_guessWord_17 h
