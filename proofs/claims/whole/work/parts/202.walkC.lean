/-! SoldLetters$Text.startsWord: a walk -/
theorem hd_X1_startsWord : yX1_startsWord.cls = RX1 ∧ yX1_startsWord.cls ≠ "java/lang/invoke/MethodHandle" ∧ yX1_startsWord.cls ≠ "java/lang/invoke/VarHandle" ∧ (parseMethodDescriptor yX1_startsWord.desc).map (fun d => d.parameters.length) = some 1 := by decide +kernel
theorem m0_X1_startsWord : Cond.fieldLink RX1 9 RX1 (TX1 0).2.1 (TX1 0).2.2.1 ∈ wsX1_startsWord := by decide +kernel
theorem m1_X1_startsWord : ∀ w ∈ u_ws RX1 TX1 2, w ∈ wsX1_startsWord := by decide +kernel
set_option maxHeartbeats 4000000 in
set_option maxRecDepth 100000 in
theorem c_X1_startsWord (l : Launch) (D : va_G) (X : zE) (z0 : zV) (a0 : Int32) (hinj : zw_inj 44 X.1) {r : Int32} (h : f_X1_startsWord z0 a0 = some r) : zMr l yX1_startsWord wsX1_startsWord (zrm 0 0) D 44 X (zc shC X z0) [.ref (X.1 40), .int a0] (some (.int r)) := by
  rw [f_X1_startsWord] at h
  refine z_start_r (cc := cX1_startsWord) (maxL := 2) (ret := (some .boolean)) (by decide) rfl (Nat.le_of_ble_eq_true rfl) hinj ?_
  intro p e s m below meth c S
  refine z_iload_n S 1 dX1_startsWord_0 rfl rfl ?_
  refine z_if_eq S (tgt := 17) dX1_startsWord_1 (by decide) h (fun h => ?_) (fun h => ?_)
  · refine z_iconst (v := (nI 1)) S dX1_startsWord_17 (by decide) ?_
    refine z_goto S (tgt := 22) dX1_startsWord_18 (by decide) ?_
    exact z_zret_r S dX1_startsWord_22 h
  · refine z_aload_n S 0 dX1_startsWord_4 rfl rfl ?_
    refine z_get S (C := RX1) (T := TX1) (N := 2) (ci := 1) 0 m0_X1_startsWord m1_X1_startsWord (Nat.le_of_ble_eq_true rfl) (cC_40 X z0) rfl (Nat.le_of_ble_eq_true rfl) rfl rfl dX1_startsWord_5 ?_
    refine z_iload_n S 1 dX1_startsWord_8 rfl rfl ?_
    refine z_iconst (v := (nI 1)) S dX1_startsWord_9 (by decide) ?_
    refine z_isub S dX1_startsWord_10 ?_
    refine z_iald S (Nat.le_of_ble_eq_true rfl) (cC_41 X z0) dX1_startsWord_11 h (fun v_11 h => ?_)
    refine z_bipush (v := (nI 44)) S dX1_startsWord_12 (by decide) ?_
    refine z_icmp_ne S (tgt := 21) dX1_startsWord_14 (by decide) h (fun h => ?_) (fun h => ?_)
    · refine z_iconst (v := (nI 0)) S dX1_startsWord_21 (by decide) ?_
      exact z_zret_r S dX1_startsWord_22 h
    · refine z_iconst (v := (nI 1)) S dX1_startsWord_17 (by decide) ?_
      refine z_goto S (tgt := 22) dX1_startsWord_18 (by decide) ?_
      exact z_zret_r S dX1_startsWord_22 h
/-! SoldLetters$Text.wordLength: a walk -/
theorem hd_X1_wordLength : yX1_wordLength.cls = RX1 ∧ yX1_wordLength.cls ≠ "java/lang/invoke/MethodHandle" ∧ yX1_wordLength.cls ≠ "java/lang/invoke/VarHandle" ∧ (parseMethodDescriptor yX1_wordLength.desc).map (fun d => d.parameters.length) = some 1 := by decide +kernel
theorem m0_X1_wordLength : Cond.fieldLink RX1 15 RX1 (TX1 1).2.1 (TX1 1).2.2.1 ∈ wsX1_wordLength := by decide +kernel
theorem m1_X1_wordLength : ∀ w ∈ u_ws RX1 TX1 2, w ∈ wsX1_wordLength := by decide +kernel
theorem m2_X1_wordLength : Cond.fieldLink RX1 9 RX1 (TX1 0).2.1 (TX1 0).2.2.1 ∈ wsX1_wordLength := by decide +kernel
set_option maxHeartbeats 4000000 in
set_option maxRecDepth 100000 in
theorem tl_X1_wordLength_2 {l : Launch} {D : va_G} {X : zE} {p : Program} {e : Env} {s : State} {m : MethodId} {args : Array Value} {below : List Frame} {meth : Method} {c : Code} (S : zS p m meth c cX1_wordLength 3 (some .int) s args wsX1_wordLength RX1 D 44 X) {z0 : zV} {r : Int32} : ∀ (n_ : Nat), ∀ (x1 : Int32) (x2 : Int32), l_X1_wordLength_2 z0 n_ x1 x2 = some r → Zj false D 44 X p l e (zrm 0 0) s m args below meth c (MQ below (zQr (some (.int r))) args s 0 0 (fun _ => False)) 3 2 [(0, .ref (X.1 40)), (1, .int x1), (2, .int x2)] [] (zc shC X z0) := by
  intro n_
  induction n_ with
  | zero =>
    intro x1 x2 h
    cases h
  | succ n_ ih =>
    intro x1 x2 h
    rw [l_X1_wordLength_2] at h
    refine z_iload_n S 1 dX1_wordLength_2 rfl rfl ?_
    refine z_iload_n S 2 dX1_wordLength_3 rfl rfl ?_
    refine z_iadd S dX1_wordLength_4 ?_
    refine z_aload_n S 0 dX1_wordLength_5 rfl rfl ?_
    refine z_get S (C := RX1) (T := TX1) (N := 2) (ci := 1) 1 m0_X1_wordLength m1_X1_wordLength (Nat.le_of_ble_eq_true rfl) (cC_40 X z0) rfl (Nat.le_of_ble_eq_true rfl) rfl rfl dX1_wordLength_6 ?_
    refine z_icmp_ge S (tgt := 31) dX1_wordLength_9 (by decide) h (fun h => ?_) (fun h => ?_)
    · refine z_iload_n S 2 dX1_wordLength_31 rfl rfl ?_
      exact z_iret_r S dX1_wordLength_32 h
    · refine z_aload_n S 0 dX1_wordLength_12 rfl rfl ?_
      refine z_get S (C := RX1) (T := TX1) (N := 2) (ci := 1) 0 m2_X1_wordLength m1_X1_wordLength (Nat.le_of_ble_eq_true rfl) (cC_40 X z0) rfl (Nat.le_of_ble_eq_true rfl) rfl rfl dX1_wordLength_13 ?_
      refine z_iload_n S 1 dX1_wordLength_16 rfl rfl ?_
      refine z_iload_n S 2 dX1_wordLength_17 rfl rfl ?_
      refine z_iadd S dX1_wordLength_18 ?_
      refine z_iald S (Nat.le_of_ble_eq_true rfl) (cC_41 X z0) dX1_wordLength_19 h (fun v_19 h => ?_)
      refine z_bipush (v := (nI 44)) S dX1_wordLength_20 (by decide) ?_
      refine z_icmp_eq S (tgt := 31) dX1_wordLength_22 (by decide) h (fun h => ?_) (fun h => ?_)
      · refine z_iload_n S 2 dX1_wordLength_31 rfl rfl ?_
        exact z_iret_r S dX1_wordLength_32 h
      · refine z_iinc S 2 [(2, .int (x2 + nI 1)), (0, .ref (X.1 40)), (1, .int x1)] dX1_wordLength_25 rfl rfl (Nat.le_of_ble_eq_true rfl) rfl ?_
        refine z_goto S (tgt := 2) dX1_wordLength_28 (by decide) ?_
        exact z_lv [1, 2, 0] rfl (ih _ _ h)
set_option maxHeartbeats 4000000 in
set_option maxRecDepth 100000 in
theorem c_X1_wordLength (l : Launch) (D : va_G) (X : zE) (z0 : zV) (a0 : Int32) (hinj : zw_inj 44 X.1) {r : Int32} (h : f_X1_wordLength z0 a0 = some r) : zMr l yX1_wordLength wsX1_wordLength (zrm 0 0) D 44 X (zc shC X z0) [.ref (X.1 40), .int a0] (some (.int r)) := by
  rw [f_X1_wordLength] at h
  refine z_start_r (cc := cX1_wordLength) (maxL := 3) (ret := (some .int)) (by decide) rfl (Nat.le_of_ble_eq_true rfl) hinj ?_
  intro p e s m below meth c S
  refine z_iconst (v := (nI 0)) S dX1_wordLength_0 (by decide) ?_
  refine z_istore_n S [(2, .int (nI 0)), (0, .ref (X.1 40)), (1, .int a0)] dX1_wordLength_1 rfl (Nat.le_of_ble_eq_true rfl) rfl ?_
  exact z_lv [1, 2, 0] rfl (tl_X1_wordLength_2 S _ _ _ h)
/-! SoldLetters$State.listedLetter: a walk -/
theorem hd_X0_listedLetter : yX0_listedLetter.cls = RX0 ∧ yX0_listedLetter.cls ≠ "java/lang/invoke/MethodHandle" ∧ yX0_listedLetter.cls ≠ "java/lang/invoke/VarHandle" ∧ (parseMethodDescriptor yX0_listedLetter.desc).map (fun d => d.parameters.length) = some 2 := by decide +kernel
theorem m0_X0_listedLetter : Cond.fieldLink RX0 22 RX0 (TX0 3).2.1 (TX0 3).2.2.1 ∈ wsX0_listedLetter := by decide +kernel
theorem m1_X0_listedLetter : ∀ w ∈ u_ws RX0 TX0 11, w ∈ wsX0_listedLetter := by decide +kernel
set_option maxHeartbeats 4000000 in
set_option maxRecDepth 100000 in
theorem c_X0_listedLetter (l : Launch) (D : va_G) (X : zE) (z0 : zV) (a0 : Int32) (a1 : Int32) (hinj : zw_inj 44 X.1) {r : Int32} (h : f_X0_listedLetter z0 a0 a1 = some r) : zMr l yX0_listedLetter wsX0_listedLetter (zrm 0 0) D 44 X (zc shC X z0) [.ref (X.1 0), .int a0, .int a1] (some (.int r)) := by
  rw [f_X0_listedLetter] at h
  refine z_start_r (cc := cX0_listedLetter) (maxL := 3) (ret := (some .int)) (by decide) rfl (Nat.le_of_ble_eq_true rfl) hinj ?_
  intro p e s m below meth c S
  refine z_aload_n S 0 dX0_listedLetter_0 rfl rfl ?_
  refine z_get S (C := RX0) (T := TX0) (N := 11) (ci := 0) 3 m0_X0_listedLetter m1_X0_listedLetter (Nat.le_of_ble_eq_true rfl) (cC_0 X z0) rfl (Nat.le_of_ble_eq_true rfl) rfl rfl dX0_listedLetter_1 ?_
  refine z_iload_n S 1 dX0_listedLetter_4 rfl rfl ?_
  refine z_bipush (v := (nI 7)) S dX0_listedLetter_5 (by decide) ?_
  refine z_imul S dX0_listedLetter_7 ?_
  refine z_iload_n S 2 dX0_listedLetter_8 rfl rfl ?_
  refine z_iadd S dX0_listedLetter_9 ?_
  refine z_iald S (Nat.le_of_ble_eq_true rfl) (cC_4 X z0) dX0_listedLetter_10 h (fun v_10 h => ?_)
  exact z_iret_r S dX0_listedLetter_11 h
/-! SoldLetters.isSameWord: a walk -/
theorem hd_X3_isSameWord : yX3_isSameWord.cls = RX3 ∧ yX3_isSameWord.cls ≠ "java/lang/invoke/MethodHandle" ∧ yX3_isSameWord.cls ≠ "java/lang/invoke/VarHandle" ∧ (parseMethodDescriptor yX3_isSameWord.desc).map (fun d => d.parameters.length) = some 2 := by decide +kernel
theorem m0_X3_isSameWord : Cond.fieldLink RX3 26 RX3 (TX3 2).2.1 (TX3 2).2.2.1 ∈ wsX3_isSameWord := by decide +kernel
theorem m1_X3_isSameWord : ∀ w ∈ u_ws RX3 TX3 7, w ∈ wsX3_isSameWord := by decide +kernel
theorem m2_X3_isSameWord : Cond.fieldLink RX3 12 RX3 (TX3 0).2.1 (TX3 0).2.2.1 ∈ wsX3_isSameWord := by decide +kernel
theorem m3_X3_isSameWord : Cond.fieldLink RX3 227 RX0 (TX0 4).2.1 (TX0 4).2.2.1 ∈ wsX3_isSameWord := by decide +kernel
theorem m4_X3_isSameWord : ∀ w ∈ u_ws RX0 TX0 11, w ∈ wsX3_isSameWord := by decide +kernel
theorem m5_X3_isSameWord : Cond.fieldLink RX3 278 RX1 (TX1 0).2.1 (TX1 0).2.2.1 ∈ wsX3_isSameWord := by decide +kernel
theorem m6_X3_isSameWord : ∀ w ∈ u_ws RX1 TX1 2, w ∈ wsX3_isSameWord := by decide +kernel
set_option maxHeartbeats 4000000 in
set_option maxRecDepth 100000 in
theorem tl_X3_isSameWord_27 {l : Launch} {D : va_G} {X : zE} {p : Program} {e : Env} {s : State} {m : MethodId} {args : Array Value} {below : List Frame} {meth : Method} {c : Code} (S : zS p m meth c cX3_isSameWord 5 (some .boolean) s args wsX3_isSameWord RX3 D 44 X) {z0 : zV} {r : Int32} : ∀ (n_ : Nat), ∀ (x1 : Int32) (x2 : Int32) (x3 : Int32) (x4 : Int32), l_X3_isSameWord_27 z0 n_ x1 x2 x3 x4 = some r → Zj false D 44 X p l e (zrm 1 22) s m args below meth c (MQ below (zQr (some (.int r))) args s 0 0 (fun _ => False)) 5 27 [(0, .ref (X.1 42)), (1, .int x1), (2, .int x2), (3, .int x3), (4, .int x4)] [] (zc shC X z0) := by
  intro n_
  induction n_ with
  | zero =>
    intro x1 x2 x3 x4 h
    cases h
  | succ n_ ih =>
    intro x1 x2 x3 x4 h
    rw [l_X3_isSameWord_27] at h
    refine z_iload S 4 dX3_isSameWord_27 rfl ?_
    refine z_iload_n S 3 dX3_isSameWord_29 rfl rfl ?_
    refine z_icmp_ge S (tgt := 66) dX3_isSameWord_30 (by decide) h (fun h => ?_) (fun h => ?_)
    · refine z_iconst (v := (nI 1)) S dX3_isSameWord_66 (by decide) ?_
      exact z_zret_r S dX3_isSameWord_67 h
    · refine z_aload_n S 0 dX3_isSameWord_33 rfl rfl ?_
      refine z_get S (C := RX3) (T := TX3) (N := 7) (ci := 3) 2 m0_X3_isSameWord m1_X3_isSameWord (Nat.le_of_ble_eq_true rfl) (cC_42 X z0) rfl (Nat.le_of_ble_eq_true rfl) rfl rfl dX3_isSameWord_34 ?_
      refine z_get S (C := RX1) (T := TX1) (N := 2) (ci := 1) 0 m5_X3_isSameWord m6_X3_isSameWord (Nat.le_of_ble_eq_true rfl) (cC_40 X z0) rfl (Nat.le_of_ble_eq_true rfl) rfl rfl dX3_isSameWord_37 ?_
      refine z_iload_n S 1 dX3_isSameWord_40 rfl rfl ?_
      refine z_iload S 4 dX3_isSameWord_41 rfl ?_
      refine z_iadd S dX3_isSameWord_43 ?_
      refine z_iald S (Nat.le_of_ble_eq_true rfl) (cC_41 X z0) dX3_isSameWord_44 h (fun v_44 h => ?_)
      refine z_aload_n S 0 dX3_isSameWord_45 rfl rfl ?_
      refine z_get S (C := RX3) (T := TX3) (N := 7) (ci := 3) 0 m2_X3_isSameWord m1_X3_isSameWord (Nat.le_of_ble_eq_true rfl) (cC_42 X z0) rfl (Nat.le_of_ble_eq_true rfl) rfl rfl dX3_isSameWord_46 ?_
      refine z_iload_n S 2 dX3_isSameWord_49 rfl rfl ?_
      refine z_iload S 4 dX3_isSameWord_50 rfl ?_
      obtain ⟨v_52, hv_52, h⟩ := ob_some h
      refine z_callV_r (As := [.int x2, .int x4]) S (c_X0_listedLetter l D X _ _ _ S.2.2.1 hv_52) (cwV 2 S.1.2.2.2.2 gX3_isSameWord_X0_listedLetter rfl rfl rfl hd_X0_listedLetter ⟨Nat.le_of_ble_eq_true rfl, Nat.le_of_ble_eq_true rfl⟩) (Nat.le_of_ble_eq_true rfl) (cC_0 X z0) rfl rfl rfl (Nat.le_of_ble_eq_true rfl) rfl dX3_isSameWord_52 ?_
      refine z_icmp_eq S (tgt := 60) dX3_isSameWord_55 (by decide) h (fun h => ?_) (fun h => ?_)
      · refine z_iinc S 4 [(4, .int (x4 + nI 1)), (0, .ref (X.1 42)), (1, .int x1), (2, .int x2), (3, .int x3)] dX3_isSameWord_60 rfl rfl (Nat.le_of_ble_eq_true rfl) rfl ?_
        refine z_goto S (tgt := 27) dX3_isSameWord_63 (by decide) ?_
        exact z_lv [1, 2, 3, 4, 0] rfl (ih _ _ _ _ h)
      · refine z_iconst (v := (nI 0)) S dX3_isSameWord_58 (by decide) ?_
        exact z_zret_r S dX3_isSameWord_59 h
set_option maxHeartbeats 4000000 in
set_option maxRecDepth 100000 in
theorem c_X3_isSameWord (l : Launch) (D : va_G) (X : zE) (z0 : zV) (a0 : Int32) (a1 : Int32) (hinj : zw_inj 44 X.1) {r : Int32} (h : f_X3_isSameWord z0 a0 a1 = some r) : zMr l yX3_isSameWord wsX3_isSameWord (zrm 1 22) D 44 X (zc shC X z0) [.ref (X.1 42), .int a0, .int a1] (some (.int r)) := by
  rw [f_X3_isSameWord] at h
  refine z_start_r (cc := cX3_isSameWord) (maxL := 5) (ret := (some .boolean)) (by decide) rfl (Nat.le_of_ble_eq_true rfl) hinj ?_
  intro p e s m below meth c S
  refine z_aload_n S 0 dX3_isSameWord_0 rfl rfl ?_
  refine z_get S (C := RX3) (T := TX3) (N := 7) (ci := 3) 2 m0_X3_isSameWord m1_X3_isSameWord (Nat.le_of_ble_eq_true rfl) (cC_42 X z0) rfl (Nat.le_of_ble_eq_true rfl) rfl rfl dX3_isSameWord_1 ?_
  refine z_iload_n S 1 dX3_isSameWord_4 rfl rfl ?_
  obtain ⟨v_5, hv_5, h⟩ := ob_some h
  refine z_callV_r (As := [.int a0]) S (c_X1_wordLength l D X _ _ S.2.2.1 hv_5) (cwV 1 S.1.2.2.2.2 gX3_isSameWord_X1_wordLength rfl rfl rfl hd_X1_wordLength ⟨Nat.le_of_ble_eq_true rfl, Nat.le_of_ble_eq_true rfl⟩) (Nat.le_of_ble_eq_true rfl) (cC_40 X z0) rfl rfl rfl (Nat.le_of_ble_eq_true rfl) rfl dX3_isSameWord_5 ?_
  refine z_istore_n S [(3, .int v_5), (0, .ref (X.1 42)), (1, .int a0), (2, .int a1)] dX3_isSameWord_8 rfl (Nat.le_of_ble_eq_true rfl) rfl ?_
  refine z_iload_n S 0 dX3_isSameWord_9 rfl rfl ?_
  refine z_aload_n S 1 dX3_isSameWord_10 rfl rfl ?_
  refine z_get S (C := RX3) (T := TX3) (N := 7) (ci := 3) 0 m2_X3_isSameWord m1_X3_isSameWord (Nat.le_of_ble_eq_true rfl) (cC_42 X z0) rfl (Nat.le_of_ble_eq_true rfl) rfl rfl dX3_isSameWord_11 ?_
  refine z_get S (C := RX0) (T := TX0) (N := 11) (ci := 0) 4 m3_X3_isSameWord m4_X3_isSameWord (Nat.le_of_ble_eq_true rfl) (cC_0 X z0) rfl (Nat.le_of_ble_eq_true rfl) rfl rfl dX3_isSameWord_14 ?_
  refine z_iload_n S 3 dX3_isSameWord_17 rfl rfl ?_
  refine z_iald S (Nat.le_of_ble_eq_true rfl) (cC_5 X z0) dX3_isSameWord_18 h (fun v_18 h => ?_)
  refine z_icmp_eq S (tgt := 24) dX3_isSameWord_19 (by decide) h (fun h => ?_) (fun h => ?_)
  · refine z_iconst (v := (nI 0)) S dX3_isSameWord_24 (by decide) ?_
    refine z_istore S [(4, .int (nI 0)), (3, .int v_5), (0, .ref (X.1 42)), (1, .int a0), (2, .int a1)] dX3_isSameWord_25 (Nat.le_of_ble_eq_true rfl) rfl ?_
    exact z_lv [2, 3, 4, 1, 0] rfl (tl_X3_isSameWord_27 S _ _ _ _ _ h)
  · refine z_iconst (v := (nI 0)) S dX3_isSameWord_22 (by decide) ?_
    exact z_zret_r S dX3_isSameWord_23 h
/-! SoldLetters.isListed: a walk -/
theorem hd_X3_isListed : yX3_isListed.cls = RX3 ∧ yX3_isListed.cls ≠ "java/lang/invoke/MethodHandle" ∧ yX3_isListed.cls ≠ "java/lang/invoke/VarHandle" ∧ (parseMethodDescriptor yX3_isListed.desc).map (fun d => d.parameters.length) = some 1 := by decide +kernel
theorem m0_X3_isListed : Cond.fieldLink RX3 12 RX3 (TX3 0).2.1 (TX3 0).2.2.1 ∈ wsX3_isListed := by decide +kernel
theorem m1_X3_isListed : ∀ w ∈ u_ws RX3 TX3 7, w ∈ wsX3_isListed := by decide +kernel
theorem m2_X3_isListed : Cond.fieldLink RX3 85 RX0 (TX0 5).2.1 (TX0 5).2.2.1 ∈ wsX3_isListed := by decide +kernel
theorem m3_X3_isListed : ∀ w ∈ u_ws RX0 TX0 11, w ∈ wsX3_isListed := by decide +kernel
set_option maxHeartbeats 4000000 in
set_option maxRecDepth 100000 in
theorem tl_X3_isListed_2 {l : Launch} {D : va_G} {X : zE} {p : Program} {e : Env} {s : State} {m : MethodId} {args : Array Value} {below : List Frame} {meth : Method} {c : Code} (S : zS p m meth c cX3_isListed 3 (some .boolean) s args wsX3_isListed RX3 D 44 X) {z0 : zV} {r : Int32} : ∀ (n_ : Nat), ∀ (x1 : Int32) (x2 : Int32), l_X3_isListed_2 z0 n_ x1 x2 = some r → Zj false D 44 X p l e (zrm 2 46) s m args below meth c (MQ below (zQr (some (.int r))) args s 0 0 (fun _ => False)) 3 2 [(0, .ref (X.1 42)), (1, .int x1), (2, .int x2)] [] (zc shC X z0) := by
  intro n_
  induction n_ with
  | zero =>
    intro x1 x2 h
    cases h
  | succ n_ ih =>
    intro x1 x2 h
    rw [l_X3_isListed_2] at h
    refine z_iload_n S 2 dX3_isListed_2 rfl rfl ?_
    refine z_aload_n S 0 dX3_isListed_3 rfl rfl ?_
    refine z_get S (C := RX3) (T := TX3) (N := 7) (ci := 3) 0 m0_X3_isListed m1_X3_isListed (Nat.le_of_ble_eq_true rfl) (cC_42 X z0) rfl (Nat.le_of_ble_eq_true rfl) rfl rfl dX3_isListed_4 ?_
    refine z_get S (C := RX0) (T := TX0) (N := 11) (ci := 0) 5 m2_X3_isListed m3_X3_isListed (Nat.le_of_ble_eq_true rfl) (cC_0 X z0) rfl (Nat.le_of_ble_eq_true rfl) rfl rfl dX3_isListed_7 ?_
    refine z_icmp_ge S (tgt := 30) dX3_isListed_10 (by decide) h (fun h => ?_) (fun h => ?_)
    · refine z_iconst (v := (nI 0)) S dX3_isListed_30 (by decide) ?_
      exact z_zret_r S dX3_isListed_31 h
    · refine z_aload_n S 0 dX3_isListed_13 rfl rfl ?_
      refine z_iload_n S 1 dX3_isListed_14 rfl rfl ?_
      refine z_iload_n S 2 dX3_isListed_15 rfl rfl ?_
      obtain ⟨v_16, hv_16, h⟩ := ob_some h
      refine z_callV_r (As := [.int x1, .int x2]) S (c_X3_isSameWord l D X _ _ _ S.2.2.1 hv_16) (cwV 2 S.1.2.2.2.2 gX3_isListed_X3_isSameWord rfl rfl rfl hd_X3_isSameWord ⟨Nat.le_of_ble_eq_true rfl, Nat.le_of_ble_eq_true rfl⟩) (Nat.le_of_ble_eq_true rfl) (cC_42 X z0) rfl rfl rfl (Nat.le_of_ble_eq_true rfl) rfl dX3_isListed_16 ?_
      refine z_if_eq S (tgt := 24) dX3_isListed_19 (by decide) h (fun h => ?_) (fun h => ?_)
      · refine z_iinc S 2 [(2, .int (x2 + nI 1)), (0, .ref (X.1 42)), (1, .int x1)] dX3_isListed_24 rfl rfl (Nat.le_of_ble_eq_true rfl) rfl ?_
        refine z_goto S (tgt := 2) dX3_isListed_27 (by decide) ?_
        exact z_lv [1, 2, 0] rfl (ih _ _ h)
      · refine z_iconst (v := (nI 1)) S dX3_isListed_22 (by decide) ?_
        exact z_zret_r S dX3_isListed_23 h
set_option maxHeartbeats 4000000 in
set_option maxRecDepth 100000 in
theorem c_X3_isListed (l : Launch) (D : va_G) (X : zE) (z0 : zV) (a0 : Int32) (hinj : zw_inj 44 X.1) {r : Int32} (h : f_X3_isListed z0 a0 = some r) : zMr l yX3_isListed wsX3_isListed (zrm 2 46) D 44 X (zc shC X z0) [.ref (X.1 42), .int a0] (some (.int r)) := by
  rw [f_X3_isListed] at h
  refine z_start_r (cc := cX3_isListed) (maxL := 3) (ret := (some .boolean)) (by decide) rfl (Nat.le_of_ble_eq_true rfl) hinj ?_
  intro p e s m below meth c S
  refine z_iconst (v := (nI 0)) S dX3_isListed_0 (by decide) ?_
  refine z_istore_n S [(2, .int (nI 0)), (0, .ref (X.1 42)), (1, .int a0)] dX3_isListed_1 rfl (Nat.le_of_ble_eq_true rfl) rfl ?_
  exact z_lv [1, 2, 0] rfl (tl_X3_isListed_2 S _ _ _ h)
/-! SoldLetters$Text.isSameInText: a walk -/
theorem hd_X1_isSameInText : yX1_isSameInText.cls = RX1 ∧ yX1_isSameInText.cls ≠ "java/lang/invoke/MethodHandle" ∧ yX1_isSameInText.cls ≠ "java/lang/invoke/VarHandle" ∧ (parseMethodDescriptor yX1_isSameInText.desc).map (fun d => d.parameters.length) = some 2 := by decide +kernel
theorem m0_X1_isSameInText : Cond.fieldLink RX1 9 RX1 (TX1 0).2.1 (TX1 0).2.2.1 ∈ wsX1_isSameInText := by decide +kernel
theorem m1_X1_isSameInText : ∀ w ∈ u_ws RX1 TX1 2, w ∈ wsX1_isSameInText := by decide +kernel
set_option maxHeartbeats 4000000 in
set_option maxRecDepth 100000 in
theorem tl_X1_isSameInText_20 {l : Launch} {D : va_G} {X : zE} {p : Program} {e : Env} {s : State} {m : MethodId} {args : Array Value} {below : List Frame} {meth : Method} {c : Code} (S : zS p m meth c cX1_isSameInText 5 (some .boolean) s args wsX1_isSameInText RX1 D 44 X) {z0 : zV} {r : Int32} : ∀ (n_ : Nat), ∀ (x1 : Int32) (x2 : Int32) (x3 : Int32) (x4 : Int32), l_X1_isSameInText_20 z0 n_ x1 x2 x3 x4 = some r → Zj false D 44 X p l e (zrm 1 22) s m args below meth c (MQ below (zQr (some (.int r))) args s 0 0 (fun _ => False)) 5 20 [(0, .ref (X.1 40)), (1, .int x1), (2, .int x2), (3, .int x3), (4, .int x4)] [] (zc shC X z0) := by
  intro n_
  induction n_ with
  | zero =>
    intro x1 x2 x3 x4 h
    cases h
  | succ n_ ih =>
    intro x1 x2 x3 x4 h
    rw [l_X1_isSameInText_20] at h
    refine z_iload S 4 dX1_isSameInText_20 rfl ?_
    refine z_iload_n S 3 dX1_isSameInText_22 rfl rfl ?_
    refine z_icmp_ge S (tgt := 55) dX1_isSameInText_23 (by decide) h (fun h => ?_) (fun h => ?_)
    · refine z_iconst (v := (nI 1)) S dX1_isSameInText_55 (by decide) ?_
      exact z_zret_r S dX1_isSameInText_56 h
    · refine z_aload_n S 0 dX1_isSameInText_26 rfl rfl ?_
      refine z_get S (C := RX1) (T := TX1) (N := 2) (ci := 1) 0 m0_X1_isSameInText m1_X1_isSameInText (Nat.le_of_ble_eq_true rfl) (cC_40 X z0) rfl (Nat.le_of_ble_eq_true rfl) rfl rfl dX1_isSameInText_27 ?_
      refine z_iload_n S 1 dX1_isSameInText_30 rfl rfl ?_
      refine z_iload S 4 dX1_isSameInText_31 rfl ?_
      refine z_iadd S dX1_isSameInText_33 ?_
      refine z_iald S (Nat.le_of_ble_eq_true rfl) (cC_41 X z0) dX1_isSameInText_34 h (fun v_34 h => ?_)
      refine z_aload_n S 0 dX1_isSameInText_35 rfl rfl ?_
      refine z_get S (C := RX1) (T := TX1) (N := 2) (ci := 1) 0 m0_X1_isSameInText m1_X1_isSameInText (Nat.le_of_ble_eq_true rfl) (cC_40 X z0) rfl (Nat.le_of_ble_eq_true rfl) rfl rfl dX1_isSameInText_36 ?_
      refine z_iload_n S 2 dX1_isSameInText_39 rfl rfl ?_
      refine z_iload S 4 dX1_isSameInText_40 rfl ?_
      refine z_iadd S dX1_isSameInText_42 ?_
      refine z_iald S (Nat.le_of_ble_eq_true rfl) (cC_41 X z0) dX1_isSameInText_43 h (fun v_43 h => ?_)
      refine z_icmp_eq S (tgt := 49) dX1_isSameInText_44 (by decide) h (fun h => ?_) (fun h => ?_)
      · refine z_iinc S 4 [(4, .int (x4 + nI 1)), (0, .ref (X.1 40)), (1, .int x1), (2, .int x2), (3, .int x3)] dX1_isSameInText_49 rfl rfl (Nat.le_of_ble_eq_true rfl) rfl ?_
        refine z_goto S (tgt := 20) dX1_isSameInText_52 (by decide) ?_
        exact z_lv [1, 2, 3, 4, 0] rfl (ih _ _ _ _ h)
      · refine z_iconst (v := (nI 0)) S dX1_isSameInText_47 (by decide) ?_
        exact z_zret_r S dX1_isSameInText_48 h
set_option maxHeartbeats 4000000 in
set_option maxRecDepth 100000 in
theorem c_X1_isSameInText (l : Launch) (D : va_G) (X : zE) (z0 : zV) (a0 : Int32) (a1 : Int32) (hinj : zw_inj 44 X.1) {r : Int32} (h : f_X1_isSameInText z0 a0 a1 = some r) : zMr l yX1_isSameInText wsX1_isSameInText (zrm 1 22) D 44 X (zc shC X z0) [.ref (X.1 40), .int a0, .int a1] (some (.int r)) := by
  rw [f_X1_isSameInText] at h
  refine z_start_r (cc := cX1_isSameInText) (maxL := 5) (ret := (some .boolean)) (by decide) rfl (Nat.le_of_ble_eq_true rfl) hinj ?_
  intro p e s m below meth c S
  refine z_aload_n S 0 dX1_isSameInText_0 rfl rfl ?_
  refine z_iload_n S 1 dX1_isSameInText_1 rfl rfl ?_
  obtain ⟨v_2, hv_2, h⟩ := ob_some h
  refine z_callV_r (As := [.int a0]) S (c_X1_wordLength l D X _ _ S.2.2.1 hv_2) (cwV 1 S.1.2.2.2.2 gX1_isSameInText_X1_wordLength rfl rfl rfl hd_X1_wordLength ⟨Nat.le_of_ble_eq_true rfl, Nat.le_of_ble_eq_true rfl⟩) (Nat.le_of_ble_eq_true rfl) (cC_40 X z0) rfl rfl rfl (Nat.le_of_ble_eq_true rfl) rfl dX1_isSameInText_2 ?_
  refine z_istore_n S [(3, .int v_2), (0, .ref (X.1 40)), (1, .int a0), (2, .int a1)] dX1_isSameInText_5 rfl (Nat.le_of_ble_eq_true rfl) rfl ?_
  refine z_iload_n S 0 dX1_isSameInText_6 rfl rfl ?_
  refine z_aload_n S 1 dX1_isSameInText_7 rfl rfl ?_
  refine z_iload_n S 3 dX1_isSameInText_8 rfl rfl ?_
  obtain ⟨v_9, hv_9, h⟩ := ob_some h
  refine z_callV_r (As := [.int a1]) S (c_X1_wordLength l D X _ _ S.2.2.1 hv_9) (cwV 1 S.1.2.2.2.2 gX1_isSameInText_X1_wordLength rfl rfl rfl hd_X1_wordLength ⟨Nat.le_of_ble_eq_true rfl, Nat.le_of_ble_eq_true rfl⟩) (Nat.le_of_ble_eq_true rfl) (cC_40 X z0) rfl rfl rfl (Nat.le_of_ble_eq_true rfl) rfl dX1_isSameInText_9 ?_
  refine z_icmp_eq S (tgt := 17) dX1_isSameInText_12 (by decide) h (fun h => ?_) (fun h => ?_)
  · refine z_iconst (v := (nI 0)) S dX1_isSameInText_17 (by decide) ?_
    refine z_istore S [(4, .int (nI 0)), (3, .int v_2), (0, .ref (X.1 40)), (1, .int a0), (2, .int a1)] dX1_isSameInText_18 (Nat.le_of_ble_eq_true rfl) rfl ?_
    exact z_lv [2, 3, 4, 1, 0] rfl (tl_X1_isSameInText_20 S _ _ _ _ _ h)
  · refine z_iconst (v := (nI 0)) S dX1_isSameInText_15 (by decide) ?_
    exact z_zret_r S dX1_isSameInText_16 h
/-! SoldLetters$Text.isRepeated: a walk -/
theorem hd_X1_isRepeated : yX1_isRepeated.cls = RX1 ∧ yX1_isRepeated.cls ≠ "java/lang/invoke/MethodHandle" ∧ yX1_isRepeated.cls ≠ "java/lang/invoke/VarHandle" ∧ (parseMethodDescriptor yX1_isRepeated.desc).map (fun d => d.parameters.length) = some 1 := by decide +kernel
set_option maxHeartbeats 4000000 in
set_option maxRecDepth 100000 in
theorem tl_X1_isRepeated_2 {l : Launch} {D : va_G} {X : zE} {p : Program} {e : Env} {s : State} {m : MethodId} {args : Array Value} {below : List Frame} {meth : Method} {c : Code} (S : zS p m meth c cX1_isRepeated 3 (some .boolean) s args wsX1_isRepeated RX1 D 44 X) {z0 : zV} {r : Int32} : ∀ (n_ : Nat), ∀ (x1 : Int32) (x2 : Int32), l_X1_isRepeated_2 z0 n_ x1 x2 = some r → Zj false D 44 X p l e (zrm 2 46) s m args below meth c (MQ below (zQr (some (.int r))) args s 0 0 (fun _ => False)) 3 2 [(0, .ref (X.1 40)), (1, .int x1), (2, .int x2)] [] (zc shC X z0) := by
  intro n_
  induction n_ with
  | zero =>
    intro x1 x2 h
    cases h
  | succ n_ ih =>
    intro x1 x2 h
    rw [l_X1_isRepeated_2] at h
    refine z_iload_n S 2 dX1_isRepeated_2 rfl rfl ?_
    refine z_iload_n S 1 dX1_isRepeated_3 rfl rfl ?_
    refine z_icmp_ge S (tgt := 32) dX1_isRepeated_4 (by decide) h (fun h => ?_) (fun h => ?_)
    · refine z_iconst (v := (nI 0)) S dX1_isRepeated_32 (by decide) ?_
      exact z_zret_r S dX1_isRepeated_33 h
    · refine z_aload_n S 0 dX1_isRepeated_7 rfl rfl ?_
      refine z_iload_n S 2 dX1_isRepeated_8 rfl rfl ?_
      obtain ⟨v_9, hv_9, h⟩ := ob_some h
      refine z_callV_r (As := [.int x2]) S (c_X1_startsWord l D X _ _ S.2.2.1 hv_9) (cwV 1 S.1.2.2.2.2 gX1_isRepeated_X1_startsWord rfl rfl rfl hd_X1_startsWord ⟨Nat.le_of_ble_eq_true rfl, Nat.le_of_ble_eq_true rfl⟩) (Nat.le_of_ble_eq_true rfl) (cC_40 X z0) rfl rfl rfl (Nat.le_of_ble_eq_true rfl) rfl dX1_isRepeated_9 ?_
      refine z_if_eq S (tgt := 26) dX1_isRepeated_12 (by decide) h (fun h => ?_) (fun h => ?_)
      · refine z_iinc S 2 [(2, .int (x2 + nI 1)), (0, .ref (X.1 40)), (1, .int x1)] dX1_isRepeated_26 rfl rfl (Nat.le_of_ble_eq_true rfl) rfl ?_
        refine z_goto S (tgt := 2) dX1_isRepeated_29 (by decide) ?_
        exact z_lv [1, 2, 0] rfl (ih _ _ h)
      · refine z_aload_n S 0 dX1_isRepeated_15 rfl rfl ?_
        refine z_iload_n S 2 dX1_isRepeated_16 rfl rfl ?_
        refine z_iload_n S 1 dX1_isRepeated_17 rfl rfl ?_
        obtain ⟨v_18, hv_18, h⟩ := ob_some h
        refine z_callV_r (As := [.int x2, .int x1]) S (c_X1_isSameInText l D X _ _ _ S.2.2.1 hv_18) (cwV 2 S.1.2.2.2.2 gX1_isRepeated_X1_isSameInText rfl rfl rfl hd_X1_isSameInText ⟨Nat.le_of_ble_eq_true rfl, Nat.le_of_ble_eq_true rfl⟩) (Nat.le_of_ble_eq_true rfl) (cC_40 X z0) rfl rfl rfl (Nat.le_of_ble_eq_true rfl) rfl dX1_isRepeated_18 ?_
        refine z_if_eq S (tgt := 26) dX1_isRepeated_21 (by decide) h (fun h => ?_) (fun h => ?_)
        · refine z_iinc S 2 [(2, .int (x2 + nI 1)), (0, .ref (X.1 40)), (1, .int x1)] dX1_isRepeated_26 rfl rfl (Nat.le_of_ble_eq_true rfl) rfl ?_
          refine z_goto S (tgt := 2) dX1_isRepeated_29 (by decide) ?_
          exact z_lv [1, 2, 0] rfl (ih _ _ h)
        · refine z_iconst (v := (nI 1)) S dX1_isRepeated_24 (by decide) ?_
          exact z_zret_r S dX1_isRepeated_25 h
set_option maxHeartbeats 4000000 in
set_option maxRecDepth 100000 in
theorem c_X1_isRepeated (l : Launch) (D : va_G) (X : zE) (z0 : zV) (a0 : Int32) (hinj : zw_inj 44 X.1) {r : Int32} (h : f_X1_isRepeated z0 a0 = some r) : zMr l yX1_isRepeated wsX1_isRepeated (zrm 2 46) D 44 X (zc shC X z0) [.ref (X.1 40), .int a0] (some (.int r)) := by
  rw [f_X1_isRepeated] at h
  refine z_start_r (cc := cX1_isRepeated) (maxL := 3) (ret := (some .boolean)) (by decide) rfl (Nat.le_of_ble_eq_true rfl) hinj ?_
  intro p e s m below meth c S
  refine z_iconst (v := (nI 0)) S dX1_isRepeated_0 (by decide) ?_
  refine z_istore_n S [(2, .int (nI 0)), (0, .ref (X.1 40)), (1, .int a0)] dX1_isRepeated_1 rfl (Nat.le_of_ble_eq_true rfl) rfl ?_
  exact z_lv [1, 2, 0] rfl (tl_X1_isRepeated_2 S _ _ _ h)
/-! SoldLetters.newWordsInText: a walk -/
theorem hd_X3_newWordsInText : yX3_newWordsInText.cls = RX3 ∧ yX3_newWordsInText.cls ≠ "java/lang/invoke/MethodHandle" ∧ yX3_newWordsInText.cls ≠ "java/lang/invoke/VarHandle" ∧ (parseMethodDescriptor yX3_newWordsInText.desc).map (fun d => d.parameters.length) = some 0 := by decide +kernel
theorem m0_X3_newWordsInText : Cond.fieldLink RX3 26 RX3 (TX3 2).2.1 (TX3 2).2.2.1 ∈ wsX3_newWordsInText := by decide +kernel
theorem m1_X3_newWordsInText : ∀ w ∈ u_ws RX3 TX3 7, w ∈ wsX3_newWordsInText := by decide +kernel
theorem m2_X3_newWordsInText : Cond.fieldLink RX3 88 RX1 (TX1 1).2.1 (TX1 1).2.2.1 ∈ wsX3_newWordsInText := by decide +kernel
theorem m3_X3_newWordsInText : ∀ w ∈ u_ws RX1 TX1 2, w ∈ wsX3_newWordsInText := by decide +kernel
set_option maxHeartbeats 4000000 in
set_option maxRecDepth 100000 in
theorem tl_X3_newWordsInText_4 {l : Launch} {D : va_G} {X : zE} {p : Program} {e : Env} {s : State} {m : MethodId} {args : Array Value} {below : List Frame} {meth : Method} {c : Code} (S : zS p m meth c cX3_newWordsInText 3 (some .int) s args wsX3_newWordsInText RX3 D 44 X) {z0 : zV} {r : Int32} : ∀ (n_ : Nat), ∀ (x1 : Int32) (x2 : Int32), l_X3_newWordsInText_4 z0 n_ x1 x2 = some r → Zj false D 44 X p l e (zrm 3 68) s m args below meth c (MQ below (zQr (some (.int r))) args s 0 0 (fun _ => False)) 3 4 [(0, .ref (X.1 42)), (1, .int x1), (2, .int x2)] [] (zc shC X z0) := by
  intro n_
  induction n_ with
  | zero =>
    intro x1 x2 h
    cases h
  | succ n_ ih =>
    intro x1 x2 h
    rw [l_X3_newWordsInText_4] at h
    refine z_iload_n S 2 dX3_newWordsInText_4 rfl rfl ?_
    refine z_aload_n S 0 dX3_newWordsInText_5 rfl rfl ?_
    refine z_get S (C := RX3) (T := TX3) (N := 7) (ci := 3) 2 m0_X3_newWordsInText m1_X3_newWordsInText (Nat.le_of_ble_eq_true rfl) (cC_42 X z0) rfl (Nat.le_of_ble_eq_true rfl) rfl rfl dX3_newWordsInText_6 ?_
    refine z_get S (C := RX1) (T := TX1) (N := 2) (ci := 1) 1 m2_X3_newWordsInText m3_X3_newWordsInText (Nat.le_of_ble_eq_true rfl) (cC_40 X z0) rfl (Nat.le_of_ble_eq_true rfl) rfl rfl dX3_newWordsInText_9 ?_
    refine z_icmp_ge S (tgt := 54) dX3_newWordsInText_12 (by decide) h (fun h => ?_) (fun h => ?_)
    · refine z_iload_n S 1 dX3_newWordsInText_54 rfl rfl ?_
      exact z_iret_r S dX3_newWordsInText_55 h
    · refine z_aload_n S 0 dX3_newWordsInText_15 rfl rfl ?_
      refine z_get S (C := RX3) (T := TX3) (N := 7) (ci := 3) 2 m0_X3_newWordsInText m1_X3_newWordsInText (Nat.le_of_ble_eq_true rfl) (cC_42 X z0) rfl (Nat.le_of_ble_eq_true rfl) rfl rfl dX3_newWordsInText_16 ?_
      refine z_iload_n S 2 dX3_newWordsInText_19 rfl rfl ?_
      obtain ⟨v_20, hv_20, h⟩ := ob_some h
      refine z_callV_r (As := [.int x2]) S (c_X1_startsWord l D X _ _ S.2.2.1 hv_20) (cwV 1 S.1.2.2.2.2 gX3_newWordsInText_X1_startsWord rfl rfl rfl hd_X1_startsWord ⟨Nat.le_of_ble_eq_true rfl, Nat.le_of_ble_eq_true rfl⟩) (Nat.le_of_ble_eq_true rfl) (cC_40 X z0) rfl rfl rfl (Nat.le_of_ble_eq_true rfl) rfl dX3_newWordsInText_20 ?_
      refine z_if_eq S (tgt := 48) dX3_newWordsInText_23 (by decide) h (fun h => ?_) (fun h => ?_)
      · refine z_iinc S 2 [(2, .int (x2 + nI 1)), (0, .ref (X.1 42)), (1, .int x1)] dX3_newWordsInText_48 rfl rfl (Nat.le_of_ble_eq_true rfl) rfl ?_
        refine z_goto S (tgt := 4) dX3_newWordsInText_51 (by decide) ?_
        exact z_lv [1, 2, 0] rfl (ih _ _ h)
      · refine z_aload_n S 0 dX3_newWordsInText_26 rfl rfl ?_
        refine z_iload_n S 2 dX3_newWordsInText_27 rfl rfl ?_
        obtain ⟨v_28, hv_28, h⟩ := ob_some h
        refine z_callV_r (As := [.int x2]) S (c_X3_isListed l D X _ _ S.2.2.1 hv_28) (cwV 1 S.1.2.2.2.2 gX3_newWordsInText_X3_isListed rfl rfl rfl hd_X3_isListed ⟨Nat.le_of_ble_eq_true rfl, Nat.le_of_ble_eq_true rfl⟩) (Nat.le_of_ble_eq_true rfl) (cC_42 X z0) rfl rfl rfl (Nat.le_of_ble_eq_true rfl) rfl dX3_newWordsInText_28 ?_
        refine z_if_ne S (tgt := 48) dX3_newWordsInText_31 (by decide) h (fun h => ?_) (fun h => ?_)
        · refine z_iinc S 2 [(2, .int (x2 + nI 1)), (0, .ref (X.1 42)), (1, .int x1)] dX3_newWordsInText_48 rfl rfl (Nat.le_of_ble_eq_true rfl) rfl ?_
          refine z_goto S (tgt := 4) dX3_newWordsInText_51 (by decide) ?_
          exact z_lv [1, 2, 0] rfl (ih _ _ h)
        · refine z_aload_n S 0 dX3_newWordsInText_34 rfl rfl ?_
          refine z_get S (C := RX3) (T := TX3) (N := 7) (ci := 3) 2 m0_X3_newWordsInText m1_X3_newWordsInText (Nat.le_of_ble_eq_true rfl) (cC_42 X z0) rfl (Nat.le_of_ble_eq_true rfl) rfl rfl dX3_newWordsInText_35 ?_
          refine z_iload_n S 2 dX3_newWordsInText_38 rfl rfl ?_
          obtain ⟨v_39, hv_39, h⟩ := ob_some h
          refine z_callV_r (As := [.int x2]) S (c_X1_isRepeated l D X _ _ S.2.2.1 hv_39) (cwV 1 S.1.2.2.2.2 gX3_newWordsInText_X1_isRepeated rfl rfl rfl hd_X1_isRepeated ⟨Nat.le_of_ble_eq_true rfl, Nat.le_of_ble_eq_true rfl⟩) (Nat.le_of_ble_eq_true rfl) (cC_40 X z0) rfl rfl rfl (Nat.le_of_ble_eq_true rfl) rfl dX3_newWordsInText_39 ?_
          refine z_if_ne S (tgt := 48) dX3_newWordsInText_42 (by decide) h (fun h => ?_) (fun h => ?_)
          · refine z_iinc S 2 [(2, .int (x2 + nI 1)), (0, .ref (X.1 42)), (1, .int x1)] dX3_newWordsInText_48 rfl rfl (Nat.le_of_ble_eq_true rfl) rfl ?_
            refine z_goto S (tgt := 4) dX3_newWordsInText_51 (by decide) ?_
            exact z_lv [1, 2, 0] rfl (ih _ _ h)
          · refine z_iinc S 1 [(1, .int (x1 + nI 1)), (0, .ref (X.1 42)), (2, .int x2)] dX3_newWordsInText_45 rfl rfl (Nat.le_of_ble_eq_true rfl) rfl ?_
            refine z_iinc S 2 [(2, .int (x2 + nI 1)), (1, .int (x1 + nI 1)), (0, .ref (X.1 42))] dX3_newWordsInText_48 rfl rfl (Nat.le_of_ble_eq_true rfl) rfl ?_
            refine z_goto S (tgt := 4) dX3_newWordsInText_51 (by decide) ?_
            exact z_lv [2, 1, 0] rfl (ih _ _ h)
set_option maxHeartbeats 4000000 in
set_option maxRecDepth 100000 in
theorem c_X3_newWordsInText (l : Launch) (D : va_G) (X : zE) (z0 : zV) (hinj : zw_inj 44 X.1) {r : Int32} (h : f_X3_newWordsInText z0 = some r) : zMr l yX3_newWordsInText wsX3_newWordsInText (zrm 3 68) D 44 X (zc shC X z0) [.ref (X.1 42)] (some (.int r)) := by
  rw [f_X3_newWordsInText] at h
  refine z_start_r (cc := cX3_newWordsInText) (maxL := 3) (ret := (some .int)) (by decide) rfl (Nat.le_of_ble_eq_true rfl) hinj ?_
  intro p e s m below meth c S
  refine z_iconst (v := (nI 0)) S dX3_newWordsInText_0 (by decide) ?_
  refine z_istore_n S [(1, .int (nI 0)), (0, .ref (X.1 42))] dX3_newWordsInText_1 rfl (Nat.le_of_ble_eq_true rfl) rfl ?_
  refine z_iconst (v := (nI 0)) S dX3_newWordsInText_2 (by decide) ?_
  refine z_istore_n S [(2, .int (nI 0)), (1, .int (nI 0)), (0, .ref (X.1 42))] dX3_newWordsInText_3 rfl (Nat.le_of_ble_eq_true rfl) rfl ?_
  exact z_lv [2, 1, 0] rfl (tl_X3_newWordsInText_4 S _ _ _ h)
/-! SoldLetters.appendToList: a walk -/
theorem hd_X3_appendToList : yX3_appendToList.cls = RX3 ∧ yX3_appendToList.cls ≠ "java/lang/invoke/MethodHandle" ∧ yX3_appendToList.cls ≠ "java/lang/invoke/VarHandle" ∧ (parseMethodDescriptor yX3_appendToList.desc).map (fun d => d.parameters.length) = some 1 := by decide +kernel
theorem m0_X3_appendToList : Cond.fieldLink RX3 26 RX3 (TX3 2).2.1 (TX3 2).2.2.1 ∈ wsX3_appendToList := by decide +kernel
theorem m1_X3_appendToList : ∀ w ∈ u_ws RX3 TX3 7, w ∈ wsX3_appendToList := by decide +kernel
theorem m2_X3_appendToList : Cond.fieldLink RX3 12 RX3 (TX3 0).2.1 (TX3 0).2.2.1 ∈ wsX3_appendToList := by decide +kernel
theorem m3_X3_appendToList : Cond.fieldLink RX3 85 RX0 (TX0 5).2.1 (TX0 5).2.2.1 ∈ wsX3_appendToList := by decide +kernel
theorem m4_X3_appendToList : ∀ w ∈ u_ws RX0 TX0 11, w ∈ wsX3_appendToList := by decide +kernel
theorem m5_X3_appendToList : Cond.fieldLink RX3 227 RX0 (TX0 4).2.1 (TX0 4).2.2.1 ∈ wsX3_appendToList := by decide +kernel
theorem m6_X3_appendToList : Cond.fieldLink RX3 281 RX0 (TX0 3).2.1 (TX0 3).2.2.1 ∈ wsX3_appendToList := by decide +kernel
theorem m7_X3_appendToList : Cond.fieldLink RX3 278 RX1 (TX1 0).2.1 (TX1 0).2.2.1 ∈ wsX3_appendToList := by decide +kernel
theorem m8_X3_appendToList : ∀ w ∈ u_ws RX1 TX1 2, w ∈ wsX3_appendToList := by decide +kernel
set_option maxHeartbeats 4000000 in
set_option maxRecDepth 100000 in
theorem tl_X3_appendToList_30 {l : Launch} {D : va_G} {X : zE} {p : Program} {e : Env} {s : State} {m : MethodId} {args : Array Value} {below : List Frame} {meth : Method} {c : Code} (S : zS p m meth c cX3_appendToList 4 none s args wsX3_appendToList RX3 D 44 X) {z1 : zV} : ∀ (n_ : Nat), ∀ (z0 : zV) (x1 : Int32) (x2 : Int32) (x3 : Int32), l_X3_appendToList_30 n_ z0 x1 x2 x3 = some z1 → Zj true D 44 X p l e (zrm 1 22) s m args below meth c (MQ below (zQw D 44 X (zc shC X z1) none) args s 0 0 (zw_A 44 X.1)) 4 30 [(0, .ref (X.1 42)), (1, .int x1), (2, .int x2), (3, .int x3)] [] (zc shC X z0) := by
  intro n_
  induction n_ with
  | zero =>
    intro z0 x1 x2 x3 h
    cases h
  | succ n_ ih =>
    intro z0 x1 x2 x3 h
    rw [l_X3_appendToList_30] at h
    refine z_iload_n S 3 dX3_appendToList_30 rfl rfl ?_
    refine z_iload_n S 2 dX3_appendToList_31 rfl rfl ?_
    refine z_icmp_ge S (tgt := 72) dX3_appendToList_32 (by decide) h (fun h => ?_) (fun h => ?_)
    · refine z_aload_n S 0 dX3_appendToList_72 rfl rfl ?_
      refine z_get S (C := RX3) (T := TX3) (N := 7) (ci := 3) 0 m2_X3_appendToList m1_X3_appendToList (Nat.le_of_ble_eq_true rfl) (cC_42 X z0) rfl (Nat.le_of_ble_eq_true rfl) rfl rfl dX3_appendToList_73 ?_
      refine z_get S (C := RX0) (T := TX0) (N := 11) (ci := 0) 4 m5_X3_appendToList m4_X3_appendToList (Nat.le_of_ble_eq_true rfl) (cC_0 X z0) rfl (Nat.le_of_ble_eq_true rfl) rfl rfl dX3_appendToList_76 ?_
      refine z_aload_n S 0 dX3_appendToList_79 rfl rfl ?_
      refine z_get S (C := RX3) (T := TX3) (N := 7) (ci := 3) 0 m2_X3_appendToList m1_X3_appendToList (Nat.le_of_ble_eq_true rfl) (cC_42 X z0) rfl (Nat.le_of_ble_eq_true rfl) rfl rfl dX3_appendToList_80 ?_
      refine z_get S (C := RX0) (T := TX0) (N := 11) (ci := 0) 5 m3_X3_appendToList m4_X3_appendToList (Nat.le_of_ble_eq_true rfl) (cC_0 X z0) rfl (Nat.le_of_ble_eq_true rfl) rfl rfl dX3_appendToList_83 ?_
      refine z_iload_n S 2 dX3_appendToList_86 rfl rfl ?_
      refine z_iast S (Nat.le_of_ble_eq_true rfl) (fun _ => rfl) dX3_appendToList_87 h (fun z_87 h => ?_)
      refine z_aload_n S 0 dX3_appendToList_88 rfl rfl ?_
      refine z_get S (C := RX3) (T := TX3) (N := 7) (ci := 3) 0 m2_X3_appendToList m1_X3_appendToList (Nat.le_of_ble_eq_true rfl) (cC_42 X z_87) rfl (Nat.le_of_ble_eq_true rfl) rfl rfl dX3_appendToList_89 ?_
      refine z_dup S dX3_appendToList_92 rfl ?_
      refine z_get S (C := RX0) (T := TX0) (N := 11) (ci := 0) 5 m3_X3_appendToList m4_X3_appendToList (Nat.le_of_ble_eq_true rfl) (cC_0 X z_87) rfl (Nat.le_of_ble_eq_true rfl) rfl rfl dX3_appendToList_93 ?_
      refine z_iconst (v := (nI 1)) S dX3_appendToList_96 (by decide) ?_
      refine z_iadd S dX3_appendToList_97 ?_
      refine z_put S (C := RX0) (T := TX0) (N := 11) (ci := 0) 5 tyX0_ok nmX0 m3_X3_appendToList m4_X3_appendToList (Nat.le_of_ble_eq_true rfl) (cC_0 X z_87) rfl (Nat.le_of_ble_eq_true rfl) rfl rfl rfl rfl (Nat.le_of_ble_eq_true rfl) rfl dX3_appendToList_98 h (fun z_98 h => ?_)
      exact z_vret_w S dX3_appendToList_101 h
    · refine z_aload_n S 0 dX3_appendToList_35 rfl rfl ?_
      refine z_get S (C := RX3) (T := TX3) (N := 7) (ci := 3) 0 m2_X3_appendToList m1_X3_appendToList (Nat.le_of_ble_eq_true rfl) (cC_42 X z0) rfl (Nat.le_of_ble_eq_true rfl) rfl rfl dX3_appendToList_36 ?_
      refine z_get S (C := RX0) (T := TX0) (N := 11) (ci := 0) 3 m6_X3_appendToList m4_X3_appendToList (Nat.le_of_ble_eq_true rfl) (cC_0 X z0) rfl (Nat.le_of_ble_eq_true rfl) rfl rfl dX3_appendToList_39 ?_
      refine z_aload_n S 0 dX3_appendToList_42 rfl rfl ?_
      refine z_get S (C := RX3) (T := TX3) (N := 7) (ci := 3) 0 m2_X3_appendToList m1_X3_appendToList (Nat.le_of_ble_eq_true rfl) (cC_42 X z0) rfl (Nat.le_of_ble_eq_true rfl) rfl rfl dX3_appendToList_43 ?_
      refine z_get S (C := RX0) (T := TX0) (N := 11) (ci := 0) 5 m3_X3_appendToList m4_X3_appendToList (Nat.le_of_ble_eq_true rfl) (cC_0 X z0) rfl (Nat.le_of_ble_eq_true rfl) rfl rfl dX3_appendToList_46 ?_
      refine z_bipush (v := (nI 7)) S dX3_appendToList_49 (by decide) ?_
      refine z_imul S dX3_appendToList_51 ?_
      refine z_iload_n S 3 dX3_appendToList_52 rfl rfl ?_
      refine z_iadd S dX3_appendToList_53 ?_
      refine z_aload_n S 0 dX3_appendToList_54 rfl rfl ?_
      refine z_get S (C := RX3) (T := TX3) (N := 7) (ci := 3) 2 m0_X3_appendToList m1_X3_appendToList (Nat.le_of_ble_eq_true rfl) (cC_42 X z0) rfl (Nat.le_of_ble_eq_true rfl) rfl rfl dX3_appendToList_55 ?_
      refine z_get S (C := RX1) (T := TX1) (N := 2) (ci := 1) 0 m7_X3_appendToList m8_X3_appendToList (Nat.le_of_ble_eq_true rfl) (cC_40 X z0) rfl (Nat.le_of_ble_eq_true rfl) rfl rfl dX3_appendToList_58 ?_
      refine z_iload_n S 1 dX3_appendToList_61 rfl rfl ?_
      refine z_iload_n S 3 dX3_appendToList_62 rfl rfl ?_
      refine z_iadd S dX3_appendToList_63 ?_
      refine z_iald S (Nat.le_of_ble_eq_true rfl) (cC_41 X z0) dX3_appendToList_64 h (fun v_64 h => ?_)
      refine z_iast S (Nat.le_of_ble_eq_true rfl) (fun _ => rfl) dX3_appendToList_65 h (fun z_65 h => ?_)
      refine z_iinc S 3 [(3, .int (x3 + nI 1)), (0, .ref (X.1 42)), (1, .int x1), (2, .int x2)] dX3_appendToList_66 rfl rfl (Nat.le_of_ble_eq_true rfl) rfl ?_
      refine z_goto S (tgt := 30) dX3_appendToList_69 (by decide) ?_
      exact z_lv [1, 2, 3, 0] rfl (ih _ _ _ _ h)
set_option maxHeartbeats 4000000 in
set_option maxRecDepth 100000 in
theorem c_X3_appendToList (l : Launch) (D : va_G) (X : zE) (z0 : zV) (a0 : Int32) (hinj : zw_inj 44 X.1) {z1 : zV} (h : f_X3_appendToList z0 a0 = some z1) : zMw l yX3_appendToList wsX3_appendToList (zrm 1 22) D 44 X (zc shC X z0) [.ref (X.1 42), .int a0] none (zc shC X z1) := by
  rw [f_X3_appendToList] at h
  refine z_start_w (cc := cX3_appendToList) (maxL := 4) (ret := none) (by decide) rfl (Nat.le_of_ble_eq_true rfl) hinj ?_
  intro p e s m below meth c S
  refine z_aload_n S 0 dX3_appendToList_0 rfl rfl ?_
  refine z_get S (C := RX3) (T := TX3) (N := 7) (ci := 3) 2 m0_X3_appendToList m1_X3_appendToList (Nat.le_of_ble_eq_true rfl) (cC_42 X z0) rfl (Nat.le_of_ble_eq_true rfl) rfl rfl dX3_appendToList_1 ?_
  refine z_iload_n S 1 dX3_appendToList_4 rfl rfl ?_
  obtain ⟨v_5, hv_5, h⟩ := ob_some h
  refine z_callV_r (As := [.int a0]) S (c_X1_wordLength l D X _ _ S.2.2.1 hv_5) (cwV 1 S.1.2.2.2.2 gX3_appendToList_X1_wordLength rfl rfl rfl hd_X1_wordLength ⟨Nat.le_of_ble_eq_true rfl, Nat.le_of_ble_eq_true rfl⟩) (Nat.le_of_ble_eq_true rfl) (cC_40 X z0) rfl rfl rfl (Nat.le_of_ble_eq_true rfl) rfl dX3_appendToList_5 ?_
  refine z_istore_n S [(2, .int v_5), (0, .ref (X.1 42)), (1, .int a0)] dX3_appendToList_8 rfl (Nat.le_of_ble_eq_true rfl) rfl ?_
  refine z_aload_n S 1 dX3_appendToList_9 rfl rfl ?_
  refine z_get S (C := RX3) (T := TX3) (N := 7) (ci := 3) 0 m2_X3_appendToList m1_X3_appendToList (Nat.le_of_ble_eq_true rfl) (cC_42 X z0) rfl (Nat.le_of_ble_eq_true rfl) rfl rfl dX3_appendToList_10 ?_
  refine z_get S (C := RX0) (T := TX0) (N := 11) (ci := 0) 5 m3_X3_appendToList m4_X3_appendToList (Nat.le_of_ble_eq_true rfl) (cC_0 X z0) rfl (Nat.le_of_ble_eq_true rfl) rfl rfl dX3_appendToList_13 ?_
  refine z_bipush (v := (nI 12)) S dX3_appendToList_16 (by decide) ?_
  refine z_icmp_ge S (tgt := 27) dX3_appendToList_18 (by decide) h (fun h => ?_) (fun h => ?_)
  · exact z_vret_w S dX3_appendToList_27 h
  · refine z_iload_n S 0 dX3_appendToList_21 rfl rfl ?_
    refine z_bipush (v := (nI 7)) S dX3_appendToList_22 (by decide) ?_
    refine z_icmp_le S (tgt := 28) dX3_appendToList_24 (by decide) h (fun h => ?_) (fun h => ?_)
    · refine z_iconst (v := (nI 0)) S dX3_appendToList_28 (by decide) ?_
      refine z_istore_n S [(3, .int (nI 0)), (2, .int v_5), (0, .ref (X.1 42)), (1, .int a0)] dX3_appendToList_29 rfl (Nat.le_of_ble_eq_true rfl) rfl ?_
      exact z_lv [2, 3, 1, 0] rfl (tl_X3_appendToList_30 S _ _ _ _ _ h)
    · exact z_vret_w S dX3_appendToList_27 h
