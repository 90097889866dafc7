/-! SoldLetters.listed: a walk -/
theorem hd_X3_listed : yX3_listed.cls = RX3 ∧ yX3_listed.cls ≠ "java/lang/invoke/MethodHandle" ∧ yX3_listed.cls ≠ "java/lang/invoke/VarHandle" ∧ (parseMethodDescriptor yX3_listed.desc).map (fun d => d.parameters.length) = some 2 := by decide +kernel
theorem m0_X3_listed : Cond.fieldLink RX3 12 RX3 (TX3 0).2.1 (TX3 0).2.2.1 ∈ wsX3_listed := by decide +kernel
theorem m1_X3_listed : ∀ w ∈ u_ws RX3 TX3 7, w ∈ wsX3_listed := by decide +kernel
theorem m2_X3_listed : Cond.fieldLink RX3 227 RX0 (TX0 4).2.1 (TX0 4).2.2.1 ∈ wsX3_listed := by decide +kernel
theorem m3_X3_listed : ∀ w ∈ u_ws RX0 TX0 11, w ∈ wsX3_listed := by decide +kernel
set_option maxHeartbeats 4000000 in
set_option maxRecDepth 100000 in
theorem c_X3_listed (l : Launch) (D : va_G) (X : zE) (z0 : zV) (a0 : Int32) (a1 : Int32) (hinj : zw_inj 44 X.1) {r : Int32} (h : f_X3_listed z0 a0 a1 = some r) : zMr l yX3_listed wsX3_listed (zrm 5 112) D 44 X (zc shC X z0) [.ref (X.1 42), .int a0, .int a1] (some (.int r)) := by
  rw [f_X3_listed] at h
  refine z_start_r (cc := cX3_listed) (maxL := 4) (ret := (some .int)) (by decide) rfl (Nat.le_of_ble_eq_true rfl) hinj ?_
  intro p e s m below meth c S
  refine z_aload_n S 0 dX3_listed_0 rfl rfl ?_
  refine z_iload_n S 1 dX3_listed_1 rfl rfl ?_
  obtain ⟨v_2, hv_2, h⟩ := ob_some h
  refine z_callV_r (As := [.int a0]) S (c_X3_isInList l D X _ _ S.2.2.1 hv_2) (cwV 1 S.1.2.2.2.2 gX3_listed_X3_isInList rfl rfl rfl hd_X3_isInList ⟨Nat.le_of_ble_eq_true rfl, Nat.le_of_ble_eq_true rfl⟩) (Nat.le_of_ble_eq_true rfl) (cC_42 X z0) rfl rfl rfl (Nat.le_of_ble_eq_true rfl) rfl dX3_listed_2 ?_
  refine z_if_ne S (tgt := 10) dX3_listed_5 (by decide) h (fun h => ?_) (fun h => ?_)
  · refine z_iload_n S 2 dX3_listed_10 rfl rfl ?_
    by_cases c0 : a1 = nI 0
    · have h := (zif h).1 c0
      refine z_tableIn S (tgt := 36) c0 dX3_listed_11 (by decide) (by decide) rfl (by decide) ?_
      refine z_aload_n S 0 dX3_listed_36 rfl rfl ?_
      refine z_get S (C := RX3) (T := TX3) (N := 7) (ci := 3) 0 m0_X3_listed m1_X3_listed (Nat.le_of_ble_eq_true rfl) (cC_42 X z0) rfl (Nat.le_of_ble_eq_true rfl) rfl rfl dX3_listed_37 ?_
      refine z_get S (C := RX0) (T := TX0) (N := 11) (ci := 0) 4 m2_X3_listed m3_X3_listed (Nat.le_of_ble_eq_true rfl) (cC_0 X z0) rfl (Nat.le_of_ble_eq_true rfl) rfl rfl dX3_listed_40 ?_
      refine z_iload_n S 1 dX3_listed_43 rfl rfl ?_
      refine z_iald S (Nat.le_of_ble_eq_true rfl) (cC_5 X z0) dX3_listed_44 h (fun v_44 h => ?_)
      exact z_iret_r S dX3_listed_45 h
    have h := (zif h).2 c0
    by_cases c1 : a1 = nI 1
    · have h := (zif h).1 c1
      refine z_tableIn S (tgt := 46) c1 dX3_listed_11 (by decide) (by decide) rfl (by decide) ?_
      refine z_aload_n S 0 dX3_listed_46 rfl rfl ?_
      refine z_iload_n S 1 dX3_listed_47 rfl rfl ?_
      obtain ⟨v_48, hv_48, h⟩ := ob_some h
      refine z_callV_r (As := [.int a0]) S (c_X3_wordsThatFit l D X _ _ S.2.2.1 hv_48) (cwV 1 S.1.2.2.2.2 gX3_listed_X3_wordsThatFit rfl rfl rfl hd_X3_wordsThatFit ⟨Nat.le_of_ble_eq_true rfl, Nat.le_of_ble_eq_true rfl⟩) (Nat.le_of_ble_eq_true rfl) (cC_42 X z0) rfl rfl rfl (Nat.le_of_ble_eq_true rfl) rfl dX3_listed_48 ?_
      exact z_iret_r S dX3_listed_51 h
    have h := (zif h).2 c1
    by_cases c2 : a1 = nI 2
    · have h := (zif h).1 c2
      refine z_tableIn S (tgt := 52) c2 dX3_listed_11 (by decide) (by decide) rfl (by decide) ?_
      refine z_aload_n S 0 dX3_listed_52 rfl rfl ?_
      refine z_iload_n S 1 dX3_listed_53 rfl rfl ?_
      obtain ⟨v_54, hv_54, h⟩ := ob_some h
      refine z_callV_r (As := [.int a0]) S (c_X3_firstWordThatFits l D X _ _ S.2.2.1 hv_54) (cwV 1 S.1.2.2.2.2 gX3_listed_X3_firstWordThatFits rfl rfl rfl hd_X3_firstWordThatFits ⟨Nat.le_of_ble_eq_true rfl, Nat.le_of_ble_eq_true rfl⟩) (Nat.le_of_ble_eq_true rfl) (cC_42 X z0) rfl rfl rfl (Nat.le_of_ble_eq_true rfl) rfl dX3_listed_54 ?_
      refine z_istore_n S [(3, .int v_54), (0, .ref (X.1 42)), (1, .int a0), (2, .int a1)] dX3_listed_57 rfl (Nat.le_of_ble_eq_true rfl) rfl ?_
      refine z_iload_n S 0 dX3_listed_58 rfl rfl ?_
      refine z_bipush (v := (-5)) S dX3_listed_59 (by decide) ?_
      refine z_icmp_ne S (tgt := 69) dX3_listed_61 (by decide) h (fun h => ?_) (fun h => ?_)
      · refine z_aload_n S 1 dX3_listed_69 rfl rfl ?_
        refine z_iload_n S 0 dX3_listed_70 rfl rfl ?_
        obtain ⟨v_71, hv_71, h⟩ := ob_some h
        refine z_callV_r (As := [.int v_54]) S (c_X3_priceOfRest l D X _ _ S.2.2.1 hv_71) (cwV 1 S.1.2.2.2.2 gX3_listed_X3_priceOfRest rfl rfl rfl hd_X3_priceOfRest ⟨Nat.le_of_ble_eq_true rfl, Nat.le_of_ble_eq_true rfl⟩) (Nat.le_of_ble_eq_true rfl) (cC_42 X z0) rfl rfl rfl (Nat.le_of_ble_eq_true rfl) rfl dX3_listed_71 ?_
        exact z_iret_r S dX3_listed_74 h
      · refine z_bipush (v := (-5)) S dX3_listed_64 (by decide) ?_
        refine z_goto S (tgt := 74) dX3_listed_66 (by decide) ?_
        exact z_iret_r S dX3_listed_74 h
    have h := (zif h).2 c2
    have e0 := lv_neT (a := 0) c0 rfl
    have e1 := lv_neT (a := 1) c1 rfl
    have e2 := lv_neT (a := 2) c2 rfl
    refine z_tableOut S (tgt := 75) dX3_listed_11 (by omega) (by decide) ?_
    refine z_bipush (v := (-2)) S dX3_listed_75 (by decide) ?_
    exact z_iret_r S dX3_listed_77 h
  · refine z_iconst (v := (-1)) S dX3_listed_8 (by decide) ?_
    exact z_iret_r S dX3_listed_9 h
/-! SoldLetters.bitOf: a walk -/
theorem hd_X3_bitOf : yX3_bitOf.cls ≠ "java/lang/invoke/MethodHandle" ∧ yX3_bitOf.cls ≠ "java/lang/invoke/VarHandle" ∧ (parseMethodDescriptor yX3_bitOf.desc).map (fun d => d.parameters.length) = some 1 := by decide +kernel
set_option maxHeartbeats 4000000 in
set_option maxRecDepth 100000 in
theorem c_X3_bitOf (l : Launch) (D : va_G) (X : zE) (z0 : zV) (a0 : Int32) (hinj : zw_inj 44 X.1) {r : Int32} (h : f_X3_bitOf z0 a0 = some r) : zMr l yX3_bitOf wsX3_bitOf (zrm 0 0) D 44 X (zc shC X z0) [.int a0] (some (.int r)) := by
  rw [f_X3_bitOf] at h
  refine z_start_r (cc := cX3_bitOf) (maxL := 1) (ret := (some .int)) (by decide) rfl (Nat.le_of_ble_eq_true rfl) hinj ?_
  intro p e s m below meth c S
  refine z_iconst (v := (nI 1)) S dX3_bitOf_0 (by decide) ?_
  refine z_iload_n S 0 dX3_bitOf_1 rfl rfl ?_
  refine z_bipush (v := (nI 97)) S dX3_bitOf_2 (by decide) ?_
  refine z_isub S dX3_bitOf_4 ?_
  refine z_ishl S dX3_bitOf_5 ?_
  exact z_iret_r S dX3_bitOf_6 h
/-! SoldLetters.offeredLetters: a walk -/
theorem hd_X3_offeredLetters : yX3_offeredLetters.cls = RX3 ∧ yX3_offeredLetters.cls ≠ "java/lang/invoke/MethodHandle" ∧ yX3_offeredLetters.cls ≠ "java/lang/invoke/VarHandle" ∧ (parseMethodDescriptor yX3_offeredLetters.desc).map (fun d => d.parameters.length) = some 2 := by decide +kernel
theorem m0_X3_offeredLetters : Cond.fieldLink RX3 19 RX3 (TX3 1).2.1 (TX3 1).2.2.1 ∈ wsX3_offeredLetters := by decide +kernel
theorem m1_X3_offeredLetters : ∀ w ∈ u_ws RX3 TX3 7, w ∈ wsX3_offeredLetters := by decide +kernel
theorem m2_X3_offeredLetters : Cond.fieldLink RX3 136 RX2 (TX2 1).2.1 (TX2 1).2.2.1 ∈ wsX3_offeredLetters := by decide +kernel
theorem m3_X3_offeredLetters : ∀ w ∈ u_ws RX2 TX2 4, w ∈ wsX3_offeredLetters := by decide +kernel
theorem m4_X3_offeredLetters : Cond.fieldLink RX3 12 RX3 (TX3 0).2.1 (TX3 0).2.2.1 ∈ wsX3_offeredLetters := by decide +kernel
theorem m5_X3_offeredLetters : Cond.fieldLink RX3 85 RX0 (TX0 5).2.1 (TX0 5).2.2.1 ∈ wsX3_offeredLetters := by decide +kernel
theorem m6_X3_offeredLetters : ∀ w ∈ u_ws RX0 TX0 11, w ∈ wsX3_offeredLetters := by decide +kernel
set_option maxHeartbeats 4000000 in
set_option maxRecDepth 100000 in
theorem tl_X3_offeredLetters_28 {l : Launch} {D : va_G} {X : zE} {p : Program} {e : Env} {s : State} {m : MethodId} {args : Array Value} {below : List Frame} {meth : Method} {c : Code} (S : zS p m meth c cX3_offeredLetters 6 (some .int) s args wsX3_offeredLetters RX3 D 44 X) {z0 : zV} {r : Int32} : ∀ (n_ : Nat), ∀ (x1 : Int32) (x3 : Int32) (x4 : Int32) (x5 : Int32), l_X3_offeredLetters_28 z0 n_ x1 x3 x4 x5 = some r → Zj false D 44 X p l e (zrm 4 89) s m args below meth c (MQ below (zQr (some (.int r))) args s 0 0 (fun _ => False)) 6 28 [(0, .ref (X.1 42)), (1, .int x1), (3, .int x3), (4, .int x4), (5, .int x5)] [] (zc shC X z0) := by
  intro n_
  induction n_ with
  | zero =>
    intro x1 x3 x4 x5 h
    cases h
  | succ n_ ih =>
    intro x1 x3 x4 x5 h
    rw [l_X3_offeredLetters_28] at h
    refine z_iload S 4 dX3_offeredLetters_28 rfl ?_
    refine z_aload_n S 0 dX3_offeredLetters_30 rfl rfl ?_
    refine z_get S (C := RX3) (T := TX3) (N := 7) (ci := 3) 0 m4_X3_offeredLetters m1_X3_offeredLetters (Nat.le_of_ble_eq_true rfl) (cC_42 X z0) rfl (Nat.le_of_ble_eq_true rfl) rfl rfl dX3_offeredLetters_31 ?_
    refine z_get S (C := RX0) (T := TX0) (N := 11) (ci := 0) 5 m5_X3_offeredLetters m6_X3_offeredLetters (Nat.le_of_ble_eq_true rfl) (cC_0 X z0) rfl (Nat.le_of_ble_eq_true rfl) rfl rfl dX3_offeredLetters_34 ?_
    refine z_icmp_ge S (tgt := 74) dX3_offeredLetters_37 (by decide) h (fun h => ?_) (fun h => ?_)
    · refine z_iload S 3 dX3_offeredLetters_74 rfl ?_
      exact z_iret_r S dX3_offeredLetters_76 h
    · refine z_aload_n S 0 dX3_offeredLetters_40 rfl rfl ?_
      refine z_iload_n S 1 dX3_offeredLetters_41 rfl rfl ?_
      refine z_iload S 4 dX3_offeredLetters_42 rfl ?_
      obtain ⟨v_44, hv_44, h⟩ := ob_some h
      refine z_callV_r (As := [.int x1, .int x5]) S (c_X3_isFitting l D X _ _ _ S.2.2.1 hv_44) (cwV 2 S.1.2.2.2.2 gX3_offeredLetters_X3_isFitting rfl rfl rfl hd_X3_isFitting ⟨Nat.le_of_ble_eq_true rfl, Nat.le_of_ble_eq_true rfl⟩) (Nat.le_of_ble_eq_true rfl) (cC_42 X z0) rfl rfl rfl (Nat.le_of_ble_eq_true rfl) rfl dX3_offeredLetters_44 ?_
      refine z_if_eq S (tgt := 68) dX3_offeredLetters_47 (by decide) h (fun h => ?_) (fun h => ?_)
      · refine z_iinc S 4 [(5, .int (x5 + nI 1)), (0, .ref (X.1 42)), (1, .int x1), (3, .int x3), (4, .int x4)] dX3_offeredLetters_68 rfl rfl (Nat.le_of_ble_eq_true rfl) rfl ?_
        refine z_goto S (tgt := 28) dX3_offeredLetters_71 (by decide) ?_
        exact z_lv [1, 2, 3, 4, 0] rfl (ih _ _ _ _ h)
      · refine z_iload S 3 dX3_offeredLetters_50 rfl ?_
        refine z_aload_n S 0 dX3_offeredLetters_52 rfl rfl ?_
        refine z_get S (C := RX3) (T := TX3) (N := 7) (ci := 3) 0 m4_X3_offeredLetters m1_X3_offeredLetters (Nat.le_of_ble_eq_true rfl) (cC_42 X z0) rfl (Nat.le_of_ble_eq_true rfl) rfl rfl dX3_offeredLetters_53 ?_
        refine z_iload S 4 dX3_offeredLetters_56 rfl ?_
        refine z_iload_n S 2 dX3_offeredLetters_58 rfl rfl ?_
        obtain ⟨v_59, hv_59, h⟩ := ob_some h
        refine z_callV_r (As := [.int x5, .int x3]) S (c_X0_listedLetter l D X _ _ _ S.2.2.1 hv_59) (cwV 2 S.1.2.2.2.2 gX3_offeredLetters_X0_listedLetter rfl rfl rfl hd_X0_listedLetter ⟨Nat.le_of_ble_eq_true rfl, Nat.le_of_ble_eq_true rfl⟩) (Nat.le_of_ble_eq_true rfl) (cC_0 X z0) rfl rfl rfl (Nat.le_of_ble_eq_true rfl) rfl dX3_offeredLetters_59 ?_
        obtain ⟨v_62, hv_62, h⟩ := ob_some h
        refine z_callS_r (As := [.int v_59]) S (c_X3_bitOf l D X _ _ S.2.2.1 hv_62) (va_cwS 1 S.1.2.2.2.2 gX3_offeredLetters_X3_bitOf rfl rfl rfl hd_X3_bitOf ⟨Nat.le_of_ble_eq_true rfl, Nat.le_of_ble_eq_true rfl⟩) rfl rfl (Nat.le_of_ble_eq_true rfl) rfl dX3_offeredLetters_62 ?_
        refine z_ior S dX3_offeredLetters_65 ?_
        refine z_istore S [(4, .int (x4 ||| v_62)), (0, .ref (X.1 42)), (1, .int x1), (3, .int x3), (5, .int x5)] dX3_offeredLetters_66 (Nat.le_of_ble_eq_true rfl) rfl ?_
        refine z_iinc S 4 [(5, .int (x5 + nI 1)), (4, .int (x4 ||| v_62)), (0, .ref (X.1 42)), (1, .int x1), (3, .int x3)] dX3_offeredLetters_68 rfl rfl (Nat.le_of_ble_eq_true rfl) rfl ?_
        refine z_goto S (tgt := 28) dX3_offeredLetters_71 (by decide) ?_
        exact z_lv [2, 3, 4, 1, 0] rfl (ih _ _ _ _ h)
set_option maxHeartbeats 4000000 in
set_option maxRecDepth 100000 in
theorem c_X3_offeredLetters (l : Launch) (D : va_G) (X : zE) (z0 : zV) (a0 : Int32) (a1 : Int32) (hinj : zw_inj 44 X.1) {r : Int32} (h : f_X3_offeredLetters z0 a0 a1 = some r) : zMr l yX3_offeredLetters wsX3_offeredLetters (zrm 4 89) D 44 X (zc shC X z0) [.ref (X.1 42), .int a0, .int a1] (some (.int r)) := by
  rw [f_X3_offeredLetters] at h
  refine z_start_r (cc := cX3_offeredLetters) (maxL := 6) (ret := (some .int)) (by decide) rfl (Nat.le_of_ble_eq_true rfl) hinj ?_
  intro p e s m below meth c S
  refine z_aload_n S 0 dX3_offeredLetters_0 rfl rfl ?_
  refine z_iload_n S 2 dX3_offeredLetters_1 rfl rfl ?_
  refine z_iload_n S 1 dX3_offeredLetters_2 rfl rfl ?_
  obtain ⟨v_3, hv_3, h⟩ := ob_some h
  refine z_callV_r (As := [.int a1, .int a0]) S (c_X3_firstPlaceOf l D X _ _ _ S.2.2.1 hv_3) (cwV 2 S.1.2.2.2.2 gX3_offeredLetters_X3_firstPlaceOf rfl rfl rfl hd_X3_firstPlaceOf ⟨Nat.le_of_ble_eq_true rfl, Nat.le_of_ble_eq_true rfl⟩) (Nat.le_of_ble_eq_true rfl) (cC_42 X z0) rfl rfl rfl (Nat.le_of_ble_eq_true rfl) rfl dX3_offeredLetters_3 ?_
  refine z_istore_n S [(3, .int v_3), (0, .ref (X.1 42)), (1, .int a0), (2, .int a1)] dX3_offeredLetters_6 rfl (Nat.le_of_ble_eq_true rfl) rfl ?_
  refine z_iload_n S 0 dX3_offeredLetters_7 rfl rfl ?_
  refine z_aload_n S 1 dX3_offeredLetters_8 rfl rfl ?_
  refine z_get S (C := RX3) (T := TX3) (N := 7) (ci := 3) 1 m0_X3_offeredLetters m1_X3_offeredLetters (Nat.le_of_ble_eq_true rfl) (cC_42 X z0) rfl (Nat.le_of_ble_eq_true rfl) rfl rfl dX3_offeredLetters_9 ?_
  refine z_get S (C := RX2) (T := TX2) (N := 4) (ci := 2) 1 m2_X3_offeredLetters m3_X3_offeredLetters (Nat.le_of_ble_eq_true rfl) (cC_36 X z0) rfl (Nat.le_of_ble_eq_true rfl) rfl rfl dX3_offeredLetters_12 ?_
  refine z_iload_n S 2 dX3_offeredLetters_15 rfl rfl ?_
  refine z_iald S (Nat.le_of_ble_eq_true rfl) (cC_38 X z0) dX3_offeredLetters_16 h (fun v_16 h => ?_)
  refine z_icmp_lt S (tgt := 22) dX3_offeredLetters_17 (by decide) h (fun h => ?_) (fun h => ?_)
  · refine z_iconst (v := (nI 0)) S dX3_offeredLetters_22 (by decide) ?_
    refine z_istore S [(4, .int (nI 0)), (3, .int v_3), (0, .ref (X.1 42)), (1, .int a0), (2, .int a1)] dX3_offeredLetters_23 (Nat.le_of_ble_eq_true rfl) rfl ?_
    refine z_iconst (v := (nI 0)) S dX3_offeredLetters_25 (by decide) ?_
    refine z_istore S [(5, .int (nI 0)), (4, .int (nI 0)), (3, .int v_3), (0, .ref (X.1 42)), (1, .int a0), (2, .int a1)] dX3_offeredLetters_26 (Nat.le_of_ble_eq_true rfl) rfl ?_
    exact z_lv [3, 4, 2, 1, 0] rfl (tl_X3_offeredLetters_28 S _ _ _ _ _ h)
  · refine z_iconst (v := (nI 0)) S dX3_offeredLetters_20 (by decide) ?_
    exact z_iret_r S dX3_offeredLetters_21 h
/-! SoldLetters.possibleLetters: a walk -/
theorem hd_X3_possibleLetters : yX3_possibleLetters.cls = RX3 ∧ yX3_possibleLetters.cls ≠ "java/lang/invoke/MethodHandle" ∧ yX3_possibleLetters.cls ≠ "java/lang/invoke/VarHandle" ∧ (parseMethodDescriptor yX3_possibleLetters.desc).map (fun d => d.parameters.length) = some 1 := by decide +kernel
theorem m0_X3_possibleLetters : Jvm.Cond.constant RX3 291 67108863 ∈ wsX3_possibleLetters := by decide +kernel
theorem m1_X3_possibleLetters : Cond.fieldLink RX3 19 RX3 (TX3 1).2.1 (TX3 1).2.2.1 ∈ wsX3_possibleLetters := by decide +kernel
theorem m2_X3_possibleLetters : ∀ w ∈ u_ws RX3 TX3 7, w ∈ wsX3_possibleLetters := by decide +kernel
theorem m3_X3_possibleLetters : Cond.fieldLink RX3 63 RX2 (TX2 3).2.1 (TX2 3).2.2.1 ∈ wsX3_possibleLetters := by decide +kernel
theorem m4_X3_possibleLetters : ∀ w ∈ u_ws RX2 TX2 4, w ∈ wsX3_possibleLetters := by decide +kernel
set_option maxHeartbeats 4000000 in
set_option maxRecDepth 100000 in
theorem tl_X3_possibleLetters_39 {l : Launch} {D : va_G} {X : zE} {p : Program} {e : Env} {s : State} {m : MethodId} {args : Array Value} {below : List Frame} {meth : Method} {c : Code} (S : zS p m meth c cX3_possibleLetters 5 (some .int) s args wsX3_possibleLetters RX3 D 44 X) {z0 : zV} {r : Int32} : ∀ (n_ : Nat), ∀ (x1 : Int32) (x2 : Int32) (x3 : Int32), l_X3_possibleLetters_39 z0 n_ x1 x2 x3 = some r → Zj false D 44 X p l e (zrm 5 114) s m args below meth c (MQ below (zQr (some (.int r))) args s 0 0 (fun _ => False)) 5 39 [(0, .ref (X.1 42)), (1, .int x1), (2, .int x2), (3, .int x3)] [] (zc shC X z0) := by
  intro n_
  induction n_ with
  | zero =>
    intro x1 x2 x3 h
    cases h
  | succ n_ ih =>
    intro x1 x2 x3 h
    rw [l_X3_possibleLetters_39] at h
    refine z_iload_n S 3 dX3_possibleLetters_39 rfl rfl ?_
    refine z_aload_n S 0 dX3_possibleLetters_40 rfl rfl ?_
    refine z_get S (C := RX3) (T := TX3) (N := 7) (ci := 3) 1 m1_X3_possibleLetters m2_X3_possibleLetters (Nat.le_of_ble_eq_true rfl) (cC_42 X z0) rfl (Nat.le_of_ble_eq_true rfl) rfl rfl dX3_possibleLetters_41 ?_
    refine z_get S (C := RX2) (T := TX2) (N := 4) (ci := 2) 3 m3_X3_possibleLetters m4_X3_possibleLetters (Nat.le_of_ble_eq_true rfl) (cC_36 X z0) rfl (Nat.le_of_ble_eq_true rfl) rfl rfl dX3_possibleLetters_44 ?_
    refine z_icmp_ge S (tgt := 74) dX3_possibleLetters_47 (by decide) h (fun h => ?_) (fun h => ?_)
    · refine z_iload_n S 2 dX3_possibleLetters_74 rfl rfl ?_
      exact z_iret_r S dX3_possibleLetters_75 h
    · refine z_aload_n S 0 dX3_possibleLetters_50 rfl rfl ?_
      refine z_iload_n S 3 dX3_possibleLetters_51 rfl rfl ?_
      refine z_iload_n S 1 dX3_possibleLetters_52 rfl rfl ?_
      obtain ⟨v_53, hv_53, h⟩ := ob_some h
      refine z_callV_r (As := [.int x3, .int x1]) S (c_X3_offeredLetters l D X _ _ _ S.2.2.1 hv_53) (cwV 2 S.1.2.2.2.2 gX3_possibleLetters_X3_offeredLetters rfl rfl rfl hd_X3_offeredLetters ⟨Nat.le_of_ble_eq_true rfl, Nat.le_of_ble_eq_true rfl⟩) (Nat.le_of_ble_eq_true rfl) (cC_42 X z0) rfl rfl rfl (Nat.le_of_ble_eq_true rfl) rfl dX3_possibleLetters_53 ?_
      refine z_istore S [(4, .int v_53), (0, .ref (X.1 42)), (1, .int x1), (2, .int x2), (3, .int x3)] dX3_possibleLetters_56 (Nat.le_of_ble_eq_true rfl) rfl ?_
      refine z_iload S 0 dX3_possibleLetters_58 rfl ?_
      refine z_if_eq S (tgt := 68) dX3_possibleLetters_60 (by decide) h (fun h => ?_) (fun h => ?_)
      · refine z_iinc S 4 [(3, .int (x3 + nI 1)), (4, .int v_53), (0, .ref (X.1 42)), (1, .int x1), (2, .int x2)] dX3_possibleLetters_68 rfl rfl (Nat.le_of_ble_eq_true rfl) rfl ?_
        refine z_goto S (tgt := 39) dX3_possibleLetters_71 (by decide) ?_
        exact z_lv [2, 3, 4, 0] rfl (ih _ _ _ h)
      · refine z_iload_n S 3 dX3_possibleLetters_63 rfl rfl ?_
        refine z_iload S 0 dX3_possibleLetters_64 rfl ?_
        refine z_iand S dX3_possibleLetters_66 ?_
        refine z_istore_n S [(2, .int (x2 &&& v_53)), (4, .int v_53), (0, .ref (X.1 42)), (1, .int x1), (3, .int x3)] dX3_possibleLetters_67 rfl (Nat.le_of_ble_eq_true rfl) rfl ?_
        refine z_iinc S 4 [(3, .int (x3 + nI 1)), (2, .int (x2 &&& v_53)), (4, .int v_53), (0, .ref (X.1 42)), (1, .int x1)] dX3_possibleLetters_68 rfl rfl (Nat.le_of_ble_eq_true rfl) rfl ?_
        refine z_goto S (tgt := 39) dX3_possibleLetters_71 (by decide) ?_
        exact z_lv [3, 4, 1, 0] rfl (ih _ _ _ h)
set_option maxHeartbeats 4000000 in
set_option maxRecDepth 100000 in
theorem tl_X3_possibleLetters_7 {l : Launch} {D : va_G} {X : zE} {p : Program} {e : Env} {s : State} {m : MethodId} {args : Array Value} {below : List Frame} {meth : Method} {c : Code} (S : zS p m meth c cX3_possibleLetters 5 (some .int) s args wsX3_possibleLetters RX3 D 44 X) {z0 : zV} {r : Int32} : ∀ (n_ : Nat), ∀ (x1 : Int32) (x2 : Int32) (x3 : Int32), l_X3_possibleLetters_7 z0 n_ x1 x2 x3 = some r → Zj false D 44 X p l e (zrm 5 114) s m args below meth c (MQ below (zQr (some (.int r))) args s 0 0 (fun _ => False)) 5 7 [(0, .ref (X.1 42)), (1, .int x1), (2, .int x2), (3, .int x3)] [] (zc shC X z0) := by
  intro n_
  induction n_ with
  | zero =>
    intro x1 x2 x3 h
    cases h
  | succ n_ ih =>
    intro x1 x2 x3 h
    rw [l_X3_possibleLetters_7] at h
    refine z_iload_n S 3 dX3_possibleLetters_7 rfl rfl ?_
    refine z_bipush (v := (nI 122)) S dX3_possibleLetters_8 (by decide) ?_
    refine z_icmp_gt S (tgt := 37) dX3_possibleLetters_10 (by decide) h (fun h => ?_) (fun h => ?_)
    · refine z_iconst (v := (nI 0)) S dX3_possibleLetters_37 (by decide) ?_
      refine z_istore_n S [(3, .int (nI 0)), (0, .ref (X.1 42)), (1, .int x1), (2, .int x2)] dX3_possibleLetters_38 rfl (Nat.le_of_ble_eq_true rfl) rfl ?_
      exact z_lv [1, 2, 3, 0] rfl (tl_X3_possibleLetters_39 S _ _ _ _ h)
    · refine z_aload_n S 0 dX3_possibleLetters_13 rfl rfl ?_
      refine z_iload_n S 3 dX3_possibleLetters_14 rfl rfl ?_
      refine z_iload_n S 1 dX3_possibleLetters_15 rfl rfl ?_
      obtain ⟨v_16, hv_16, h⟩ := ob_some h
      refine z_callV_r (As := [.int x3, .int x1]) S (c_X3_isGuessOfAnother l D X _ _ _ S.2.2.1 hv_16) (cwV 2 S.1.2.2.2.2 gX3_possibleLetters_X3_isGuessOfAnother rfl rfl rfl hd_X3_isGuessOfAnother ⟨Nat.le_of_ble_eq_true rfl, Nat.le_of_ble_eq_true rfl⟩) (Nat.le_of_ble_eq_true rfl) (cC_42 X z0) rfl rfl rfl (Nat.le_of_ble_eq_true rfl) rfl dX3_possibleLetters_16 ?_
      refine z_if_eq S (tgt := 31) dX3_possibleLetters_19 (by decide) h (fun h => ?_) (fun h => ?_)
      · refine z_iinc S 3 [(3, .int (x3 + nI 1)), (0, .ref (X.1 42)), (1, .int x1), (2, .int x2)] dX3_possibleLetters_31 rfl rfl (Nat.le_of_ble_eq_true rfl) rfl ?_
        refine z_goto S (tgt := 7) dX3_possibleLetters_34 (by decide) ?_
        exact z_lv [1, 2, 3, 0] rfl (ih _ _ _ h)
      · refine z_iload_n S 2 dX3_possibleLetters_22 rfl rfl ?_
        refine z_iload_n S 3 dX3_possibleLetters_23 rfl rfl ?_
        obtain ⟨v_24, hv_24, h⟩ := ob_some h
        refine z_callS_r (As := [.int x3]) S (c_X3_bitOf l D X _ _ S.2.2.1 hv_24) (va_cwS 1 S.1.2.2.2.2 gX3_possibleLetters_X3_bitOf rfl rfl rfl hd_X3_bitOf ⟨Nat.le_of_ble_eq_true rfl, Nat.le_of_ble_eq_true rfl⟩) rfl rfl (Nat.le_of_ble_eq_true rfl) rfl dX3_possibleLetters_24 ?_
        refine z_iconst (v := (-1)) S dX3_possibleLetters_27 (by decide) ?_
        refine z_ixor S dX3_possibleLetters_28 ?_
        refine z_iand S dX3_possibleLetters_29 ?_
        refine z_istore_n S [(2, .int (x2 &&& (v_24 ^^^ (-1)))), (0, .ref (X.1 42)), (1, .int x1), (3, .int x3)] dX3_possibleLetters_30 rfl (Nat.le_of_ble_eq_true rfl) rfl ?_
        refine z_iinc S 3 [(3, .int (x3 + nI 1)), (2, .int (x2 &&& (v_24 ^^^ (-1)))), (0, .ref (X.1 42)), (1, .int x1)] dX3_possibleLetters_31 rfl rfl (Nat.le_of_ble_eq_true rfl) rfl ?_
        refine z_goto S (tgt := 7) dX3_possibleLetters_34 (by decide) ?_
        exact z_lv [2, 3, 1, 0] rfl (ih _ _ _ h)
set_option maxHeartbeats 4000000 in
set_option maxRecDepth 100000 in
theorem c_X3_possibleLetters (l : Launch) (D : va_G) (X : zE) (z0 : zV) (a0 : Int32) (hinj : zw_inj 44 X.1) {r : Int32} (h : f_X3_possibleLetters z0 a0 = some r) : zMr l yX3_possibleLetters wsX3_possibleLetters (zrm 5 114) D 44 X (zc shC X z0) [.ref (X.1 42), .int a0] (some (.int r)) := by
  rw [f_X3_possibleLetters] at h
  refine z_start_r (cc := cX3_possibleLetters) (maxL := 5) (ret := (some .int)) (by decide) rfl (Nat.le_of_ble_eq_true rfl) hinj ?_
  intro p e s m below meth c S
  refine z_ldcw (v := (nI 67108863)) S m0_X3_possibleLetters dX3_possibleLetters_0 ?_
  refine z_istore_n S [(2, .int (nI 67108863)), (0, .ref (X.1 42)), (1, .int a0)] dX3_possibleLetters_3 rfl (Nat.le_of_ble_eq_true rfl) rfl ?_
  refine z_bipush (v := (nI 97)) S dX3_possibleLetters_4 (by decide) ?_
  refine z_istore_n S [(3, .int (nI 97)), (2, .int (nI 67108863)), (0, .ref (X.1 42)), (1, .int a0)] dX3_possibleLetters_6 rfl (Nat.le_of_ble_eq_true rfl) rfl ?_
  exact z_lv [2, 3, 1, 0] rfl (tl_X3_possibleLetters_7 S _ _ _ _ h)
/-! java/lang/Integer.bitCount: a walk -/
theorem hd_J6_bitCount_0f7a4 : yJ6_bitCount_0f7a4.cls ≠ "java/lang/invoke/MethodHandle" ∧ yJ6_bitCount_0f7a4.cls ≠ "java/lang/invoke/VarHandle" ∧ (parseMethodDescriptor yJ6_bitCount_0f7a4.desc).map (fun d => d.parameters.length) = some 1 := by decide +kernel
theorem m0_J6_bitCount_0f7a4 : Jvm.Cond.constant RJ6 265 1431655765 ∈ wsJ6_bitCount_0f7a4 := by decide +kernel
theorem m1_J6_bitCount_0f7a4 : Jvm.Cond.constant RJ6 266 858993459 ∈ wsJ6_bitCount_0f7a4 := by decide +kernel
theorem m2_J6_bitCount_0f7a4 : Jvm.Cond.constant RJ6 267 252645135 ∈ wsJ6_bitCount_0f7a4 := by decide +kernel
set_option maxHeartbeats 4000000 in
set_option maxRecDepth 100000 in
theorem c_J6_bitCount_0f7a4 (l : Launch) (D : va_G) (X : zE) (z0 : zV) (a0 : Int32) (hinj : zw_inj 44 X.1) {r : Int32} (h : f_J6_bitCount_0f7a4 z0 a0 = some r) : zMr l yJ6_bitCount_0f7a4 wsJ6_bitCount_0f7a4 (zrm 0 0) D 44 X (zc shC X z0) [.int a0] (some (.int r)) := by
  rw [f_J6_bitCount_0f7a4] at h
  refine z_start_r (cc := cJ6_bitCount_0f7a4) (maxL := 1) (ret := (some .int)) (by decide) rfl (Nat.le_of_ble_eq_true rfl) hinj ?_
  intro p e s m below meth c S
  refine z_iload_n S 0 dJ6_bitCount_0f7a4_0 rfl rfl ?_
  refine z_iload_n S 0 dJ6_bitCount_0f7a4_1 rfl rfl ?_
  refine z_iconst (v := (nI 1)) S dJ6_bitCount_0f7a4_2 (by decide) ?_
  refine z_iushr S dJ6_bitCount_0f7a4_3 ?_
  refine z_ldcw (v := (nI 1431655765)) S m0_J6_bitCount_0f7a4 dJ6_bitCount_0f7a4_4 ?_
  refine z_iand S dJ6_bitCount_0f7a4_7 ?_
  refine z_isub S dJ6_bitCount_0f7a4_8 ?_
  refine z_istore_n S [(0, .int (a0 - (((Int32.toUInt32 a0 >>> (Int32.toUInt32 (nI 1) &&& Int32.toUInt32 31)).toInt32) &&& (nI 1431655765))))] dJ6_bitCount_0f7a4_9 rfl (Nat.le_of_ble_eq_true rfl) rfl ?_
  refine z_iload_n S 0 dJ6_bitCount_0f7a4_10 rfl rfl ?_
  refine z_ldcw (v := (nI 858993459)) S m1_J6_bitCount_0f7a4 dJ6_bitCount_0f7a4_11 ?_
  refine z_iand S dJ6_bitCount_0f7a4_14 ?_
  refine z_iload_n S 0 dJ6_bitCount_0f7a4_15 rfl rfl ?_
  refine z_iconst (v := (nI 2)) S dJ6_bitCount_0f7a4_16 (by decide) ?_
  refine z_iushr S dJ6_bitCount_0f7a4_17 ?_
  refine z_ldcw (v := (nI 858993459)) S m1_J6_bitCount_0f7a4 dJ6_bitCount_0f7a4_18 ?_
  refine z_iand S dJ6_bitCount_0f7a4_21 ?_
  refine z_iadd S dJ6_bitCount_0f7a4_22 ?_
  refine z_istore_n S [(0, .int (((a0 - (((Int32.toUInt32 a0 >>> (Int32.toUInt32 (nI 1) &&& Int32.toUInt32 31)).toInt32) &&& (nI 1431655765))) &&& (nI 858993459)) + (((Int32.toUInt32 (a0 - (((Int32.toUInt32 a0 >>> (Int32.toUInt32 (nI 1) &&& Int32.toUInt32 31)).toInt32) &&& (nI 1431655765))) >>> (Int32.toUInt32 (nI 2) &&& Int32.toUInt32 31)).toInt32) &&& (nI 858993459))))] dJ6_bitCount_0f7a4_23 rfl (Nat.le_of_ble_eq_true rfl) rfl ?_
  refine z_iload_n S 0 dJ6_bitCount_0f7a4_24 rfl rfl ?_
  refine z_iload_n S 0 dJ6_bitCount_0f7a4_25 rfl rfl ?_
  refine z_iconst (v := (nI 4)) S dJ6_bitCount_0f7a4_26 (by decide) ?_
  refine z_iushr S dJ6_bitCount_0f7a4_27 ?_
  refine z_iadd S dJ6_bitCount_0f7a4_28 ?_
  refine z_ldcw (v := (nI 252645135)) S m2_J6_bitCount_0f7a4 dJ6_bitCount_0f7a4_29 ?_
  refine z_iand S dJ6_bitCount_0f7a4_32 ?_
  refine z_istore_n S [(0, .int (((((a0 - (((Int32.toUInt32 a0 >>> (Int32.toUInt32 (nI 1) &&& Int32.toUInt32 31)).toInt32) &&& (nI 1431655765))) &&& (nI 858993459)) + (((Int32.toUInt32 (a0 - (((Int32.toUInt32 a0 >>> (Int32.toUInt32 (nI 1) &&& Int32.toUInt32 31)).toInt32) &&& (nI 1431655765))) >>> (Int32.toUInt32 (nI 2) &&& Int32.toUInt32 31)).toInt32) &&& (nI 858993459))) + ((Int32.toUInt32 (((a0 - (((Int32.toUInt32 a0 >>> (Int32.toUInt32 (nI 1) &&& Int32.toUInt32 31)).toInt32) &&& (nI 1431655765))) &&& (nI 858993459)) + (((Int32.toUInt32 (a0 - (((Int32.toUInt32 a0 >>> (Int32.toUInt32 (nI 1) &&& Int32.toUInt32 31)).toInt32) &&& (nI 1431655765))) >>> (Int32.toUInt32 (nI 2) &&& Int32.toUInt32 31)).toInt32) &&& (nI 858993459))) >>> (Int32.toUInt32 (nI 4) &&& Int32.toUInt32 31)).toInt32)) &&& (nI 252645135)))] dJ6_bitCount_0f7a4_33 rfl (Nat.le_of_ble_eq_true rfl) rfl ?_
  refine z_iload_n S 0 dJ6_bitCount_0f7a4_34 rfl rfl ?_
  refine z_iload_n S 0 dJ6_bitCount_0f7a4_35 rfl rfl ?_
  refine z_bipush (v := (nI 8)) S dJ6_bitCount_0f7a4_36 (by decide) ?_
  refine z_iushr S dJ6_bitCount_0f7a4_38 ?_
  refine z_iadd S dJ6_bitCount_0f7a4_39 ?_
  refine z_istore_n S [(0, .int ((((((a0 - (((Int32.toUInt32 a0 >>> (Int32.toUInt32 (nI 1) &&& Int32.toUInt32 31)).toInt32) &&& (nI 1431655765))) &&& (nI 858993459)) + (((Int32.toUInt32 (a0 - (((Int32.toUInt32 a0 >>> (Int32.toUInt32 (nI 1) &&& Int32.toUInt32 31)).toInt32) &&& (nI 1431655765))) >>> (Int32.toUInt32 (nI 2) &&& Int32.toUInt32 31)).toInt32) &&& (nI 858993459))) + ((Int32.toUInt32 (((a0 - (((Int32.toUInt32 a0 >>> (Int32.toUInt32 (nI 1) &&& Int32.toUInt32 31)).toInt32) &&& (nI 1431655765))) &&& (nI 858993459)) + (((Int32.toUInt32 (a0 - (((Int32.toUInt32 a0 >>> (Int32.toUInt32 (nI 1) &&& Int32.toUInt32 31)).toInt32) &&& (nI 1431655765))) >>> (Int32.toUInt32 (nI 2) &&& Int32.toUInt32 31)).toInt32) &&& (nI 858993459))) >>> (Int32.toUInt32 (nI 4) &&& Int32.toUInt32 31)).toInt32)) &&& (nI 252645135)) + ((Int32.toUInt32 (((((a0 - (((Int32.toUInt32 a0 >>> (Int32.toUInt32 (nI 1) &&& Int32.toUInt32 31)).toInt32) &&& (nI 1431655765))) &&& (nI 858993459)) + (((Int32.toUInt32 (a0 - (((Int32.toUInt32 a0 >>> (Int32.toUInt32 (nI 1) &&& Int32.toUInt32 31)).toInt32) &&& (nI 1431655765))) >>> (Int32.toUInt32 (nI 2) &&& Int32.toUInt32 31)).toInt32) &&& (nI 858993459))) + ((Int32.toUInt32 (((a0 - (((Int32.toUInt32 a0 >>> (Int32.toUInt32 (nI 1) &&& Int32.toUInt32 31)).toInt32) &&& (nI 1431655765))) &&& (nI 858993459)) + (((Int32.toUInt32 (a0 - (((Int32.toUInt32 a0 >>> (Int32.toUInt32 (nI 1) &&& Int32.toUInt32 31)).toInt32) &&& (nI 1431655765))) >>> (Int32.toUInt32 (nI 2) &&& Int32.toUInt32 31)).toInt32) &&& (nI 858993459))) >>> (Int32.toUInt32 (nI 4) &&& Int32.toUInt32 31)).toInt32)) &&& (nI 252645135)) >>> (Int32.toUInt32 (nI 8) &&& Int32.toUInt32 31)).toInt32)))] dJ6_bitCount_0f7a4_40 rfl (Nat.le_of_ble_eq_true rfl) rfl ?_
  refine z_iload_n S 0 dJ6_bitCount_0f7a4_41 rfl rfl ?_
  refine z_iload_n S 0 dJ6_bitCount_0f7a4_42 rfl rfl ?_
  refine z_bipush (v := (nI 16)) S dJ6_bitCount_0f7a4_43 (by decide) ?_
  refine z_iushr S dJ6_bitCount_0f7a4_45 ?_
  refine z_iadd S dJ6_bitCount_0f7a4_46 ?_
  refine z_istore_n S [(0, .int (((((((a0 - (((Int32.toUInt32 a0 >>> (Int32.toUInt32 (nI 1) &&& Int32.toUInt32 31)).toInt32) &&& (nI 1431655765))) &&& (nI 858993459)) + (((Int32.toUInt32 (a0 - (((Int32.toUInt32 a0 >>> (Int32.toUInt32 (nI 1) &&& Int32.toUInt32 31)).toInt32) &&& (nI 1431655765))) >>> (Int32.toUInt32 (nI 2) &&& Int32.toUInt32 31)).toInt32) &&& (nI 858993459))) + ((Int32.toUInt32 (((a0 - (((Int32.toUInt32 a0 >>> (Int32.toUInt32 (nI 1) &&& Int32.toUInt32 31)).toInt32) &&& (nI 1431655765))) &&& (nI 858993459)) + (((Int32.toUInt32 (a0 - (((Int32.toUInt32 a0 >>> (Int32.toUInt32 (nI 1) &&& Int32.toUInt32 31)).toInt32) &&& (nI 1431655765))) >>> (Int32.toUInt32 (nI 2) &&& Int32.toUInt32 31)).toInt32) &&& (nI 858993459))) >>> (Int32.toUInt32 (nI 4) &&& Int32.toUInt32 31)).toInt32)) &&& (nI 252645135)) + ((Int32.toUInt32 (((((a0 - (((Int32.toUInt32 a0 >>> (Int32.toUInt32 (nI 1) &&& Int32.toUInt32 31)).toInt32) &&& (nI 1431655765))) &&& (nI 858993459)) + (((Int32.toUInt32 (a0 - (((Int32.toUInt32 a0 >>> (Int32.toUInt32 (nI 1) &&& Int32.toUInt32 31)).toInt32) &&& (nI 1431655765))) >>> (Int32.toUInt32 (nI 2) &&& Int32.toUInt32 31)).toInt32) &&& (nI 858993459))) + ((Int32.toUInt32 (((a0 - (((Int32.toUInt32 a0 >>> (Int32.toUInt32 (nI 1) &&& Int32.toUInt32 31)).toInt32) &&& (nI 1431655765))) &&& (nI 858993459)) + (((Int32.toUInt32 (a0 - (((Int32.toUInt32 a0 >>> (Int32.toUInt32 (nI 1) &&& Int32.toUInt32 31)).toInt32) &&& (nI 1431655765))) >>> (Int32.toUInt32 (nI 2) &&& Int32.toUInt32 31)).toInt32) &&& (nI 858993459))) >>> (Int32.toUInt32 (nI 4) &&& Int32.toUInt32 31)).toInt32)) &&& (nI 252645135)) >>> (Int32.toUInt32 (nI 8) &&& Int32.toUInt32 31)).toInt32)) + ((Int32.toUInt32 ((((((a0 - (((Int32.toUInt32 a0 >>> (Int32.toUInt32 (nI 1) &&& Int32.toUInt32 31)).toInt32) &&& (nI 1431655765))) &&& (nI 858993459)) + (((Int32.toUInt32 (a0 - (((Int32.toUInt32 a0 >>> (Int32.toUInt32 (nI 1) &&& Int32.toUInt32 31)).toInt32) &&& (nI 1431655765))) >>> (Int32.toUInt32 (nI 2) &&& Int32.toUInt32 31)).toInt32) &&& (nI 858993459))) + ((Int32.toUInt32 (((a0 - (((Int32.toUInt32 a0 >>> (Int32.toUInt32 (nI 1) &&& Int32.toUInt32 31)).toInt32) &&& (nI 1431655765))) &&& (nI 858993459)) + (((Int32.toUInt32 (a0 - (((Int32.toUInt32 a0 >>> (Int32.toUInt32 (nI 1) &&& Int32.toUInt32 31)).toInt32) &&& (nI 1431655765))) >>> (Int32.toUInt32 (nI 2) &&& Int32.toUInt32 31)).toInt32) &&& (nI 858993459))) >>> (Int32.toUInt32 (nI 4) &&& Int32.toUInt32 31)).toInt32)) &&& (nI 252645135)) + ((Int32.toUInt32 (((((a0 - (((Int32.toUInt32 a0 >>> (Int32.toUInt32 (nI 1) &&& Int32.toUInt32 31)).toInt32) &&& (nI 1431655765))) &&& (nI 858993459)) + (((Int32.toUInt32 (a0 - (((Int32.toUInt32 a0 >>> (Int32.toUInt32 (nI 1) &&& Int32.toUInt32 31)).toInt32) &&& (nI 1431655765))) >>> (Int32.toUInt32 (nI 2) &&& Int32.toUInt32 31)).toInt32) &&& (nI 858993459))) + ((Int32.toUInt32 (((a0 - (((Int32.toUInt32 a0 >>> (Int32.toUInt32 (nI 1) &&& Int32.toUInt32 31)).toInt32) &&& (nI 1431655765))) &&& (nI 858993459)) + (((Int32.toUInt32 (a0 - (((Int32.toUInt32 a0 >>> (Int32.toUInt32 (nI 1) &&& Int32.toUInt32 31)).toInt32) &&& (nI 1431655765))) >>> (Int32.toUInt32 (nI 2) &&& Int32.toUInt32 31)).toInt32) &&& (nI 858993459))) >>> (Int32.toUInt32 (nI 4) &&& Int32.toUInt32 31)).toInt32)) &&& (nI 252645135)) >>> (Int32.toUInt32 (nI 8) &&& Int32.toUInt32 31)).toInt32)) >>> (Int32.toUInt32 (nI 16) &&& Int32.toUInt32 31)).toInt32)))] dJ6_bitCount_0f7a4_47 rfl (Nat.le_of_ble_eq_true rfl) rfl ?_
  refine z_iload_n S 0 dJ6_bitCount_0f7a4_48 rfl rfl ?_
  refine z_bipush (v := (nI 63)) S dJ6_bitCount_0f7a4_49 (by decide) ?_
  refine z_iand S dJ6_bitCount_0f7a4_51 ?_
  exact z_iret_r S dJ6_bitCount_0f7a4_52 h
/-! SoldLetters.lowestLetter: a walk -/
theorem hd_X3_lowestLetter : yX3_lowestLetter.cls ≠ "java/lang/invoke/MethodHandle" ∧ yX3_lowestLetter.cls ≠ "java/lang/invoke/VarHandle" ∧ (parseMethodDescriptor yX3_lowestLetter.desc).map (fun d => d.parameters.length) = some 1 := by decide +kernel
set_option maxHeartbeats 4000000 in
set_option maxRecDepth 100000 in
theorem tl_X3_lowestLetter_3 {l : Launch} {D : va_G} {X : zE} {p : Program} {e : Env} {s : State} {m : MethodId} {args : Array Value} {below : List Frame} {meth : Method} {c : Code} (S : zS p m meth c cX3_lowestLetter 2 (some .int) s args wsX3_lowestLetter RX3 D 44 X) {z0 : zV} {r : Int32} : ∀ (n_ : Nat), ∀ (x0 : Int32) (x1 : Int32), l_X3_lowestLetter_3 z0 n_ x0 x1 = some r → Zj false D 44 X p l e (zrm 1 20) s m args below meth c (MQ below (zQr (some (.int r))) args s 0 0 (fun _ => False)) 2 3 [(0, .int x0), (1, .int x1)] [] (zc shC X z0) := by
  intro n_
  induction n_ with
  | zero =>
    intro x0 x1 h
    cases h
  | succ n_ ih =>
    intro x0 x1 h
    rw [l_X3_lowestLetter_3] at h
    refine z_iload_n S 1 dX3_lowestLetter_3 rfl rfl ?_
    refine z_bipush (v := (nI 122)) S dX3_lowestLetter_4 (by decide) ?_
    refine z_icmp_gt S (tgt := 26) dX3_lowestLetter_6 (by decide) h (fun h => ?_) (fun h => ?_)
    · refine z_bipush (v := (-5)) S dX3_lowestLetter_26 (by decide) ?_
      exact z_iret_r S dX3_lowestLetter_28 h
    · refine z_iload_n S 0 dX3_lowestLetter_9 rfl rfl ?_
      refine z_iload_n S 1 dX3_lowestLetter_10 rfl rfl ?_
      obtain ⟨v_11, hv_11, h⟩ := ob_some h
      refine z_callS_r (As := [.int x1]) S (c_X3_bitOf l D X _ _ S.2.2.1 hv_11) (va_cwS 1 S.1.2.2.2.2 gX3_lowestLetter_X3_bitOf rfl rfl rfl hd_X3_bitOf ⟨Nat.le_of_ble_eq_true rfl, Nat.le_of_ble_eq_true rfl⟩) rfl rfl (Nat.le_of_ble_eq_true rfl) rfl dX3_lowestLetter_11 ?_
      refine z_iand S dX3_lowestLetter_14 ?_
      refine z_if_eq S (tgt := 20) dX3_lowestLetter_15 (by decide) h (fun h => ?_) (fun h => ?_)
      · refine z_iinc S 1 [(1, .int (x1 + nI 1)), (0, .int x0)] dX3_lowestLetter_20 rfl rfl (Nat.le_of_ble_eq_true rfl) rfl ?_
        refine z_goto S (tgt := 3) dX3_lowestLetter_23 (by decide) ?_
        exact z_lv [1, 0] rfl (ih _ _ h)
      · refine z_iload_n S 1 dX3_lowestLetter_18 rfl rfl ?_
        exact z_iret_r S dX3_lowestLetter_19 h
set_option maxHeartbeats 4000000 in
set_option maxRecDepth 100000 in
theorem c_X3_lowestLetter (l : Launch) (D : va_G) (X : zE) (z0 : zV) (a0 : Int32) (hinj : zw_inj 44 X.1) {r : Int32} (h : f_X3_lowestLetter z0 a0 = some r) : zMr l yX3_lowestLetter wsX3_lowestLetter (zrm 1 20) D 44 X (zc shC X z0) [.int a0] (some (.int r)) := by
  rw [f_X3_lowestLetter] at h
  refine z_start_r (cc := cX3_lowestLetter) (maxL := 2) (ret := (some .int)) (by decide) rfl (Nat.le_of_ble_eq_true rfl) hinj ?_
  intro p e s m below meth c S
  refine z_bipush (v := (nI 97)) S dX3_lowestLetter_0 (by decide) ?_
  refine z_istore_n S [(1, .int (nI 97)), (0, .int a0)] dX3_lowestLetter_2 rfl (Nat.le_of_ble_eq_true rfl) rfl ?_
  exact z_lv [1, 0] rfl (tl_X3_lowestLetter_3 S _ _ _ h)
/-! SoldLetters.could: a walk -/
theorem hd_X3_could : yX3_could.cls = RX3 ∧ yX3_could.cls ≠ "java/lang/invoke/MethodHandle" ∧ yX3_could.cls ≠ "java/lang/invoke/VarHandle" ∧ (parseMethodDescriptor yX3_could.desc).map (fun d => d.parameters.length) = some 2 := by decide +kernel
theorem m0_X3_could : Cond.fieldLink RX3 12 RX3 (TX3 0).2.1 (TX3 0).2.2.1 ∈ wsX3_could := by decide +kernel
theorem m1_X3_could : ∀ w ∈ u_ws RX3 TX3 7, w ∈ wsX3_could := by decide +kernel
theorem m2_X3_could : Cond.fieldLink RX3 121 RX0 (TX0 1).2.1 (TX0 1).2.2.1 ∈ wsX3_could := by decide +kernel
theorem m3_X3_could : ∀ w ∈ u_ws RX0 TX0 11, w ∈ wsX3_could := by decide +kernel
set_option maxHeartbeats 4000000 in
set_option maxRecDepth 100000 in
theorem c_X3_could (l : Launch) (D : va_G) (X : zE) (z0 : zV) (a0 : Int32) (a1 : Int32) (hinj : zw_inj 44 X.1) {r : Int32} (h : f_X3_could z0 a0 a1 = some r) : zMr l yX3_could wsX3_could (zrm 6 138) D 44 X (zc shC X z0) [.ref (X.1 42), .int a0, .int a1] (some (.int r)) := by
  rw [f_X3_could] at h
  refine z_start_r (cc := cX3_could) (maxL := 4) (ret := (some .int)) (by decide) rfl (Nat.le_of_ble_eq_true rfl) hinj ?_
  intro p e s m below meth c S
  refine z_iload_n S 1 dX3_could_0 rfl rfl ?_
  obtain ⟨v_1, hv_1, h⟩ := ob_some h
  refine z_callS_r (As := [.int a0]) S (c_X3_isNumber l D X _ _ S.2.2.1 hv_1) (va_cwS 1 S.1.2.2.2.2 gX3_could_X3_isNumber rfl rfl rfl hd_X3_isNumber ⟨Nat.le_of_ble_eq_true rfl, Nat.le_of_ble_eq_true rfl⟩) rfl rfl (Nat.le_of_ble_eq_true rfl) rfl dX3_could_1 ?_
  refine z_if_ne S (tgt := 9) dX3_could_4 (by decide) h (fun h => ?_) (fun h => ?_)
  · refine z_iload_n S 2 dX3_could_9 rfl rfl ?_
    refine z_if_lt S (tgt := 18) dX3_could_10 (by decide) h (fun h => ?_) (fun h => ?_)
    · refine z_bipush (v := (-2)) S dX3_could_18 (by decide) ?_
      exact z_iret_r S dX3_could_20 h
    · refine z_iload_n S 2 dX3_could_13 rfl rfl ?_
      refine z_iconst (v := (nI 1)) S dX3_could_14 (by decide) ?_
      refine z_icmp_le S (tgt := 21) dX3_could_15 (by decide) h (fun h => ?_) (fun h => ?_)
      · refine z_aload_n S 0 dX3_could_21 rfl rfl ?_
        refine z_get S (C := RX3) (T := TX3) (N := 7) (ci := 3) 0 m0_X3_could m1_X3_could (Nat.le_of_ble_eq_true rfl) (cC_42 X z0) rfl (Nat.le_of_ble_eq_true rfl) rfl rfl dX3_could_22 ?_
        refine z_get S (C := RX0) (T := TX0) (N := 11) (ci := 0) 1 m2_X3_could m3_X3_could (Nat.le_of_ble_eq_true rfl) (cC_0 X z0) rfl (Nat.le_of_ble_eq_true rfl) rfl rfl dX3_could_25 ?_
        refine z_iload_n S 1 dX3_could_28 rfl rfl ?_
        refine z_iald S (Nat.le_of_ble_eq_true rfl) (cC_2 X z0) dX3_could_29 h (fun v_29 h => ?_)
        refine z_if_ne S (tgt := 44) dX3_could_30 (by decide) h (fun h => ?_) (fun h => ?_)
        · refine z_bipush (v := (-5)) S dX3_could_44 (by decide) ?_
          exact z_iret_r S dX3_could_46 h
        · refine z_aload_n S 0 dX3_could_33 rfl rfl ?_
          refine z_get S (C := RX3) (T := TX3) (N := 7) (ci := 3) 0 m0_X3_could m1_X3_could (Nat.le_of_ble_eq_true rfl) (cC_42 X z0) rfl (Nat.le_of_ble_eq_true rfl) rfl rfl dX3_could_34 ?_
          refine z_iload_n S 1 dX3_could_37 rfl rfl ?_
          obtain ⟨v_38, hv_38, h⟩ := ob_some h
          refine z_callV_r (As := [.int a0]) S (c_X0_cellsWith l D X _ _ S.2.2.1 hv_38) (cwV 1 S.1.2.2.2.2 gX3_could_X0_cellsWith rfl rfl rfl hd_X0_cellsWith ⟨Nat.le_of_ble_eq_true rfl, Nat.le_of_ble_eq_true rfl⟩) (Nat.le_of_ble_eq_true rfl) (cC_0 X z0) rfl rfl rfl (Nat.le_of_ble_eq_true rfl) rfl dX3_could_38 ?_
          refine z_if_ne S (tgt := 47) dX3_could_41 (by decide) h (fun h => ?_) (fun h => ?_)
          · refine z_aload_n S 0 dX3_could_47 rfl rfl ?_
            refine z_iload_n S 1 dX3_could_48 rfl rfl ?_
            obtain ⟨v_49, hv_49, h⟩ := ob_some h
            refine z_callV_r (As := [.int a0]) S (c_X3_possibleLetters l D X _ _ S.2.2.1 hv_49) (cwV 1 S.1.2.2.2.2 gX3_could_X3_possibleLetters rfl rfl rfl hd_X3_possibleLetters ⟨Nat.le_of_ble_eq_true rfl, Nat.le_of_ble_eq_true rfl⟩) (Nat.le_of_ble_eq_true rfl) (cC_42 X z0) rfl rfl rfl (Nat.le_of_ble_eq_true rfl) rfl dX3_could_49 ?_
            refine z_istore_n S [(3, .int v_49), (0, .ref (X.1 42)), (1, .int a0), (2, .int a1)] dX3_could_52 rfl (Nat.le_of_ble_eq_true rfl) rfl ?_
            refine z_iload_n S 3 dX3_could_53 rfl rfl ?_
            refine z_if_ne S (tgt := 64) dX3_could_54 (by decide) h (fun h => ?_) (fun h => ?_)
            · refine z_iload_n S 0 dX3_could_64 rfl rfl ?_
              obtain ⟨v_65, hv_65, h⟩ := ob_some h
              refine z_callS_r (As := [.int v_49]) S (c_X3_lowestLetter l D X _ _ S.2.2.1 hv_65) (va_cwS 1 S.1.2.2.2.2 gX3_could_X3_lowestLetter rfl rfl rfl hd_X3_lowestLetter ⟨Nat.le_of_ble_eq_true rfl, Nat.le_of_ble_eq_true rfl⟩) rfl rfl (Nat.le_of_ble_eq_true rfl) rfl dX3_could_65 ?_
              exact z_iret_r S dX3_could_68 h
            · refine z_iload_n S 0 dX3_could_57 rfl rfl ?_
              obtain ⟨v_58, hv_58, h⟩ := ob_some h
              refine z_callS_r (As := [.int v_49]) S (c_J6_bitCount_0f7a4 l D X _ _ S.2.2.1 hv_58) (va_cwS 1 S.1.2.2.2.2 gX3_could_J6_bitCount_0f7a4 rfl rfl rfl hd_J6_bitCount_0f7a4 ⟨Nat.le_of_ble_eq_true rfl, Nat.le_of_ble_eq_true rfl⟩) rfl rfl (Nat.le_of_ble_eq_true rfl) rfl dX3_could_58 ?_
              refine z_goto S (tgt := 68) dX3_could_61 (by decide) ?_
              exact z_iret_r S dX3_could_68 h
          · refine z_bipush (v := (-5)) S dX3_could_44 (by decide) ?_
            exact z_iret_r S dX3_could_46 h
      · refine z_bipush (v := (-2)) S dX3_could_18 (by decide) ?_
        exact z_iret_r S dX3_could_20 h
  · refine z_iconst (v := (-1)) S dX3_could_7 (by decide) ?_
    exact z_iret_r S dX3_could_8 h
/-! SoldLetters$State.cellsWithLetters: a walk -/
theorem hd_X0_cellsWithLetters : yX0_cellsWithLetters.cls = RX0 ∧ yX0_cellsWithLetters.cls ≠ "java/lang/invoke/MethodHandle" ∧ yX0_cellsWithLetters.cls ≠ "java/lang/invoke/VarHandle" ∧ (parseMethodDescriptor yX0_cellsWithLetters.desc).map (fun d => d.parameters.length) = some 0 := by decide +kernel
set_option maxHeartbeats 4000000 in
set_option maxRecDepth 100000 in
theorem c_X0_cellsWithLetters (l : Launch) (D : va_G) (X : zE) (z0 : zV) (hinj : zw_inj 44 X.1) {r : Int32} (h : f_X0_cellsWithLetters z0 = some r) : zMr l yX0_cellsWithLetters wsX0_cellsWithLetters (zrm 3 65) D 44 X (zc shC X z0) [.ref (X.1 0)] (some (.int r)) := by
  rw [f_X0_cellsWithLetters] at h
  refine z_start_r (cc := cX0_cellsWithLetters) (maxL := 1) (ret := (some .int)) (by decide) rfl (Nat.le_of_ble_eq_true rfl) hinj ?_
  intro p e s m below meth c S
  refine z_bipush (v := (nI 49)) S dX0_cellsWithLetters_0 (by decide) ?_
  refine z_aload_n S 0 dX0_cellsWithLetters_2 rfl rfl ?_
  refine z_iconst (v := (nI 0)) S dX0_cellsWithLetters_3 (by decide) ?_
  obtain ⟨v_4, hv_4, h⟩ := ob_some h
  refine z_callV_r (As := [.int (nI 0)]) S (c_X0_cellsWith l D X _ _ S.2.2.1 hv_4) (cwV 1 S.1.2.2.2.2 gX0_cellsWithLetters_X0_cellsWith rfl rfl rfl hd_X0_cellsWith ⟨Nat.le_of_ble_eq_true rfl, Nat.le_of_ble_eq_true rfl⟩) (Nat.le_of_ble_eq_true rfl) (cC_0 X z0) rfl rfl rfl (Nat.le_of_ble_eq_true rfl) rfl dX0_cellsWithLetters_4 ?_
  refine z_isub S dX0_cellsWithLetters_7 ?_
  exact z_iret_r S dX0_cellsWithLetters_8 h
/-! SoldLetters$State.numbersInGrid: a walk -/
theorem hd_X0_numbersInGrid : yX0_numbersInGrid.cls = RX0 ∧ yX0_numbersInGrid.cls ≠ "java/lang/invoke/MethodHandle" ∧ yX0_numbersInGrid.cls ≠ "java/lang/invoke/VarHandle" ∧ (parseMethodDescriptor yX0_numbersInGrid.desc).map (fun d => d.parameters.length) = some 0 := by decide +kernel
set_option maxHeartbeats 4000000 in
set_option maxRecDepth 100000 in
theorem tl_X0_numbersInGrid_4 {l : Launch} {D : va_G} {X : zE} {p : Program} {e : Env} {s : State} {m : MethodId} {args : Array Value} {below : List Frame} {meth : Method} {c : Code} (S : zS p m meth c cX0_numbersInGrid 3 (some .int) s args wsX0_numbersInGrid RX0 D 44 X) {z0 : zV} {r : Int32} : ∀ (n_ : Nat), ∀ (x1 : Int32) (x2 : Int32), l_X0_numbersInGrid_4 z0 n_ x1 x2 = some r → Zj false D 44 X p l e (zrm 3 65) s m args below meth c (MQ below (zQr (some (.int r))) args s 0 0 (fun _ => False)) 3 4 [(0, .ref (X.1 0)), (1, .int x1), (2, .int x2)] [] (zc shC X z0) := by
  intro n_
  induction n_ with
  | zero =>
    intro x1 x2 h
    cases h
  | succ n_ ih =>
    intro x1 x2 h
    rw [l_X0_numbersInGrid_4] at h
    refine z_iload_n S 2 dX0_numbersInGrid_4 rfl rfl ?_
    refine z_bipush (v := (nI 26)) S dX0_numbersInGrid_5 (by decide) ?_
    refine z_icmp_gt S (tgt := 27) dX0_numbersInGrid_7 (by decide) h (fun h => ?_) (fun h => ?_)
    · refine z_iload_n S 1 dX0_numbersInGrid_27 rfl rfl ?_
      exact z_iret_r S dX0_numbersInGrid_28 h
    · refine z_aload_n S 0 dX0_numbersInGrid_10 rfl rfl ?_
      refine z_iload_n S 2 dX0_numbersInGrid_11 rfl rfl ?_
      obtain ⟨v_12, hv_12, h⟩ := ob_some h
      refine z_callV_r (As := [.int x2]) S (c_X0_cellsWith l D X _ _ S.2.2.1 hv_12) (cwV 1 S.1.2.2.2.2 gX0_numbersInGrid_X0_cellsWith rfl rfl rfl hd_X0_cellsWith ⟨Nat.le_of_ble_eq_true rfl, Nat.le_of_ble_eq_true rfl⟩) (Nat.le_of_ble_eq_true rfl) (cC_0 X z0) rfl rfl rfl (Nat.le_of_ble_eq_true rfl) rfl dX0_numbersInGrid_12 ?_
      refine z_if_le S (tgt := 21) dX0_numbersInGrid_15 (by decide) h (fun h => ?_) (fun h => ?_)
      · refine z_iinc S 2 [(2, .int (x2 + nI 1)), (0, .ref (X.1 0)), (1, .int x1)] dX0_numbersInGrid_21 rfl rfl (Nat.le_of_ble_eq_true rfl) rfl ?_
        refine z_goto S (tgt := 4) dX0_numbersInGrid_24 (by decide) ?_
        exact z_lv [1, 2, 0] rfl (ih _ _ h)
      · refine z_iinc S 1 [(1, .int (x1 + nI 1)), (0, .ref (X.1 0)), (2, .int x2)] dX0_numbersInGrid_18 rfl rfl (Nat.le_of_ble_eq_true rfl) rfl ?_
        refine z_iinc S 2 [(2, .int (x2 + nI 1)), (1, .int (x1 + nI 1)), (0, .ref (X.1 0))] dX0_numbersInGrid_21 rfl rfl (Nat.le_of_ble_eq_true rfl) rfl ?_
        refine z_goto S (tgt := 4) dX0_numbersInGrid_24 (by decide) ?_
        exact z_lv [2, 1, 0] rfl (ih _ _ h)
set_option maxHeartbeats 4000000 in
set_option maxRecDepth 100000 in
theorem c_X0_numbersInGrid (l : Launch) (D : va_G) (X : zE) (z0 : zV) (hinj : zw_inj 44 X.1) {r : Int32} (h : f_X0_numbersInGrid z0 = some r) : zMr l yX0_numbersInGrid wsX0_numbersInGrid (zrm 3 65) D 44 X (zc shC X z0) [.ref (X.1 0)] (some (.int r)) := by
  rw [f_X0_numbersInGrid] at h
  refine z_start_r (cc := cX0_numbersInGrid) (maxL := 3) (ret := (some .int)) (by decide) rfl (Nat.le_of_ble_eq_true rfl) hinj ?_
  intro p e s m below meth c S
  refine z_iconst (v := (nI 0)) S dX0_numbersInGrid_0 (by decide) ?_
  refine z_istore_n S [(1, .int (nI 0)), (0, .ref (X.1 0))] dX0_numbersInGrid_1 rfl (Nat.le_of_ble_eq_true rfl) rfl ?_
  refine z_iconst (v := (nI 1)) S dX0_numbersInGrid_2 (by decide) ?_
  refine z_istore_n S [(2, .int (nI 1)), (1, .int (nI 0)), (0, .ref (X.1 0))] dX0_numbersInGrid_3 rfl (Nat.le_of_ble_eq_true rfl) rfl ?_
  exact z_lv [2, 1, 0] rfl (tl_X0_numbersInGrid_4 S _ _ _ h)
