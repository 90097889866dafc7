/-! CONSTRUCTORS (6): SoldLettersModel (made by tools/ctors2.py) -/
def mdNew : List Value := [.null, .null, .null, .int 0, .null, .int 0, .null, .null, .null, .int 0, .null, .int 0]
def mdZ (g : Nat → Int32) : zV := (fun _ _ => nI 0, fun q => if q = 1 then g else fun _ => nI 0, fun _ => 0)
def mdL (h0 q1 q2 q3 q4 q5 q6 q7 q8 : Nat) (c : ClassId) (g : Nat → Int32) : va_W := [(h0, .inr (4, [.ref q1, .ref q2, .ref q3, .int 0, .ref q4, .int 0, .ref q5, .ref q6, .ref q7, .int 0, .ref q8, .int 0])), (q1, .inl (c, 205, .inl g)), (q2, .inl (c, 205, .inl (fun _ => 0))), (q3, .inl (c, 820, .inl (fun _ => 0))), (q4, .inl (c, 205, .inl (fun _ => 0))), (q5, .inl (c, 42, .inl (fun _ => 0))), (q6, .inl (c, 42, .inl (fun _ => 0))), (q7, .inl (c, 42, .inl (fun _ => 0))), (q8, .inl (c, 60, .inl (fun _ => 0)))]
theorem mdL_zw {h0 q1 q2 q3 q4 q5 q6 q7 q8 : Nat} {X : ClassId × ClassId × ClassId} {g : Nat → Int32} : mdL h0 q1 q2 q3 q4 q5 q6 q7 q8 X.1 g = zw_ws 9 (caAd [h0, q1, q2, q3, q4, q5, q6, q7, q8]) (zc shM (caAd [h0, q1, q2, q3, q4, q5, q6, q7, q8], X) (mdZ g)) := rfl
theorem m0_X4_init : ∀ w ∈ u_ws RX4 TX4 12, w ∈ wsX4_init := by decide +kernel
theorem m1_X4_init : Cond.fieldLink RX4 7 RX4 (TX4 0).2.1 (TX4 0).2.2.1 ∈ wsX4_init := by decide +kernel
set_option maxHeartbeats 8000000 in
set_option maxRecDepth 100000 in
/-- the loop that empties the cells, and the three numbers behind it -/
theorem md_loop {p : Program} {l : Launch} {e : Env} {R : Room} {s : State} {m : MethodId} {args : Array Value} {below : List Frame} {meth : Method} {c : Code} {Q : State → Prop} {D : va_G} {A : Nat → Prop} {cells slots : Nat} {h0 q1 q2 q3 q4 q5 q6 q7 q8 : Nat} {cI : ClassId} (S : CallFix p m c cX4_init 2 s args wsX4_init RX4) (hK : va_K D vwCl [(cI, .int)] s)
    (hend : ∀ (ls : Array Slot) (H : Heap) (locs : List Loc), va_P D vwCl (mdL h0 q1 q2 q3 q4 q5 q6 q7 q8 cI gM) H → va_D A (mdL h0 q1 q2 q3 q4 q5 q6 q7 q8 cI gM) → va_S A s.heap H locs → lv_has ls 2 [(0, .ref h0)] → W p l e R s m args below meth c H locs cells slots Q (F0 m 121 ls [])) : ∀ (n k : Nat) (g : Nat → Int32) (ls : Array Slot) (H : Heap) (locs : List Loc), 49 - k < n → k ≤ 49 → (∀ i, g i = if i < k then -1 else nI 0) → va_P D vwCl (mdL h0 q1 q2 q3 q4 q5 q6 q7 q8 cI g) H → va_D A (mdL h0 q1 q2 q3 q4 q5 q6 q7 q8 cI g) → va_S A s.heap H locs → lv_has ls 2 [(1, .int (nI k)), (0, .ref h0)] → W p l e R s m args below meth c H locs cells slots Q (F0 m 74 ls []) := by
  obtain ⟨hx, hb, -, hown, hts⟩ := id S
  intro n
  induction n with
  | zero => intro k g ls H locs h1; omega
  | succ n ih =>
    intro k g ls H locs h1 h2 hg hP hD hS hl
    refine lv_iload_n hx hb dX4_init_74 rfl (lv_at hl 0 rfl) ?_
    refine lv_bipush (v := nI 49) hx hb dX4_init_75 (by decide) ?_
    refine lv_icmp_ge hx hb dX4_init_77 (tgt := 95) (by decide) (fun h => ?_) (fun h => ?_)
    · have h3 := (nI_leI (a := 49) (b := k) (by omega) (by omega)).mp h
      have h4 : k = 49 := by omega
      subst h4
      refine lv_aload_n hx hb dX4_init_95 rfl (lv_at hl 1 rfl) ?_
      refine va_get (ci := 4) (C := RX4) (T := TX4) (N := 12) hx hb hts m0_X4_init hown hK hP 0 rfl rfl 0 (by decide) (hts _ m1_X4_init) (fun _ h9 => h9) rfl dX4_init_96 ?_
      refine lv_bipush (v := nI 49) hx hb dX4_init_99 (by decide) ?_
      refine lv_bipush (v := nI 7) hx hb dX4_init_101 (by decide) ?_
      refine va_iast hx hb hK hP hD hS 1 0 rfl rfl (pk_in 49 205 (by omega)) dX4_init_103 (fun H locs hP hD hS => ?_)
      rw [pk_cl (x := nI 49) 49] at hP hD
      have hP : va_P D vwCl (mdL h0 q1 q2 q3 q4 q5 q6 q7 q8 cI (upd g 49 (nI 7))) H := hP
      have hD : va_D A (mdL h0 q1 q2 q3 q4 q5 q6 q7 q8 cI (upd g 49 (nI 7))) := hD
      refine lv_aload_n hx hb dX4_init_104 rfl (lv_at hl 1 rfl) ?_
      refine va_get (ci := 4) (C := RX4) (T := TX4) (N := 12) hx hb hts m0_X4_init hown hK hP 0 rfl rfl 0 (by decide) (hts _ m1_X4_init) (fun _ h9 => h9) rfl dX4_init_105 ?_
      refine lv_bipush (v := nI 50) hx hb dX4_init_108 (by decide) ?_
      refine lv_iconst (v := nI 3) hx hb dX4_init_110 (by decide) ?_
      refine va_iast hx hb hK hP hD hS 1 0 rfl rfl (pk_in 50 205 (by omega)) dX4_init_111 (fun H locs hP hD hS => ?_)
      rw [pk_cl (x := nI 50) 50] at hP hD
      have hP : va_P D vwCl (mdL h0 q1 q2 q3 q4 q5 q6 q7 q8 cI (upd (upd g 49 (nI 7)) 50 (nI 3))) H := hP
      have hD : va_D A (mdL h0 q1 q2 q3 q4 q5 q6 q7 q8 cI (upd (upd g 49 (nI 7)) 50 (nI 3))) := hD
      refine lv_aload_n hx hb dX4_init_112 rfl (lv_at hl 1 rfl) ?_
      refine va_get (ci := 4) (C := RX4) (T := TX4) (N := 12) hx hb hts m0_X4_init hown hK hP 0 rfl rfl 0 (by decide) (hts _ m1_X4_init) (fun _ h9 => h9) rfl dX4_init_113 ?_
      refine lv_bipush (v := nI 105) hx hb dX4_init_116 (by decide) ?_
      refine lv_bipush (v := nI 30) hx hb dX4_init_118 (by decide) ?_
      refine va_iast hx hb hK hP hD hS 1 0 rfl rfl (pk_in 105 205 (by omega)) dX4_init_120 (fun H locs hP hD hS => ?_)
      rw [pk_cl (x := nI 105) 105] at hP hD
      have hP : va_P D vwCl (mdL h0 q1 q2 q3 q4 q5 q6 q7 q8 cI (upd (upd (upd g 49 (nI 7)) 50 (nI 3)) 105 (nI 30))) H := hP
      have hD : va_D A (mdL h0 q1 q2 q3 q4 q5 q6 q7 q8 cI (upd (upd (upd g 49 (nI 7)) 50 (nI 3)) 105 (nI 30))) := hD
      have hge : upd (upd (upd g 49 (nI 7)) 50 (nI 3)) 105 (nI 30) = gM := by
        funext i
        unfold gM
        by_cases a1 : i = 105
        · subst a1; rfl
        by_cases a2 : i = 50
        · subst a2; rfl
        by_cases a3 : i = 49
        · subst a3; rfl
        rw [upd_ne a1, upd_ne a2, upd_ne a3, hg i, if_neg a3, if_neg a2, if_neg a1]
      rw [hge] at hP hD
      exact hend ls H locs hP hD hS (lv_sub hl [1] rfl)
    · have h4 : k < 49 := by
        rcases Nat.lt_or_ge k 49 with h5 | h5
        · exact h5
        · exact absurd ((nI_leI (a := 49) (b := k) (by omega) (by omega)).mpr h5) h
      refine lv_aload_n hx hb dX4_init_80 rfl (lv_at hl 1 rfl) ?_
      refine va_get (ci := 4) (C := RX4) (T := TX4) (N := 12) hx hb hts m0_X4_init hown hK hP 0 rfl rfl 0 (by decide) (hts _ m1_X4_init) (fun _ h9 => h9) rfl dX4_init_81 ?_
      refine lv_iconst (v := nI 0) hx hb dX4_init_84 (by decide) ?_
      refine lv_iload_n hx hb dX4_init_85 rfl (lv_at hl 0 rfl) ?_
      refine lv_iadd hx hb dX4_init_86 ?_
      rw [show nI 0 + nI k = nI k by rw [nI_add, Nat.zero_add]]
      refine lv_iconst (v := -1) hx hb dX4_init_87 (by decide) ?_
      refine va_iast hx hb hK hP hD hS 1 0 rfl rfl (pk_in k 205 (by omega)) dX4_init_88 (fun H locs hP hD hS => ?_)
      rw [pk_cl (x := nI k) k] at hP hD
      have hP : va_P D vwCl (mdL h0 q1 q2 q3 q4 q5 q6 q7 q8 cI (upd g k (-1))) H := hP
      have hD : va_D A (mdL h0 q1 q2 q3 q4 q5 q6 q7 q8 cI (upd g k (-1))) := hD
      refine lv_iinc hx hb dX4_init_89 hl (k := 0) (v := nI (k + 1)) (lv' := [(1, .int (nI (k + 1))), (0, .ref h0)]) rfl (nI_1 k) (by decide) rfl (fun ls hl => ?_)
      refine lv_goto hx hb dX4_init_92 (tgt := 74) (by decide) ?_
      refine ih (k + 1) _ ls H locs (by omega) (by omega) (fun i => ?_) hP hD hS hl
      by_cases a : i = k
      · subst a
        rw [upd_at, if_pos (by omega)]
      · rw [upd_ne a, hg i]
        by_cases b : i < k
        · rw [if_pos b, if_pos (by omega)]
        · rw [if_neg b, if_neg (by omega)]
set_option maxHeartbeats 8000000 in
set_option maxRecDepth 100000 in
/-- the call of forgets -/
theorem L_fg {p : Program} {l : Launch} {e : Env} {R : Room} {s : State} {m : MethodId} {args : Array Value} {below : List Frame} {meth : Method} {c : Code} {Q : State → Prop} {D : va_G} {A : Nat → Prop} {X : zE} {z z2 : zV} {H : Heap} {locs : List Loc} {cells slots : Nat} {ls : Array Slot} (S : CallFix p m c cX4_init 2 s args wsX4_init RX4) (K : zK D X s) (hP : va_P D vwCl (zw_ws 9 X.1 (zc shM X z)) H) (hS : va_S A s.heap H locs) (hzA : ∀ a : Nat, zw_A 9 X.1 a → A a) (M : zMw l yX4_forgets wsX4_forgets (zrm 0 0) D 9 X (zc shM X z) [.ref (X.1 0)] none (zc shM X z2)) (hls : ls.size = 2) (hR : 0 + 1 ≤ R.frames ∧ 8 + (2 + 11) + 0 ≤ R.locals) (hf : cells + 0 ≤ R.cells ∧ slots + 0 ≤ R.slots)
    (kk : ∀ (H1 : Heap) (locs1 : List Loc), va_P D vwCl (zw_ws 9 X.1 (zc shM X z2)) H1 → va_S A s.heap H1 locs1 → W p l e R s m args below meth c H1 locs1 cells slots Q (F0 m 125 ls [])) : W p l e R s m args below meth c H locs cells slots Q (F0 m 122 ls [.ref (X.1 0)]) := by
  intro T hT XX
  obtain ⟨v, st₀, t, T', L, h00, X', hL, e1, e2, ⟨q1', q2', q3'⟩, stp⟩ := va_runV (As := []) (rest := []) (g := F0 m 122 ls [.ref (X.1 0)]) S M (cwV 0 S.2.2.2.2 gX4_init_X4_forgets rfl rfl rfl hd_X4_forgets hR) ⟨zPc_blind, z_recv K hP (q := 0) (by decide) (cM_0 _ _) rfl, z_pre K hP⟩ rfl rfl hls rfl (lv_room (Nat.le_of_ble_eq_true rfl)) dX4_init_122 hf T hT XX
  cases q1'
  have hz := q3'.1
  have hk := q3'.2
  rw [h00] at hz hk
  obtain ⟨t2, a1, b1⟩ := kk T'.heap (locs ++ L) (by rw [e1]; exact q2') ⟨Nat.le_trans hS.1 (by rw [e1]; exact hz), fun a h1 h2 => by rw [e1, hk a (Nat.lt_of_lt_of_le h1 hS.1) (fun h => h2 (hzA a h))]; exact hS.2.1 a h1 h2, fun a ha => by
    rcases List.mem_append.mp ha with h | h
    · exact hS.2.2 a h
    · exact hzA _ (hL a h)⟩ T' rfl X'
  exact ⟨t2, stp t2 a1, b1⟩
set_option maxHeartbeats 8000000 in
set_option maxRecDepth 100000 in
theorem c_X4_init (l : Launch) (D : va_G) (X0 : zE) (h0 : Nat) (sz : Nat) : Met l yX4_init wsX4_init ({ frames := 2, cells := 8, slots := 1621, locals := 32 }) (va_Pc [.ref h0] (fun U => U.heap.size = sz ∧ va_P D vwCl [(h0, .inr (4, mdNew))] U.heap ∧ zK D X0 U ∧ va_D (fun _ => True) [(h0, .inr (4, mdNew))])) (va_Qv (fun _ : Unit => True) (fun _ t => ∃ (ad : Nat → Nat) (mm : zV), ad 0 = h0 ∧ JJ zS0 mm ∧ va_P D vwCl (zw_ws 9 ad (zc shM (ad, X0.2) mm)) t.heap ∧ va_D (va_A [(h0, .inr (4, mdNew))] sz) (zw_ws 9 ad (zc shM (ad, X0.2) mm))) (va_A [(h0, .inr (4, mdNew))] sz)) 8 1621 (va_A [(h0, .inr (4, mdNew))] sz) := by
  refine Met.ofW (cc := cX4_init) (maxL := 2) (ret := none) (by decide) rfl ?_
  intro p e s m args below meth c s₁ B hml hv
  obtain ⟨rfl, hsz, hP, hZ, hD0⟩ := hv
  have hx := B.exec
  have hb := B.bytes
  have hr := B.returns
  have hts := atoms_spec (ws := wsX4_init) B.pre
  have hown : s.vm.findClass RX4 = some m.cls := findClass_of_methodNamed B.named
  have hlocks := B.notSynchronized
  have hin : meth.name = "<init>" := (name_of_methodNamed B.named B.method).1
  subst hsz
  have hD := hD0.self (sz := s.heap.size)
  generalize hAe : va_A [(h0, .inr (4, mdNew))] s.heap.size = A at hD ⊢
  have hA : ∀ q : Nat, s.heap.size ≤ q → A q := fun q h => by rw [← hAe]; exact Or.inr h
  have hS : va_S A s.heap s.heap [] := va_S.rf
  have hl := lv_entry ([.ref h0]) (n := 2) (Nat.le_of_ble_eq_true rfl)
  rw [lg_entry_eq]
  generalize (lg_sl ([.ref h0]) ++ List.replicate (2 - (lg_sl ([.ref h0])).length) Slot.unset).toArray = ls at hl ⊢
  have hl : lv_has ls 2 [(0, .ref h0)] := hl
  have S : CallFix p m c cX4_init 2 s _ wsX4_init RX4 := ⟨hx, hb, hml, hown, hts⟩
  have hK := hZ.1
  refine lv_aload_n hx hb dX4_init_0 rfl (lv_at hl 0 rfl) ?_
  refine W.objInit hx hb hown (hts (.methodLink RX4 1 objectInit) (by decide +kernel)) (hts (.instanceMethod objectInit) (by decide +kernel)) (hts (.code objectInit ⟨#[0xb1]⟩ 1 none) (by decide +kernel)) rfl (by rw [hml]; exact hl.1) rfl dX4_init_1 (Nat.le_of_ble_eq_true rfl) (Nat.le_of_ble_eq_true rfl) ?_
  refine W.eq (g2 := F0 m 4 ls []) rfl ?_
  have hI : va_K D vwCl [(X0.2.1, .int)] s := hK.sub [0] rfl
  refine lv_aload_n hx hb dX4_init_4 rfl (lv_at hl 0 rfl) ?_
  refine lv_sipush (v := nI 205) hx hb dX4_init_5 (by decide) ?_
  refine va_newa (atype := .int) (ty := .int) (N' := 205) (a0 := (205, .inl (fun _ => 0))) hx hb (hts (.arrayClass .int) (by decide +kernel)) rfl hI hP hD hS hA (fun cA => rfl) (by decide) (by decide) (Nat.le_of_ble_eq_true rfl) (Nat.le_of_ble_eq_true rfl) (Nat.le_of_ble_eq_true rfl) dX4_init_8 (fun q1 d H hK1 hP hD hS => ?_)
  obtain rfl : X0.2.1 = d := key_eq hK1 (i := 0) (j := 1) rfl rfl
  clear hK1
  have hP : va_P D vwCl [(h0, .inr (4, [.null, .null, .null, .int 0, .null, .int 0, .null, .null, .null, .int 0, .null, .int 0])), (q1, .inl (X0.2.1, 205, .inl (fun _ => 0)))] H := hP
  have hD : va_D A [(h0, .inr (4, [.null, .null, .null, .int 0, .null, .int 0, .null, .null, .null, .int 0, .null, .int 0])), (q1, .inl (X0.2.1, 205, .inl (fun _ => 0)))] := hD
  refine va_putF (D := D) (ci := 4) (v := .ref q1) (C := RX4) (T := TX4) (N := 12) hx hb hts m0_X4_init tyX4 tyX4_ok nmX4 hown hI hP hD hS 0 rfl rfl 0 (by decide) (hts (.fieldLink RX4 7 RX4 (TX4 0).2.1 (TX4 0).2.2.1) (by decide +kernel)) (fun _ h9 => h9) rfl hin rfl (tyX4_ok 0 (by decide)) rfl rfl (Nat.le_of_ble_eq_true rfl) dX4_init_10 (fun H locs hP hD hS => ?_)
  have hP : va_P D vwCl [(h0, .inr (4, [.ref q1, .null, .null, .int 0, .null, .int 0, .null, .null, .null, .int 0, .null, .int 0])), (q1, .inl (X0.2.1, 205, .inl (fun _ => 0)))] H := hP
  have hD : va_D A [(h0, .inr (4, [.ref q1, .null, .null, .int 0, .null, .int 0, .null, .null, .null, .int 0, .null, .int 0])), (q1, .inl (X0.2.1, 205, .inl (fun _ => 0)))] := hD
  refine lv_aload_n hx hb dX4_init_13 rfl (lv_at hl 0 rfl) ?_
  refine lv_sipush (v := nI 205) hx hb dX4_init_14 (by decide) ?_
  refine va_newa (atype := .int) (ty := .int) (N' := 205) (a0 := (205, .inl (fun _ => 0))) hx hb (hts (.arrayClass .int) (by decide +kernel)) rfl hI hP hD hS hA (fun cA => rfl) (by decide) (by decide) (Nat.le_of_ble_eq_true rfl) (Nat.le_of_ble_eq_true rfl) (Nat.le_of_ble_eq_true rfl) dX4_init_17 (fun q2 d H hK1 hP hD hS => ?_)
  obtain rfl : X0.2.1 = d := key_eq hK1 (i := 0) (j := 1) rfl rfl
  clear hK1
  have hP : va_P D vwCl [(h0, .inr (4, [.ref q1, .null, .null, .int 0, .null, .int 0, .null, .null, .null, .int 0, .null, .int 0])), (q1, .inl (X0.2.1, 205, .inl (fun _ => 0))), (q2, .inl (X0.2.1, 205, .inl (fun _ => 0)))] H := hP
  have hD : va_D A [(h0, .inr (4, [.ref q1, .null, .null, .int 0, .null, .int 0, .null, .null, .null, .int 0, .null, .int 0])), (q1, .inl (X0.2.1, 205, .inl (fun _ => 0))), (q2, .inl (X0.2.1, 205, .inl (fun _ => 0)))] := hD
  refine va_putF (D := D) (ci := 4) (v := .ref q2) (C := RX4) (T := TX4) (N := 12) hx hb hts m0_X4_init tyX4 tyX4_ok nmX4 hown hI hP hD hS 0 rfl rfl 1 (by decide) (hts (.fieldLink RX4 13 RX4 (TX4 1).2.1 (TX4 1).2.2.1) (by decide +kernel)) (fun _ h9 => h9) rfl hin rfl (tyX4_ok 1 (by decide)) rfl rfl (Nat.le_of_ble_eq_true rfl) dX4_init_19 (fun H locs hP hD hS => ?_)
  have hP : va_P D vwCl [(h0, .inr (4, [.ref q1, .ref q2, .null, .int 0, .null, .int 0, .null, .null, .null, .int 0, .null, .int 0])), (q1, .inl (X0.2.1, 205, .inl (fun _ => 0))), (q2, .inl (X0.2.1, 205, .inl (fun _ => 0)))] H := hP
  have hD : va_D A [(h0, .inr (4, [.ref q1, .ref q2, .null, .int 0, .null, .int 0, .null, .null, .null, .int 0, .null, .int 0])), (q1, .inl (X0.2.1, 205, .inl (fun _ => 0))), (q2, .inl (X0.2.1, 205, .inl (fun _ => 0)))] := hD
  refine lv_aload_n hx hb dX4_init_22 rfl (lv_at hl 0 rfl) ?_
  refine lv_sipush (v := nI 820) hx hb dX4_init_23 (by decide) ?_
  refine va_newa (atype := .int) (ty := .int) (N' := 820) (a0 := (820, .inl (fun _ => 0))) hx hb (hts (.arrayClass .int) (by decide +kernel)) rfl hI hP hD hS hA (fun cA => rfl) (by decide) (by decide) (Nat.le_of_ble_eq_true rfl) (Nat.le_of_ble_eq_true rfl) (Nat.le_of_ble_eq_true rfl) dX4_init_26 (fun q3 d H hK1 hP hD hS => ?_)
  obtain rfl : X0.2.1 = d := key_eq hK1 (i := 0) (j := 1) rfl rfl
  clear hK1
  have hP : va_P D vwCl [(h0, .inr (4, [.ref q1, .ref q2, .null, .int 0, .null, .int 0, .null, .null, .null, .int 0, .null, .int 0])), (q1, .inl (X0.2.1, 205, .inl (fun _ => 0))), (q2, .inl (X0.2.1, 205, .inl (fun _ => 0))), (q3, .inl (X0.2.1, 820, .inl (fun _ => 0)))] H := hP
  have hD : va_D A [(h0, .inr (4, [.ref q1, .ref q2, .null, .int 0, .null, .int 0, .null, .null, .null, .int 0, .null, .int 0])), (q1, .inl (X0.2.1, 205, .inl (fun _ => 0))), (q2, .inl (X0.2.1, 205, .inl (fun _ => 0))), (q3, .inl (X0.2.1, 820, .inl (fun _ => 0)))] := hD
  refine va_putF (D := D) (ci := 4) (v := .ref q3) (C := RX4) (T := TX4) (N := 12) hx hb hts m0_X4_init tyX4 tyX4_ok nmX4 hown hI hP hD hS 0 rfl rfl 2 (by decide) (hts (.fieldLink RX4 16 RX4 (TX4 2).2.1 (TX4 2).2.2.1) (by decide +kernel)) (fun _ h9 => h9) rfl hin rfl (tyX4_ok 2 (by decide)) rfl rfl (Nat.le_of_ble_eq_true rfl) dX4_init_28 (fun H locs hP hD hS => ?_)
  have hP : va_P D vwCl [(h0, .inr (4, [.ref q1, .ref q2, .ref q3, .int 0, .null, .int 0, .null, .null, .null, .int 0, .null, .int 0])), (q1, .inl (X0.2.1, 205, .inl (fun _ => 0))), (q2, .inl (X0.2.1, 205, .inl (fun _ => 0))), (q3, .inl (X0.2.1, 820, .inl (fun _ => 0)))] H := hP
  have hD : va_D A [(h0, .inr (4, [.ref q1, .ref q2, .ref q3, .int 0, .null, .int 0, .null, .null, .null, .int 0, .null, .int 0])), (q1, .inl (X0.2.1, 205, .inl (fun _ => 0))), (q2, .inl (X0.2.1, 205, .inl (fun _ => 0))), (q3, .inl (X0.2.1, 820, .inl (fun _ => 0)))] := hD
  refine lv_aload_n hx hb dX4_init_31 rfl (lv_at hl 0 rfl) ?_
  refine lv_sipush (v := nI 205) hx hb dX4_init_32 (by decide) ?_
  refine va_newa (atype := .int) (ty := .int) (N' := 205) (a0 := (205, .inl (fun _ => 0))) hx hb (hts (.arrayClass .int) (by decide +kernel)) rfl hI hP hD hS hA (fun cA => rfl) (by decide) (by decide) (Nat.le_of_ble_eq_true rfl) (Nat.le_of_ble_eq_true rfl) (Nat.le_of_ble_eq_true rfl) dX4_init_35 (fun q4 d H hK1 hP hD hS => ?_)
  obtain rfl : X0.2.1 = d := key_eq hK1 (i := 0) (j := 1) rfl rfl
  clear hK1
  have hP : va_P D vwCl [(h0, .inr (4, [.ref q1, .ref q2, .ref q3, .int 0, .null, .int 0, .null, .null, .null, .int 0, .null, .int 0])), (q1, .inl (X0.2.1, 205, .inl (fun _ => 0))), (q2, .inl (X0.2.1, 205, .inl (fun _ => 0))), (q3, .inl (X0.2.1, 820, .inl (fun _ => 0))), (q4, .inl (X0.2.1, 205, .inl (fun _ => 0)))] H := hP
  have hD : va_D A [(h0, .inr (4, [.ref q1, .ref q2, .ref q3, .int 0, .null, .int 0, .null, .null, .null, .int 0, .null, .int 0])), (q1, .inl (X0.2.1, 205, .inl (fun _ => 0))), (q2, .inl (X0.2.1, 205, .inl (fun _ => 0))), (q3, .inl (X0.2.1, 820, .inl (fun _ => 0))), (q4, .inl (X0.2.1, 205, .inl (fun _ => 0)))] := hD
  refine va_putF (D := D) (ci := 4) (v := .ref q4) (C := RX4) (T := TX4) (N := 12) hx hb hts m0_X4_init tyX4 tyX4_ok nmX4 hown hI hP hD hS 0 rfl rfl 4 (by decide) (hts (.fieldLink RX4 19 RX4 (TX4 4).2.1 (TX4 4).2.2.1) (by decide +kernel)) (fun _ h9 => h9) rfl hin rfl (tyX4_ok 4 (by decide)) rfl rfl (Nat.le_of_ble_eq_true rfl) dX4_init_37 (fun H locs hP hD hS => ?_)
  have hP : va_P D vwCl [(h0, .inr (4, [.ref q1, .ref q2, .ref q3, .int 0, .ref q4, .int 0, .null, .null, .null, .int 0, .null, .int 0])), (q1, .inl (X0.2.1, 205, .inl (fun _ => 0))), (q2, .inl (X0.2.1, 205, .inl (fun _ => 0))), (q3, .inl (X0.2.1, 820, .inl (fun _ => 0))), (q4, .inl (X0.2.1, 205, .inl (fun _ => 0)))] H := hP
  have hD : va_D A [(h0, .inr (4, [.ref q1, .ref q2, .ref q3, .int 0, .ref q4, .int 0, .null, .null, .null, .int 0, .null, .int 0])), (q1, .inl (X0.2.1, 205, .inl (fun _ => 0))), (q2, .inl (X0.2.1, 205, .inl (fun _ => 0))), (q3, .inl (X0.2.1, 820, .inl (fun _ => 0))), (q4, .inl (X0.2.1, 205, .inl (fun _ => 0)))] := hD
  refine lv_aload_n hx hb dX4_init_40 rfl (lv_at hl 0 rfl) ?_
  refine lv_bipush (v := nI 42) hx hb dX4_init_41 (by decide) ?_
  refine va_newa (atype := .int) (ty := .int) (N' := 42) (a0 := (42, .inl (fun _ => 0))) hx hb (hts (.arrayClass .int) (by decide +kernel)) rfl hI hP hD hS hA (fun cA => rfl) (by decide) (by decide) (Nat.le_of_ble_eq_true rfl) (Nat.le_of_ble_eq_true rfl) (Nat.le_of_ble_eq_true rfl) dX4_init_43 (fun q5 d H hK1 hP hD hS => ?_)
  obtain rfl : X0.2.1 = d := key_eq hK1 (i := 0) (j := 1) rfl rfl
  clear hK1
  have hP : va_P D vwCl [(h0, .inr (4, [.ref q1, .ref q2, .ref q3, .int 0, .ref q4, .int 0, .null, .null, .null, .int 0, .null, .int 0])), (q1, .inl (X0.2.1, 205, .inl (fun _ => 0))), (q2, .inl (X0.2.1, 205, .inl (fun _ => 0))), (q3, .inl (X0.2.1, 820, .inl (fun _ => 0))), (q4, .inl (X0.2.1, 205, .inl (fun _ => 0))), (q5, .inl (X0.2.1, 42, .inl (fun _ => 0)))] H := hP
  have hD : va_D A [(h0, .inr (4, [.ref q1, .ref q2, .ref q3, .int 0, .ref q4, .int 0, .null, .null, .null, .int 0, .null, .int 0])), (q1, .inl (X0.2.1, 205, .inl (fun _ => 0))), (q2, .inl (X0.2.1, 205, .inl (fun _ => 0))), (q3, .inl (X0.2.1, 820, .inl (fun _ => 0))), (q4, .inl (X0.2.1, 205, .inl (fun _ => 0))), (q5, .inl (X0.2.1, 42, .inl (fun _ => 0)))] := hD
  refine va_putF (D := D) (ci := 4) (v := .ref q5) (C := RX4) (T := TX4) (N := 12) hx hb hts m0_X4_init tyX4 tyX4_ok nmX4 hown hI hP hD hS 0 rfl rfl 6 (by decide) (hts (.fieldLink RX4 22 RX4 (TX4 6).2.1 (TX4 6).2.2.1) (by decide +kernel)) (fun _ h9 => h9) rfl hin rfl (tyX4_ok 6 (by decide)) rfl rfl (Nat.le_of_ble_eq_true rfl) dX4_init_45 (fun H locs hP hD hS => ?_)
  have hP : va_P D vwCl [(h0, .inr (4, [.ref q1, .ref q2, .ref q3, .int 0, .ref q4, .int 0, .ref q5, .null, .null, .int 0, .null, .int 0])), (q1, .inl (X0.2.1, 205, .inl (fun _ => 0))), (q2, .inl (X0.2.1, 205, .inl (fun _ => 0))), (q3, .inl (X0.2.1, 820, .inl (fun _ => 0))), (q4, .inl (X0.2.1, 205, .inl (fun _ => 0))), (q5, .inl (X0.2.1, 42, .inl (fun _ => 0)))] H := hP
  have hD : va_D A [(h0, .inr (4, [.ref q1, .ref q2, .ref q3, .int 0, .ref q4, .int 0, .ref q5, .null, .null, .int 0, .null, .int 0])), (q1, .inl (X0.2.1, 205, .inl (fun _ => 0))), (q2, .inl (X0.2.1, 205, .inl (fun _ => 0))), (q3, .inl (X0.2.1, 820, .inl (fun _ => 0))), (q4, .inl (X0.2.1, 205, .inl (fun _ => 0))), (q5, .inl (X0.2.1, 42, .inl (fun _ => 0)))] := hD
  refine lv_aload_n hx hb dX4_init_48 rfl (lv_at hl 0 rfl) ?_
  refine lv_bipush (v := nI 42) hx hb dX4_init_49 (by decide) ?_
  refine va_newa (atype := .int) (ty := .int) (N' := 42) (a0 := (42, .inl (fun _ => 0))) hx hb (hts (.arrayClass .int) (by decide +kernel)) rfl hI hP hD hS hA (fun cA => rfl) (by decide) (by decide) (Nat.le_of_ble_eq_true rfl) (Nat.le_of_ble_eq_true rfl) (Nat.le_of_ble_eq_true rfl) dX4_init_51 (fun q6 d H hK1 hP hD hS => ?_)
  obtain rfl : X0.2.1 = d := key_eq hK1 (i := 0) (j := 1) rfl rfl
  clear hK1
  have hP : va_P D vwCl [(h0, .inr (4, [.ref q1, .ref q2, .ref q3, .int 0, .ref q4, .int 0, .ref q5, .null, .null, .int 0, .null, .int 0])), (q1, .inl (X0.2.1, 205, .inl (fun _ => 0))), (q2, .inl (X0.2.1, 205, .inl (fun _ => 0))), (q3, .inl (X0.2.1, 820, .inl (fun _ => 0))), (q4, .inl (X0.2.1, 205, .inl (fun _ => 0))), (q5, .inl (X0.2.1, 42, .inl (fun _ => 0))), (q6, .inl (X0.2.1, 42, .inl (fun _ => 0)))] H := hP
  have hD : va_D A [(h0, .inr (4, [.ref q1, .ref q2, .ref q3, .int 0, .ref q4, .int 0, .ref q5, .null, .null, .int 0, .null, .int 0])), (q1, .inl (X0.2.1, 205, .inl (fun _ => 0))), (q2, .inl (X0.2.1, 205, .inl (fun _ => 0))), (q3, .inl (X0.2.1, 820, .inl (fun _ => 0))), (q4, .inl (X0.2.1, 205, .inl (fun _ => 0))), (q5, .inl (X0.2.1, 42, .inl (fun _ => 0))), (q6, .inl (X0.2.1, 42, .inl (fun _ => 0)))] := hD
  refine va_putF (D := D) (ci := 4) (v := .ref q6) (C := RX4) (T := TX4) (N := 12) hx hb hts m0_X4_init tyX4 tyX4_ok nmX4 hown hI hP hD hS 0 rfl rfl 7 (by decide) (hts (.fieldLink RX4 25 RX4 (TX4 7).2.1 (TX4 7).2.2.1) (by decide +kernel)) (fun _ h9 => h9) rfl hin rfl (tyX4_ok 7 (by decide)) rfl rfl (Nat.le_of_ble_eq_true rfl) dX4_init_53 (fun H locs hP hD hS => ?_)
  have hP : va_P D vwCl [(h0, .inr (4, [.ref q1, .ref q2, .ref q3, .int 0, .ref q4, .int 0, .ref q5, .ref q6, .null, .int 0, .null, .int 0])), (q1, .inl (X0.2.1, 205, .inl (fun _ => 0))), (q2, .inl (X0.2.1, 205, .inl (fun _ => 0))), (q3, .inl (X0.2.1, 820, .inl (fun _ => 0))), (q4, .inl (X0.2.1, 205, .inl (fun _ => 0))), (q5, .inl (X0.2.1, 42, .inl (fun _ => 0))), (q6, .inl (X0.2.1, 42, .inl (fun _ => 0)))] H := hP
  have hD : va_D A [(h0, .inr (4, [.ref q1, .ref q2, .ref q3, .int 0, .ref q4, .int 0, .ref q5, .ref q6, .null, .int 0, .null, .int 0])), (q1, .inl (X0.2.1, 205, .inl (fun _ => 0))), (q2, .inl (X0.2.1, 205, .inl (fun _ => 0))), (q3, .inl (X0.2.1, 820, .inl (fun _ => 0))), (q4, .inl (X0.2.1, 205, .inl (fun _ => 0))), (q5, .inl (X0.2.1, 42, .inl (fun _ => 0))), (q6, .inl (X0.2.1, 42, .inl (fun _ => 0)))] := hD
  refine lv_aload_n hx hb dX4_init_56 rfl (lv_at hl 0 rfl) ?_
  refine lv_bipush (v := nI 42) hx hb dX4_init_57 (by decide) ?_
  refine va_newa (atype := .int) (ty := .int) (N' := 42) (a0 := (42, .inl (fun _ => 0))) hx hb (hts (.arrayClass .int) (by decide +kernel)) rfl hI hP hD hS hA (fun cA => rfl) (by decide) (by decide) (Nat.le_of_ble_eq_true rfl) (Nat.le_of_ble_eq_true rfl) (Nat.le_of_ble_eq_true rfl) dX4_init_59 (fun q7 d H hK1 hP hD hS => ?_)
  obtain rfl : X0.2.1 = d := key_eq hK1 (i := 0) (j := 1) rfl rfl
  clear hK1
  have hP : va_P D vwCl [(h0, .inr (4, [.ref q1, .ref q2, .ref q3, .int 0, .ref q4, .int 0, .ref q5, .ref q6, .null, .int 0, .null, .int 0])), (q1, .inl (X0.2.1, 205, .inl (fun _ => 0))), (q2, .inl (X0.2.1, 205, .inl (fun _ => 0))), (q3, .inl (X0.2.1, 820, .inl (fun _ => 0))), (q4, .inl (X0.2.1, 205, .inl (fun _ => 0))), (q5, .inl (X0.2.1, 42, .inl (fun _ => 0))), (q6, .inl (X0.2.1, 42, .inl (fun _ => 0))), (q7, .inl (X0.2.1, 42, .inl (fun _ => 0)))] H := hP
  have hD : va_D A [(h0, .inr (4, [.ref q1, .ref q2, .ref q3, .int 0, .ref q4, .int 0, .ref q5, .ref q6, .null, .int 0, .null, .int 0])), (q1, .inl (X0.2.1, 205, .inl (fun _ => 0))), (q2, .inl (X0.2.1, 205, .inl (fun _ => 0))), (q3, .inl (X0.2.1, 820, .inl (fun _ => 0))), (q4, .inl (X0.2.1, 205, .inl (fun _ => 0))), (q5, .inl (X0.2.1, 42, .inl (fun _ => 0))), (q6, .inl (X0.2.1, 42, .inl (fun _ => 0))), (q7, .inl (X0.2.1, 42, .inl (fun _ => 0)))] := hD
  refine va_putF (D := D) (ci := 4) (v := .ref q7) (C := RX4) (T := TX4) (N := 12) hx hb hts m0_X4_init tyX4 tyX4_ok nmX4 hown hI hP hD hS 0 rfl rfl 8 (by decide) (hts (.fieldLink RX4 28 RX4 (TX4 8).2.1 (TX4 8).2.2.1) (by decide +kernel)) (fun _ h9 => h9) rfl hin rfl (tyX4_ok 8 (by decide)) rfl rfl (Nat.le_of_ble_eq_true rfl) dX4_init_61 (fun H locs hP hD hS => ?_)
  have hP : va_P D vwCl [(h0, .inr (4, [.ref q1, .ref q2, .ref q3, .int 0, .ref q4, .int 0, .ref q5, .ref q6, .ref q7, .int 0, .null, .int 0])), (q1, .inl (X0.2.1, 205, .inl (fun _ => 0))), (q2, .inl (X0.2.1, 205, .inl (fun _ => 0))), (q3, .inl (X0.2.1, 820, .inl (fun _ => 0))), (q4, .inl (X0.2.1, 205, .inl (fun _ => 0))), (q5, .inl (X0.2.1, 42, .inl (fun _ => 0))), (q6, .inl (X0.2.1, 42, .inl (fun _ => 0))), (q7, .inl (X0.2.1, 42, .inl (fun _ => 0)))] H := hP
  have hD : va_D A [(h0, .inr (4, [.ref q1, .ref q2, .ref q3, .int 0, .ref q4, .int 0, .ref q5, .ref q6, .ref q7, .int 0, .null, .int 0])), (q1, .inl (X0.2.1, 205, .inl (fun _ => 0))), (q2, .inl (X0.2.1, 205, .inl (fun _ => 0))), (q3, .inl (X0.2.1, 820, .inl (fun _ => 0))), (q4, .inl (X0.2.1, 205, .inl (fun _ => 0))), (q5, .inl (X0.2.1, 42, .inl (fun _ => 0))), (q6, .inl (X0.2.1, 42, .inl (fun _ => 0))), (q7, .inl (X0.2.1, 42, .inl (fun _ => 0)))] := hD
  refine lv_aload_n hx hb dX4_init_64 rfl (lv_at hl 0 rfl) ?_
  refine lv_bipush (v := nI 60) hx hb dX4_init_65 (by decide) ?_
  refine va_newa (atype := .int) (ty := .int) (N' := 60) (a0 := (60, .inl (fun _ => 0))) hx hb (hts (.arrayClass .int) (by decide +kernel)) rfl hI hP hD hS hA (fun cA => rfl) (by decide) (by decide) (Nat.le_of_ble_eq_true rfl) (Nat.le_of_ble_eq_true rfl) (Nat.le_of_ble_eq_true rfl) dX4_init_67 (fun q8 d H hK1 hP hD hS => ?_)
  obtain rfl : X0.2.1 = d := key_eq hK1 (i := 0) (j := 1) rfl rfl
  clear hK1
  have hP : va_P D vwCl [(h0, .inr (4, [.ref q1, .ref q2, .ref q3, .int 0, .ref q4, .int 0, .ref q5, .ref q6, .ref q7, .int 0, .null, .int 0])), (q1, .inl (X0.2.1, 205, .inl (fun _ => 0))), (q2, .inl (X0.2.1, 205, .inl (fun _ => 0))), (q3, .inl (X0.2.1, 820, .inl (fun _ => 0))), (q4, .inl (X0.2.1, 205, .inl (fun _ => 0))), (q5, .inl (X0.2.1, 42, .inl (fun _ => 0))), (q6, .inl (X0.2.1, 42, .inl (fun _ => 0))), (q7, .inl (X0.2.1, 42, .inl (fun _ => 0))), (q8, .inl (X0.2.1, 60, .inl (fun _ => 0)))] H := hP
  have hD : va_D A [(h0, .inr (4, [.ref q1, .ref q2, .ref q3, .int 0, .ref q4, .int 0, .ref q5, .ref q6, .ref q7, .int 0, .null, .int 0])), (q1, .inl (X0.2.1, 205, .inl (fun _ => 0))), (q2, .inl (X0.2.1, 205, .inl (fun _ => 0))), (q3, .inl (X0.2.1, 820, .inl (fun _ => 0))), (q4, .inl (X0.2.1, 205, .inl (fun _ => 0))), (q5, .inl (X0.2.1, 42, .inl (fun _ => 0))), (q6, .inl (X0.2.1, 42, .inl (fun _ => 0))), (q7, .inl (X0.2.1, 42, .inl (fun _ => 0))), (q8, .inl (X0.2.1, 60, .inl (fun _ => 0)))] := hD
  refine va_putF (D := D) (ci := 4) (v := .ref q8) (C := RX4) (T := TX4) (N := 12) hx hb hts m0_X4_init tyX4 tyX4_ok nmX4 hown hI hP hD hS 0 rfl rfl 10 (by decide) (hts (.fieldLink RX4 31 RX4 (TX4 10).2.1 (TX4 10).2.2.1) (by decide +kernel)) (fun _ h9 => h9) rfl hin rfl (tyX4_ok 10 (by decide)) rfl rfl (Nat.le_of_ble_eq_true rfl) dX4_init_69 (fun H locs hP hD hS => ?_)
  have hP : va_P D vwCl [(h0, .inr (4, [.ref q1, .ref q2, .ref q3, .int 0, .ref q4, .int 0, .ref q5, .ref q6, .ref q7, .int 0, .ref q8, .int 0])), (q1, .inl (X0.2.1, 205, .inl (fun _ => 0))), (q2, .inl (X0.2.1, 205, .inl (fun _ => 0))), (q3, .inl (X0.2.1, 820, .inl (fun _ => 0))), (q4, .inl (X0.2.1, 205, .inl (fun _ => 0))), (q5, .inl (X0.2.1, 42, .inl (fun _ => 0))), (q6, .inl (X0.2.1, 42, .inl (fun _ => 0))), (q7, .inl (X0.2.1, 42, .inl (fun _ => 0))), (q8, .inl (X0.2.1, 60, .inl (fun _ => 0)))] H := hP
  have hD : va_D A [(h0, .inr (4, [.ref q1, .ref q2, .ref q3, .int 0, .ref q4, .int 0, .ref q5, .ref q6, .ref q7, .int 0, .ref q8, .int 0])), (q1, .inl (X0.2.1, 205, .inl (fun _ => 0))), (q2, .inl (X0.2.1, 205, .inl (fun _ => 0))), (q3, .inl (X0.2.1, 820, .inl (fun _ => 0))), (q4, .inl (X0.2.1, 205, .inl (fun _ => 0))), (q5, .inl (X0.2.1, 42, .inl (fun _ => 0))), (q6, .inl (X0.2.1, 42, .inl (fun _ => 0))), (q7, .inl (X0.2.1, 42, .inl (fun _ => 0))), (q8, .inl (X0.2.1, 60, .inl (fun _ => 0)))] := hD
  refine lv_iconst (v := nI 0) hx hb dX4_init_72 (by decide) ?_
  refine lv_istore_n (lv' := [(1, .int (nI 0)), (0, .ref h0)]) hx hb dX4_init_73 rfl hl (by decide) rfl (fun ls hl => ?_)
  refine md_loop (l := l) (cI := X0.2.1) (A := A) S hI (fun ls H locs hP hD hS hl => ?_) 50 0 (fun _ => 0) ls H locs (by omega) (by omega) (fun i => rfl) hP hD hS hl
  have hPz : va_P D vwCl (zw_ws 9 (caAd [h0, q1, q2, q3, q4, q5, q6, q7, q8]) (zc shM (caAd [h0, q1, q2, q3, q4, q5, q6, q7, q8], X0.2) (mdZ gM))) H := hP
  have hDz : va_D A (zw_ws 9 (caAd [h0, q1, q2, q3, q4, q5, q6, q7, q8]) (zc shM (caAd [h0, q1, q2, q3, q4, q5, q6, q7, q8], X0.2) (mdZ gM))) := hD
  obtain ⟨mm, f1, J, -, -⟩ := JJ_made (m := mdZ gM) rfl (fun _ => rfl)
  have hZ2 : zK D (caAd [h0, q1, q2, q3, q4, q5, q6, q7, q8], X0.2) s := hZ
  have M := c_X4_forgets l D (caAd [h0, q1, q2, q3, q4, q5, q6, q7, q8], X0.2) (mdZ gM) (zw_Di hDz) f1
  refine lv_aload_n hx hb dX4_init_121 rfl (lv_at hl 0 rfl) ?_
  have hzA : ∀ a : Nat, zw_A 9 (caAd [h0, q1, q2, q3, q4, q5, q6, q7, q8]) a → A a := fun a ⟨r, hr, er⟩ => by
    rw [er]
    exact hDz.2 r _ (zw_get hr rfl)
  refine L_fg (X := (caAd [h0, q1, q2, q3, q4, q5, q6, q7, q8], X0.2)) S hZ2 hPz hS hzA M hl.1 ⟨Nat.le_of_ble_eq_true rfl, Nat.le_of_ble_eq_true rfl⟩ ⟨Nat.le_of_ble_eq_true rfl, Nat.le_of_ble_eq_true rfl⟩ (fun H1 locs1 hP1 hS1 => ?_)
  exact W.vret hx hb hr (fun t ht hW => ⟨⟨(), rfl, trivial, caAd [h0, q1, q2, q3, q4, q5, q6, q7, q8], mm, rfl, J, by rw [ht]; exact hP1, zw_Dc hDz⟩, hS1.F ht⟩) hS1.2.2 dX4_init_125
