/-! CONSTRUCTORS (4): new Words, new Text, behind any list of cells -/
def wdNew : List Value := [.null, .null, .null, .int 0]
def wdOf (q q1 q2 q3 : Nat) (c1 c2 c3 : ClassId) : va_W := [(q, .inr (2, [.ref q1, .ref q2, .ref q3, .int 0])), (q1, .inl (c1, 28, .inl (fun _ => 0))), (q2, .inl (c2, 28, .inl (fun _ => 0))), (q3, .inl (c3, 28, .inl (fun _ => 0)))]
theorem hd_X2_init : yX2_init.cls ≠ "java/lang/invoke/MethodHandle" ∧ yX2_init.cls ≠ "java/lang/invoke/VarHandle" ∧ (parseMethodDescriptor yX2_init.desc).map (fun d => d.parameters.length) = some 0 := by decide +kernel
set_option maxHeartbeats 4000000 in
set_option maxRecDepth 100000 in
theorem L_newWords {p : Program} {l : Launch} {e : Env} {R : Room} {s : State} {m : MethodId} {args : Array Value} {below : List Frame} {meth : Method} {c : Code} {Q : State → Prop} {pc : Nat} {ls : Array Slot} {rest : List Value} {D : va_G} {A : Nat → Prop} {tys : List (ClassId × FieldType)} {ws : va_W} {H : Heap} {locs : List Loc} {cells slots : Nat} (S : CallFix p m c cX3_init 2 s args wsX3_init RX3) (hN : va_Nw (.methodLinkNest RX3 18 yX2_init RX3) s) (hl : ls.size = 2) (hK : va_K D vwCl tys s) (hP : va_P D vwCl ws H) (hD : va_D A ws) (hS : va_S A s.heap H locs) (hA : ∀ q, s.heap.size ≤ q → A q) (hf : cells + 4 ≤ R.cells ∧ slots + 88 ≤ R.slots) (hR : 3 ≤ R.frames ∧ 52 ≤ R.locals) (hcat : ((Value.ref 0 :: rest).map fun v => v.category).sum ≤ 8) (d1 : decode cX3_init pc = .ok (.new 16, 3)) (d2 : decode cX3_init (pc + 3) = .ok (.dup, 1)) (d3 : decode cX3_init (pc + 4) = .ok (.invokespecial 18, 3))
    (kk : ∀ (q q1 q2 q3 : Nat) (c1 c2 c3 : ClassId) (H1 : Heap) (locs1 : List Loc), va_K D vwCl [(c1, .int), (c2, .int), (c3, .int)] s → va_P D vwCl (ws ++ wdOf q q1 q2 q3 c1 c2 c3) H1 → va_D A (ws ++ wdOf q q1 q2 q3 c1 c2 c3) → va_S A s.heap H1 locs1 → W p l e R s m args below meth c H1 locs1 (cells + 4) (slots + 88) Q (F0 m (pc + 7) ls (.ref q :: rest))) : W p l e R s m args below meth c H locs cells slots Q (F0 m pc ls rest) := by
  obtain ⟨hx, hb, hml, hown, hts⟩ := id S
  refine va_new (ci := 2) (fs := wdNew) (C := RX2) (T := TX2) (N := 4) hx hb hts (by decide +kernel) tyX2 tyX2_ok hown (hts (.classLink RX3 16 RX2) (by decide +kernel)) (hts (.instantiable RX2 4) (by decide +kernel)) (hts (.initialized RX2) (by decide +kernel)) hK hP hD hS hA rfl (fun j hj => by
    have : j = 0 ∨ j = 1 ∨ j = 2 ∨ j = 3 := by omega
    rcases this with rfl | rfl | rfl | rfl <;> rfl) (by omega) (by omega) d1 (fun q H2 hP2 hD2 hS2 => ?_)
  have hq : (ws ++ [(q, .inr (2, wdNew))])[ws.length]? = some (q, .inr (2, wdNew)) := by simp
  have hlt : ∀ (k : Nat) (w : Nat × va_E), ws[k]? = some w → (ws ++ [(q, .inr (2, wdNew))])[k]? = some w := fun k w h => by
    rw [List.getElem?_append_left (List.getElem?_eq_some_iff.mp h).1]
    exact h
  have hPc : va_P D vwCl [(q, .inr (2, wdNew))] H2 := fun k w h => by
    have hk : k < 1 := (List.getElem?_eq_some_iff.mp h).1
    rw [show k = 0 by omega] at h
    cases h
    exact hP2 _ _ hq
  have hDc : va_D (fun _ => True) [(q, .inr (2, wdNew))] := ⟨fun i j x y hi hj _ => by
    have h1 : i < 1 := (List.getElem?_eq_some_iff.mp hi).1
    have h2 : j < 1 := (List.getElem?_eq_some_iff.mp hj).1
    omega, fun _ _ _ => trivial⟩
  have hqA : A q := hD2.2 _ _ hq
  have hFc : ∀ a, va_A [(q, .inr (2, wdNew))] H2.size a → A a := fun a h => by
    rcases h with ⟨k, e, h⟩ | h
    · have hk : k < 1 := (List.getElem?_eq_some_iff.mp h).1
      rw [show k = 0 by omega] at h
      cases h
      exact hqA
    · exact hA a (Nat.le_trans hS2.1 h)
  have hKc := hK.sub (tys' := []) [] rfl
  refine lv_dup hx hb d2 rfl ?_
  refine va_callv (va_runIN (As := []) (rest := .ref q :: rest) S (c_X2_init l D q H2.size) ⟨va_cnB 0 hts gX3_init_X2_init_n18 rfl rfl rfl hN (hts (.initialized RX2) (by decide +kernel)) hd_X2_init ⟨hR.1, hR.2⟩, rfl, hts (.instanceMethod yX2_init) (by decide +kernel)⟩ ⟨fun a U g mk q => by obtain ⟨q0, q1, qP, qK, qD⟩ := q; exact ⟨q0, q1, qP, va_K.moved (u := U) (U := U.calling g mk a) (Vm.Alike.refl U.vm) qK, qD⟩, fun U hU hW => ⟨rfl, by rw [hU], by rw [hU]; exact hPc, va_K.moved hW.alike hKc, hDc⟩⟩ rfl rfl hl rfl (lv_room hcat) d3 ⟨by omega, by omega⟩) hS2 (fun q _ h => hFc q h) hFc (fun u t H1 locs1 ht hvm hw hB hz1 hk1 hS3 => ?_)
  obtain ⟨q1, q2, q3, c1, c2, c3, hP1, hK1, hD1⟩ := hB
  rw [ht] at hP1
  have hK1 := va_K.moved hvm.symm hK1
  have apart : ∀ (k : Nat) (w : Nat × va_E), ws[k]? = some w → w.1 < H2.size ∧ ¬ va_A [(q, .inr (2, wdNew))] H2.size w.1 := fun k w h => by
    have hl2 := (hP2 k w (hlt k w h)).lt
    refine ⟨hl2, fun hh => ?_⟩
    rcases hh with ⟨k2, e2, h2⟩ | h2
    · have hk : k2 < 1 := (List.getElem?_eq_some_iff.mp h2).1
      rw [show k2 = 0 by omega] at h2
      have e3 : w.1 = q := by cases h2; rfl
      have := hD2.1 k ws.length w _ (hlt k w h) hq e3
      have h4 := (List.getElem?_eq_some_iff.mp h).1
      omega
    · omega
  refine W.widen (k := cells + 4) (n := slots + 88) (by omega) (by omega) ?_
  refine kk q q1 q2 q3 c1 c2 c3 H1 _ hK1 (va_P.app (fun k w h => ?_) hP1) (va_D.app hD (hD1.weaken (fun k w _ h => hFc w.1 h)) (fun i j x y hx hy hxy => ?_)) hS3
  · obtain ⟨g1, g2⟩ := apart k w h
    exact (hP2 k w (hlt k w h)).kept (hk1 w.1 g1 g2)
  · exact (apart i x hx).2 (by rw [hxy]; exact hD1.2 j y hy)
def txNew : List Value := [.null, .int 0]
def txOf (q q1 : Nat) (c1 : ClassId) : va_W := [(q, .inr (1, [.ref q1, .int 0])), (q1, .inl (c1, 60, .inl (fun _ => 0)))]
theorem hd_X1_init : yX1_init.cls ≠ "java/lang/invoke/MethodHandle" ∧ yX1_init.cls ≠ "java/lang/invoke/VarHandle" ∧ (parseMethodDescriptor yX1_init.desc).map (fun d => d.parameters.length) = some 0 := by decide +kernel
set_option maxHeartbeats 4000000 in
set_option maxRecDepth 100000 in
theorem L_newText {p : Program} {l : Launch} {e : Env} {R : Room} {s : State} {m : MethodId} {args : Array Value} {below : List Frame} {meth : Method} {c : Code} {Q : State → Prop} {pc : Nat} {ls : Array Slot} {rest : List Value} {D : va_G} {A : Nat → Prop} {tys : List (ClassId × FieldType)} {ws : va_W} {H : Heap} {locs : List Loc} {cells slots : Nat} (S : CallFix p m c cX3_init 2 s args wsX3_init RX3) (hN : va_Nw (.methodLinkNest RX3 25 yX1_init RX3) s) (hl : ls.size = 2) (hK : va_K D vwCl tys s) (hP : va_P D vwCl ws H) (hD : va_D A ws) (hS : va_S A s.heap H locs) (hA : ∀ q, s.heap.size ≤ q → A q) (hf : cells + 2 ≤ R.cells ∧ slots + 62 ≤ R.slots) (hR : 3 ≤ R.frames ∧ 52 ≤ R.locals) (hcat : ((Value.ref 0 :: rest).map fun v => v.category).sum ≤ 8) (d1 : decode cX3_init pc = .ok (.new 23, 3)) (d2 : decode cX3_init (pc + 3) = .ok (.dup, 1)) (d3 : decode cX3_init (pc + 4) = .ok (.invokespecial 25, 3))
    (kk : ∀ (q q1 : Nat) (c1 : ClassId) (H1 : Heap) (locs1 : List Loc), va_K D vwCl [(c1, .int)] s → va_P D vwCl (ws ++ txOf q q1 c1) H1 → va_D A (ws ++ txOf q q1 c1) → va_S A s.heap H1 locs1 → W p l e R s m args below meth c H1 locs1 (cells + 2) (slots + 62) Q (F0 m (pc + 7) ls (.ref q :: rest))) : W p l e R s m args below meth c H locs cells slots Q (F0 m pc ls rest) := by
  obtain ⟨hx, hb, hml, hown, hts⟩ := id S
  refine va_new (ci := 1) (fs := txNew) (C := RX1) (T := TX1) (N := 2) hx hb hts (by decide +kernel) tyX1 tyX1_ok hown (hts (.classLink RX3 23 RX1) (by decide +kernel)) (hts (.instantiable RX1 2) (by decide +kernel)) (hts (.initialized RX1) (by decide +kernel)) hK hP hD hS hA rfl (fun j hj => by
    have : j = 0 ∨ j = 1 := by omega
    rcases this with rfl | rfl <;> rfl) (by omega) (by omega) d1 (fun q H2 hP2 hD2 hS2 => ?_)
  have hq : (ws ++ [(q, .inr (1, txNew))])[ws.length]? = some (q, .inr (1, txNew)) := by simp
  have hlt : ∀ (k : Nat) (w : Nat × va_E), ws[k]? = some w → (ws ++ [(q, .inr (1, txNew))])[k]? = some w := fun k w h => by
    rw [List.getElem?_append_left (List.getElem?_eq_some_iff.mp h).1]
    exact h
  have hPc : va_P D vwCl [(q, .inr (1, txNew))] H2 := fun k w h => by
    have hk : k < 1 := (List.getElem?_eq_some_iff.mp h).1
    rw [show k = 0 by omega] at h
    cases h
    exact hP2 _ _ hq
  have hDc : va_D (fun _ => True) [(q, .inr (1, txNew))] := ⟨fun i j x y hi hj _ => by
    have h1 : i < 1 := (List.getElem?_eq_some_iff.mp hi).1
    have h2 : j < 1 := (List.getElem?_eq_some_iff.mp hj).1
    omega, fun _ _ _ => trivial⟩
  have hqA : A q := hD2.2 _ _ hq
  have hFc : ∀ a, va_A [(q, .inr (1, txNew))] H2.size a → A a := fun a h => by
    rcases h with ⟨k, e, h⟩ | h
    · have hk : k < 1 := (List.getElem?_eq_some_iff.mp h).1
      rw [show k = 0 by omega] at h
      cases h
      exact hqA
    · exact hA a (Nat.le_trans hS2.1 h)
  have hKc := hK.sub (tys' := []) [] rfl
  refine lv_dup hx hb d2 rfl ?_
  refine va_callv (va_runIN (As := []) (rest := .ref q :: rest) S (c_X1_init l D q H2.size) ⟨va_cnB 0 hts gX3_init_X1_init_n25 rfl rfl rfl hN (hts (.initialized RX1) (by decide +kernel)) hd_X1_init ⟨hR.1, hR.2⟩, rfl, hts (.instanceMethod yX1_init) (by decide +kernel)⟩ ⟨fun a U g mk q => by obtain ⟨q0, q1, qP, qK, qD⟩ := q; exact ⟨q0, q1, qP, va_K.moved (u := U) (U := U.calling g mk a) (Vm.Alike.refl U.vm) qK, qD⟩, fun U hU hW => ⟨rfl, by rw [hU], by rw [hU]; exact hPc, va_K.moved hW.alike hKc, hDc⟩⟩ rfl rfl hl rfl (lv_room hcat) d3 ⟨by omega, by omega⟩) hS2 (fun q _ h => hFc q h) hFc (fun u t H1 locs1 ht hvm hw hB hz1 hk1 hS3 => ?_)
  obtain ⟨q1, c1, hP1, hK1, hD1⟩ := hB
  rw [ht] at hP1
  have hK1 := va_K.moved hvm.symm hK1
  have apart : ∀ (k : Nat) (w : Nat × va_E), ws[k]? = some w → w.1 < H2.size ∧ ¬ va_A [(q, .inr (1, txNew))] H2.size w.1 := fun k w h => by
    have hl2 := (hP2 k w (hlt k w h)).lt
    refine ⟨hl2, fun hh => ?_⟩
    rcases hh with ⟨k2, e2, h2⟩ | h2
    · have hk : k2 < 1 := (List.getElem?_eq_some_iff.mp h2).1
      rw [show k2 = 0 by omega] at h2
      have e3 : w.1 = q := by cases h2; rfl
      have := hD2.1 k ws.length w _ (hlt k w h) hq e3
      have h4 := (List.getElem?_eq_some_iff.mp h).1
      omega
    · omega
  refine W.widen (k := cells + 2) (n := slots + 62) (by omega) (by omega) ?_
  refine kk q q1 c1 H1 _ hK1 (va_P.app (fun k w h => ?_) hP1) (va_D.app hD (hD1.weaken (fun k w _ h => hFc w.1 h)) (fun i j x y hx hy hxy => ?_)) hS3
  · obtain ⟨g1, g2⟩ := apart k w h
    exact (hP2 k w (hlt k w h)).kept (hk1 w.1 g1 g2)
  · exact (apart i x hx).2 (by rw [hxy]; exact hD1.2 j y hy)
