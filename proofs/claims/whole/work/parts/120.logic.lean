/-! THE LOGIC LAYER: worlds whose cells are named by roles; one judgement Zj for a walk inside a method, with the locals and the world in it; contracts zMr (nothing written) and zMw (the world goes from one picture to another) -/
def zw_ws (n : Nat) (ad : Nat → Nat) (cell : Nat → va_E) : va_W := (List.range n).map (fun r => (ad r, cell r))
theorem zw_len {n : Nat} {ad : Nat → Nat} {cell : Nat → va_E} : (zw_ws n ad cell).length = n := by simp [zw_ws]
theorem zw_get {n : Nat} {ad : Nat → Nat} {cell : Nat → va_E} {r : Nat} (h : r < n) {e : va_E} (he : cell r = e) : (zw_ws n ad cell)[r]? = some (ad r, e) := by
  subst he
  simp [zw_ws, h]
def zw_A (n : Nat) (ad : Nat → Nat) : Nat → Prop := fun q => ∃ r, r < n ∧ q = ad r
def zw_inj (n : Nat) (ad : Nat → Nat) : Prop := ∀ i j, i < n → j < n → ad i = ad j → i = j
theorem zw_key {n : Nat} {ad : Nat → Nat} {cell : Nat → va_E} {k : Nat} {q : Nat × va_E} (hk : (zw_ws n ad cell)[k]? = some q) : k < n ∧ q = (ad k, cell k) := by
  have hl : k < n := by
    have h1 := (List.getElem?_eq_some_iff.mp hk).1
    rw [zw_len] at h1
    exact h1
  rw [zw_get hl rfl] at hk
  cases hk
  exact ⟨hl, rfl⟩
theorem zw_D {n : Nat} {ad : Nat → Nat} {cell : Nat → va_E} (h : zw_inj n ad) : va_D (zw_A n ad) (zw_ws n ad cell) := by
  refine ⟨fun i j p q hi hj e => ?_, fun k q hk => ?_⟩
  · obtain ⟨a1, rfl⟩ := zw_key hi
    obtain ⟨b1, rfl⟩ := zw_key hj
    exact h i j a1 b1 e
  · obtain ⟨a1, rfl⟩ := zw_key hk
    exact ⟨k, a1, rfl⟩
theorem zw_set {n : Nat} {ad : Nat → Nat} {cell cell' : Nat → va_E} {r : Nat} {e : va_E} (h : r < n) (hc : ∀ j, j < n → cell' j = if j = r then e else cell j) : (zw_ws n ad cell).set r (ad r, e) = zw_ws n ad cell' := by
  apply List.ext_getElem?
  intro i
  by_cases hi : i < n
  · rw [zw_get hi (hc i hi)]
    by_cases hr : i = r
    · subst hr
      rw [List.getElem?_set_self (by rw [zw_len]; exact hi), if_pos rfl]
    · rw [List.getElem?_set_ne (Ne.symm hr), zw_get hi rfl, if_neg hr]
  · rw [List.getElem?_eq_none (by rw [List.length_set, zw_len]; omega), List.getElem?_eq_none (by rw [zw_len]; omega)]
abbrev zE : Type := (Nat → Nat) × ClassId × ClassId × ClassId
def zK (D : va_G) (X : zE) (U : State) : Prop := va_K D vwCl [(X.2.1, .int), (X.2.2.1, .boolean), (X.2.2.2, .object "SoldLetters$State")] U ∧ va_Nw (.methodLinkNest RX1 19 yX3_isLetter RX3) U ∧ va_Nw (.methodLinkNest RX0 60 yX3_isNumber RX3) U
theorem zK.warm {D : va_G} {X : zE} {s U : State} (hW : s.WarmedH U.vm) (h : zK D X s) : zK D X U := ⟨va_K.moved hW.alike h.1, va_Nw.warmM hW h.2.1, va_Nw.warmM hW h.2.2⟩
theorem zK.same {D : va_G} {X : zE} {s U : State} (e : s.vm = U.vm) (h : zK D X s) : zK D X U := ⟨va_K.moved (by rw [e]; exact Vm.Alike.refl _) h.1, va_Nw.same rfl e h.2.1, va_Nw.same rfl e h.2.2⟩
def zG (w : Bool) (D : va_G) (n : Nat) (X : zE) (s : State) (cell : Nat → va_E) (H : Heap) (locs : List Loc) : Prop := va_P D vwCl (zw_ws n X.1 cell) H ∧ va_S (zw_A n X.1) s.heap H locs ∧ (w = false → H = s.heap ∧ locs = [])
def Zj (w : Bool) (D : va_G) (n : Nat) (X : zE) (p : Program) (l : Launch) (e : Env) (R : Room) (s : State) (m : MethodId) (args : Array Value) (below : List Frame) (meth : Method) (c : Code) (Q : State → Prop) (nL : Nat) (pc : Nat) (lv : List (Nat × Value)) (st : List Value) (cell : Nat → va_E) : Prop :=
  ∀ (ls : Array Slot) (H : Heap) (locs : List Loc), lv_has ls nL lv → zG w D n X s cell H locs → W p l e R s m args below meth c H locs 0 0 Q (F0 m pc ls st)
def zS (p : Program) (m : MethodId) (meth : Method) (c : Code) (cc : ByteArray) (nL : Nat) (ret : Option FieldType) (s : State) (args : Array Value) (Ts : List Cond) (own : String) (D : va_G) (n : Nat) (X : zE) : Prop :=
  CallFix p m c cc nL s args Ts own ∧ zK D X s ∧ zw_inj n X.1 ∧ meth.sig.returnType = ret ∧ meth.locks = false
def zQr (v : Option Value) : Array Value → State → Outcome → State → Prop := fun _ st o t => o = .returned v ∧ t.heap = st.heap
def zQw (D : va_G) (n : Nat) (X : zE) (cell' : Nat → va_E) (v : Option Value) : Array Value → State → Outcome → State → Prop := fun _ st o t => o = .returned v ∧ va_P D vwCl (zw_ws n X.1 cell') t.heap ∧ va_F (zw_A n X.1) st t
def zPc (D : va_G) (n : Nat) (X : zE) (cell : Nat → va_E) (av : List Value) : Array Value → State → Prop := va_Pc av (fun U => va_P D vwCl (zw_ws n X.1 cell) U.heap ∧ zK D X U)
def zMr (l : Launch) (y : MethodName) (ws : List Cond) (rm : Room) (D : va_G) (n : Nat) (X : zE) (cell : Nat → va_E) (av : List Value) (v : Option Value) : Prop := Met l y ws rm (zPc D n X cell av) (zQr v) 0 0 (fun _ => False)
def zMw (l : Launch) (y : MethodName) (ws : List Cond) (rm : Room) (D : va_G) (n : Nat) (X : zE) (cell : Nat → va_E) (av : List Value) (v : Option Value) (cell' : Nat → va_E) : Prop := Met l y ws rm (zPc D n X cell av) (zQw D n X cell' v) 0 0 (zw_A n X.1)
theorem zPc_blind {D : va_G} {n : Nat} {X : zE} {cell : Nat → va_E} {av : List Value} : FrameBlind (zPc D n X cell av) := fun a U g mk q => ⟨q.1, q.2.1, zK.same (s := U) rfl q.2.2⟩
def zrm (f lo : Nat) : Room := { frames := f, cells := 0, slots := 0, locals := lo }
theorem z_start_r {l : Launch} {y : MethodName} {ws ws' : List Cond} {f lo : Nat} {cc : ByteArray} {maxL : Nat} {ret : Option FieldType} {D : va_G} {n : Nat} {X : zE} {cell : Nat → va_E} {av : List Value} {v : Option Value} (hy : plainName y.cls = true) (hw : ws = Cond.code y cc maxL ret :: ws') (hlen : (lg_sl av).length ≤ maxL) (hinj : zw_inj n X.1)
    (body : ∀ (p : Program) (e : Env) (s : State) (m : MethodId) (below : List Frame) (meth : Method) (c : Code), zS p m meth c cc maxL ret s av.toArray ws y.cls D n X → Zj false D n X p l e (zrm f lo) s m av.toArray below meth c (MQ below (zQr v) av.toArray s 0 0 (fun _ => False)) maxL 0 (lv_args 0 av) [] cell) : zMr l y ws (zrm f lo) D n X cell av v := by
  refine Met.ofW (cc := cc) (maxL := maxL) (ret := ret) hy hw ?_
  intro p e s m args below meth c s₁ B hml hv
  obtain ⟨rfl, hP, hK⟩ := hv
  rw [lg_entry_eq]
  exact body p e s m below meth c ⟨⟨B.exec, B.bytes, hml, findClass_of_methodNamed B.named, atoms_spec (ws := ws) B.pre⟩, hK, hinj, B.returns, B.notSynchronized⟩ _ s.heap [] (lv_entry av hlen) ⟨hP, va_S.rf, fun _ => ⟨rfl, rfl⟩⟩
theorem z_start_w {l : Launch} {y : MethodName} {ws ws' : List Cond} {f lo : Nat} {cc : ByteArray} {maxL : Nat} {ret : Option FieldType} {D : va_G} {n : Nat} {X : zE} {cell cell' : Nat → va_E} {av : List Value} {v : Option Value} (hy : plainName y.cls = true) (hw : ws = Cond.code y cc maxL ret :: ws') (hlen : (lg_sl av).length ≤ maxL) (hinj : zw_inj n X.1)
    (body : ∀ (p : Program) (e : Env) (s : State) (m : MethodId) (below : List Frame) (meth : Method) (c : Code), zS p m meth c cc maxL ret s av.toArray ws y.cls D n X → Zj true D n X p l e (zrm f lo) s m av.toArray below meth c (MQ below (zQw D n X cell' v) av.toArray s 0 0 (zw_A n X.1)) maxL 0 (lv_args 0 av) [] cell) : zMw l y ws (zrm f lo) D n X cell av v cell' := by
  refine Met.ofW (cc := cc) (maxL := maxL) (ret := ret) hy hw ?_
  intro p e s m args below meth c s₁ B hml hv
  obtain ⟨rfl, hP, hK⟩ := hv
  rw [lg_entry_eq]
  exact body p e s m below meth c ⟨⟨B.exec, B.bytes, hml, findClass_of_methodNamed B.named, atoms_spec (ws := ws) B.pre⟩, hK, hinj, B.returns, B.notSynchronized⟩ _ s.heap [] (lv_entry av hlen) ⟨hP, va_S.rf, fun h => by cases h⟩
section ZR
variable {w : Bool} {D : va_G} {n : Nat} {X : zE} {p : Program} {l : Launch} {e : Env} {R : Room} {s : State} {m : MethodId} {args : Array Value} {below : List Frame} {meth : Method} {c : Code} {Q : State → Prop} {nL nM pc : Nat} {lv lv' : List (Nat × Value)} {st : List Value} {cell : Nat → va_E}
variable {cc : ByteArray} {ret : Option FieldType} {Ts : List Cond} {own : String} {ρ : Type} {r : ρ} {A B : Option ρ}
theorem z_lv (ks : List Nat) (hl : lv_pick lv ks = lv') (k : Zj w D n X p l e R s m args below meth c Q nL pc lv' st cell) : Zj w D n X p l e R s m args below meth c Q nL pc lv st cell := fun ls H locs h hg => k ls H locs (lv_sub h ks hl) hg
theorem z_iconst (S : zS p m meth c cc nM ret s args Ts own D n X) {i : Int} {v : Int32} (hd : decode cc pc = .ok (.iconst i, 1)) (hv : Int32.ofInt i = v) (k : Zj w D n X p l e R s m args below meth c Q nL (pc + 1) lv (.int v :: st) cell) : Zj w D n X p l e R s m args below meth c Q nL pc lv st cell := fun ls H locs h hg => lv_iconst S.1.1 S.1.2.1 hd hv (k ls H locs h hg)
theorem z_bipush (S : zS p m meth c cc nM ret s args Ts own D n X) {i : Int} {v : Int32} (hd : decode cc pc = .ok (.bipush i, 2)) (hv : (Int8.ofInt i).toInt32 = v) (k : Zj w D n X p l e R s m args below meth c Q nL (pc + 2) lv (.int v :: st) cell) : Zj w D n X p l e R s m args below meth c Q nL pc lv st cell := fun ls H locs h hg => lv_bipush S.1.1 S.1.2.1 hd hv (k ls H locs h hg)
theorem z_sipush (S : zS p m meth c cc nM ret s args Ts own D n X) {i : Int} {v : Int32} (hd : decode cc pc = .ok (.sipush i, 3)) (hv : (Int16.ofInt i).toInt32 = v) (k : Zj w D n X p l e R s m args below meth c Q nL (pc + 3) lv (.int v :: st) cell) : Zj w D n X p l e R s m args below meth c Q nL pc lv st cell := fun ls H locs h hg => lv_sipush S.1.1 S.1.2.1 hd hv (k ls H locs h hg)
theorem z_lconst (S : zS p m meth c cc nM ret s args Ts own D n X) {i : Fin 2} {v : Int64} (hd : decode cc pc = .ok (.lconst i, 1)) (hv : Int64.ofNat (i : Nat) = v) (k : Zj w D n X p l e R s m args below meth c Q nL (pc + 1) lv (.long v :: st) cell) : Zj w D n X p l e R s m args below meth c Q nL pc lv st cell := fun ls H locs h hg => lv_lconst S.1.1 S.1.2.1 hd hv (k ls H locs h hg)
theorem z_ldc (S : zS p m meth c cc nM ret s args Ts own D n X) {index : Nat} {v : Int32} (hc : Jvm.Cond.constant own index v ∈ Ts) (hd : decode cc pc = .ok (.ldc index, 2)) (k : Zj w D n X p l e R s m args below meth c Q nL (pc + 2) lv (.int v :: st) cell) : Zj w D n X p l e R s m args below meth c Q nL pc lv st cell := fun ls H locs h hg => lv_ldc S.1.1 S.1.2.1 S.1.2.2.2.1 (S.1.2.2.2.2 _ hc) hd (k ls H locs h hg)
theorem z_ldcw (S : zS p m meth c cc nM ret s args Ts own D n X) {index : Nat} {v : Int32} (hc : Jvm.Cond.constant own index v ∈ Ts) (hd : decode cc pc = .ok (.ldc_w index, 3)) (k : Zj w D n X p l e R s m args below meth c Q nL (pc + 3) lv (.int v :: st) cell) : Zj w D n X p l e R s m args below meth c Q nL pc lv st cell := fun ls H locs h hg => lv_ldcw S.1.1 S.1.2.1 S.1.2.2.2.1 (S.1.2.2.2.2 _ hc) hd (k ls H locs h hg)
theorem z_ldc2 (S : zS p m meth c cc nM ret s args Ts own D n X) {index : Nat} {v : Int64} (hc : Jvm.Cond.constantLong own index v ∈ Ts) (hd : decode cc pc = .ok (.ldc2_w index, 3)) (k : Zj w D n X p l e R s m args below meth c Q nL (pc + 3) lv (.long v :: st) cell) : Zj w D n X p l e R s m args below meth c Q nL pc lv st cell := fun ls H locs h hg => lv_ldc2 S.1.1 S.1.2.1 S.1.2.2.2.1 (S.1.2.2.2.2 _ hc) hd (k ls H locs h hg)
theorem z_iload_n (S : zS p m meth c cc nM ret s args Ts own D n X) (q : Nat) {k : Fin 4} {i : Nat} {x : Int32} (hd : decode cc pc = .ok (.iload_n k, 1)) (hi : (k : Nat) = i) (hq : lv[q]? = some (i, .int x)) (kk : Zj w D n X p l e R s m args below meth c Q nL (pc + 1) lv (.int x :: st) cell) : Zj w D n X p l e R s m args below meth c Q nL pc lv st cell := fun ls H locs h hg => lv_iload_n S.1.1 S.1.2.1 hd hi (lv_at h q hq) (kk ls H locs h hg)
theorem z_iload (S : zS p m meth c cc nM ret s args Ts own D n X) (q : Nat) {i : Nat} {x : Int32} (hd : decode cc pc = .ok (.iload i, 2)) (hq : lv[q]? = some (i, .int x)) (kk : Zj w D n X p l e R s m args below meth c Q nL (pc + 2) lv (.int x :: st) cell) : Zj w D n X p l e R s m args below meth c Q nL pc lv st cell := fun ls H locs h hg => lv_iload S.1.1 S.1.2.1 hd (lv_at h q hq) (kk ls H locs h hg)
theorem z_lload_n (S : zS p m meth c cc nM ret s args Ts own D n X) (q : Nat) {k : Fin 4} {i : Nat} {x : Int64} (hd : decode cc pc = .ok (.lload_n k, 1)) (hi : (k : Nat) = i) (hq : lv[q]? = some (i, .long x)) (kk : Zj w D n X p l e R s m args below meth c Q nL (pc + 1) lv (.long x :: st) cell) : Zj w D n X p l e R s m args below meth c Q nL pc lv st cell := fun ls H locs h hg => lv_lload_n S.1.1 S.1.2.1 hd hi (lv_at h q hq) (kk ls H locs h hg)
theorem z_lload (S : zS p m meth c cc nM ret s args Ts own D n X) (q : Nat) {i : Nat} {x : Int64} (hd : decode cc pc = .ok (.lload i, 2)) (hq : lv[q]? = some (i, .long x)) (kk : Zj w D n X p l e R s m args below meth c Q nL (pc + 2) lv (.long x :: st) cell) : Zj w D n X p l e R s m args below meth c Q nL pc lv st cell := fun ls H locs h hg => lv_lload S.1.1 S.1.2.1 hd (lv_at h q hq) (kk ls H locs h hg)
theorem z_aload_n (S : zS p m meth c cc nM ret s args Ts own D n X) (q : Nat) {k : Fin 4} {i x : Nat} (hd : decode cc pc = .ok (.aload_n k, 1)) (hi : (k : Nat) = i) (hq : lv[q]? = some (i, .ref x)) (kk : Zj w D n X p l e R s m args below meth c Q nL (pc + 1) lv (.ref x :: st) cell) : Zj w D n X p l e R s m args below meth c Q nL pc lv st cell := fun ls H locs h hg => lv_aload_n S.1.1 S.1.2.1 hd hi (lv_at h q hq) (kk ls H locs h hg)
theorem z_aload (S : zS p m meth c cc nM ret s args Ts own D n X) (q : Nat) {i x : Nat} (hd : decode cc pc = .ok (.aload i, 2)) (hq : lv[q]? = some (i, .ref x)) (kk : Zj w D n X p l e R s m args below meth c Q nL (pc + 2) lv (.ref x :: st) cell) : Zj w D n X p l e R s m args below meth c Q nL pc lv st cell := fun ls H locs h hg => lv_aload S.1.1 S.1.2.1 hd (lv_at h q hq) (kk ls H locs h hg)
theorem z_istore_n (S : zS p m meth c cc nM ret s args Ts own D n X) {k : Fin 4} {i : Nat} {x : Int32} (lv' : List (Nat × Value)) (hd : decode cc pc = .ok (.istore_n k, 1)) (hi : (k : Nat) = i) (hn : i < nL) (hl : (i, Value.int x) :: lv.filter (fun q => !(q.1 == i) && !(q.1 + 1 == i && q.2.category == 2)) = lv') (kk : Zj w D n X p l e R s m args below meth c Q nL (pc + 1) lv' st cell) : Zj w D n X p l e R s m args below meth c Q nL pc lv (.int x :: st) cell := fun ls H locs h hg => lv_istore_n S.1.1 S.1.2.1 hd hi h hn hl (fun ls' h' => kk ls' H locs h' hg)
theorem z_istore (S : zS p m meth c cc nM ret s args Ts own D n X) {i : Nat} {x : Int32} (lv' : List (Nat × Value)) (hd : decode cc pc = .ok (.istore i, 2)) (hn : i < nL) (hl : (i, Value.int x) :: lv.filter (fun q => !(q.1 == i) && !(q.1 + 1 == i && q.2.category == 2)) = lv') (kk : Zj w D n X p l e R s m args below meth c Q nL (pc + 2) lv' st cell) : Zj w D n X p l e R s m args below meth c Q nL pc lv (.int x :: st) cell := fun ls H locs h hg => lv_istore S.1.1 S.1.2.1 hd h hn hl (fun ls' h' => kk ls' H locs h' hg)
theorem z_astore_n (S : zS p m meth c cc nM ret s args Ts own D n X) {k : Fin 4} {i x : Nat} (lv' : List (Nat × Value)) (hd : decode cc pc = .ok (.astore_n k, 1)) (hi : (k : Nat) = i) (hn : i < nL) (hl : (i, Value.ref x) :: lv.filter (fun q => !(q.1 == i) && !(q.1 + 1 == i && q.2.category == 2)) = lv') (kk : Zj w D n X p l e R s m args below meth c Q nL (pc + 1) lv' st cell) : Zj w D n X p l e R s m args below meth c Q nL pc lv (.ref x :: st) cell := fun ls H locs h hg => lv_astore_n S.1.1 S.1.2.1 hd hi h hn hl (fun ls' h' => kk ls' H locs h' hg)
theorem z_iinc (S : zS p m meth c cc nM ret s args Ts own D n X) (q : Nat) {i : Nat} {a : Int} {x v : Int32} (lv' : List (Nat × Value)) (hd : decode cc pc = .ok (.iinc i a, 3)) (hq : lv[q]? = some (i, .int x)) (hv : x + Int32.ofInt a = v) (hn : i < nL) (hl : (i, Value.int v) :: lv.filter (fun q => !(q.1 == i) && !(q.1 + 1 == i && q.2.category == 2)) = lv') (kk : Zj w D n X p l e R s m args below meth c Q nL (pc + 3) lv' st cell) : Zj w D n X p l e R s m args below meth c Q nL pc lv st cell := fun ls H locs h hg => lv_iinc S.1.1 S.1.2.1 hd h hq hv hn hl (fun ls' h' => kk ls' H locs h' hg)
theorem z_iadd (S : zS p m meth c cc nM ret s args Ts own D n X) {x y : Int32} (hd : decode cc pc = .ok (.iadd, 1)) (k : Zj w D n X p l e R s m args below meth c Q nL (pc + 1) lv (.int (x + y) :: st) cell) : Zj w D n X p l e R s m args below meth c Q nL pc lv (.int y :: .int x :: st) cell := fun ls H locs h hg => lv_iadd S.1.1 S.1.2.1 hd (k ls H locs h hg)
theorem z_isub (S : zS p m meth c cc nM ret s args Ts own D n X) {x y : Int32} (hd : decode cc pc = .ok (.isub, 1)) (k : Zj w D n X p l e R s m args below meth c Q nL (pc + 1) lv (.int (x - y) :: st) cell) : Zj w D n X p l e R s m args below meth c Q nL pc lv (.int y :: .int x :: st) cell := fun ls H locs h hg => lv_isub S.1.1 S.1.2.1 hd (k ls H locs h hg)
theorem z_imul (S : zS p m meth c cc nM ret s args Ts own D n X) {x y : Int32} (hd : decode cc pc = .ok (.imul, 1)) (k : Zj w D n X p l e R s m args below meth c Q nL (pc + 1) lv (.int (x * y) :: st) cell) : Zj w D n X p l e R s m args below meth c Q nL pc lv (.int y :: .int x :: st) cell := fun ls H locs h hg => lv_imul S.1.1 S.1.2.1 hd (k ls H locs h hg)
theorem z_iand (S : zS p m meth c cc nM ret s args Ts own D n X) {x y : Int32} (hd : decode cc pc = .ok (.iand, 1)) (k : Zj w D n X p l e R s m args below meth c Q nL (pc + 1) lv (.int (x &&& y) :: st) cell) : Zj w D n X p l e R s m args below meth c Q nL pc lv (.int y :: .int x :: st) cell := fun ls H locs h hg => lv_iand S.1.1 S.1.2.1 hd (k ls H locs h hg)
theorem z_ior (S : zS p m meth c cc nM ret s args Ts own D n X) {x y : Int32} (hd : decode cc pc = .ok (.ior, 1)) (k : Zj w D n X p l e R s m args below meth c Q nL (pc + 1) lv (.int (x ||| y) :: st) cell) : Zj w D n X p l e R s m args below meth c Q nL pc lv (.int y :: .int x :: st) cell := fun ls H locs h hg => lv_ior S.1.1 S.1.2.1 hd (k ls H locs h hg)
theorem z_ixor (S : zS p m meth c cc nM ret s args Ts own D n X) {x y : Int32} (hd : decode cc pc = .ok (.ixor, 1)) (k : Zj w D n X p l e R s m args below meth c Q nL (pc + 1) lv (.int (x ^^^ y) :: st) cell) : Zj w D n X p l e R s m args below meth c Q nL pc lv (.int y :: .int x :: st) cell := fun ls H locs h hg => lv_ixor S.1.1 S.1.2.1 hd (k ls H locs h hg)
theorem z_ishl (S : zS p m meth c cc nM ret s args Ts own D n X) {x y : Int32} (hd : decode cc pc = .ok (.ishl, 1)) (k : Zj w D n X p l e R s m args below meth c Q nL (pc + 1) lv (.int (x <<< (y &&& 31)) :: st) cell) : Zj w D n X p l e R s m args below meth c Q nL pc lv (.int y :: .int x :: st) cell := fun ls H locs h hg => lv_ishl S.1.1 S.1.2.1 hd (k ls H locs h hg)
theorem z_iushr (S : zS p m meth c cc nM ret s args Ts own D n X) {x y : Int32} (hd : decode cc pc = .ok (.iushr, 1)) (k : Zj w D n X p l e R s m args below meth c Q nL (pc + 1) lv (.int ((x.toUInt32 >>> (y.toUInt32 &&& Int32.toUInt32 31)).toInt32) :: st) cell) : Zj w D n X p l e R s m args below meth c Q nL pc lv (.int y :: .int x :: st) cell := fun ls H locs h hg => lv_iushr S.1.1 S.1.2.1 hd rfl (k ls H locs h hg)
theorem z_idiv (S : zS p m meth c cc nM ret s args Ts own D n X) {x y : Int32} (hd : decode cc pc = .ok (.idiv, 1)) (hne : ¬ y = 0) (k : Zj w D n X p l e R s m args below meth c Q nL (pc + 1) lv (.int (x / y) :: st) cell) : Zj w D n X p l e R s m args below meth c Q nL pc lv (.int y :: .int x :: st) cell := fun ls H locs h hg => lv_idiv S.1.1 S.1.2.1 hd hne (k ls H locs h hg)
theorem z_irem (S : zS p m meth c cc nM ret s args Ts own D n X) {x y : Int32} (hd : decode cc pc = .ok (.irem, 1)) (hne : ¬ y = 0) (k : Zj w D n X p l e R s m args below meth c Q nL (pc + 1) lv (.int (x - x / y * y) :: st) cell) : Zj w D n X p l e R s m args below meth c Q nL pc lv (.int y :: .int x :: st) cell := fun ls H locs h hg => lv_irem S.1.1 S.1.2.1 hd hne (k ls H locs h hg)
theorem z_lsub (S : zS p m meth c cc nM ret s args Ts own D n X) {x y : Int64} (hd : decode cc pc = .ok (.lsub, 1)) (k : Zj w D n X p l e R s m args below meth c Q nL (pc + 1) lv (.long (x - y) :: st) cell) : Zj w D n X p l e R s m args below meth c Q nL pc lv (.long y :: .long x :: st) cell := fun ls H locs h hg => lv_lsub S.1.1 S.1.2.1 hd (k ls H locs h hg)
theorem z_lcmp (S : zS p m meth c cc nM ret s args Ts own D n X) {x y : Int64} (hd : decode cc pc = .ok (.lcmp, 1)) (k : Zj w D n X p l e R s m args below meth c Q nL (pc + 1) lv (.int (lg_cmp x y) :: st) cell) : Zj w D n X p l e R s m args below meth c Q nL pc lv (.long y :: .long x :: st) cell := fun ls H locs h hg => W.lcmp S.1.1 S.1.2.1 hd (k ls H locs h hg)
theorem z_i2l (S : zS p m meth c cc nM ret s args Ts own D n X) {x : Int32} (hd : decode cc pc = .ok (.i2l, 1)) (k : Zj w D n X p l e R s m args below meth c Q nL (pc + 1) lv (.long x.toInt64 :: st) cell) : Zj w D n X p l e R s m args below meth c Q nL pc lv (.int x :: st) cell := fun ls H locs h hg => lv_i2l S.1.1 S.1.2.1 hd rfl (k ls H locs h hg)
theorem z_dup (S : zS p m meth c cc nM ret s args Ts own D n X) {v : Value} (hd : decode cc pc = .ok (.dup, 1)) (hv : v.category = 1) (k : Zj w D n X p l e R s m args below meth c Q nL (pc + 1) lv (v :: v :: st) cell) : Zj w D n X p l e R s m args below meth c Q nL pc lv (v :: st) cell := fun ls H locs h hg => lv_dup S.1.1 S.1.2.1 hd hv (k ls H locs h hg)
theorem z_dup2 (S : zS p m meth c cc nM ret s args Ts own D n X) {v u : Value} (hd : decode cc pc = .ok (.dup2, 1)) (hv : v.category = 1) (hu : u.category = 1) (k : Zj w D n X p l e R s m args below meth c Q nL (pc + 1) lv (v :: u :: v :: u :: st) cell) : Zj w D n X p l e R s m args below meth c Q nL pc lv (v :: u :: st) cell := fun ls H locs h hg => lv_dup2_11 S.1.1 S.1.2.1 hd hv hu (k ls H locs h hg)
theorem z_goto (S : zS p m meth c cc nM ret s args Ts own D n X) {off : Int} {tgt : Nat} (hd : decode cc pc = .ok (.goto off, 3)) (ht : (pc : Int) + off = (tgt : Int)) (k : Zj w D n X p l e R s m args below meth c Q nL tgt lv st cell) : Zj w D n X p l e R s m args below meth c Q nL pc lv st cell := fun ls H locs h hg => lv_goto S.1.1 S.1.2.1 hd ht (k ls H locs h hg)
theorem zif {P : Prop} [Decidable P] (h : (if P then A else B) = some r) : (P → A = some r) ∧ (¬ P → B = some r) := ⟨fun q => by rw [if_pos q] at h; exact h, fun q => by rw [if_neg q] at h; exact h⟩
theorem z_if_eq (S : zS p m meth c cc nM ret s args Ts own D n X) {x : Int32} {off : Int} {tgt : Nat} (hd : decode cc pc = .ok (.ifCond .eq off, 3)) (ht : (pc : Int) + off = (tgt : Int)) (h : (if x = nI 0 then A else B) = some r) (k1 : A = some r → Zj w D n X p l e R s m args below meth c Q nL tgt lv st cell) (k2 : B = some r → Zj w D n X p l e R s m args below meth c Q nL (pc + 3) lv st cell) : Zj w D n X p l e R s m args below meth c Q nL pc lv (.int x :: st) cell := fun ls H locs hl hg => lv_if_eq S.1.1 S.1.2.1 hd ht (fun q => k1 ((zif h).1 q) ls H locs hl hg) (fun q => k2 ((zif h).2 q) ls H locs hl hg)
theorem z_if_ne (S : zS p m meth c cc nM ret s args Ts own D n X) {x : Int32} {off : Int} {tgt : Nat} (hd : decode cc pc = .ok (.ifCond .ne off, 3)) (ht : (pc : Int) + off = (tgt : Int)) (h : (if x = nI 0 then B else A) = some r) (k1 : A = some r → Zj w D n X p l e R s m args below meth c Q nL tgt lv st cell) (k2 : B = some r → Zj w D n X p l e R s m args below meth c Q nL (pc + 3) lv st cell) : Zj w D n X p l e R s m args below meth c Q nL pc lv (.int x :: st) cell := fun ls H locs hl hg => lv_if_ne S.1.1 S.1.2.1 hd ht (fun q => k1 ((zif h).2 q) ls H locs hl hg) (fun q => k2 ((zif h).1 q) ls H locs hl hg)
theorem z_if_lt (S : zS p m meth c cc nM ret s args Ts own D n X) {x : Int32} {off : Int} {tgt : Nat} (hd : decode cc pc = .ok (.ifCond .lt off, 3)) (ht : (pc : Int) + off = (tgt : Int)) (h : (if x < nI 0 then A else B) = some r) (k1 : A = some r → Zj w D n X p l e R s m args below meth c Q nL tgt lv st cell) (k2 : B = some r → Zj w D n X p l e R s m args below meth c Q nL (pc + 3) lv st cell) : Zj w D n X p l e R s m args below meth c Q nL pc lv (.int x :: st) cell := fun ls H locs hl hg => lv_if_lt S.1.1 S.1.2.1 hd ht (fun q => k1 ((zif h).1 q) ls H locs hl hg) (fun q => k2 ((zif h).2 q) ls H locs hl hg)
theorem z_if_le (S : zS p m meth c cc nM ret s args Ts own D n X) {x : Int32} {off : Int} {tgt : Nat} (hd : decode cc pc = .ok (.ifCond .le off, 3)) (ht : (pc : Int) + off = (tgt : Int)) (h : (if x ≤ nI 0 then A else B) = some r) (k1 : A = some r → Zj w D n X p l e R s m args below meth c Q nL tgt lv st cell) (k2 : B = some r → Zj w D n X p l e R s m args below meth c Q nL (pc + 3) lv st cell) : Zj w D n X p l e R s m args below meth c Q nL pc lv (.int x :: st) cell := fun ls H locs hl hg => lv_if_le S.1.1 S.1.2.1 hd ht (fun q => k1 ((zif h).1 q) ls H locs hl hg) (fun q => k2 ((zif h).2 q) ls H locs hl hg)
theorem z_if_gt (S : zS p m meth c cc nM ret s args Ts own D n X) {x : Int32} {off : Int} {tgt : Nat} (hd : decode cc pc = .ok (.ifCond .gt off, 3)) (ht : (pc : Int) + off = (tgt : Int)) (h : (if nI 0 < x then A else B) = some r) (k1 : A = some r → Zj w D n X p l e R s m args below meth c Q nL tgt lv st cell) (k2 : B = some r → Zj w D n X p l e R s m args below meth c Q nL (pc + 3) lv st cell) : Zj w D n X p l e R s m args below meth c Q nL pc lv (.int x :: st) cell := fun ls H locs hl hg => lv_if_gt S.1.1 S.1.2.1 hd ht (fun q => k1 ((zif h).1 q) ls H locs hl hg) (fun q => k2 ((zif h).2 q) ls H locs hl hg)
theorem z_if_ge (S : zS p m meth c cc nM ret s args Ts own D n X) {x : Int32} {off : Int} {tgt : Nat} (hd : decode cc pc = .ok (.ifCond .ge off, 3)) (ht : (pc : Int) + off = (tgt : Int)) (h : (if nI 0 ≤ x then A else B) = some r) (k1 : A = some r → Zj w D n X p l e R s m args below meth c Q nL tgt lv st cell) (k2 : B = some r → Zj w D n X p l e R s m args below meth c Q nL (pc + 3) lv st cell) : Zj w D n X p l e R s m args below meth c Q nL pc lv (.int x :: st) cell := fun ls H locs hl hg => lv_if_ge S.1.1 S.1.2.1 hd ht (fun q => k1 ((zif h).1 q) ls H locs hl hg) (fun q => k2 ((zif h).2 q) ls H locs hl hg)
theorem z_icmp_eq (S : zS p m meth c cc nM ret s args Ts own D n X) {x y : Int32} {off : Int} {tgt : Nat} (hd : decode cc pc = .ok (.if_icmp .eq off, 3)) (ht : (pc : Int) + off = (tgt : Int)) (h : (if x = y then A else B) = some r) (k1 : A = some r → Zj w D n X p l e R s m args below meth c Q nL tgt lv st cell) (k2 : B = some r → Zj w D n X p l e R s m args below meth c Q nL (pc + 3) lv st cell) : Zj w D n X p l e R s m args below meth c Q nL pc lv (.int y :: .int x :: st) cell := fun ls H locs hl hg => lv_icmp_eq S.1.1 S.1.2.1 hd ht (fun q => k1 ((zif h).1 q) ls H locs hl hg) (fun q => k2 ((zif h).2 q) ls H locs hl hg)
theorem z_icmp_ne (S : zS p m meth c cc nM ret s args Ts own D n X) {x y : Int32} {off : Int} {tgt : Nat} (hd : decode cc pc = .ok (.if_icmp .ne off, 3)) (ht : (pc : Int) + off = (tgt : Int)) (h : (if x = y then B else A) = some r) (k1 : A = some r → Zj w D n X p l e R s m args below meth c Q nL tgt lv st cell) (k2 : B = some r → Zj w D n X p l e R s m args below meth c Q nL (pc + 3) lv st cell) : Zj w D n X p l e R s m args below meth c Q nL pc lv (.int y :: .int x :: st) cell := fun ls H locs hl hg => lv_icmp_ne S.1.1 S.1.2.1 hd ht (fun q => k1 ((zif h).2 q) ls H locs hl hg) (fun q => k2 ((zif h).1 q) ls H locs hl hg)
theorem z_icmp_lt (S : zS p m meth c cc nM ret s args Ts own D n X) {x y : Int32} {off : Int} {tgt : Nat} (hd : decode cc pc = .ok (.if_icmp .lt off, 3)) (ht : (pc : Int) + off = (tgt : Int)) (h : (if x < y then A else B) = some r) (k1 : A = some r → Zj w D n X p l e R s m args below meth c Q nL tgt lv st cell) (k2 : B = some r → Zj w D n X p l e R s m args below meth c Q nL (pc + 3) lv st cell) : Zj w D n X p l e R s m args below meth c Q nL pc lv (.int y :: .int x :: st) cell := fun ls H locs hl hg => lv_icmp_lt S.1.1 S.1.2.1 hd ht (fun q => k1 ((zif h).1 q) ls H locs hl hg) (fun q => k2 ((zif h).2 q) ls H locs hl hg)
theorem z_icmp_le (S : zS p m meth c cc nM ret s args Ts own D n X) {x y : Int32} {off : Int} {tgt : Nat} (hd : decode cc pc = .ok (.if_icmp .le off, 3)) (ht : (pc : Int) + off = (tgt : Int)) (h : (if x ≤ y then A else B) = some r) (k1 : A = some r → Zj w D n X p l e R s m args below meth c Q nL tgt lv st cell) (k2 : B = some r → Zj w D n X p l e R s m args below meth c Q nL (pc + 3) lv st cell) : Zj w D n X p l e R s m args below meth c Q nL pc lv (.int y :: .int x :: st) cell := fun ls H locs hl hg => lv_icmp_le S.1.1 S.1.2.1 hd ht (fun q => k1 ((zif h).1 q) ls H locs hl hg) (fun q => k2 ((zif h).2 q) ls H locs hl hg)
theorem z_icmp_gt (S : zS p m meth c cc nM ret s args Ts own D n X) {x y : Int32} {off : Int} {tgt : Nat} (hd : decode cc pc = .ok (.if_icmp .gt off, 3)) (ht : (pc : Int) + off = (tgt : Int)) (h : (if y < x then A else B) = some r) (k1 : A = some r → Zj w D n X p l e R s m args below meth c Q nL tgt lv st cell) (k2 : B = some r → Zj w D n X p l e R s m args below meth c Q nL (pc + 3) lv st cell) : Zj w D n X p l e R s m args below meth c Q nL pc lv (.int y :: .int x :: st) cell := fun ls H locs hl hg => lv_icmp_gt S.1.1 S.1.2.1 hd ht (fun q => k1 ((zif h).1 q) ls H locs hl hg) (fun q => k2 ((zif h).2 q) ls H locs hl hg)
theorem z_icmp_ge (S : zS p m meth c cc nM ret s args Ts own D n X) {x y : Int32} {off : Int} {tgt : Nat} (hd : decode cc pc = .ok (.if_icmp .ge off, 3)) (ht : (pc : Int) + off = (tgt : Int)) (h : (if y ≤ x then A else B) = some r) (k1 : A = some r → Zj w D n X p l e R s m args below meth c Q nL tgt lv st cell) (k2 : B = some r → Zj w D n X p l e R s m args below meth c Q nL (pc + 3) lv st cell) : Zj w D n X p l e R s m args below meth c Q nL pc lv (.int y :: .int x :: st) cell := fun ls H locs hl hg => lv_icmp_ge S.1.1 S.1.2.1 hd ht (fun q => k1 ((zif h).1 q) ls H locs hl hg) (fun q => k2 ((zif h).2 q) ls H locs hl hg)
end ZR
abbrev zSh : Type := zE → Nat → (Nat → Int32) → (Nat → Int32) → (Nat → Nat) → va_E
def zc (sh : zSh) (X : zE) (σ : zV) : Nat → va_E := fun j => sh X j (σ.1 j) (σ.2.1 j) σ.2.2
theorem zc_sI {sh : zSh} {X : zE} {σ : zV} {q k : Nat} {v : Int32} {e : va_E} (he : sh X q (fun b => if b = k then v else σ.1 q b) (σ.2.1 q) σ.2.2 = e) : ∀ j, zc sh X (sI σ q k v) j = if j = q then e else zc sh X σ j := by
  intro j
  by_cases h : j = q
  · subst h
    rw [if_pos rfl, ← he]
    simp [zc, sI]
  · rw [if_neg h]
    simp [zc, sI, h]
theorem zc_sR {sh : zSh} {X : zE} {σ : zV} {q : Nat} {g : Nat → Int32} {e : va_E} (he : sh X q (σ.1 q) g σ.2.2 = e) : ∀ j, zc sh X (sR σ q g) j = if j = q then e else zc sh X σ j := by
  intro j
  by_cases h : j = q
  · subst h
    rw [if_pos rfl, ← he]
    simp [zc, sR]
  · rw [if_neg h]
    simp [zc, sR, h]
section ZM
variable {w : Bool} {D : va_G} {n : Nat} {X : zE} {p : Program} {l : Launch} {e : Env} {R : Room} {s : State} {m : MethodId} {args : Array Value} {below : List Frame} {meth : Method} {c : Code} {Q : State → Prop} {nL nM pc : Nat} {lv lv' : List (Nat × Value)} {st stk : List Value} {cell cell' : Nat → va_E}
variable {cc : ByteArray} {ret : Option FieldType} {Ts : List Cond} {own : String} {ρ : Type} {r : ρ} {A B : Option ρ} {sh : zSh} {σ σ' σ1 : zV}
theorem z_get (S : zS p m meth c cc nM ret s args Ts own D n X) {index ci : Nat} {C : String} {T : u_T} {N : Nat} {fs : List Value} {v : Value} (k : Nat) {q : Nat} (hl : Cond.fieldLink own index C (T k).2.1 (T k).2.2.1 ∈ Ts) (hin : ∀ w ∈ u_ws C T N, w ∈ Ts) (hq : q < n) (he : cell q = .inr (ci, fs)) (hc : vwCl[ci]? = some (C, T, N)) (hk : k < N) (hsm : (T k).1 = C) (hv : fs[k]? = some v) (hd : decode cc pc = .ok (.getfield index, 3))
    (kk : Zj w D n X p l e R s m args below meth c Q nL (pc + 3) lv (v :: st) cell) : Zj w D n X p l e R s m args below meth c Q nL pc lv (.ref (X.1 q) :: st) cell :=
  fun ls H locs h hg => va_get S.1.1 S.1.2.1 S.1.2.2.2.2 hin S.1.2.2.2.1 S.2.1.1 hg.1 q (zw_get hq he) hc k hk (S.1.2.2.2.2 _ hl) (fun x hx => by rw [hsm] at hx; exact hx) hv hd (kk ls H locs h hg)
theorem z_put (S : zS p m meth c cc nM ret s args Ts own D n X) {index ci : Nat} {C : String} {T : u_T} {N : Nat} {fs : List Value} {x : Int32} (k : Nat) {q : Nat} {ty0 : Nat → FieldType} (hty : ∀ k, k < N → parseFieldDescriptor (T k).2.2.1 = some (ty0 k)) (hnm : ∀ a, a < N → ∀ b, b < N → a ≠ b → (T a).2.1 ≠ (T b).2.1) (hl : Cond.fieldLink own index C (T k).2.1 (T k).2.2.1 ∈ Ts) (hin : ∀ w ∈ u_ws C T N, w ∈ Ts) (hq : q < n) (he : zc sh X σ q = .inr (ci, fs)) (hc : vwCl[ci]? = some (C, T, N)) (hk : k < N) (hsm : (T k).1 = C) (hfin : (T k).2.2.2 = false) (hn : narrow (ty0 k) (.int x) = .int x) (hfit : fits (ty0 k) (.int x) = true) (hlen : k < fs.length) (hsh : sh X q (fun b => if b = k then x else σ.1 q b) (σ.2.1 q) σ.2.2 = .inr (ci, fs.set k (.int x))) (hd : decode cc pc = .ok (.putfield index, 3))
    {K : zV → Option ρ} (h : pS σ q k x K = some r) (kk : ∀ σ', K σ' = some r → Zj true D n X p l e R s m args below meth c Q nL (pc + 3) lv st (zc sh X σ')) : Zj true D n X p l e R s m args below meth c Q nL pc lv (.int x :: .ref (X.1 q) :: st) (zc sh X σ) :=
  fun ls H locs hl' hg => va_put S.1.1 S.1.2.1 S.1.2.2.2.2 hin ty0 hty hnm S.1.2.2.2.1 S.2.1.1 hg.1 (zw_D S.2.2.1) hg.2.1 q (zw_get hq he) hc k hk (S.1.2.2.2.2 _ hl) (fun x hx => by rw [hsm] at hx; exact hx) hfin (hty k hk) hn hfit hlen hd (fun H1 locs1 hP hD hS => kk (sI σ q k x) h ls H1 locs1 hl' ⟨by rw [zw_set hq (fun j _ => zc_sI hsh j)] at hP; exact hP, hS, fun z => by cases z⟩)
theorem z_iald (S : zS p m meth c cc nM ret s args Ts own D n X) {q N : Nat} {f : Nat → Int32} {i : Int32} {K : Int32 → Option ρ} (hq : q < n) (he : cell q = .inl (X.2.1, N, .inl f)) (hd : decode cc pc = .ok (.iaload, 1)) (h : rA f N i K = some r)
    (kk : ∀ v, K v = some r → Zj w D n X p l e R s m args below meth c Q nL (pc + 1) lv (.int v :: st) cell) : Zj w D n X p l e R s m args below meth c Q nL pc lv (.int i :: .ref (X.1 q) :: st) cell :=
  fun ls H locs hl hg => va_iald S.1.1 S.1.2.1 S.2.1.1 hg.1 q 0 (zw_get hq he) rfl (rA_some h).1 hd (kk _ (rA_some h).2 ls H locs hl hg)
theorem z_zald (S : zS p m meth c cc nM ret s args Ts own D n X) {q N : Nat} {f : Nat → Int32} {i : Int32} {K : Int32 → Option ρ} (hq : q < n) (he : cell q = .inl (X.2.2.1, N, .inl f)) (hd : decode cc pc = .ok (.baload, 1)) (h : rA f N i K = some r)
    (kk : ∀ v, K v = some r → Zj w D n X p l e R s m args below meth c Q nL (pc + 1) lv (.int v :: st) cell) : Zj w D n X p l e R s m args below meth c Q nL pc lv (.int i :: .ref (X.1 q) :: st) cell :=
  fun ls H locs hl hg => va_zald S.1.1 S.1.2.1 S.2.1.1 hg.1 q 1 (zw_get hq he) rfl (rA_some h).1 hd (kk _ (rA_some h).2 ls H locs hl hg)
theorem z_iast (S : zS p m meth c cc nM ret s args Ts own D n X) {q N : Nat} {i x : Int32} {K : zV → Option ρ} (hq : q < n) (hsh : ∀ g, sh X q (σ.1 q) g σ.2.2 = .inl (X.2.1, N, .inl g)) (hd : decode cc pc = .ok (.iastore, 1)) (h : wS σ q N i x K = some r)
    (kk : ∀ σ', K σ' = some r → Zj true D n X p l e R s m args below meth c Q nL (pc + 1) lv st (zc sh X σ')) : Zj true D n X p l e R s m args below meth c Q nL pc lv (.int x :: .int i :: .ref (X.1 q) :: st) (zc sh X σ) :=
  fun ls H locs hl hg => va_iast S.1.1 S.1.2.1 S.2.1.1 hg.1 (zw_D S.2.2.1) hg.2.1 q 0 (zw_get hq (hsh (σ.2.1 q))) rfl (wS_some h).1 hd (fun H1 locs1 hP hD hS => kk _ (wS_some h).2 ls H1 locs1 hl ⟨by rw [zw_set hq (fun j _ => zc_sR (hsh _) j), ← sA_sR] at hP; exact hP, hS, fun z => by cases z⟩)
theorem z_zast (S : zS p m meth c cc nM ret s args Ts own D n X) {q N : Nat} {i x : Int32} {K : zV → Option ρ} (hq : q < n) (hsh : ∀ g, sh X q (σ.1 q) g σ.2.2 = .inl (X.2.2.1, N, .inl g)) (hd : decode cc pc = .ok (.bastore, 1)) (h : wS σ q N i (vp_nar .boolean x) K = some r)
    (kk : ∀ σ', K σ' = some r → Zj true D n X p l e R s m args below meth c Q nL (pc + 1) lv st (zc sh X σ')) : Zj true D n X p l e R s m args below meth c Q nL pc lv (.int x :: .int i :: .ref (X.1 q) :: st) (zc sh X σ) :=
  fun ls H locs hl hg => va_zast S.1.1 S.1.2.1 S.2.1.1 hg.1 (zw_D S.2.2.1) hg.2.1 q 1 (zw_get hq (hsh (σ.2.1 q))) rfl (wS_some h).1 hd (fun H1 locs1 hP hD hS => kk _ (wS_some h).2 ls H1 locs1 hl ⟨by rw [zw_set hq (fun j _ => zc_sR (hsh _) j), ← sA_sR] at hP; exact hP, hS, fun z => by cases z⟩)
theorem z_copy (S : zS p m meth c cc nM ret s args Ts own D n X) {index q0 q1 n0 n1 : Nat} {sp dp k : Int32} {K : zV → Option ρ} (hq0 : q0 < n) (hq1 : q1 < n) (he0 : zc sh X σ q0 = .inl (X.2.1, n0, .inl (σ.2.1 q0))) (hsh : ∀ g, sh X q1 (σ.1 q1) g σ.2.2 = .inl (X.2.1, n1, .inl g)) (hnL : nL = nM)
    (hl : Cond.methodLink own index arraycopyName ∈ Ts) (hnat : Cond.native arraycopyName ∈ Ts) (hstat : Cond.static arraycopyName ∈ Ts) (hini : Cond.initialized "java/lang/System" ∈ Ts) (hframes : 1 ≤ R.frames) (hlocals : (st.map fun v => v.category).sum + (nativeFrameWords "java/lang/System" "arraycopy" 5 + 11) ≤ R.locals) (hd : decode cc pc = .ok (.invokestatic index, 3)) (h : cpS σ q1 n1 q0 n0 sp dp k K = some r)
    (kk : ∀ σ', K σ' = some r → Zj true D n X p l e R s m args below meth c Q nL (pc + 3) lv st (zc sh X σ')) : Zj true D n X p l e R s m args below meth c Q nL pc lv (.int k :: .int dp :: .ref (X.1 q1) :: .int sp :: .ref (X.1 q0) :: st) (zc sh X σ) := by
  subst hnL
  obtain ⟨h1, h2, h3, h4, h5, h6⟩ := cpS_some h
  intro ls H locs hl' hg
  exact va_copyi S.1.1 S.1.2.1 (by rw [S.1.2.2.1, hl'.1]) S.1.2.2.2.1 (S.1.2.2.2.2 _ hl) (S.1.2.2.2.2 _ hnat) (S.1.2.2.2.2 _ hstat) (S.1.2.2.2.2 _ hini) S.2.1.1 hg.1 (zw_D S.2.2.1) hg.2.1 q0 q1 0 0 (zw_get hq0 he0) (zw_get hq1 (hsh (σ.2.1 q1))) rfl rfl rfl h1 h2 h3 h4 h5 (fun _ _ => rfl) hframes hlocals hd (fun H1 locs1 hP hD hS => kk _ h6 ls H1 locs1 hl' ⟨by rw [zw_set hq1 (fun j _ => zc_sR (hsh _) j)] at hP; exact hP, hS, fun z => by cases z⟩)
theorem z_mmin (S : zS p m meth c cc nM ret s args Ts own D n X) {index : Nat} {x y : Int32} (hnL : nL = nM) (hl : Cond.methodLink own index Lib.Math.min.name ∈ Ts) (hstat : Cond.static Lib.Math.min.name ∈ Ts) (hini : Cond.initialized "java/lang/Math" ∈ Ts) (hcode : Cond.code Lib.Math.min.name Lib.Math.min.code 2 (some .int) ∈ Ts) (hframes : 1 ≤ R.frames) (hlocals : (st.map fun v => v.category).sum + 13 ≤ R.locals) (hd : decode cc pc = .ok (.invokestatic index, 3))
    (kk : Zj w D n X p l e R s m args below meth c Q nL (pc + 3) lv (.int (if y < x then y else x) :: st) cell) : Zj w D n X p l e R s m args below meth c Q nL pc lv (.int y :: .int x :: st) cell := by
  subst hnL
  intro ls H locs hl' hg
  exact va_mmin S.1.1 S.1.2.1 (by rw [S.1.2.2.1, hl'.1]) S.1.2.2.2.1 (S.1.2.2.2.2 _ hl) (S.1.2.2.2.2 _ hstat) (S.1.2.2.2.2 _ hini) (S.1.2.2.2.2 _ hcode) hframes hlocals (Nat.zero_le _) (Nat.zero_le _) hd (kk ls H locs hl' hg)
theorem z_aald (S : zS p m meth c cc nM ret s args Ts own D n X) {q : Nat} {i : Int32} {K : Nat → Option ρ} (hq : q < n) (he : cell q = .inl (X.2.2.2, 4, .inr (.inr (.inr (.inr (fun b => some (X.1 (σ.2.2 b)))))))) (hd : decode cc pc = .ok (.aaload, 1)) (h : rP σ i K = some r)
    (kk : ∀ u, K u = some r → Zj w D n X p l e R s m args below meth c Q nL (pc + 1) lv (.ref (X.1 u) :: st) cell) : Zj w D n X p l e R s m args below meth c Q nL pc lv (.int i :: .ref (X.1 q) :: st) cell :=
  fun ls H locs hl hg => va_aldq S.1.1 S.1.2.1 S.2.1.1 hg.1 q 2 (zw_get hq he) rfl (rP_some h).1 hd (kk _ (rP_some h).2 ls H locs hl hg)
theorem z_aast (S : zS p m meth c cc nM ret s args Ts own D n X) {q u : Nat} {i : Int32} {K : zV → Option ρ} {fs : List Value} (hq : q < n) (he : zc sh X σ q = .inl (X.2.2.2, 4, .inr (.inr (.inr (.inr (fun b => some (X.1 (σ.2.2 b)))))))) (hu : isSt u → u < n ∧ zc sh X σ u = .inr (0, fs)) (hd : decode cc pc = .ok (.aastore, 1)) (h : wP σ i u K = some r)
    (hsh : ∀ j, ∀ k, k < n → zc sh X (sP σ j u) k = if k = q then .inl (X.2.2.2, 4, .inr (.inr (.inr (.inr (va_up (fun b => some (X.1 (σ.2.2 b))) j (some (X.1 u))))))) else zc sh X σ k)
    (kk : ∀ σ', K σ' = some r → Zj true D n X p l e R s m args below meth c Q nL (pc + 1) lv st (zc sh X σ')) : Zj true D n X p l e R s m args below meth c Q nL pc lv (.ref (X.1 u) :: .int i :: .ref (X.1 q) :: st) (zc sh X σ) := by
  obtain ⟨h1, h2, h3⟩ := wP_some h
  obtain ⟨u1, u2⟩ := hu h2
  exact fun ls H locs hl hg => va_astq (r := (RX0, TX0, 11)) S.1.1 S.1.2.1 S.2.1.1 hg.1 (zw_D S.2.2.1) hg.2.1 q 2 u 0 (zw_get hq he) rfl (zw_get u1 u2) rfl h1 hd (fun H1 locs1 hP hD hS => kk _ h3 ls H1 locs1 hl ⟨by rw [zw_set hq (hsh _)] at hP; exact hP, hS, fun z => by cases z⟩)
theorem z_tableIn (S : zS p m meth c cc nM ret s args Ts own D n X) {dflt lo hi : Int} {offs : Array Int} {len : Nat} {x v : Int32} {off : Int} {tgt : Nat} (hx : x = v) (hd : decode cc pc = .ok (.tableswitch dflt lo hi offs, len)) (h1 : ¬ v.toInt < lo) (h2 : ¬ hi < v.toInt) (ho : offs[(v.toInt - lo).toNat]? = some off) (ht : (pc : Int) + off = (tgt : Int)) (k : Zj w D n X p l e R s m args below meth c Q nL tgt lv st cell) : Zj w D n X p l e R s m args below meth c Q nL pc lv (.int x :: st) cell := by
  subst hx
  exact fun ls H locs hl hg => lv_tableIn S.1.1 S.1.2.1 hd h1 h2 ho ht (k ls H locs hl hg)
theorem z_tableOut (S : zS p m meth c cc nM ret s args Ts own D n X) {dflt lo hi : Int} {offs : Array Int} {len : Nat} {x : Int32} {tgt : Nat} (hd : decode cc pc = .ok (.tableswitch dflt lo hi offs, len)) (h : x.toInt < lo ∨ hi < x.toInt) (ht : (pc : Int) + dflt = (tgt : Int)) (k : Zj w D n X p l e R s m args below meth c Q nL tgt lv st cell) : Zj w D n X p l e R s m args below meth c Q nL pc lv (.int x :: st) cell :=
  fun ls H locs hl hg => lv_tableOut S.1.1 S.1.2.1 hd h ht (k ls H locs hl hg)
/-! returns -/
theorem z_iret_r (S : zS p m meth c cc nM (some .int) s args Ts own D n X) {v r' : Int32} (hd : decode cc pc = .ok (.ireturn, 1)) (h : some v = some r') : Zj false D n X p l e R s m args below meth c (MQ below (zQr (some (.int r'))) args s 0 0 (fun _ => False)) nL pc lv [.int v] cell := by
  cases h
  intro ls H locs hl hg
  obtain ⟨hH, hlo⟩ := hg.2.2 rfl
  exact W.iret S.1.1 S.1.2.1 S.2.2.2.1 (fun t ht _ => ⟨rfl, by rw [ht, hH]⟩) (by rw [hlo]; intro q hq; cases hq) hd S.2.2.2.2
theorem z_zret_r (S : zS p m meth c cc nM (some .boolean) s args Ts own D n X) {v r' : Int32} (hd : decode cc pc = .ok (.ireturn, 1)) (h : rB v (some v) = some r') : Zj false D n X p l e R s m args below meth c (MQ below (zQr (some (.int r'))) args s 0 0 (fun _ => False)) nL pc lv [.int v] cell := by
  obtain ⟨hn, h⟩ := rB_some h
  cases h
  intro ls H locs hl hg
  obtain ⟨hH, hlo⟩ := hg.2.2 rfl
  exact W.zret S.1.1 S.1.2.1 S.2.2.2.1 hn (fun t ht _ => ⟨rfl, by rw [ht, hH]⟩) (by rw [hlo]; intro q hq; cases hq) hd S.2.2.2.2
theorem z_iret_w (S : zS p m meth c cc nM (some .int) s args Ts own D n X) {v r' : Int32} (hd : decode cc pc = .ok (.ireturn, 1)) (h : some (v, σ1) = some (r', σ')) : Zj true D n X p l e R s m args below meth c (MQ below (zQw D n X (zc sh X σ') (some (.int r'))) args s 0 0 (zw_A n X.1)) nL pc lv [.int v] (zc sh X σ1) := by
  cases h
  intro ls H locs hl hg
  exact W.iret S.1.1 S.1.2.1 S.2.2.2.1 (fun t ht _ => ⟨rfl, by rw [ht]; exact hg.1, hg.2.1.F ht⟩) hg.2.1.2.2 hd S.2.2.2.2
theorem z_zret_w (S : zS p m meth c cc nM (some .boolean) s args Ts own D n X) {v r' : Int32} (hd : decode cc pc = .ok (.ireturn, 1)) (h : rB v (some (v, σ1)) = some (r', σ')) : Zj true D n X p l e R s m args below meth c (MQ below (zQw D n X (zc sh X σ') (some (.int r'))) args s 0 0 (zw_A n X.1)) nL pc lv [.int v] (zc sh X σ1) := by
  obtain ⟨hn, h⟩ := rB_some h
  cases h
  intro ls H locs hl hg
  exact W.zret S.1.1 S.1.2.1 S.2.2.2.1 hn (fun t ht _ => ⟨rfl, by rw [ht]; exact hg.1, hg.2.1.F ht⟩) hg.2.1.2.2 hd S.2.2.2.2
theorem z_vret_w (S : zS p m meth c cc nM none s args Ts own D n X) (hd : decode cc pc = .ok (.return_, 1)) (h : some σ1 = some σ') : Zj true D n X p l e R s m args below meth c (MQ below (zQw D n X (zc sh X σ') none) args s 0 0 (zw_A n X.1)) nL pc lv [] (zc sh X σ1) := by
  cases h
  intro ls H locs hl hg
  exact W.vret S.1.1 S.1.2.1 S.2.2.2.1 (fun t ht _ => ⟨rfl, by rw [ht]; exact hg.1, hg.2.1.F ht⟩) hg.2.1.2.2 hd S.2.2.2.2
/-! calls -/
theorem z_pre {av : List Value} {H : Heap} (hK : zK D X s) (hP : va_P D vwCl (zw_ws n X.1 cell) H) : ∀ U : State, U.heap = H → s.WarmedH U.vm → zPc D n X cell av av.toArray U := fun U hU hW => ⟨rfl, by rw [hU]; exact hP, hK.warm hW⟩
theorem z_run_r {y : MethodName} {a : Array Value} {x : Value} {g : JFrame} (run : ∀ (H : Heap) (locs : List Loc), va_P D vwCl (zw_ws n X.1 cell) H → ∀ ls, lv_has ls nL lv → va_Run p l e R s m args below meth c H locs 0 0 0 0 (F0 m pc ls stk) st (zQr (some x) a) (fun _ => False))
    (kk : Zj w D n X p l e R s m args below meth c Q nL (pc + 3) lv (x :: st) cell) : Zj w D n X p l e R s m args below meth c Q nL pc lv stk cell := by
  intro ls H locs hl hg T hT XX
  obtain ⟨v, st₀, t, T', L, h0, X', hL, e1, e2, ⟨q1, q2⟩, stp⟩ := run H locs hg.1 ls hl T hT XX
  cases q1
  have hLn : L = [] := List.eq_nil_iff_forall_not_mem.mpr (fun q hq => hL q hq)
  subst hLn
  rw [List.append_nil] at X'
  obtain ⟨t2, a1, b1⟩ := kk ls H locs hl hg T' (by rw [e1, q2, h0]) X'
  exact ⟨t2, stp t2 a1, b1⟩
theorem z_run_w {a : Array Value} {x : Option Value} (run : ∀ (H : Heap) (locs : List Loc), va_P D vwCl (zw_ws n X.1 cell) H → ∀ ls, lv_has ls nL lv → va_Run p l e R s m args below meth c H locs 0 0 0 0 (F0 m pc ls stk) st (zQw D n X cell' x a) (zw_A n X.1))
    (kk : Zj true D n X p l e R s m args below meth c Q nL (pc + 3) lv (x.toList ++ st) cell') : Zj true D n X p l e R s m args below meth c Q nL pc lv stk cell := by
  intro ls H locs hl hg T hT XX
  obtain ⟨v, st₀, t, T', L, h0, X', hL, e1, e2, ⟨q1, q2, q3⟩, stp⟩ := run H locs hg.1 ls hl T hT XX
  cases q1
  have hz := q3.1
  have hk := q3.2
  rw [h0] at hz hk
  have hS := hg.2.1
  obtain ⟨t2, a1, b1⟩ := kk ls T'.heap (locs ++ L) hl ⟨by rw [e1]; exact q2, ⟨Nat.le_trans hS.1 (by rw [e1]; exact hz), fun q h1 h2 => by rw [e1, hk q (Nat.lt_of_lt_of_le h1 hS.1) h2]; exact hS.2.1 q h1 h2, fun q hq => by
      rcases List.mem_append.mp hq with h | h
      · exact hS.2.2 q h
      · exact hL q h⟩, fun z => by cases z⟩ T' rfl X'
  exact ⟨t2, stp t2 a1, b1⟩
section CV
variable {y : MethodName} {bytes : ByteArray} {maxL k index ci : Nat} {retY : Option FieldType} {ws : List Cond} {rm : Room} {C : String} {T : u_T} {N q : Nat} {fs : List Value} {As : List Value}
theorem z_recv (hK : zK D X s) {H : Heap} (hP : va_P D vwCl (zw_ws n X.1 cell) H) (hq : q < n) (he : cell q = .inr (ci, fs)) (hc : vwCl[ci]? = some (C, T, N)) : ∃ cellB : Cell, H[X.1 q]? = some cellB ∧ cellB.vm.isStatics = false ∧ s.vm.findClass C = some cellB.cls := va_recv hK.1 hP hc (zw_get hq he)
theorem z_callV_r (S : zS p m meth c cc nM ret s args Ts own D n X) {x : Int32} (M : zMr l y ws rm D n X cell (.ref (X.1 q) :: As) (some (.int x))) (cw : CallW R s args own C index y bytes maxL retY ws rm 0 0 k) (hq : q < n) (he : cell q = .inr (ci, fs)) (hc : vwCl[ci]? = some (C, T, N)) (hn : As.length = k) (hst : stk = As.reverse ++ .ref (X.1 q) :: st) (hcat : (st.map fun v => v.category).sum ≤ 8) (hnL : nL = nM) (hd : decode cc pc = .ok (.invokevirtual index, 3))
    (kk : Zj w D n X p l e R s m args below meth c Q nL (pc + 3) lv (.int x :: st) cell) : Zj w D n X p l e R s m args below meth c Q nL pc lv stk cell := by
  subst hst; subst hnL
  exact z_run_r (y := y) (g := F0 m pc #[] []) (fun H locs hP ls hl => va_runV S.1 M cw ⟨zPc_blind, z_recv S.2.1 hP hq he hc, z_pre S.2.1 hP⟩ rfl hn hl.1 rfl (lv_room hcat) hd ⟨Nat.zero_le _, Nat.zero_le _⟩) kk
theorem z_callV_w (S : zS p m meth c cc nM ret s args Ts own D n X) {x : Option Value} (M : zMw l y ws rm D n X cell (.ref (X.1 q) :: As) x cell') (cw : CallW R s args own C index y bytes maxL retY ws rm 0 0 k) (hq : q < n) (he : cell q = .inr (ci, fs)) (hc : vwCl[ci]? = some (C, T, N)) (hn : As.length = k) (hst : stk = As.reverse ++ .ref (X.1 q) :: st) (hcat : (st.map fun v => v.category).sum ≤ 8) (hnL : nL = nM) (hd : decode cc pc = .ok (.invokevirtual index, 3))
    (kk : Zj true D n X p l e R s m args below meth c Q nL (pc + 3) lv (x.toList ++ st) cell') : Zj true D n X p l e R s m args below meth c Q nL pc lv stk cell := by
  subst hst; subst hnL
  exact z_run_w (fun H locs hP ls hl => va_runV S.1 M cw ⟨zPc_blind, z_recv S.2.1 hP hq he hc, z_pre S.2.1 hP⟩ rfl hn hl.1 rfl (lv_room hcat) hd ⟨Nat.zero_le _, Nat.zero_le _⟩) kk
theorem z_callS_r (S : zS p m meth c cc nM ret s args Ts own D n X) {x : Int32} (M : zMr l y ws rm D n X cell As (some (.int x))) (cw : CallB R s args own index y bytes maxL retY ws rm 0 0 k ∧ (Cond.static y).before args s = true) (hn : As.length = k) (hst : stk = As.reverse ++ st) (hcat : (st.map fun v => v.category).sum ≤ 8) (hnL : nL = nM) (hd : decode cc pc = .ok (.invokestatic index, 3))
    (kk : Zj w D n X p l e R s m args below meth c Q nL (pc + 3) lv (.int x :: st) cell) : Zj w D n X p l e R s m args below meth c Q nL pc lv stk cell := by
  subst hst; subst hnL
  exact z_run_r (y := y) (g := F0 m pc #[] []) (fun H locs hP ls hl => va_runS S.1 M cw ⟨zPc_blind, z_pre S.2.1 hP⟩ rfl hn hl.1 rfl (lv_room hcat) hd ⟨Nat.zero_le _, Nat.zero_le _⟩) kk
theorem z_callSN_r (S : zS p m meth c cc nM ret s args Ts own D n X) {x : Int32} {host : String} (M : zMr l y ws rm D n X cell As (some (.int x))) (cw : va_CN R s args own index y host bytes maxL retY ws rm 0 0 k ∧ (Cond.static y).before args s = true ∧ True) (hn : As.length = k) (hst : stk = As.reverse ++ st) (hcat : (st.map fun v => v.category).sum ≤ 8) (hnL : nL = nM) (hd : decode cc pc = .ok (.invokestatic index, 3))
    (kk : Zj w D n X p l e R s m args below meth c Q nL (pc + 3) lv (.int x :: st) cell) : Zj w D n X p l e R s m args below meth c Q nL pc lv stk cell := by
  subst hst; subst hnL
  exact z_run_r (y := y) (g := F0 m pc #[] []) (fun H locs hP ls hl => va_runSN S.1 M cw ⟨zPc_blind, z_pre S.2.1 hP⟩ rfl hn hl.1 rfl (lv_room hcat) hd ⟨Nat.zero_le _, Nat.zero_le _⟩) kk
end CV
end ZM
