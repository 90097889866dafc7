/-! THE CALLS THAT TELL: the class stays as it is, the model finds its words anew -/
theorem JJ_frV {z m m' : zV} (J : JJ z m) (F : frV m m') : JJ z m' := by
  obtain ⟨S, hs, sn, hn, tk, tl, tx, V, C, M⟩ := J
  exact ⟨S, hs, sn, hn, tk, tl, tx, V, C, MM_frV M F⟩
def TellR (z m : zV) (fc : Option Int32) (fm : Option (Int32 × zV)) : Prop := ∃ r m', fc = some r ∧ fm = some (r, m') ∧ JJ z m'
theorem B_cell {z m : zV} (J : JJ z m) (a b c : Int32) : TellR z m (f_X3_cell z a b c) (f_X4_cell m a b c) := by
  have J' := J
  obtain ⟨S, hs, sn, hn, tk, tl, tx, V, C, M⟩ := J
  obtain ⟨r, m', e1, e2, F⟩ := T_cell C.1 V.1 C.2.1 M.1 a b c
  exact ⟨r, m', e1, e2, JJ_frV J' F⟩
theorem B_number {z m : zV} (J : JJ z m) (a b : Int32) : TellR z m (f_X3_number z a b) (f_X4_number m a b) := by
  have J' := J
  obtain ⟨S, hs, sn, hn, tk, tl, tx, V, C, M⟩ := J
  obtain ⟨r, m', e1, e2, F⟩ := T_number C.1 V.1 C.2.1 M.1 a b
  exact ⟨r, m', e1, e2, JJ_frV J' F⟩
theorem B_word {z m : zV} (J : JJ z m) (a b : Int32) : TellR z m (f_X3_word z a b) (f_X4_word m a b) := by
  have J' := J
  obtain ⟨S, hs, sn, hn, tk, tl, tx, V, C, M⟩ := J
  obtain ⟨r, m', e1, e2, F⟩ := T_word C.1 V.1 C.2.1 M.1 a b
  exact ⟨r, m', e1, e2, JJ_frV J' F⟩
theorem B_fits {z m : zV} (J : JJ z m) (a b : Int32) : TellR z m (f_X3_fits z a b) (f_X4_fits m a b) := by
  have J' := J
  obtain ⟨S, hs, sn, hn, tk, tl, tx, V, C, M⟩ := J
  obtain ⟨r, m', e1, e2, F⟩ := T_fits C.1 V.1 C.2.1 M.1 a b
  exact ⟨r, m', e1, e2, JJ_frV J' F⟩
theorem B_listed {z m : zV} (J : JJ z m) (a b : Int32) : TellR z m (f_X3_listed z a b) (f_X4_listed m a b) := by
  have J' := J
  obtain ⟨S, hs, sn, hn, tk, tl, tx, V, C, M⟩ := J
  obtain ⟨r, m', e1, e2, F⟩ := T_listed C.1 V.1 C.2.1 M.1 a b
  exact ⟨r, m', e1, e2, JJ_frV J' F⟩
theorem B_could {z m : zV} (J : JJ z m) (a b : Int32) : TellR z m (f_X3_could z a b) (f_X4_could m a b) := by
  have J' := J
  obtain ⟨S, hs, sn, hn, tk, tl, tx, V, C, M⟩ := J
  obtain ⟨r, m', e1, e2, F⟩ := T_could C.1 V.1 C.2.1 M.1 a b
  exact ⟨r, m', e1, e2, JJ_frV J' F⟩
theorem B_count {z m : zV} (J : JJ z m) (a : Int32) : TellR z m (f_X3_count z a) (f_X4_count m a) := by
  have J' := J
  obtain ⟨S, hs, sn, hn, tk, tl, tx, V, C, M⟩ := J
  obtain ⟨r, m', e1, e2, F⟩ := T_count C.1 V.1 C.2.1 M.1 (C.2.2.1.trans M.2.1.symm) (C.2.2.2.2.2.2.2.1.trans M.2.2.2.2.2.1.symm) a
  exact ⟨r, m', e1, e2, JJ_frV J' F⟩
/-- a world as it is made: everything empty -/
def S0 : aS := (fun _ => 0, fun _ => 0, fun _ => 0, fun k => if k = 0 then 7 else if k = 1 then 3 else if k = 2 then 30 else 0, fun _ _ => 0)
theorem Iv_S0 : Iv S0 := ⟨fun _ _ => Nat.zero_le _, ⟨by decide, by decide, by decide, by decide⟩, fun _ _ _ => Nat.zero_le _, fun _ _ _ _ _ _ _ h => absurd rfl h, fun _ _ _ => Nat.zero_le _, by decide, Nat.zero_le _, fun i hi => absurd hi (Nat.not_lt_zero i)⟩
