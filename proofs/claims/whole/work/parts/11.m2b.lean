set_option maxHeartbeats 4000000 in
theorem rV_isLicensed {p : Program} {l : Launch} {e : Env} {R : Room} {s : State} {m : MethodId} {args : Array Value} {below : List Frame} {meth : Method} {c : Code} {H : Heap} {locs : List Loc} {cells slots : Nat} {Q : State → Prop} {cc : ByteArray} {nL pc : Nat} {Z : ZT} {A : Nat → Prop} {ls : Array Slot} {q : Nat → Nat} {S : St} {X : XC} {v x : Int32} (rest : List Value) (E : EW p m c cc nL s args "ConeRounds" Z) (G : GW Z (CW Z q S X) A s.heap H locs) (hv : isVa S v = true) (hR : 1 + 1 ≤ R.frames ∧ 8 + (2 + 11) + 100 * 1 ≤ R.locals) {lv : List (Nat × Value)} (hl2 : lv_has ls nL lv) (hdg : decode cc pc = .ok (.invokevirtual 237, 3)) {st0 : List Value} (hst : st0 = .int x :: .ref (q (24 + v.toNatClampNeg)) :: rest) (hsum : (rest.map fun v => v.category).sum ≤ 8) (hf : cells ≤ R.cells ∧ slots ≤ R.slots) (kk : ∀ (H1 : Heap) (locs1 : List Loc), GW Z (CW Z q S X) A s.heap H1 locs1 → W p l e R s m args below meth c H1 locs1 cells slots Q (F0 m (pc + 3) ls (.int (b01 (isLi S v x)) :: rest))) : W p l e R s m args below meth c H locs cells slots Q (F0 m pc ls st0) := by
  have hj := CW_van (Z := Z) (q := q) (S := S) (X := X) (va_lt hv)
  rcases kc_c (s_ki S v.toNatClampNeg) with ⟨h1, h⟩ | ⟨h1, h⟩ | ⟨h1, h⟩ <;> rw [h] at hj
  · exact r_U (n := 1) (As := [.int x]) rest E G (c_X7_isLicensed l Z q S X x v hv) m_353 m_356 m_357 m_354 m_354 m_49 m_359 m_359 (by decide +kernel) (24 + v.toNatClampNeg) hj rfl hR hl2 hdg hst rfl hsum hf kk
  · exact r_U (n := 1) (As := [.int x]) rest E G (c_X7_isLicensed l Z q S X x v hv) m_353 m_356 m_358 m_354 m_354 m_49 m_359 m_359 (by decide +kernel) (24 + v.toNatClampNeg) hj rfl hR hl2 hdg hst rfl hsum hf kk
  · exact r_V (As := [.int x]) rest E G (c_X7_isLicensed l Z q S X x v hv) kX7_isLicensed m_353 (24 + v.toNatClampNeg) hj rfl hR hl2 hdg hst rfl hsum hf kk
set_option maxHeartbeats 4000000 in
theorem rV_mostSoldOf {p : Program} {l : Launch} {e : Env} {R : Room} {s : State} {m : MethodId} {args : Array Value} {below : List Frame} {meth : Method} {c : Code} {H : Heap} {locs : List Loc} {cells slots : Nat} {Q : State → Prop} {cc : ByteArray} {nL pc : Nat} {Z : ZT} {A : Nat → Prop} {ls : Array Slot} {q : Nat → Nat} {S : St} {X : XC} {v x : Int32} (rest : List Value) (E : EW p m c cc nL s args "ConeRounds$Trail" Z) (G : GW Z (CW Z q S X) A s.heap H locs) (hv : isVa S v = true) (hR : 1 + 1 ≤ R.frames ∧ 8 + (2 + 11) + 100 * 1 ≤ R.locals) {lv : List (Nat × Value)} (hl2 : lv_has ls nL lv) (hdg : decode cc pc = .ok (.invokevirtual 32, 3)) {st0 : List Value} (hst : st0 = .int x :: .ref (q (24 + v.toNatClampNeg)) :: rest) (hsum : (rest.map fun v => v.category).sum ≤ 8) (hf : cells ≤ R.cells ∧ slots ≤ R.slots) (kk : ∀ (H1 : Heap) (locs1 : List Loc), GW Z (CW Z q S X) A s.heap H1 locs1 → W p l e R s m args below meth c H1 locs1 cells slots Q (F0 m (pc + 3) ls (.int (mso S v x) :: rest))) : W p l e R s m args below meth c H locs cells slots Q (F0 m pc ls st0) := by
  have hj := CW_van (Z := Z) (q := q) (S := S) (X := X) (va_lt hv)
  rcases kc_c (s_ki S v.toNatClampNeg) with ⟨h1, h⟩ | ⟨h1, h⟩ | ⟨h1, h⟩ <;> rw [h] at hj
  · have hval : mso S v x = (if 30 < x then 30 else x) := by
      have h2 : ar (s_ki S) v = s_ki S v.toNatClampNeg := rfl
      unfold mso; rw [h2]; simp [h1]
    rw [hval] at kk
    exact r_U (n := 1) (As := [.int x]) rest E G (c_X0_mostSoldOf l Z q S X x v hv) m_419 m_422 m_423 m_424 m_420 m_50 m_425 m_428 (by decide +kernel) (24 + v.toNatClampNeg) hj rfl hR hl2 hdg hst rfl hsum hf kk
  · have hval : mso S v x = x := by
      have h2 : ar (s_ki S) v = s_ki S v.toNatClampNeg := rfl
      unfold mso; rw [h2]; simp [h1]
    rw [hval] at kk
    exact r_U (n := 1) (As := [.int x]) rest E G (c_X7_mostSoldOf l Z q S X x v hv) m_419 m_422 m_427 m_420 m_420 m_49 m_428 m_428 (by decide +kernel) (24 + v.toNatClampNeg) hj rfl hR hl2 hdg hst rfl hsum hf kk
  · have hval : mso S v x = x := by
      have h2 : ar (s_ki S) v = s_ki S v.toNatClampNeg := rfl
      unfold mso; rw [h2]; simp [h1]
    rw [hval] at kk
    exact r_V (As := [.int x]) rest E G (c_X7_mostSoldOf l Z q S X x v hv) kX7_mostSoldOf m_419 (24 + v.toNatClampNeg) hj rfl hR hl2 hdg hst rfl hsum hf kk
set_option maxHeartbeats 4000000 in
theorem rV_meltingOf {p : Program} {l : Launch} {e : Env} {R : Room} {s : State} {m : MethodId} {args : Array Value} {below : List Frame} {meth : Method} {c : Code} {H : Heap} {locs : List Loc} {cells slots : Nat} {Q : State → Prop} {cc : ByteArray} {nL pc : Nat} {Z : ZT} {A : Nat → Prop} {ls : Array Slot} {q : Nat → Nat} {S : St} {X : XC} {v x : Int32} (rest : List Value) (E : EW p m c cc nL s args "ConeRounds$Trail" Z) (G : GW Z (CW Z q S X) A s.heap H locs) (hv : isVa S v = true) (hR : 1 + 1 ≤ R.frames ∧ 8 + (2 + 11) + 100 * 1 ≤ R.locals) {lv : List (Nat × Value)} (hl2 : lv_has ls nL lv) (hdg : decode cc pc = .ok (.invokevirtual 44, 3)) {st0 : List Value} (hst : st0 = .int x :: .ref (q (24 + v.toNatClampNeg)) :: rest) (hsum : (rest.map fun v => v.category).sum ≤ 8) (hf : cells ≤ R.cells ∧ slots ≤ R.slots) (kk : ∀ (H1 : Heap) (locs1 : List Loc), GW Z (CW Z q S X) A s.heap H1 locs1 → W p l e R s m args below meth c H1 locs1 cells slots Q (F0 m (pc + 3) ls (.int (mel S v x) :: rest))) : W p l e R s m args below meth c H locs cells slots Q (F0 m pc ls st0) := by
  have hj := CW_van (Z := Z) (q := q) (S := S) (X := X) (va_lt hv)
  rcases kc_c (s_ki S v.toNatClampNeg) with ⟨h1, h⟩ | ⟨h1, h⟩ | ⟨h1, h⟩ <;> rw [h] at hj
  · have hval : mel S v x = x / 5 := by
      have h2 : ar (s_ki S) v = s_ki S v.toNatClampNeg := rfl
      unfold mel; rw [h2]; simp [h1]
    rw [hval] at kk
    exact r_U (n := 1) (As := [.int x]) rest E G (c_X0_meltingOf l Z q S X x v hv) m_430 m_433 m_434 m_435 m_431 m_50 m_436 m_440 (by decide +kernel) (24 + v.toNatClampNeg) hj rfl hR hl2 hdg hst rfl hsum hf kk
  · have hval : mel S v x = 0 := by
      have h2 : ar (s_ki S) v = s_ki S v.toNatClampNeg := rfl
      unfold mel; rw [h2]; simp [h1]
    rw [hval] at kk
    exact r_U (n := 1) (As := [.int x]) rest E G (c_X2_meltingOf l Z q S X x v hv) m_430 m_433 m_437 m_438 m_431 m_51 m_439 m_440 (by decide +kernel) (24 + v.toNatClampNeg) hj rfl hR hl2 hdg hst rfl hsum hf kk
  · have hval : mel S v x = x / 10 := by
      have h2 : ar (s_ki S) v = s_ki S v.toNatClampNeg := rfl
      unfold mel; rw [h2]; simp [h1]
    rw [hval] at kk
    exact r_V (As := [.int x]) rest E G (c_X7_meltingOf l Z q S X x v hv) kX7_meltingOf m_430 (24 + v.toNatClampNeg) hj rfl hR hl2 hdg hst rfl hsum hf kk
set_option maxHeartbeats 4000000 in
theorem rV_hoursAcross {p : Program} {l : Launch} {e : Env} {R : Room} {s : State} {m : MethodId} {args : Array Value} {below : List Frame} {meth : Method} {c : Code} {H : Heap} {locs : List Loc} {cells slots : Nat} {Q : State → Prop} {cc : ByteArray} {nL pc : Nat} {Z : ZT} {A : Nat → Prop} {ls : Array Slot} {q : Nat → Nat} {S : St} {X : XC} {v x : Int32} (rest : List Value) (E : EW p m c cc nL s args "ConeRounds" Z) (G : GW Z (CW Z q S X) A s.heap H locs) (hv : isVa S v = true) (hR : 1 + 1 ≤ R.frames ∧ 8 + (2 + 11) + 100 * 1 ≤ R.locals) {lv : List (Nat × Value)} (hl2 : lv_has ls nL lv) (hdg : decode cc pc = .ok (.invokevirtual 250, 3)) {st0 : List Value} (hst : st0 = .int x :: .ref (q (24 + v.toNatClampNeg)) :: rest) (hsum : (rest.map fun v => v.category).sum ≤ 8) (hf : cells ≤ R.cells ∧ slots ≤ R.slots) (kk : ∀ (H1 : Heap) (locs1 : List Loc), GW Z (CW Z q S X) A s.heap H1 locs1 → W p l e R s m args below meth c H1 locs1 cells slots Q (F0 m (pc + 3) ls (.int (hac S v x) :: rest))) : W p l e R s m args below meth c H locs cells slots Q (F0 m pc ls st0) := by
  have hj := CW_van (Z := Z) (q := q) (S := S) (X := X) (va_lt hv)
  rcases kc_c (s_ki S v.toNatClampNeg) with ⟨h1, h⟩ | ⟨h1, h⟩ | ⟨h1, h⟩ <;> rw [h] at hj
  · have hval : hac S v x = 1 + x := by
      have h2 : ar (s_ki S) v = s_ki S v.toNatClampNeg := rfl
      unfold hac; rw [h2]; simp [h1]
    rw [hval] at kk
    exact r_U (n := 1) (As := [.int x]) rest E G (c_X7_hoursAcross l Z q S X x v hv) m_449 m_452 m_453 m_450 m_450 m_49 m_457 m_457 (by decide +kernel) (24 + v.toNatClampNeg) hj rfl hR hl2 hdg hst rfl hsum hf kk
  · have hval : hac S v x = 2 + x := by
      have h2 : ar (s_ki S) v = s_ki S v.toNatClampNeg := rfl
      unfold hac; rw [h2]; simp [h1]
    rw [hval] at kk
    exact r_U (n := 1) (As := [.int x]) rest E G (c_X2_hoursAcross l Z q S X x v hv) m_449 m_452 m_454 m_455 m_450 m_51 m_456 m_457 (by decide +kernel) (24 + v.toNatClampNeg) hj rfl hR hl2 hdg hst rfl hsum hf kk
  · have hval : hac S v x = 1 + x := by
      have h2 : ar (s_ki S) v = s_ki S v.toNatClampNeg := rfl
      unfold hac; rw [h2]; simp [h1]
    rw [hval] at kk
    exact r_V (As := [.int x]) rest E G (c_X7_hoursAcross l Z q S X x v hv) kX7_hoursAcross m_449 (24 + v.toNatClampNeg) hj rfl hR hl2 hdg hst rfl hsum hf kk
