theorem va_Ka {s : State} {args : Array Value} {t : FieldType} (h : (Cond.arrayClass t).before args s = true) (ht : ∀ cA, va_RA s cA t ↔ s.vm.findClass ("[" ++ t.toString) = some cA) : ∃ cA : ClassId, ArrOfT s cA t ∧ va_RA s cA t := by
  obtain ⟨cA, k, comp, h1, h2, h3⟩ := Cond.arrayClass_spec h
  exact ⟨cA, fun n z => ⟨fun k h => (by cases h), k, h2, comp, h3⟩, (ht cA).mpr h1⟩
theorem va_Kv {s : State} {args : Array Value} {C : String} (h : (Cond.arrayOver (.object C)).before args s = true) : ∃ cA : ClassId, ArrOfT s cA (.object C) ∧ va_RA s cA (.object C) := by
  obtain ⟨comp, cA, k, h1, -, h3, h4, h5⟩ := Cond.arrayOver_spec h
  exact ⟨cA, fun n z => ⟨fun k h => (by cases h), k, h3, comp, h4⟩, k, comp, h3, h4, h1, h5⟩
set_option maxHeartbeats 4000000 in
set_option maxRecDepth 100000 in
theorem law_tabs {s : State} {args : Array Value} (hts : ∀ w ∈ lw_tbl, w.before args s = true) (hgv : (Jvm.Cond.and given_1 narrow_1).before args s = true) : ∃ Z : ZT, KW Z s ∧ KN s := by
  have htU : ∀ w ∈ wU, w.before args s = true := fun w h => hts w (wU_tbl h)
  have hfl := flat_of_before _ hgv
  obtain ⟨c0, i0, k0⟩ := u_known (C := "ConeRounds$Bike") (T := TX0) (N := 2) (n := 2) htU inU0 (htU _ m_290)
  obtain ⟨c1, i1, k1⟩ := u_known (C := "ConeRounds$Bills") (T := TX1) (N := 5) (n := 5) htU inU1 (htU _ m_164)
  obtain ⟨c2, i2, k2⟩ := u_known (C := "ConeRounds$Cart") (T := TX2) (N := 2) (n := 2) htU inU2 (htU _ m_308)
  obtain ⟨c3, i3, k3⟩ := u_known (C := "ConeRounds$Law") (T := TX3) (N := 3) (n := 3) htU inU3 (htU _ m_89)
  obtain ⟨c4, i4, k4⟩ := u_known (C := "ConeRounds$Stands") (T := TX4) (N := 5) (n := 5) htU inU4 (htU _ m_137)
  obtain ⟨c5, i5, k5⟩ := u_known (C := "ConeRounds$Town") (T := TX5) (N := 5) (n := 5) htU inU5 (htU _ m_62)
  obtain ⟨c6, i6, k6⟩ := u_known (C := "ConeRounds$Trail") (T := TX6) (N := 5) (n := 5) htU inU6 (htU _ m_110)
  obtain ⟨c7, i7, k7⟩ := u_known (C := "ConeRounds$Van") (T := TX7) (N := 2) (n := 2) htU inU7 (htU _ m_316)
  obtain ⟨c8, i8, k8⟩ := u_known (C := "ConeRounds") (T := TX8) (N := 11) (n := 11) htU inU8 (htU _ m_54)
  obtain ⟨c9, i9, k9⟩ := u_known (C := "ConeRoundsModel") (T := TX9) (N := 35) (n := 35) htU inU9 (htU _ m_628)
  obtain ⟨tI, aI, rI⟩ := va_Ka (htU _ m_86) (fun _ => Iff.rfl)
  obtain ⟨tZ, aZ, rZ⟩ := va_Ka (htU _ m_87) (fun _ => Iff.rfl)
  obtain ⟨tV, aV, rV⟩ := va_Kv (C := "ConeRounds$Van") (hts _ (List.mem_of_getElem? (i := 108) (by decide +kernel)))
  obtain ⟨dC, dI, hKc⟩ : ∃ (dC : Nat → ClassId) (dI : Nat → Nat → Nat), ∀ (k : Nat) (x : vw_C), vwC[k]? = some x → u_Kn s x.1 x.2.1 x.2.2 (dC k) (dI k) := by
    refine ⟨fun k => if k = 0 then c0 else if k = 1 then c1 else if k = 2 then c2 else if k = 3 then c3 else if k = 4 then c4 else if k = 5 then c5 else if k = 6 then c6 else if k = 7 then c7 else if k = 8 then c8 else c9, fun k => if k = 0 then i0 else if k = 1 then i1 else if k = 2 then i2 else if k = 3 then i3 else if k = 4 then i4 else if k = 5 then i5 else if k = 6 then i6 else if k = 7 then i7 else if k = 8 then i8 else i9, ?_⟩
    intro k x hq
    match k, hq with
    | 0, hq => cases hq; exact k0
    | 1, hq => cases hq; exact k1
    | 2, hq => cases hq; exact k2
    | 3, hq => cases hq; exact k3
    | 4, hq => cases hq; exact k4
    | 5, hq => cases hq; exact k5
    | 6, hq => cases hq; exact k6
    | 7, hq => cases hq; exact k7
    | 8, hq => cases hq; exact k8
    | 9, hq => cases hq; exact k9
    | k + 10, hq => simp [vwC] at hq
  refine ⟨((dC, dI), tI, tZ, tV), ⟨⟨hKc, ?_⟩, ?_⟩, ?_⟩
  · intro k x hx
    match k, hx with
    | 0, hx => cases hx; exact ⟨aI, rI⟩
    | 1, hx => cases hx; exact ⟨aZ, rZ⟩
    | 2, hx => cases hx; exact ⟨aV, rV⟩
    | k + 3, hx => simp [tysZ] at hx
  · exact ⟨⟨va_Nw.of rfl (hts _ (List.mem_of_getElem? (i := 946) (by decide +kernel))), va_Nw.of rfl (hts _ (List.mem_of_getElem? (i := 947) (by decide +kernel)))⟩, va_Nc.of (hfl (Cond.not (.castable "ConeRounds$Van" "ConeRounds$Bike")) (by decide +kernel)), va_Nc.of (hfl (Cond.not (.castable "ConeRounds$Cart" "ConeRounds$Bike")) (by decide +kernel)), va_Nc.of (hfl (Cond.not (.castable "ConeRounds$Van" "ConeRounds$Cart")) (by decide +kernel)), va_Nc.of (hfl (Cond.not (.castable "ConeRounds$Bike" "ConeRounds$Cart")) (by decide +kernel))⟩
  · exact ⟨⟨va_Nw.of rfl (hts _ (List.mem_of_getElem? (i := 291) (by decide +kernel))), va_Nw.of rfl (hts _ (List.mem_of_getElem? (i := 294) (by decide +kernel))), va_Nw.of rfl (hts _ (List.mem_of_getElem? (i := 309) (by decide +kernel))), va_Nw.of rfl (hts _ (List.mem_of_getElem? (i := 312) (by decide +kernel))), va_Nw.of rfl (hts _ (List.mem_of_getElem? (i := 317) (by decide +kernel)))⟩, ⟨va_Nw.of rfl (hts _ (List.mem_of_getElem? (i := 63) (by decide +kernel))), va_Nw.of rfl (hts _ (List.mem_of_getElem? (i := 90) (by decide +kernel))), va_Nw.of rfl (hts _ (List.mem_of_getElem? (i := 111) (by decide +kernel))), va_Nw.of rfl (hts _ (List.mem_of_getElem? (i := 138) (by decide +kernel))), va_Nw.of rfl (hts _ (List.mem_of_getElem? (i := 165) (by decide +kernel)))⟩, va_AO.of (hts _ (List.mem_of_getElem? (i := 108) (by decide +kernel)))⟩
set_option maxHeartbeats 4000000 in
set_option maxRecDepth 100000 in
/-- THE LAW, from its entry -/
theorem whole_start {p : Program} {e : Env} {s : State} {m : MethodId} {below : List Frame} {meth : Method} {c : Code} (l : Launch) {b L : Nat} {xs : Nat → Int32} (hL : L ≤ 2560) (C0 : lw_At p s m meth c b L xs) : W p l e room_1 s m #[Value.ref b] below meth c s.heap [] 0 0 (lw_Z below #[Value.ref b] s) (entryFrame m ([Value.ref b] : List Value).toArray 4) := by
  obtain ⟨hx, hb, hr, hml, hown, hts, hX, hbl, hlocks, hgv⟩ := id C0
  obtain ⟨Z, hK, hN⟩ := law_tabs hts hgv
  have E : EW p m c cL_law 4 s #[Value.ref b] "ConeRoundsLaw" Z := ⟨⟨hx, hb, hml, hown, fun w h => hts w (wU_tbl h)⟩, hK⟩
  have G : GW Z [] (AL s) s.heap s.heap [] := ⟨fun k q h => by simp at h, ⟨fun i j p q h => by simp at h, fun k q h => by simp at h⟩, va_S.rf, fun _ h => h⟩
  have hl := lv_entry ([.ref b]) (n := 4) (Nat.le_of_ble_eq_true rfl)
  rw [lg_entry_eq]
  generalize (lg_sl ([.ref b]) ++ List.replicate (4 - (lg_sl ([.ref b])).length) Slot.unset).toArray = ls at hl ⊢
  have hl : lv_has ls 4 [(0, .ref b)] := hl
  refine r_new E G (ci := 8) (fs := [.null, .null, .null, .null, .int 0, .null, .null, .null, .null, .null, .int 0]) rfl inU8 tyX8_ok m_53 m_54 m_42 dfX8 (Nat.le_of_ble_eq_true rfl) (Nat.le_of_ble_eq_true rfl) dL_law_0 (fun q0 H G => ?_)
  refine W.widen (k := 1) (n := 11) (by decide) (by decide) ?_
  refine lv_dup hx hb dL_law_3 rfl ?_
  refine r_IR [.ref q0] E hN G (c_X8_init l Z q0) kX8_init m_55 ⟨Nat.le_of_ble_eq_true rfl, Nat.le_of_ble_eq_true rfl⟩ hl dL_law_4 (Nat.le_of_ble_eq_true rfl) ⟨Nat.le_of_ble_eq_true rfl, Nat.le_of_ble_eq_true rfl⟩ (fun rv w1 H locs hp G => ?_)
  obtain ⟨rfl, q, rfl, rfl⟩ := hp
  have G : GW Z (CW Z q S0 X0) (AL s) s.heap H locs := G
  refine W.widen (k := 24) (n := 355) (by decide) (by decide) ?_
  refine lv_astore_n (lv' := [(1, .ref (q 0)), (0, .ref b)]) hx hb dL_law_7 rfl hl (by decide) rfl (fun ls hl => ?_)
  refine r_new E G (ci := 9) (fs := [.int 0, .int 0, .int 0, .int 0, .int 0, .int 0, .int 0, .int 0, .int 0, .int 0, .null, .null, .null, .null, .null, .null, .null, .null, .null, .null, .null, .null, .null, .null, .null, .null, .null, .null, .null, .null, .null, .null, .int 0, .int 0, .int 0]) rfl inU9 tyX9_ok m_627 m_628 m_48 dfX9 (Nat.le_of_ble_eq_true rfl) (Nat.le_of_ble_eq_true rfl) dL_law_8 (fun r0 H G => ?_)
  refine W.widen (k := 25) (n := 390) (by decide) (by decide) ?_
  refine lv_dup hx hb dL_law_11 rfl ?_
  refine r_IR [.ref r0] E hN G (c_X9_init l Z r0) kX9_init m_629 ⟨Nat.le_of_ble_eq_true rfl, Nat.le_of_ble_eq_true rfl⟩ hl dL_law_12 (Nat.le_of_ble_eq_true rfl) ⟨Nat.le_of_ble_eq_true rfl, Nat.le_of_ble_eq_true rfl⟩ (fun rv w1 H locs hp G => ?_)
  obtain ⟨rfl, r, rfl, rfl⟩ := hp
  refine W.widen (k := 47 + 0) (n := 738 + 2 * 0) (by decide) (by decide) ?_
  refine lv_astore_n (lv' := [(2, .ref (r 0)), (1, .ref (q 0)), (0, .ref b)]) hx hb dL_law_15 rfl hl (by decide) rfl (fun ls hl => ?_)
  refine lv_iconst (v := 0) hx hb dL_law_16 (by decide) ?_
  refine lv_istore_n (lv' := [(3, .int 0), (2, .ref (r 0)), (1, .ref (q 0)), (0, .ref b)]) hx hb dL_law_17 rfl hl (by decide) rfl (fun ls hl => ?_)
  exact law_loop hL E hN hX hbl hr hlocks 0 (Nat.zero_le _) q S0 X0 Y0 H locs ls Inv0 G (lv_sub hl [3, 2, 1, 0] rfl)
