section RI
variable {p : Program} {l : Launch} {e : Env} {R : Room} {s : State} {m : MethodId} {args : Array Value} {below : List Frame} {meth : Method} {c : Code} {H H0 : Heap} {locs : List Loc} {cells slots : Nat} {Q : State → Prop} {cc : ByteArray} {nL pc : Nat} {Z : ZT} {A : Nat → Prop} {ls : Array Slot} {rest : List Value} {q : Nat → Nat} {S : St} {X : XC} {v : Int32}
theorem rI_1 (E : EW p m c cc nL s args "ConeRounds" Z) (G : GW Z (CW Z q S X) A H0 H locs) (hI : Inv S) (hv : isVa S v = true) (hdg : decode cc pc = .ok (.instanceof 230, 3)) (kk : W p l e R s m args below meth c H locs cells slots Q (F0 m (pc + 3) ls (.int (b01 (decide (ar (s_ki S) v = 1))) :: rest))) : W p l e R s m args below meth c H locs cells slots Q (F0 m pc ls (.ref (q (24 + v.toNatClampNeg)) :: rest)) := by
  have hj := CW_van (Z := Z) (q := q) (S := S) (X := X) (va_lt hv)
  have h2 : ar (s_ki S) v = s_ki S v.toNatClampNeg := rfl
  have hts := E.1.2.2.2.2
  rcases kc_c (s_ki S v.toNatClampNeg) with ⟨h1, h⟩ | ⟨h1, h⟩ | ⟨h1, h⟩ <;> rw [h] at hj
  · rw [h2, h1] at kk
    exact va_instS E.1.1 E.1.2.1 E.1.2.2.2.1 (hts _ m_289) (E.2.1.1 0 _ rfl).2 (va_recv E.2.1 G.1 rfl hj) hdg kk
  · rw [h2, h1] at kk
    exact va_instNo E.1.1 E.1.2.1 E.1.2.2.2.1 (hts _ m_289) E.2.2.2.2.1 (va_recv E.2.1 G.1 rfl hj) hdg kk
  · rw [h2, decide_eq_false h1.1] at kk
    exact va_instNo E.1.1 E.1.2.1 E.1.2.2.2.1 (hts _ m_289) E.2.2.2.1 (va_recv E.2.1 G.1 rfl hj) hdg kk
theorem rI_2 (E : EW p m c cc nL s args "ConeRounds" Z) (G : GW Z (CW Z q S X) A H0 H locs) (hI : Inv S) (hv : isVa S v = true) (hdg : decode cc pc = .ok (.instanceof 233, 3)) (kk : W p l e R s m args below meth c H locs cells slots Q (F0 m (pc + 3) ls (.int (b01 (decide (ar (s_ki S) v = 2))) :: rest))) : W p l e R s m args below meth c H locs cells slots Q (F0 m pc ls (.ref (q (24 + v.toNatClampNeg)) :: rest)) := by
  have hj := CW_van (Z := Z) (q := q) (S := S) (X := X) (va_lt hv)
  have h2 : ar (s_ki S) v = s_ki S v.toNatClampNeg := rfl
  have hts := E.1.2.2.2.2
  rcases kc_c (s_ki S v.toNatClampNeg) with ⟨h1, h⟩ | ⟨h1, h⟩ | ⟨h1, h⟩ <;> rw [h] at hj
  · rw [h2, h1] at kk
    exact va_instNo E.1.1 E.1.2.1 E.1.2.2.2.1 (hts _ m_307) E.2.2.2.2.2.2 (va_recv E.2.1 G.1 rfl hj) hdg kk
  · rw [h2, h1] at kk
    exact va_instS E.1.1 E.1.2.1 E.1.2.2.2.1 (hts _ m_307) (E.2.1.1 2 _ rfl).2 (va_recv E.2.1 G.1 rfl hj) hdg kk
  · rw [h2, decide_eq_false h1.2] at kk
    exact va_instNo E.1.1 E.1.2.1 E.1.2.2.2.1 (hts _ m_307) E.2.2.2.2.2.1 (va_recv E.2.1 G.1 rfl hj) hdg kk
end RI
theorem in01 (k : Int32) : inr k 0 1 = (decide (k = 0) || decide (k = 1)) := by
  unfold inr
  have e := e_lit
  rw [Bool.eq_iff_iff]
  simp only [Bool.and_eq_true, Bool.or_eq_true, decide_eq_true_eq, i_le, ← Int32.toInt_inj]
  omega
theorem as_eq {S : St} {v k : Int32} (h : isKi k = true) : (if k = 1 then decide (ar (s_ki S) v = 1) else if k = 2 then decide (ar (s_ki S) v = 2) else true) = decide (k = 0 ∨ ar (s_ki S) v = k) := by
  rw [ki_or] at h
  simp only [Bool.or_eq_true, decide_eq_true_eq] at h
  rcases h with e | e | e <;> subst e <;> simp
theorem laS_rng (S : St) (v : Int32) : ∀ k, k ≤ 2 ^ 30 → laS S v k = -1 ∨ ∃ j, j < k ∧ laS S v k = nI j
  | 0, _ => Or.inl rfl
  | k + 1, h => by
    unfold laS
    split
    · exact Or.inr ⟨k, by omega, rfl⟩
    · rcases laS_rng S v k (by omega) with h1 | ⟨j, h1, h2⟩
      · exact Or.inl h1
      · exact Or.inr ⟨j, by omega, h2⟩
theorem la_sd {S : St} (hI : Inv S) (v : Int32) {k : Nat} (hk : k ≤ (s_sd S).toNatClampNeg) : isSd S (laS S v k) = decide (0 ≤ laS S v k) := by
  have h24 := N24 hI
  rcases laS_rng S v k (by omega) with h | ⟨j, h1, h2⟩
  · rw [h]; unfold isSd; rw [show decide ((0 : Int32) ≤ -1) = false by decide]; rfl
  · rw [h2, sd_k hI (by omega), decide_eq_true (nI_pos' (by omega))]
theorem lat_rng {S : St} (hI : Inv S) (v a b : Int32) : 1 ≤ (lat S v a b).toInt ∧ (lat S v a b).toInt ≤ 5 := by
  have e := e_lit
  unfold lat
  split
  · omega
  · have h := hI.2.2.1 (a * 6 + b).toNatClampNeg
    rw [i_le, i_le] at h
    have h0 : ar (s_wy S) (a * 6 + b) = s_wy S (a * 6 + b).toNatClampNeg := rfl
    rw [h0]
    have h1 : (1 + s_wy S (a * 6 + b).toNatClampNeg).toInt = 1 + (s_wy S (a * 6 + b).toNatClampNeg).toInt := by rw [i_add (by omega) (by omega)]; omega
    split
    · rw [i_add (by omega) (by omega)]; omega
    · rw [i_add (by omega) (by omega)]; omega
theorem soon_eq {S : St} (hI : Inv S) {n : Int32} (hn : isSd S n = true) {k : Int32} (hk : isSd S k = true) (L : Int32) (hL : 1 ≤ L.toInt ∧ L.toInt ≤ 5) : (ar (s_sh S) n - ar (s_sh S) k < L) ↔ (ar (s_sh S) n < ar (s_sh S) k + L) := by
  have h1 := ho_of (sd_in hI hn).2.2
  have h2 := ho_of (sd_in hI hk).2.2
  rw [i_lt, i_lt, i_sub (by omega) (by omega), i_add (by omega) (by omega)]
  omega
theorem sd_lt {S : St} (hI : Inv S) {n : Int32} (h : isSd S n = true) : n.toNatClampNeg < (s_sd S).toNatClampNeg := by
  unfold isSd at h
  simp only [Bool.and_eq_true, decide_eq_true_eq] at h
  obtain ⟨j, hj, e⟩ := nI_of (x := n) (Int32.not_lt.mpr h.1)
  obtain ⟨k, hk, e2⟩ := nI_of (x := s_sd S) (Int32.not_lt.mpr hI.sd.1)
  have h2 := h.2
  rw [e, e2] at h2
  rw [e, e2, nI_clamp hj, nI_clamp hk]
  exact (nI_ltI hj hk).mp h2
theorem hoS_rng (S : St) (a : Int32) : ∀ k, k ≤ 2 ^ 30 → (hoS S a k).1 = -1 ∨ ∃ j, j < k ∧ (hoS S a k).1 = nI j
  | 0, _ => Or.inl rfl
  | k + 1, h => by
    unfold hoS
    split
    · exact Or.inr ⟨k, by omega, rfl⟩
    · rcases hoS_rng S a k (by omega) with h1 | ⟨j, h1, h2⟩
      · exact Or.inl h1
      · exact Or.inr ⟨j, by omega, h2⟩
theorem hol_neg {S : St} (hI : Inv S) (a : Int32) : (hol S a < 0) ↔ hol S a = -1 := by
  have h4 := N4 hI
  unfold hol
  rcases hoS_rng S a _ (show (s_va S).toNatClampNeg ≤ 2 ^ 30 by omega) with h | ⟨j, h1, h2⟩
  · rw [h]; exact ⟨fun _ => rfl, fun _ => by decide⟩
  · rw [h2]
    refine ⟨fun g => absurd g (nI_pos (by omega)), fun g => ?_⟩
    exact absurd (by rw [g]; decide : nI j < 0) (nI_pos (by omega))
set_option maxHeartbeats 4000000 in
set_option maxRecDepth 100000 in
theorem c_X8_street (l : Launch) (Z : ZT) (q : Nat → Nat) (S : St) (X : XC) (p1 : Int32) (hI : Inv S) : CT l Z yX8_street cX8_street 2 (some .int) 3 [.ref (q 0), .int (p1)] (CW Z q S X) (some (.int ((sp_street S p1).1))) (CW Z q ((sp_street S p1).2) (X)) := by
  refine CE.mk rfl (Nat.le_of_ble_eq_true rfl) (fun p e s m args below meth c A Qx ls E hr hlk hnm hQ G hl => ?_)
  have hx := E.1.1
  have hb := E.1.2.1
  have hl : lv_has ls 2 [(0, .ref (q 0)), (1, .int (p1))] := hl
  refine lv_iload_n hx hb dX8_street_0 rfl (lv_at hl 1 rfl) ?_
  refine lv_if_eq (tgt := 16) hx hb dX8_street_1 (by decide) (fun c_1 => ?_) (fun c_1 => ?_)
  · skip
    refine lv_aload_n hx hb dX8_street_16 rfl (lv_at hl 0 rfl) ?_
    refine gC_0_1 E G m_189 dX8_street_17 ?_
    refine r_V [] E G (c_X5_isFull l Z q S X hI) kX5_isFull m_232 2 rfl rfl ⟨Nat.le_of_ble_eq_true rfl, Nat.le_of_ble_eq_true rfl⟩ hl dX8_street_20 rfl rfl (Nat.le_of_ble_eq_true rfl) ⟨Nat.zero_le _, Nat.zero_le _⟩ (fun H locs G => ?_)
    refine r_eqb (tgt := 33) hx hb dX8_street_23 (by decide) (fun c_23 => ?_) (fun c_23 => ?_)
    · skip
      have c_23d := of_decide_eq_false c_23
      refine lv_aload_n hx hb dX8_street_33 rfl (lv_at hl 0 rfl) ?_
      refine gC_0_1 E G m_189 dX8_street_34 ?_
      refine lv_iload_n hx hb dX8_street_37 rfl (lv_at hl 1 rfl) ?_
      refine lv_iconst (v := 1) hx hb dX8_street_38 (by decide) ?_
      refine lv_icmp_ne (tgt := 46) hx hb dX8_street_39 (by decide) (fun c_39 => ?_) (fun c_39 => ?_)
      · skip
        refine lv_iconst (v := 0) hx hb dX8_street_46 (by decide) ?_
        refine r_V [] E G (c_X5_add l Z q S X 0 hI (ne_lim hI.st.2 (of_decide_eq_false c_23)) (by decide)) kX5_add m_237 2 rfl rfl ⟨Nat.le_of_ble_eq_true rfl, Nat.le_of_ble_eq_true rfl⟩ hl dX8_street_47 rfl rfl (Nat.le_of_ble_eq_true rfl) ⟨Nat.zero_le _, Nat.zero_le _⟩ (fun H locs G => ?_)
        have hs : (sp_street S p1) = ((adT S 0).1, (adT S 0).2) := by first | rfl | (simp [sp_street, in01, adT, c_1, c_23, c_23d, c_39]; done) | (simp_all [sp_street, in01, adT]; done)
        exact r_ret E G hr hlk hQ (by rw [hs]) (by rw [hs]) dX8_street_50
      · skip
        refine lv_iconst (v := 1) hx hb dX8_street_42 (by decide) ?_
        refine lv_goto (tgt := 47) hx hb dX8_street_43 (by decide) ?_
        refine r_V [] E G (c_X5_add l Z q S X 1 hI (ne_lim hI.st.2 (of_decide_eq_false c_23)) (by decide)) kX5_add m_237 2 rfl rfl ⟨Nat.le_of_ble_eq_true rfl, Nat.le_of_ble_eq_true rfl⟩ hl dX8_street_47 rfl rfl (Nat.le_of_ble_eq_true rfl) ⟨Nat.zero_le _, Nat.zero_le _⟩ (fun H locs G => ?_)
        have hs : (sp_street S p1) = ((adT S 1).1, (adT S 1).2) := by first | rfl | (simp [sp_street, in01, adT, c_1, c_23, c_23d, c_39]; done) | (simp_all [sp_street, in01, adT]; done)
        exact r_ret E G hr hlk hQ (by rw [hs]) (by rw [hs]) dX8_street_50
    · skip
      have c_23d := of_decide_eq_true c_23
      refine lv_aload_n hx hb dX8_street_26 rfl (lv_at hl 0 rfl) ?_
      refine lv_ldc hx hb E.1.2.2.2.1 (E.1.2.2.2.2 _ m_236) dX8_street_27 ?_
      refine r_V [] E G (c_X8_finding l Z q S X (-1000004) (by decide)) kX8_finding m_227 0 rfl rfl ⟨Nat.le_of_ble_eq_true rfl, Nat.le_of_ble_eq_true rfl⟩ hl dX8_street_29 rfl rfl (Nat.le_of_ble_eq_true rfl) ⟨Nat.zero_le _, Nat.zero_le _⟩ (fun H locs G => ?_)
      have hs : (sp_street S p1) = ((fnd S (-1000004)).1, (fnd S (-1000004)).2) := by first | rfl | (simp [sp_street, in01, adT, c_1, c_23, c_23d]; done) | (simp_all [sp_street, in01, adT]; done)
      exact r_ret E G hr hlk hQ (by rw [hs]) (by rw [hs]) dX8_street_32
  · skip
    refine lv_iload_n hx hb dX8_street_4 rfl (lv_at hl 1 rfl) ?_
    refine lv_iconst (v := 1) hx hb dX8_street_5 (by decide) ?_
    refine lv_icmp_eq (tgt := 16) hx hb dX8_street_6 (by decide) (fun c_6 => ?_) (fun c_6 => ?_)
    · skip
      refine lv_aload_n hx hb dX8_street_16 rfl (lv_at hl 0 rfl) ?_
      refine gC_0_1 E G m_189 dX8_street_17 ?_
      refine r_V [] E G (c_X5_isFull l Z q S X hI) kX5_isFull m_232 2 rfl rfl ⟨Nat.le_of_ble_eq_true rfl, Nat.le_of_ble_eq_true rfl⟩ hl dX8_street_20 rfl rfl (Nat.le_of_ble_eq_true rfl) ⟨Nat.zero_le _, Nat.zero_le _⟩ (fun H locs G => ?_)
      refine r_eqb (tgt := 33) hx hb dX8_street_23 (by decide) (fun c_23 => ?_) (fun c_23 => ?_)
      · skip
        have c_23d := of_decide_eq_false c_23
        refine lv_aload_n hx hb dX8_street_33 rfl (lv_at hl 0 rfl) ?_
        refine gC_0_1 E G m_189 dX8_street_34 ?_
        refine lv_iload_n hx hb dX8_street_37 rfl (lv_at hl 1 rfl) ?_
        refine lv_iconst (v := 1) hx hb dX8_street_38 (by decide) ?_
        refine lv_icmp_ne (tgt := 46) hx hb dX8_street_39 (by decide) (fun c_39 => ?_) (fun c_39 => ?_)
        · skip
          refine lv_iconst (v := 0) hx hb dX8_street_46 (by decide) ?_
          refine r_V [] E G (c_X5_add l Z q S X 0 hI (ne_lim hI.st.2 (of_decide_eq_false c_23)) (by decide)) kX5_add m_237 2 rfl rfl ⟨Nat.le_of_ble_eq_true rfl, Nat.le_of_ble_eq_true rfl⟩ hl dX8_street_47 rfl rfl (Nat.le_of_ble_eq_true rfl) ⟨Nat.zero_le _, Nat.zero_le _⟩ (fun H locs G => ?_)
          have hs : (sp_street S p1) = ((adT S 0).1, (adT S 0).2) := by first | rfl | (simp [sp_street, in01, adT, c_1, c_6, c_23, c_23d, c_39]; done) | (simp_all [sp_street, in01, adT]; done)
          exact r_ret E G hr hlk hQ (by rw [hs]) (by rw [hs]) dX8_street_50
        · skip
          refine lv_iconst (v := 1) hx hb dX8_street_42 (by decide) ?_
          refine lv_goto (tgt := 47) hx hb dX8_street_43 (by decide) ?_
          refine r_V [] E G (c_X5_add l Z q S X 1 hI (ne_lim hI.st.2 (of_decide_eq_false c_23)) (by decide)) kX5_add m_237 2 rfl rfl ⟨Nat.le_of_ble_eq_true rfl, Nat.le_of_ble_eq_true rfl⟩ hl dX8_street_47 rfl rfl (Nat.le_of_ble_eq_true rfl) ⟨Nat.zero_le _, Nat.zero_le _⟩ (fun H locs G => ?_)
          have hs : (sp_street S p1) = ((adT S 1).1, (adT S 1).2) := by first | rfl | (simp [sp_street, in01, adT, c_1, c_6, c_23, c_23d, c_39]; done) | (simp_all [sp_street, in01, adT]; done)
          exact r_ret E G hr hlk hQ (by rw [hs]) (by rw [hs]) dX8_street_50
      · skip
        have c_23d := of_decide_eq_true c_23
        refine lv_aload_n hx hb dX8_street_26 rfl (lv_at hl 0 rfl) ?_
        refine lv_ldc hx hb E.1.2.2.2.1 (E.1.2.2.2.2 _ m_236) dX8_street_27 ?_
        refine r_V [] E G (c_X8_finding l Z q S X (-1000004) (by decide)) kX8_finding m_227 0 rfl rfl ⟨Nat.le_of_ble_eq_true rfl, Nat.le_of_ble_eq_true rfl⟩ hl dX8_street_29 rfl rfl (Nat.le_of_ble_eq_true rfl) ⟨Nat.zero_le _, Nat.zero_le _⟩ (fun H locs G => ?_)
        have hs : (sp_street S p1) = ((fnd S (-1000004)).1, (fnd S (-1000004)).2) := by first | rfl | (simp [sp_street, in01, adT, c_1, c_6, c_23, c_23d]; done) | (simp_all [sp_street, in01, adT]; done)
        exact r_ret E G hr hlk hQ (by rw [hs]) (by rw [hs]) dX8_street_32
    · skip
      refine lv_aload_n hx hb dX8_street_9 rfl (lv_at hl 0 rfl) ?_
      refine lv_ldc hx hb E.1.2.2.2.1 (E.1.2.2.2.2 _ m_226) dX8_street_10 ?_
      refine r_V [] E G (c_X8_finding l Z q S X (-1000001) (by decide)) kX8_finding m_227 0 rfl rfl ⟨Nat.le_of_ble_eq_true rfl, Nat.le_of_ble_eq_true rfl⟩ hl dX8_street_12 rfl rfl (Nat.le_of_ble_eq_true rfl) ⟨Nat.zero_le _, Nat.zero_le _⟩ (fun H locs G => ?_)
      have hs : (sp_street S p1) = ((fnd S (-1000001)).1, (fnd S (-1000001)).2) := by first | rfl | (simp [sp_street, in01, adT, c_1, c_6]; done) | (simp_all [sp_street, in01, adT]; done)
      exact r_ret E G hr hlk hQ (by rw [hs]) (by rw [hs]) dX8_street_15
set_option maxHeartbeats 4000000 in
set_option maxRecDepth 100000 in
theorem c_X8_way (l : Launch) (Z : ZT) (q : Nat → Nat) (S : St) (X : XC) (p1 p2 p3 : Int32) (hI : Inv S) : CT l Z yX8_way cX8_way 5 (some .int) 3 [.ref (q 0), .int (p1), .int (p2), .int (p3)] (CW Z q S X) (some (.int ((sp_way S p1 p2 p3).1))) (CW Z q ((sp_way S p1 p2 p3).2) (X)) := by
  refine CE.mk rfl (Nat.le_of_ble_eq_true rfl) (fun p e s m args below meth c A Qx ls E hr hlk hnm hQ G hl => ?_)
  have hx := E.1.1
  have hb := E.1.2.1
  have hl : lv_has ls 5 [(0, .ref (q 0)), (1, .int (p1)), (2, .int (p2)), (3, .int (p3))] := hl
  refine lv_aload_n hx hb dX8_way_0 rfl (lv_at hl 0 rfl) ?_
  refine gC_0_1 E G m_189 dX8_way_1 ?_
  refine lv_iload_n hx hb dX8_way_4 rfl (lv_at hl 1 rfl) ?_
  refine r_V [] E G (c_X5_has l Z q S X p1) kX5_has m_245 2 rfl rfl ⟨Nat.le_of_ble_eq_true rfl, Nat.le_of_ble_eq_true rfl⟩ hl dX8_way_5 rfl rfl (Nat.le_of_ble_eq_true rfl) ⟨Nat.zero_le _, Nat.zero_le _⟩ (fun H locs G => ?_)
  refine r_eqb (tgt := 35) hx hb dX8_way_8 (by decide) (fun c_8 => ?_) (fun c_8 => ?_)
  · skip
    refine lv_aload_n hx hb dX8_way_35 rfl (lv_at hl 0 rfl) ?_
    refine lv_ldc hx hb E.1.2.2.2.1 (E.1.2.2.2.2 _ m_226) dX8_way_36 ?_
    refine r_V [] E G (c_X8_finding l Z q S X (-1000001) (by decide)) kX8_finding m_227 0 rfl rfl ⟨Nat.le_of_ble_eq_true rfl, Nat.le_of_ble_eq_true rfl⟩ hl dX8_way_38 rfl rfl (Nat.le_of_ble_eq_true rfl) ⟨Nat.zero_le _, Nat.zero_le _⟩ (fun H locs G => ?_)
    have hs : (sp_way S p1 p2 p3) = ((fnd S (-1000001)).1, (fnd S (-1000001)).2) := by first | rfl | (simp [sp_way, c_8]; done) | (simp_all [sp_way]; done)
    exact r_ret E G hr hlk hQ (by rw [hs]) (by rw [hs]) dX8_way_41
  · skip
    refine lv_aload_n hx hb dX8_way_11 rfl (lv_at hl 0 rfl) ?_
    refine gC_0_1 E G m_189 dX8_way_12 ?_
    refine lv_iload_n hx hb dX8_way_15 rfl (lv_at hl 2 rfl) ?_
    refine r_V [] E G (c_X5_has l Z q S X p2) kX5_has m_245 2 rfl rfl ⟨Nat.le_of_ble_eq_true rfl, Nat.le_of_ble_eq_true rfl⟩ hl dX8_way_16 rfl rfl (Nat.le_of_ble_eq_true rfl) ⟨Nat.zero_le _, Nat.zero_le _⟩ (fun H locs G => ?_)
    refine r_eqb (tgt := 35) hx hb dX8_way_19 (by decide) (fun c_19 => ?_) (fun c_19 => ?_)
    · skip
      refine lv_aload_n hx hb dX8_way_35 rfl (lv_at hl 0 rfl) ?_
      refine lv_ldc hx hb E.1.2.2.2.1 (E.1.2.2.2.2 _ m_226) dX8_way_36 ?_
      refine r_V [] E G (c_X8_finding l Z q S X (-1000001) (by decide)) kX8_finding m_227 0 rfl rfl ⟨Nat.le_of_ble_eq_true rfl, Nat.le_of_ble_eq_true rfl⟩ hl dX8_way_38 rfl rfl (Nat.le_of_ble_eq_true rfl) ⟨Nat.zero_le _, Nat.zero_le _⟩ (fun H locs G => ?_)
      have hs : (sp_way S p1 p2 p3) = ((fnd S (-1000001)).1, (fnd S (-1000001)).2) := by first | rfl | (simp [sp_way, c_8, c_19]; done) | (simp_all [sp_way]; done)
      exact r_ret E G hr hlk hQ (by rw [hs]) (by rw [hs]) dX8_way_41
    · skip
      refine lv_iload_n hx hb dX8_way_22 rfl (lv_at hl 1 rfl) ?_
      refine lv_iload_n hx hb dX8_way_23 rfl (lv_at hl 2 rfl) ?_
      refine lv_icmp_eq (tgt := 35) hx hb dX8_way_24 (by decide) (fun c_24 => ?_) (fun c_24 => ?_)
      · skip
        refine lv_aload_n hx hb dX8_way_35 rfl (lv_at hl 0 rfl) ?_
        refine lv_ldc hx hb E.1.2.2.2.1 (E.1.2.2.2.2 _ m_226) dX8_way_36 ?_
        refine r_V [] E G (c_X8_finding l Z q S X (-1000001) (by decide)) kX8_finding m_227 0 rfl rfl ⟨Nat.le_of_ble_eq_true rfl, Nat.le_of_ble_eq_true rfl⟩ hl dX8_way_38 rfl rfl (Nat.le_of_ble_eq_true rfl) ⟨Nat.zero_le _, Nat.zero_le _⟩ (fun H locs G => ?_)
        have hs : (sp_way S p1 p2 p3) = ((fnd S (-1000001)).1, (fnd S (-1000001)).2) := by first | rfl | (simp [sp_way, c_8, c_19, c_24]; done) | (simp_all [sp_way]; done)
        exact r_ret E G hr hlk hQ (by rw [hs]) (by rw [hs]) dX8_way_41
      · skip
        refine lv_iload_n hx hb dX8_way_27 rfl (lv_at hl 3 rfl) ?_
        refine lv_iconst (v := 3) hx hb dX8_way_28 (by decide) ?_
        refine r_S [] E G (c_X8_isWithin l Z q S X p3 3) kX8_isWithin m_249 ⟨Nat.le_of_ble_eq_true rfl, Nat.le_of_ble_eq_true rfl⟩ hl dX8_way_29 rfl rfl (Nat.le_of_ble_eq_true rfl) ⟨Nat.zero_le _, Nat.zero_le _⟩ (fun H locs G => ?_)
        refine r_neb (tgt := 42) hx hb dX8_way_32 (by decide) (fun c_32 => ?_) (fun c_32 => ?_)
        · skip
          refine lv_aload_n hx hb dX8_way_42 rfl (lv_at hl 0 rfl) ?_
          refine gC_0_1 E G m_189 dX8_way_43 ?_
          refine lv_iload_n hx hb dX8_way_46 rfl (lv_at hl 1 rfl) ?_
          refine lv_iload_n hx hb dX8_way_47 rfl (lv_at hl 2 rfl) ?_
          refine r_V [] E G (c_X5_wayBetween l Z q S X p1 p2 hI c_8 c_19) kX5_wayBetween m_252 2 rfl rfl ⟨Nat.le_of_ble_eq_true rfl, Nat.le_of_ble_eq_true rfl⟩ hl dX8_way_48 rfl rfl (Nat.le_of_ble_eq_true rfl) ⟨Nat.zero_le _, Nat.zero_le _⟩ (fun H locs G => ?_)
          refine lv_istore (lv' := [(4, .int (ar (s_wy S) (p1 * 6 + p2))), (0, .ref (q 0)), (1, .int (p1)), (2, .int (p2)), (3, .int (p3))]) hx hb dX8_way_51 hl (by decide) rfl (fun ls hl => ?_)
          refine lv_aload_n hx hb dX8_way_53 rfl (lv_at hl 1 rfl) ?_
          refine gC_0_1 E G m_189 dX8_way_54 ?_
          refine lv_iload_n hx hb dX8_way_57 rfl (lv_at hl 2 rfl) ?_
          refine lv_iload_n hx hb dX8_way_58 rfl (lv_at hl 3 rfl) ?_
          refine lv_iload_n hx hb dX8_way_59 rfl (lv_at hl 4 rfl) ?_
          refine r_Vv [] E G (c_X5_setWay l Z q S X p1 p2 p3 hI c_8 c_19) kX5_setWay m_256 2 rfl rfl ⟨Nat.le_of_ble_eq_true rfl, Nat.le_of_ble_eq_true rfl⟩ hl dX8_way_60 rfl rfl (Nat.le_of_ble_eq_true rfl) ⟨Nat.zero_le _, Nat.zero_le _⟩ (fun H locs G => ?_)
          refine lv_iload hx hb dX8_way_63 (lv_at hl 0 rfl) ?_
          have hs : (sp_way S p1 p2 p3) = (ar (s_wy S) (p1 * 6 + p2), u_wy S (au (au (s_wy S) (p1 * 6 + p2) p3) (p2 * 6 + p1) p3)) := by first | rfl | (simp [sp_way, c_8, c_19, c_24, c_32]; done) | (simp_all [sp_way]; done)
          exact r_ret E G hr hlk hQ (by rw [hs]) (by rw [hs]) dX8_way_65
        · skip
          refine lv_aload_n hx hb dX8_way_35 rfl (lv_at hl 0 rfl) ?_
          refine lv_ldc hx hb E.1.2.2.2.1 (E.1.2.2.2.2 _ m_226) dX8_way_36 ?_
          refine r_V [] E G (c_X8_finding l Z q S X (-1000001) (by decide)) kX8_finding m_227 0 rfl rfl ⟨Nat.le_of_ble_eq_true rfl, Nat.le_of_ble_eq_true rfl⟩ hl dX8_way_38 rfl rfl (Nat.le_of_ble_eq_true rfl) ⟨Nat.zero_le _, Nat.zero_le _⟩ (fun H locs G => ?_)
          have hs : (sp_way S p1 p2 p3) = ((fnd S (-1000001)).1, (fnd S (-1000001)).2) := by first | rfl | (simp [sp_way, c_8, c_19, c_24, c_32]; done) | (simp_all [sp_way]; done)
          exact r_ret E G hr hlk hQ (by rw [hs]) (by rw [hs]) dX8_way_41
set_option maxHeartbeats 4000000 in
set_option maxRecDepth 100000 in
theorem c_X8_wish (l : Launch) (Z : ZT) (q : Nat → Nat) (S : St) (X : XC) (p1 p2 p3 : Int32) (hI : Inv S) : CT l Z yX8_wish cX8_wish 5 (some .int) 3 [.ref (q 0), .int (p1), .int (p2), .int (p3)] (CW Z q S X) (some (.int ((sp_wish S p1 p2 p3).1))) (CW Z q ((sp_wish S p1 p2 p3).2) (X)) := by
  refine CE.mk rfl (Nat.le_of_ble_eq_true rfl) (fun p e s m args below meth c A Qx ls E hr hlk hnm hQ G hl => ?_)
  have hx := E.1.1
  have hb := E.1.2.1
  have hl : lv_has ls 5 [(0, .ref (q 0)), (1, .int (p1)), (2, .int (p2)), (3, .int (p3))] := hl
  refine lv_aload_n hx hb dX8_wish_0 rfl (lv_at hl 0 rfl) ?_
  refine gC_0_1 E G m_189 dX8_wish_1 ?_
  refine lv_iload_n hx hb dX8_wish_4 rfl (lv_at hl 1 rfl) ?_
  refine r_V [] E G (c_X5_has l Z q S X p1) kX5_has m_245 2 rfl rfl ⟨Nat.le_of_ble_eq_true rfl, Nat.le_of_ble_eq_true rfl⟩ hl dX8_wish_5 rfl rfl (Nat.le_of_ble_eq_true rfl) ⟨Nat.zero_le _, Nat.zero_le _⟩ (fun H locs G => ?_)
  refine r_eqb (tgt := 28) hx hb dX8_wish_8 (by decide) (fun c_8 => ?_) (fun c_8 => ?_)
  · skip
    refine lv_aload_n hx hb dX8_wish_28 rfl (lv_at hl 0 rfl) ?_
    refine lv_ldc hx hb E.1.2.2.2.1 (E.1.2.2.2.2 _ m_226) dX8_wish_29 ?_
    refine r_V [] E G (c_X8_finding l Z q S X (-1000001) (by decide)) kX8_finding m_227 0 rfl rfl ⟨Nat.le_of_ble_eq_true rfl, Nat.le_of_ble_eq_true rfl⟩ hl dX8_wish_31 rfl rfl (Nat.le_of_ble_eq_true rfl) ⟨Nat.zero_le _, Nat.zero_le _⟩ (fun H locs G => ?_)
    have hs : (sp_wish S p1 p2 p3) = ((fnd S (-1000001)).1, (fnd S (-1000001)).2) := by first | rfl | (simp [sp_wish, c_8]; done) | (simp_all [sp_wish]; done)
    exact r_ret E G hr hlk hQ (by rw [hs]) (by rw [hs]) dX8_wish_34
  · skip
    refine lv_iload_n hx hb dX8_wish_11 rfl (lv_at hl 2 rfl) ?_
    refine r_S [] E G (c_X8_isHour l Z q S X p2) kX8_isHour m_264 ⟨Nat.le_of_ble_eq_true rfl, Nat.le_of_ble_eq_true rfl⟩ hl dX8_wish_12 rfl rfl (Nat.le_of_ble_eq_true rfl) ⟨Nat.zero_le _, Nat.zero_le _⟩ (fun H locs G => ?_)
    refine r_eqb (tgt := 28) hx hb dX8_wish_15 (by decide) (fun c_15 => ?_) (fun c_15 => ?_)
    · skip
      refine lv_aload_n hx hb dX8_wish_28 rfl (lv_at hl 0 rfl) ?_
      refine lv_ldc hx hb E.1.2.2.2.1 (E.1.2.2.2.2 _ m_226) dX8_wish_29 ?_
      refine r_V [] E G (c_X8_finding l Z q S X (-1000001) (by decide)) kX8_finding m_227 0 rfl rfl ⟨Nat.le_of_ble_eq_true rfl, Nat.le_of_ble_eq_true rfl⟩ hl dX8_wish_31 rfl rfl (Nat.le_of_ble_eq_true rfl) ⟨Nat.zero_le _, Nat.zero_le _⟩ (fun H locs G => ?_)
      have hs : (sp_wish S p1 p2 p3) = ((fnd S (-1000001)).1, (fnd S (-1000001)).2) := by first | rfl | (simp [sp_wish, c_8, c_15]; done) | (simp_all [sp_wish]; done)
      exact r_ret E G hr hlk hQ (by rw [hs]) (by rw [hs]) dX8_wish_34
    · skip
      refine lv_iload_n hx hb dX8_wish_18 rfl (lv_at hl 3 rfl) ?_
      refine lv_sipush (v := 200) hx hb dX8_wish_19 (by decide) ?_
      refine r_S [] E G (c_X8_isWithin l Z q S X p3 200) kX8_isWithin m_249 ⟨Nat.le_of_ble_eq_true rfl, Nat.le_of_ble_eq_true rfl⟩ hl dX8_wish_22 rfl rfl (Nat.le_of_ble_eq_true rfl) ⟨Nat.zero_le _, Nat.zero_le _⟩ (fun H locs G => ?_)
      refine r_neb (tgt := 35) hx hb dX8_wish_25 (by decide) (fun c_25 => ?_) (fun c_25 => ?_)
      · skip
        refine lv_aload_n hx hb dX8_wish_35 rfl (lv_at hl 0 rfl) ?_
        refine gC_0_1 E G m_189 dX8_wish_36 ?_
        refine lv_iload_n hx hb dX8_wish_39 rfl (lv_at hl 1 rfl) ?_
        refine lv_iload_n hx hb dX8_wish_40 rfl (lv_at hl 2 rfl) ?_
        refine r_V [] E G (c_X5_wishAt l Z q S X p1 p2 hI c_8 c_15) kX5_wishAt m_267 2 rfl rfl ⟨Nat.le_of_ble_eq_true rfl, Nat.le_of_ble_eq_true rfl⟩ hl dX8_wish_41 rfl rfl (Nat.le_of_ble_eq_true rfl) ⟨Nat.zero_le _, Nat.zero_le _⟩ (fun H locs G => ?_)
        refine lv_istore (lv' := [(4, .int (ar (s_wi S) (p1 * 12 + p2))), (0, .ref (q 0)), (1, .int (p1)), (2, .int (p2)), (3, .int (p3))]) hx hb dX8_wish_44 hl (by decide) rfl (fun ls hl => ?_)
        refine lv_aload_n hx hb dX8_wish_46 rfl (lv_at hl 1 rfl) ?_
        refine gC_0_1 E G m_189 dX8_wish_47 ?_
        refine lv_iload_n hx hb dX8_wish_50 rfl (lv_at hl 2 rfl) ?_
        refine lv_iload_n hx hb dX8_wish_51 rfl (lv_at hl 3 rfl) ?_
        refine lv_iload_n hx hb dX8_wish_52 rfl (lv_at hl 4 rfl) ?_
        refine r_Vv [] E G (c_X5_setWish l Z q S X p1 p2 p3 hI c_8 c_15) kX5_setWish m_271 2 rfl rfl ⟨Nat.le_of_ble_eq_true rfl, Nat.le_of_ble_eq_true rfl⟩ hl dX8_wish_53 rfl rfl (Nat.le_of_ble_eq_true rfl) ⟨Nat.zero_le _, Nat.zero_le _⟩ (fun H locs G => ?_)
        refine lv_iload hx hb dX8_wish_56 (lv_at hl 0 rfl) ?_
        have hs : (sp_wish S p1 p2 p3) = (ar (s_wi S) (p1 * 12 + p2), u_wi S (au (s_wi S) (p1 * 12 + p2) p3)) := by first | rfl | (simp [sp_wish, c_8, c_15, c_25]; done) | (simp_all [sp_wish]; done)
        exact r_ret E G hr hlk hQ (by rw [hs]) (by rw [hs]) dX8_wish_58
      · skip
        refine lv_aload_n hx hb dX8_wish_28 rfl (lv_at hl 0 rfl) ?_
        refine lv_ldc hx hb E.1.2.2.2.1 (E.1.2.2.2.2 _ m_226) dX8_wish_29 ?_
        refine r_V [] E G (c_X8_finding l Z q S X (-1000001) (by decide)) kX8_finding m_227 0 rfl rfl ⟨Nat.le_of_ble_eq_true rfl, Nat.le_of_ble_eq_true rfl⟩ hl dX8_wish_31 rfl rfl (Nat.le_of_ble_eq_true rfl) ⟨Nat.zero_le _, Nat.zero_le _⟩ (fun H locs G => ?_)
        have hs : (sp_wish S p1 p2 p3) = ((fnd S (-1000001)).1, (fnd S (-1000001)).2) := by first | rfl | (simp [sp_wish, c_8, c_15, c_25]; done) | (simp_all [sp_wish]; done)
        exact r_ret E G hr hlk hQ (by rw [hs]) (by rw [hs]) dX8_wish_34
set_option maxHeartbeats 4000000 in
set_option maxRecDepth 100000 in
theorem c_X8_heat (l : Launch) (Z : ZT) (q : Nat → Nat) (S : St) (X : XC) (p1 : Int32) (hI : Inv S) : CT l Z yX8_heat cX8_heat 3 (some .int) 3 [.ref (q 0), .int (p1)] (CW Z q S X) (some (.int ((sp_heat S p1).1))) (CW Z q ((sp_heat S p1).2) (X)) := by
  refine CE.mk rfl (Nat.le_of_ble_eq_true rfl) (fun p e s m args below meth c A Qx ls E hr hlk hnm hQ G hl => ?_)
  have hx := E.1.1
  have hb := E.1.2.1
  have hl : lv_has ls 3 [(0, .ref (q 0)), (1, .int (p1))] := hl
  refine lv_iload_n hx hb dX8_heat_0 rfl (lv_at hl 1 rfl) ?_
  refine lv_iconst (v := 4) hx hb dX8_heat_1 (by decide) ?_
  refine r_S [] E G (c_X8_isWithin l Z q S X p1 4) kX8_isWithin m_249 ⟨Nat.le_of_ble_eq_true rfl, Nat.le_of_ble_eq_true rfl⟩ hl dX8_heat_2 rfl rfl (Nat.le_of_ble_eq_true rfl) ⟨Nat.zero_le _, Nat.zero_le _⟩ (fun H locs G => ?_)
  refine r_neb (tgt := 15) hx hb dX8_heat_5 (by decide) (fun c_5 => ?_) (fun c_5 => ?_)
  · skip
    refine lv_aload_n hx hb dX8_heat_15 rfl (lv_at hl 0 rfl) ?_
    refine gC_0_1 E G m_189 dX8_heat_16 ?_
    refine gC_2_4 E G m_74 dX8_heat_19 ?_
    refine lv_istore_n (lv' := [(2, .int (s_he S)), (0, .ref (q 0)), (1, .int (p1))]) hx hb dX8_heat_22 rfl hl (by decide) rfl (fun ls hl => ?_)
    refine lv_aload_n hx hb dX8_heat_23 rfl (lv_at hl 1 rfl) ?_
    refine gC_0_1 E G m_189 dX8_heat_24 ?_
    refine lv_iload_n hx hb dX8_heat_27 rfl (lv_at hl 2 rfl) ?_
    refine pC_2_4 E G m_74 dX8_heat_28 (fun H locs G => ?_)
    refine lv_iload_n hx hb dX8_heat_31 rfl (lv_at hl 0 rfl) ?_
    have hs : (sp_heat S p1) = (s_he S, u_he S p1) := by first | rfl | (simp [sp_heat, c_5]; done) | (simp_all [sp_heat]; done)
    exact r_ret E G hr hlk hQ (by rw [hs]) (by rw [hs]) dX8_heat_32
  · skip
    refine lv_aload_n hx hb dX8_heat_8 rfl (lv_at hl 0 rfl) ?_
    refine lv_ldc hx hb E.1.2.2.2.1 (E.1.2.2.2.2 _ m_226) dX8_heat_9 ?_
    refine r_V [] E G (c_X8_finding l Z q S X (-1000001) (by decide)) kX8_finding m_227 0 rfl rfl ⟨Nat.le_of_ble_eq_true rfl, Nat.le_of_ble_eq_true rfl⟩ hl dX8_heat_11 rfl rfl (Nat.le_of_ble_eq_true rfl) ⟨Nat.zero_le _, Nat.zero_le _⟩ (fun H locs G => ?_)
    have hs : (sp_heat S p1) = ((fnd S (-1000001)).1, (fnd S (-1000001)).2) := by first | rfl | (simp [sp_heat, c_5]; done) | (simp_all [sp_heat]; done)
    exact r_ret E G hr hlk hQ (by rw [hs]) (by rw [hs]) dX8_heat_14
set_option maxHeartbeats 4000000 in
set_option maxRecDepth 100000 in
theorem c_X8_isOfKind (l : Launch) (Z : ZT) (q : Nat → Nat) (S : St) (X : XC) (p1 : Int32) (v : Int32) (hI : Inv S) (hv : isVa S v = true) : CT l Z yX8_isOfKind cX8_isOfKind 2 (some .boolean) 1 [.ref (q (24 + v.toNatClampNeg)), .int (p1)] (CW Z q S X) (some (.int (b01 (if p1 = 1 then decide (ar (s_ki S) v = 1) else if p1 = 2 then decide (ar (s_ki S) v = 2) else true)))) (CW Z q S X) := by
  refine CE.mk rfl (Nat.le_of_ble_eq_true rfl) (fun p e s m args below meth c A Qx ls E hr hlk hnm hQ G hl => ?_)
  have hx := E.1.1
  have hb := E.1.2.1
  have hl : lv_has ls 2 [(0, .ref (q (24 + v.toNatClampNeg))), (1, .int (p1))] := hl
  refine lv_iload_n hx hb dX8_isOfKind_0 rfl (lv_at hl 1 rfl) ?_
  refine lv_iconst (v := 1) hx hb dX8_isOfKind_1 (by decide) ?_
  refine lv_icmp_ne (tgt := 10) hx hb dX8_isOfKind_2 (by decide) (fun c_2 => ?_) (fun c_2 => ?_)
  · skip
    refine lv_iload_n hx hb dX8_isOfKind_10 rfl (lv_at hl 1 rfl) ?_
    refine lv_iconst (v := 2) hx hb dX8_isOfKind_11 (by decide) ?_
    refine lv_icmp_ne (tgt := 20) hx hb dX8_isOfKind_12 (by decide) (fun c_12 => ?_) (fun c_12 => ?_)
    · skip
      refine lv_iconst (v := 1) hx hb dX8_isOfKind_20 (by decide) ?_
      have hs : (if p1 = 1 then decide (ar (s_ki S) v = 1) else if p1 = 2 then decide (ar (s_ki S) v = 2) else true) = true := by first | rfl | (simp [c_2, c_12]; done) | (simp_all []; done)
      exact r_retz E G hr hlk hQ (by decide) (congrArg (fun t => some (Value.int (b01 t))) hs) rfl dX8_isOfKind_21
    · skip
      refine lv_aload_n hx hb dX8_isOfKind_15 rfl (lv_at hl 0 rfl) ?_
      refine rI_2 E G hI (hv) dX8_isOfKind_16 ?_
      have hs : (if p1 = 1 then decide (ar (s_ki S) v = 1) else if p1 = 2 then decide (ar (s_ki S) v = 2) else true) = decide (ar (s_ki S) v = 2) := by first | rfl | (simp [c_2, c_12]; done) | (simp_all []; done)
      exact r_retz E G hr hlk hQ (b01_n _) (congrArg (fun t => some (Value.int (b01 t))) hs) rfl dX8_isOfKind_19
  · skip
    refine lv_aload_n hx hb dX8_isOfKind_5 rfl (lv_at hl 0 rfl) ?_
    refine rI_1 E G hI (hv) dX8_isOfKind_6 ?_
    have hs : (if p1 = 1 then decide (ar (s_ki S) v = 1) else if p1 = 2 then decide (ar (s_ki S) v = 2) else true) = decide (ar (s_ki S) v = 1) := by first | rfl | (simp [c_2]; done) | (simp_all []; done)
    exact r_retz E G hr hlk hQ (b01_n _) (congrArg (fun t => some (Value.int (b01 t))) hs) rfl dX8_isOfKind_9
set_option maxHeartbeats 4000000 in
set_option maxRecDepth 100000 in
theorem c_X8_as (l : Launch) (Z : ZT) (q : Nat → Nat) (S : St) (X : XC) (p1 p2 : Int32) (hI : Inv S) : CT l Z yX8_as cX8_as 4 (some .int) 3 [.ref (q 0), .int (p1), .int (p2)] (CW Z q S X) (some (.int ((sp_as S p1 p2).1))) (CW Z q ((sp_as S p1 p2).2) (X)) := by
  refine CE.mk rfl (Nat.le_of_ble_eq_true rfl) (fun p e s m args below meth c A Qx ls E hr hlk hnm hQ G hl => ?_)
  have hx := E.1.1
  have hb := E.1.2.1
  have hl : lv_has ls 4 [(0, .ref (q 0)), (1, .int (p1)), (2, .int (p2))] := hl
  refine lv_aload_n hx hb dX8_as_0 rfl (lv_at hl 0 rfl) ?_
  refine lv_iload_n hx hb dX8_as_1 rfl (lv_at hl 1 rfl) ?_
  rcases va_em S p1 with hv_2 | hv_2
  · skip
    refine r_V [] E G (c_X8_vanNumber_t l Z q S X p1 hI hv_2) kX8_vanNumber m_325 0 rfl rfl ⟨Nat.le_of_ble_eq_true rfl, Nat.le_of_ble_eq_true rfl⟩ hl dX8_as_2 rfl rfl (Nat.le_of_ble_eq_true rfl) ⟨Nat.zero_le _, Nat.zero_le _⟩ (fun H locs G => ?_)
    refine lv_astore_n (lv' := [(3, .ref (q (24 + p1.toNatClampNeg))), (0, .ref (q 0)), (1, .int (p1)), (2, .int (p2))]) hx hb dX8_as_5 rfl hl (by decide) rfl (fun ls hl => ?_)
    refine lv_aload_n hx hb dX8_as_6 rfl (lv_at hl 0 rfl) ?_
    refine lv_ifnull hx hb dX8_as_7 ?_
    refine lv_iload_n hx hb dX8_as_10 rfl (lv_at hl 3 rfl) ?_
    refine r_S [] E G (c_X8_isKind l Z q S X p2) kX8_isKind m_283 ⟨Nat.le_of_ble_eq_true rfl, Nat.le_of_ble_eq_true rfl⟩ hl dX8_as_11 rfl rfl (Nat.le_of_ble_eq_true rfl) ⟨Nat.zero_le _, Nat.zero_le _⟩ (fun H locs G => ?_)
    refine r_neb (tgt := 24) hx hb dX8_as_14 (by decide) (fun c_14 => ?_) (fun c_14 => ?_)
    · skip
      refine lv_aload_n hx hb dX8_as_24 rfl (lv_at hl 0 rfl) ?_
      refine lv_iload_n hx hb dX8_as_25 rfl (lv_at hl 3 rfl) ?_
      refine r_S [] E G (c_X8_isOfKind l Z q S X p2 p1 hI (hv_2)) kX8_isOfKind m_329 ⟨Nat.le_of_ble_eq_true rfl, Nat.le_of_ble_eq_true rfl⟩ hl dX8_as_26 rfl rfl (Nat.le_of_ble_eq_true rfl) ⟨Nat.zero_le _, Nat.zero_le _⟩ (fun H locs G => ?_)
      refine r_neb (tgt := 39) hx hb dX8_as_29 (by decide) (fun c_29 => ?_) (fun c_29 => ?_)
      · skip
        refine lv_aload_n hx hb dX8_as_39 rfl (lv_at hl 0 rfl) ?_
        refine hV_0 E G (hv_2) m_299 dX8_as_40 ?_
        have hs : (sp_as S p1 p2) = (ar (s_so S) p1, S) := by rw [as_eq c_14] at c_29; simp at c_29; simp [sp_as, hv_2, c_14, c_29]
        exact r_ret E G hr hlk hQ (by rw [hs]) (by rw [hs]) dX8_as_43
      · skip
        refine lv_aload_n hx hb dX8_as_32 rfl (lv_at hl 1 rfl) ?_
        refine lv_ldc hx hb E.1.2.2.2.1 (E.1.2.2.2.2 _ m_332) dX8_as_33 ?_
        refine r_V [] E G (c_X8_finding l Z q S X (-1000005) (by decide)) kX8_finding m_227 0 rfl rfl ⟨Nat.le_of_ble_eq_true rfl, Nat.le_of_ble_eq_true rfl⟩ hl dX8_as_35 rfl rfl (Nat.le_of_ble_eq_true rfl) ⟨Nat.zero_le _, Nat.zero_le _⟩ (fun H locs G => ?_)
        have hs : (sp_as S p1 p2) = ((fnd S (-1000005)).1, (fnd S (-1000005)).2) := by rw [as_eq c_14] at c_29; simp at c_29; simp [sp_as, hv_2, c_14, c_29]
        exact r_ret E G hr hlk hQ (by rw [hs]) (by rw [hs]) dX8_as_38
    · skip
      refine lv_aload_n hx hb dX8_as_17 rfl (lv_at hl 1 rfl) ?_
      refine lv_ldc hx hb E.1.2.2.2.1 (E.1.2.2.2.2 _ m_226) dX8_as_18 ?_
      refine r_V [] E G (c_X8_finding l Z q S X (-1000001) (by decide)) kX8_finding m_227 0 rfl rfl ⟨Nat.le_of_ble_eq_true rfl, Nat.le_of_ble_eq_true rfl⟩ hl dX8_as_20 rfl rfl (Nat.le_of_ble_eq_true rfl) ⟨Nat.zero_le _, Nat.zero_le _⟩ (fun H locs G => ?_)
      have hs : (sp_as S p1 p2) = ((fnd S (-1000001)).1, (fnd S (-1000001)).2) := by simp [sp_as, hv_2, c_14]
      exact r_ret E G hr hlk hQ (by rw [hs]) (by rw [hs]) dX8_as_23
  · skip
    refine r_V [] E G (c_X8_vanNumber_f l Z q S X p1 hI hv_2) kX8_vanNumber m_325 0 rfl rfl ⟨Nat.le_of_ble_eq_true rfl, Nat.le_of_ble_eq_true rfl⟩ hl dX8_as_2 rfl rfl (Nat.le_of_ble_eq_true rfl) ⟨Nat.zero_le _, Nat.zero_le _⟩ (fun H locs G => ?_)
    refine lv_astore_nN (lv' := [(3, .null), (0, .ref (q 0)), (1, .int (p1)), (2, .int (p2))]) hx hb dX8_as_5 rfl hl (by decide) rfl (fun ls hl => ?_)
    refine lv_aload_nN hx hb dX8_as_6 rfl (lv_at hl 0 rfl) ?_
    refine lv_ifnullN (tgt := 17) hx hb dX8_as_7 (by decide) ?_
    refine lv_aload_n hx hb dX8_as_17 rfl (lv_at hl 1 rfl) ?_
    refine lv_ldc hx hb E.1.2.2.2.1 (E.1.2.2.2.2 _ m_226) dX8_as_18 ?_
    refine r_V [] E G (c_X8_finding l Z q S X (-1000001) (by decide)) kX8_finding m_227 0 rfl rfl ⟨Nat.le_of_ble_eq_true rfl, Nat.le_of_ble_eq_true rfl⟩ hl dX8_as_20 rfl rfl (Nat.le_of_ble_eq_true rfl) ⟨Nat.zero_le _, Nat.zero_le _⟩ (fun H locs G => ?_)
    have hs : (sp_as S p1 p2) = ((fnd S (-1000001)).1, (fnd S (-1000001)).2) := by simp [sp_as, hv_2]
    exact r_ret E G hr hlk hQ (by rw [hs]) (by rw [hs]) dX8_as_23
set_option maxHeartbeats 4000000 in
set_option maxRecDepth 100000 in
theorem c_X8_stock (l : Launch) (Z : ZT) (q : Nat → Nat) (S : St) (X : XC) (p1 p2 : Int32) (hI : Inv S) : CT l Z yX8_stock cX8_stock 5 (some .int) 3 [.ref (q 0), .int (p1), .int (p2)] (CW Z q S X) (some (.int ((sp_stock S p1 p2).1))) (CW Z q ((sp_stock S p1 p2).2) (X)) := by
  refine CE.mk rfl (Nat.le_of_ble_eq_true rfl) (fun p e s m args below meth c A Qx ls E hr hlk hnm hQ G hl => ?_)
  have hx := E.1.1
  have hb := E.1.2.1
  have hl : lv_has ls 5 [(0, .ref (q 0)), (1, .int (p1)), (2, .int (p2))] := hl
  refine lv_aload_n hx hb dX8_stock_0 rfl (lv_at hl 0 rfl) ?_
  refine lv_iload_n hx hb dX8_stock_1 rfl (lv_at hl 1 rfl) ?_
  rcases va_em S p1 with hv_2 | hv_2
  · skip
    refine r_V [] E G (c_X8_vanNumber_t l Z q S X p1 hI hv_2) kX8_vanNumber m_325 0 rfl rfl ⟨Nat.le_of_ble_eq_true rfl, Nat.le_of_ble_eq_true rfl⟩ hl dX8_stock_2 rfl rfl (Nat.le_of_ble_eq_true rfl) ⟨Nat.zero_le _, Nat.zero_le _⟩ (fun H locs G => ?_)
    refine lv_astore_n (lv' := [(3, .ref (q (24 + p1.toNatClampNeg))), (0, .ref (q 0)), (1, .int (p1)), (2, .int (p2))]) hx hb dX8_stock_5 rfl hl (by decide) rfl (fun ls hl => ?_)
    refine lv_aload_n hx hb dX8_stock_6 rfl (lv_at hl 0 rfl) ?_
    refine lv_ifnull hx hb dX8_stock_7 ?_
    refine lv_iload_n hx hb dX8_stock_10 rfl (lv_at hl 3 rfl) ?_
    refine lv_sipush (v := 2000) hx hb dX8_stock_11 (by decide) ?_
    refine r_S [] E G (c_X8_isWithin l Z q S X p2 2000) kX8_isWithin m_249 ⟨Nat.le_of_ble_eq_true rfl, Nat.le_of_ble_eq_true rfl⟩ hl dX8_stock_14 rfl rfl (Nat.le_of_ble_eq_true rfl) ⟨Nat.zero_le _, Nat.zero_le _⟩ (fun H locs G => ?_)
    refine r_neb (tgt := 27) hx hb dX8_stock_17 (by decide) (fun c_17 => ?_) (fun c_17 => ?_)
    · skip
      refine lv_aload_n hx hb dX8_stock_27 rfl (lv_at hl 0 rfl) ?_
      refine hV_0 E G (hv_2) m_299 dX8_stock_28 ?_
      refine lv_istore (lv' := [(4, .int (ar (s_so S) p1)), (3, .ref (q (24 + p1.toNatClampNeg))), (0, .ref (q 0)), (1, .int (p1)), (2, .int (p2))]) hx hb dX8_stock_31 hl (by decide) rfl (fun ls hl => ?_)
      refine lv_aload_n hx hb dX8_stock_33 rfl (lv_at hl 1 rfl) ?_
      refine lv_iload_n hx hb dX8_stock_34 rfl (lv_at hl 4 rfl) ?_
      refine iV_0 E G (hv_2) m_299 dX8_stock_35 (fun H locs G => ?_)
      refine lv_iload hx hb dX8_stock_38 (lv_at hl 0 rfl) ?_
      have hs : (sp_stock S p1 p2) = (ar (s_so S) p1, u_so S (au (s_so S) p1 p2)) := by first | rfl | (simp [sp_stock, hv_2, c_17]; done) | (simp_all [sp_stock]; done)
      exact r_ret E G hr hlk hQ (by rw [hs]) (by rw [hs]) dX8_stock_40
    · skip
      refine lv_aload_n hx hb dX8_stock_20 rfl (lv_at hl 1 rfl) ?_
      refine lv_ldc hx hb E.1.2.2.2.1 (E.1.2.2.2.2 _ m_226) dX8_stock_21 ?_
      refine r_V [] E G (c_X8_finding l Z q S X (-1000001) (by decide)) kX8_finding m_227 0 rfl rfl ⟨Nat.le_of_ble_eq_true rfl, Nat.le_of_ble_eq_true rfl⟩ hl dX8_stock_23 rfl rfl (Nat.le_of_ble_eq_true rfl) ⟨Nat.zero_le _, Nat.zero_le _⟩ (fun H locs G => ?_)
      have hs : (sp_stock S p1 p2) = ((fnd S (-1000001)).1, (fnd S (-1000001)).2) := by first | rfl | (simp [sp_stock, hv_2, c_17]; done) | (simp_all [sp_stock]; done)
      exact r_ret E G hr hlk hQ (by rw [hs]) (by rw [hs]) dX8_stock_26
  · skip
    refine r_V [] E G (c_X8_vanNumber_f l Z q S X p1 hI hv_2) kX8_vanNumber m_325 0 rfl rfl ⟨Nat.le_of_ble_eq_true rfl, Nat.le_of_ble_eq_true rfl⟩ hl dX8_stock_2 rfl rfl (Nat.le_of_ble_eq_true rfl) ⟨Nat.zero_le _, Nat.zero_le _⟩ (fun H locs G => ?_)
    refine lv_astore_nN (lv' := [(3, .null), (0, .ref (q 0)), (1, .int (p1)), (2, .int (p2))]) hx hb dX8_stock_5 rfl hl (by decide) rfl (fun ls hl => ?_)
    refine lv_aload_nN hx hb dX8_stock_6 rfl (lv_at hl 0 rfl) ?_
    refine lv_ifnullN (tgt := 20) hx hb dX8_stock_7 (by decide) ?_
    refine lv_aload_n hx hb dX8_stock_20 rfl (lv_at hl 1 rfl) ?_
    refine lv_ldc hx hb E.1.2.2.2.1 (E.1.2.2.2.2 _ m_226) dX8_stock_21 ?_
    refine r_V [] E G (c_X8_finding l Z q S X (-1000001) (by decide)) kX8_finding m_227 0 rfl rfl ⟨Nat.le_of_ble_eq_true rfl, Nat.le_of_ble_eq_true rfl⟩ hl dX8_stock_23 rfl rfl (Nat.le_of_ble_eq_true rfl) ⟨Nat.zero_le _, Nat.zero_le _⟩ (fun H locs G => ?_)
    have hs : (sp_stock S p1 p2) = ((fnd S (-1000001)).1, (fnd S (-1000001)).2) := by first | rfl | (simp [sp_stock, hv_2]; done) | (simp_all [sp_stock]; done)
    exact r_ret E G hr hlk hQ (by rw [hs]) (by rw [hs]) dX8_stock_26
set_option maxHeartbeats 4000000 in
set_option maxRecDepth 100000 in
theorem c_X8_licence (l : Launch) (Z : ZT) (q : Nat → Nat) (S : St) (X : XC) (p1 p2 : Int32) (hI : Inv S) : CT l Z yX8_licence cX8_licence 5 (some .int) 3 [.ref (q 0), .int (p1), .int (p2)] (CW Z q S X) (some (.int ((sp_licence S p1 p2).1))) (CW Z q ((sp_licence S p1 p2).2) (X)) := by
  refine CE.mk rfl (Nat.le_of_ble_eq_true rfl) (fun p e s m args below meth c A Qx ls E hr hlk hnm hQ G hl => ?_)
  have hx := E.1.1
  have hb := E.1.2.1
  have hl : lv_has ls 5 [(0, .ref (q 0)), (1, .int (p1)), (2, .int (p2))] := hl
  refine lv_aload_n hx hb dX8_licence_0 rfl (lv_at hl 0 rfl) ?_
  refine lv_iload_n hx hb dX8_licence_1 rfl (lv_at hl 1 rfl) ?_
  rcases va_em S p1 with hv_2 | hv_2
  · skip
    refine r_V [] E G (c_X8_vanNumber_t l Z q S X p1 hI hv_2) kX8_vanNumber m_325 0 rfl rfl ⟨Nat.le_of_ble_eq_true rfl, Nat.le_of_ble_eq_true rfl⟩ hl dX8_licence_2 rfl rfl (Nat.le_of_ble_eq_true rfl) ⟨Nat.zero_le _, Nat.zero_le _⟩ (fun H locs G => ?_)
    refine lv_astore_n (lv' := [(3, .ref (q (24 + p1.toNatClampNeg))), (0, .ref (q 0)), (1, .int (p1)), (2, .int (p2))]) hx hb dX8_licence_5 rfl hl (by decide) rfl (fun ls hl => ?_)
    refine lv_aload_n hx hb dX8_licence_6 rfl (lv_at hl 0 rfl) ?_
    refine lv_ifnull hx hb dX8_licence_7 ?_
    refine lv_iload_n hx hb dX8_licence_10 rfl (lv_at hl 3 rfl) ?_
    refine lv_bipush (v := 63) hx hb dX8_licence_11 (by decide) ?_
    refine r_S [] E G (c_X8_isWithin l Z q S X p2 63) kX8_isWithin m_249 ⟨Nat.le_of_ble_eq_true rfl, Nat.le_of_ble_eq_true rfl⟩ hl dX8_licence_13 rfl rfl (Nat.le_of_ble_eq_true rfl) ⟨Nat.zero_le _, Nat.zero_le _⟩ (fun H locs G => ?_)
    refine r_neb (tgt := 26) hx hb dX8_licence_16 (by decide) (fun c_16 => ?_) (fun c_16 => ?_)
    · skip
      refine lv_aload_n hx hb dX8_licence_26 rfl (lv_at hl 0 rfl) ?_
      refine hV_1 E G (hv_2) m_301 dX8_licence_27 ?_
      refine lv_istore (lv' := [(4, .int (ar (s_li S) p1)), (3, .ref (q (24 + p1.toNatClampNeg))), (0, .ref (q 0)), (1, .int (p1)), (2, .int (p2))]) hx hb dX8_licence_30 hl (by decide) rfl (fun ls hl => ?_)
      refine lv_aload_n hx hb dX8_licence_32 rfl (lv_at hl 1 rfl) ?_
      refine lv_iload_n hx hb dX8_licence_33 rfl (lv_at hl 4 rfl) ?_
      refine iV_1 E G (hv_2) m_301 dX8_licence_34 (fun H locs G => ?_)
      refine lv_iload hx hb dX8_licence_37 (lv_at hl 0 rfl) ?_
      have hs : (sp_licence S p1 p2) = (ar (s_li S) p1, u_li S (au (s_li S) p1 p2)) := by first | rfl | (simp [sp_licence, hv_2, c_16]; done) | (simp_all [sp_licence]; done)
      exact r_ret E G hr hlk hQ (by rw [hs]) (by rw [hs]) dX8_licence_39
    · skip
      refine lv_aload_n hx hb dX8_licence_19 rfl (lv_at hl 1 rfl) ?_
      refine lv_ldc hx hb E.1.2.2.2.1 (E.1.2.2.2.2 _ m_226) dX8_licence_20 ?_
      refine r_V [] E G (c_X8_finding l Z q S X (-1000001) (by decide)) kX8_finding m_227 0 rfl rfl ⟨Nat.le_of_ble_eq_true rfl, Nat.le_of_ble_eq_true rfl⟩ hl dX8_licence_22 rfl rfl (Nat.le_of_ble_eq_true rfl) ⟨Nat.zero_le _, Nat.zero_le _⟩ (fun H locs G => ?_)
      have hs : (sp_licence S p1 p2) = ((fnd S (-1000001)).1, (fnd S (-1000001)).2) := by first | rfl | (simp [sp_licence, hv_2, c_16]; done) | (simp_all [sp_licence]; done)
      exact r_ret E G hr hlk hQ (by rw [hs]) (by rw [hs]) dX8_licence_25
  · skip
    refine r_V [] E G (c_X8_vanNumber_f l Z q S X p1 hI hv_2) kX8_vanNumber m_325 0 rfl rfl ⟨Nat.le_of_ble_eq_true rfl, Nat.le_of_ble_eq_true rfl⟩ hl dX8_licence_2 rfl rfl (Nat.le_of_ble_eq_true rfl) ⟨Nat.zero_le _, Nat.zero_le _⟩ (fun H locs G => ?_)
    refine lv_astore_nN (lv' := [(3, .null), (0, .ref (q 0)), (1, .int (p1)), (2, .int (p2))]) hx hb dX8_licence_5 rfl hl (by decide) rfl (fun ls hl => ?_)
    refine lv_aload_nN hx hb dX8_licence_6 rfl (lv_at hl 0 rfl) ?_
    refine lv_ifnullN (tgt := 19) hx hb dX8_licence_7 (by decide) ?_
    refine lv_aload_n hx hb dX8_licence_19 rfl (lv_at hl 1 rfl) ?_
    refine lv_ldc hx hb E.1.2.2.2.1 (E.1.2.2.2.2 _ m_226) dX8_licence_20 ?_
    refine r_V [] E G (c_X8_finding l Z q S X (-1000001) (by decide)) kX8_finding m_227 0 rfl rfl ⟨Nat.le_of_ble_eq_true rfl, Nat.le_of_ble_eq_true rfl⟩ hl dX8_licence_22 rfl rfl (Nat.le_of_ble_eq_true rfl) ⟨Nat.zero_le _, Nat.zero_le _⟩ (fun H locs G => ?_)
    have hs : (sp_licence S p1 p2) = ((fnd S (-1000001)).1, (fnd S (-1000001)).2) := by first | rfl | (simp [sp_licence, hv_2]; done) | (simp_all [sp_licence]; done)
    exact r_ret E G hr hlk hQ (by rw [hs]) (by rw [hs]) dX8_licence_25
set_option maxHeartbeats 4000000 in
set_option maxRecDepth 100000 in
theorem c_X8_law (l : Launch) (Z : ZT) (q : Nat → Nat) (S : St) (X : XC) (p1 p2 p3 : Int32) (hI : Inv S) : CT l Z yX8_law cX8_law 4 (some .int) 3 [.ref (q 0), .int (p1), .int (p2), .int (p3)] (CW Z q S X) (some (.int ((sp_law S p1 p2 p3).1))) (CW Z q ((sp_law S p1 p2 p3).2) (X)) := by
  refine CE.mk rfl (Nat.le_of_ble_eq_true rfl) (fun p e s m args below meth c A Qx ls E hr hlk hnm hQ G hl => ?_)
  have hx := E.1.1
  have hb := E.1.2.1
  have hl : lv_has ls 4 [(0, .ref (q 0)), (1, .int (p1)), (2, .int (p2)), (3, .int (p3))] := hl
  refine lv_iload_n hx hb dX8_law_0 rfl (lv_at hl 1 rfl) ?_
  refine r_S [] E G (c_X8_isHour l Z q S X p1) kX8_isHour m_264 ⟨Nat.le_of_ble_eq_true rfl, Nat.le_of_ble_eq_true rfl⟩ hl dX8_law_1 rfl rfl (Nat.le_of_ble_eq_true rfl) ⟨Nat.zero_le _, Nat.zero_le _⟩ (fun H locs G => ?_)
  refine r_eqb (tgt := 23) hx hb dX8_law_4 (by decide) (fun c_4 => ?_) (fun c_4 => ?_)
  · skip
    refine lv_aload_n hx hb dX8_law_23 rfl (lv_at hl 0 rfl) ?_
    refine lv_ldc hx hb E.1.2.2.2.1 (E.1.2.2.2.2 _ m_226) dX8_law_24 ?_
    refine r_V [] E G (c_X8_finding l Z q S X (-1000001) (by decide)) kX8_finding m_227 0 rfl rfl ⟨Nat.le_of_ble_eq_true rfl, Nat.le_of_ble_eq_true rfl⟩ hl dX8_law_26 rfl rfl (Nat.le_of_ble_eq_true rfl) ⟨Nat.zero_le _, Nat.zero_le _⟩ (fun H locs G => ?_)
    have hs : (sp_law S p1 p2 p3) = ((fnd S (-1000001)).1, (fnd S (-1000001)).2) := by first | rfl | (simp [sp_law, c_4]; done) | (simp_all [sp_law]; done)
    exact r_ret E G hr hlk hQ (by rw [hs]) (by rw [hs]) dX8_law_29
  · skip
    refine lv_iload_n hx hb dX8_law_7 rfl (lv_at hl 2 rfl) ?_
    refine r_S [] E G (c_X8_isHour l Z q S X p2) kX8_isHour m_264 ⟨Nat.le_of_ble_eq_true rfl, Nat.le_of_ble_eq_true rfl⟩ hl dX8_law_8 rfl rfl (Nat.le_of_ble_eq_true rfl) ⟨Nat.zero_le _, Nat.zero_le _⟩ (fun H locs G => ?_)
    refine r_eqb (tgt := 23) hx hb dX8_law_11 (by decide) (fun c_11 => ?_) (fun c_11 => ?_)
    · skip
      refine lv_aload_n hx hb dX8_law_23 rfl (lv_at hl 0 rfl) ?_
      refine lv_ldc hx hb E.1.2.2.2.1 (E.1.2.2.2.2 _ m_226) dX8_law_24 ?_
      refine r_V [] E G (c_X8_finding l Z q S X (-1000001) (by decide)) kX8_finding m_227 0 rfl rfl ⟨Nat.le_of_ble_eq_true rfl, Nat.le_of_ble_eq_true rfl⟩ hl dX8_law_26 rfl rfl (Nat.le_of_ble_eq_true rfl) ⟨Nat.zero_le _, Nat.zero_le _⟩ (fun H locs G => ?_)
      have hs : (sp_law S p1 p2 p3) = ((fnd S (-1000001)).1, (fnd S (-1000001)).2) := by first | rfl | (simp [sp_law, c_4, c_11]; done) | (simp_all [sp_law]; done)
      exact r_ret E G hr hlk hQ (by rw [hs]) (by rw [hs]) dX8_law_29
    · skip
      refine lv_iload_n hx hb dX8_law_14 rfl (lv_at hl 3 rfl) ?_
      refine lv_bipush (v := 60) hx hb dX8_law_15 (by decide) ?_
      refine r_S [] E G (c_X8_isWithin l Z q S X p3 60) kX8_isWithin m_249 ⟨Nat.le_of_ble_eq_true rfl, Nat.le_of_ble_eq_true rfl⟩ hl dX8_law_17 rfl rfl (Nat.le_of_ble_eq_true rfl) ⟨Nat.zero_le _, Nat.zero_le _⟩ (fun H locs G => ?_)
      refine r_neb (tgt := 30) hx hb dX8_law_20 (by decide) (fun c_20 => ?_) (fun c_20 => ?_)
      · skip
        refine lv_aload_n hx hb dX8_law_30 rfl (lv_at hl 0 rfl) ?_
        refine gC_0_2 E G m_190 dX8_law_31 ?_
        refine lv_iload_n hx hb dX8_law_34 rfl (lv_at hl 1 rfl) ?_
        refine pC_3_0 E G m_95 dX8_law_35 (fun H locs G => ?_)
        refine lv_aload_n hx hb dX8_law_38 rfl (lv_at hl 0 rfl) ?_
        refine gC_0_2 E G m_190 dX8_law_39 ?_
        refine lv_iload_n hx hb dX8_law_42 rfl (lv_at hl 2 rfl) ?_
        refine pC_3_1 E G m_97 dX8_law_43 (fun H locs G => ?_)
        refine lv_aload_n hx hb dX8_law_46 rfl (lv_at hl 0 rfl) ?_
        refine gC_0_2 E G m_190 dX8_law_47 ?_
        refine lv_iload_n hx hb dX8_law_50 rfl (lv_at hl 3 rfl) ?_
        refine pC_3_2 E G m_99 dX8_law_51 (fun H locs G => ?_)
        refine lv_iconst (v := 1) hx hb dX8_law_54 (by decide) ?_
        have hs : (sp_law S p1 p2 p3) = (1, u_cm (u_bt (u_bf S p1) p2) p3) := by first | rfl | (simp [sp_law, c_4, c_11, c_20]; done) | (simp_all [sp_law]; done)
        exact r_ret E G hr hlk hQ (by rw [hs]) (by rw [hs]) dX8_law_55
      · skip
        refine lv_aload_n hx hb dX8_law_23 rfl (lv_at hl 0 rfl) ?_
        refine lv_ldc hx hb E.1.2.2.2.1 (E.1.2.2.2.2 _ m_226) dX8_law_24 ?_
        refine r_V [] E G (c_X8_finding l Z q S X (-1000001) (by decide)) kX8_finding m_227 0 rfl rfl ⟨Nat.le_of_ble_eq_true rfl, Nat.le_of_ble_eq_true rfl⟩ hl dX8_law_26 rfl rfl (Nat.le_of_ble_eq_true rfl) ⟨Nat.zero_le _, Nat.zero_le _⟩ (fun H locs G => ?_)
        have hs : (sp_law S p1 p2 p3) = ((fnd S (-1000001)).1, (fnd S (-1000001)).2) := by first | rfl | (simp [sp_law, c_4, c_11, c_20]; done) | (simp_all [sp_law]; done)
        exact r_ret E G hr hlk hQ (by rw [hs]) (by rw [hs]) dX8_law_29
set_option maxHeartbeats 4000000 in
set_option maxRecDepth 100000 in
theorem c_X8_may (l : Launch) (Z : ZT) (q : Nat → Nat) (S : St) (X : XC) (p1 p2 p3 : Int32) (hI : Inv S) : CT l Z yX8_may cX8_may 5 (some .int) 5 [.ref (q 0), .int (p1), .int (p2), .int (p3)] (CW Z q S X) (some (.int ((sp_may S p1 p2 p3).1))) (CW Z q ((sp_may S p1 p2 p3).2) (X)) := by
  refine CE.mk rfl (Nat.le_of_ble_eq_true rfl) (fun p e s m args below meth c A Qx ls E hr hlk hnm hQ G hl => ?_)
  have hx := E.1.1
  have hb := E.1.2.1
  have hl : lv_has ls 5 [(0, .ref (q 0)), (1, .int (p1)), (2, .int (p2)), (3, .int (p3))] := hl
  refine lv_aload_n hx hb dX8_may_0 rfl (lv_at hl 0 rfl) ?_
  refine lv_iload_n hx hb dX8_may_1 rfl (lv_at hl 1 rfl) ?_
  rcases va_em S p1 with hv_2 | hv_2
  · skip
    refine r_V [] E G (c_X8_vanNumber_t l Z q S X p1 hI hv_2) kX8_vanNumber m_325 0 rfl rfl ⟨Nat.le_of_ble_eq_true rfl, Nat.le_of_ble_eq_true rfl⟩ hl dX8_may_2 rfl rfl (Nat.le_of_ble_eq_true rfl) ⟨Nat.zero_le _, Nat.zero_le _⟩ (fun H locs G => ?_)
    refine lv_astore (lv' := [(4, .ref (q (24 + p1.toNatClampNeg))), (0, .ref (q 0)), (1, .int (p1)), (2, .int (p2)), (3, .int (p3))]) hx hb dX8_may_5 hl (by decide) rfl (fun ls hl => ?_)
    refine lv_aload hx hb dX8_may_7 (lv_at hl 0 rfl) ?_
    refine lv_ifnull hx hb dX8_may_9 ?_
    refine lv_aload_n hx hb dX8_may_12 rfl (lv_at hl 1 rfl) ?_
    refine gC_0_1 E G m_189 dX8_may_13 ?_
    refine lv_iload_n hx hb dX8_may_16 rfl (lv_at hl 3 rfl) ?_
    refine r_V [] E G (c_X5_has l Z q S X p2) kX5_has m_245 2 rfl rfl ⟨Nat.le_of_ble_eq_true rfl, Nat.le_of_ble_eq_true rfl⟩ hl dX8_may_17 rfl rfl (Nat.le_of_ble_eq_true rfl) ⟨Nat.zero_le _, Nat.zero_le _⟩ (fun H locs G => ?_)
    refine r_eqb (tgt := 30) hx hb dX8_may_20 (by decide) (fun c_20 => ?_) (fun c_20 => ?_)
    · skip
      refine lv_aload_n hx hb dX8_may_30 rfl (lv_at hl 1 rfl) ?_
      refine lv_ldc hx hb E.1.2.2.2.1 (E.1.2.2.2.2 _ m_226) dX8_may_31 ?_
      refine r_V [] E G (c_X8_finding l Z q S X (-1000001) (by decide)) kX8_finding m_227 0 rfl rfl ⟨Nat.le_of_ble_eq_true rfl, Nat.le_of_ble_eq_true rfl⟩ hl dX8_may_33 rfl rfl (Nat.le_of_ble_eq_true rfl) ⟨Nat.zero_le _, Nat.zero_le _⟩ (fun H locs G => ?_)
      have hs : (sp_may S p1 p2 p3) = ((fnd S (-1000001)).1, (fnd S (-1000001)).2) := by first | rfl | (simp [sp_may, b01, hv_2, c_20]; done) | (simp_all [sp_may, b01]; done)
      exact r_ret E G hr hlk hQ (by rw [hs]) (by rw [hs]) dX8_may_36
    · skip
      refine lv_iload_n hx hb dX8_may_23 rfl (lv_at hl 4 rfl) ?_
      refine r_S [] E G (c_X8_isHour l Z q S X p3) kX8_isHour m_264 ⟨Nat.le_of_ble_eq_true rfl, Nat.le_of_ble_eq_true rfl⟩ hl dX8_may_24 rfl rfl (Nat.le_of_ble_eq_true rfl) ⟨Nat.zero_le _, Nat.zero_le _⟩ (fun H locs G => ?_)
      refine r_neb (tgt := 37) hx hb dX8_may_27 (by decide) (fun c_27 => ?_) (fun c_27 => ?_)
      · skip
        refine lv_aload_n hx hb dX8_may_37 rfl (lv_at hl 1 rfl) ?_
        refine lv_aload hx hb dX8_may_38 (lv_at hl 0 rfl) ?_
        refine lv_iload_n hx hb dX8_may_40 rfl (lv_at hl 3 rfl) ?_
        refine lv_iload_n hx hb dX8_may_41 rfl (lv_at hl 4 rfl) ?_
        refine r_V [] E G (c_X8_mayStand l Z q S X p2 p3 p1 hI (hv_2) c_20) kX8_mayStand m_349 0 rfl rfl ⟨Nat.le_of_ble_eq_true rfl, Nat.le_of_ble_eq_true rfl⟩ hl dX8_may_42 rfl rfl (Nat.le_of_ble_eq_true rfl) ⟨Nat.zero_le _, Nat.zero_le _⟩ (fun H locs G => ?_)
        refine r_eqb (tgt := 52) hx hb dX8_may_45 (by decide) (fun c_45 => ?_) (fun c_45 => ?_)
        · skip
          refine lv_iconst (v := 0) hx hb dX8_may_52 (by decide) ?_
          have hs : (sp_may S p1 p2 p3) = (0, S) := by first | rfl | (simp [sp_may, b01, hv_2, c_20, c_27, c_45]; done) | (simp_all [sp_may, b01]; done)
          exact r_ret E G hr hlk hQ (by rw [hs]) (by rw [hs]) dX8_may_53
        · skip
          refine lv_iconst (v := 1) hx hb dX8_may_48 (by decide) ?_
          refine lv_goto (tgt := 53) hx hb dX8_may_49 (by decide) ?_
          have hs : (sp_may S p1 p2 p3) = (1, S) := by first | rfl | (simp [sp_may, b01, hv_2, c_20, c_27, c_45]; done) | (simp_all [sp_may, b01]; done)
          exact r_ret E G hr hlk hQ (by rw [hs]) (by rw [hs]) dX8_may_53
      · skip
        refine lv_aload_n hx hb dX8_may_30 rfl (lv_at hl 1 rfl) ?_
        refine lv_ldc hx hb E.1.2.2.2.1 (E.1.2.2.2.2 _ m_226) dX8_may_31 ?_
        refine r_V [] E G (c_X8_finding l Z q S X (-1000001) (by decide)) kX8_finding m_227 0 rfl rfl ⟨Nat.le_of_ble_eq_true rfl, Nat.le_of_ble_eq_true rfl⟩ hl dX8_may_33 rfl rfl (Nat.le_of_ble_eq_true rfl) ⟨Nat.zero_le _, Nat.zero_le _⟩ (fun H locs G => ?_)
        have hs : (sp_may S p1 p2 p3) = ((fnd S (-1000001)).1, (fnd S (-1000001)).2) := by first | rfl | (simp [sp_may, b01, hv_2, c_20, c_27]; done) | (simp_all [sp_may, b01]; done)
        exact r_ret E G hr hlk hQ (by rw [hs]) (by rw [hs]) dX8_may_36
  · skip
    refine r_V [] E G (c_X8_vanNumber_f l Z q S X p1 hI hv_2) kX8_vanNumber m_325 0 rfl rfl ⟨Nat.le_of_ble_eq_true rfl, Nat.le_of_ble_eq_true rfl⟩ hl dX8_may_2 rfl rfl (Nat.le_of_ble_eq_true rfl) ⟨Nat.zero_le _, Nat.zero_le _⟩ (fun H locs G => ?_)
    refine lv_astoreN (lv' := [(4, .null), (0, .ref (q 0)), (1, .int (p1)), (2, .int (p2)), (3, .int (p3))]) hx hb dX8_may_5 hl (by decide) rfl (fun ls hl => ?_)
    refine lv_aloadN hx hb dX8_may_7 (lv_at hl 0 rfl) ?_
    refine lv_ifnullN (tgt := 30) hx hb dX8_may_9 (by decide) ?_
    refine lv_aload_n hx hb dX8_may_30 rfl (lv_at hl 1 rfl) ?_
    refine lv_ldc hx hb E.1.2.2.2.1 (E.1.2.2.2.2 _ m_226) dX8_may_31 ?_
    refine r_V [] E G (c_X8_finding l Z q S X (-1000001) (by decide)) kX8_finding m_227 0 rfl rfl ⟨Nat.le_of_ble_eq_true rfl, Nat.le_of_ble_eq_true rfl⟩ hl dX8_may_33 rfl rfl (Nat.le_of_ble_eq_true rfl) ⟨Nat.zero_le _, Nat.zero_le _⟩ (fun H locs G => ?_)
    have hs : (sp_may S p1 p2 p3) = ((fnd S (-1000001)).1, (fnd S (-1000001)).2) := by first | rfl | (simp [sp_may, b01, hv_2]; done) | (simp_all [sp_may, b01]; done)
    exact r_ret E G hr hlk hQ (by rw [hs]) (by rw [hs]) dX8_may_36
set_option maxHeartbeats 4000000 in
set_option maxRecDepth 100000 in
theorem c_X8_worth (l : Launch) (Z : ZT) (q : Nat → Nat) (S : St) (X : XC) (p1 p2 : Int32) (hI : Inv S) : CT l Z yX8_worth cX8_worth 3 (some .int) 3 [.ref (q 0), .int (p1), .int (p2)] (CW Z q S X) (some (.int ((sp_worth S p1 p2).1))) (CW Z q ((sp_worth S p1 p2).2) (X)) := by
  refine CE.mk rfl (Nat.le_of_ble_eq_true rfl) (fun p e s m args below meth c A Qx ls E hr hlk hnm hQ G hl => ?_)
  have hx := E.1.1
  have hb := E.1.2.1
  have hl : lv_has ls 3 [(0, .ref (q 0)), (1, .int (p1)), (2, .int (p2))] := hl
  refine lv_aload_n hx hb dX8_worth_0 rfl (lv_at hl 0 rfl) ?_
  refine gC_0_1 E G m_189 dX8_worth_1 ?_
  refine lv_iload_n hx hb dX8_worth_4 rfl (lv_at hl 1 rfl) ?_
  refine r_V [] E G (c_X5_has l Z q S X p1) kX5_has m_245 2 rfl rfl ⟨Nat.le_of_ble_eq_true rfl, Nat.le_of_ble_eq_true rfl⟩ hl dX8_worth_5 rfl rfl (Nat.le_of_ble_eq_true rfl) ⟨Nat.zero_le _, Nat.zero_le _⟩ (fun H locs G => ?_)
  refine r_eqb (tgt := 18) hx hb dX8_worth_8 (by decide) (fun c_8 => ?_) (fun c_8 => ?_)
  · skip
    refine lv_aload_n hx hb dX8_worth_18 rfl (lv_at hl 0 rfl) ?_
    refine lv_ldc hx hb E.1.2.2.2.1 (E.1.2.2.2.2 _ m_226) dX8_worth_19 ?_
    refine r_V [] E G (c_X8_finding l Z q S X (-1000001) (by decide)) kX8_finding m_227 0 rfl rfl ⟨Nat.le_of_ble_eq_true rfl, Nat.le_of_ble_eq_true rfl⟩ hl dX8_worth_21 rfl rfl (Nat.le_of_ble_eq_true rfl) ⟨Nat.zero_le _, Nat.zero_le _⟩ (fun H locs G => ?_)
    have hs : (sp_worth S p1 p2) = ((fnd S (-1000001)).1, (fnd S (-1000001)).2) := by first | rfl | (simp [sp_worth, c_8]; done) | (simp_all [sp_worth]; done)
    exact r_ret E G hr hlk hQ (by rw [hs]) (by rw [hs]) dX8_worth_24
  · skip
    refine lv_iload_n hx hb dX8_worth_11 rfl (lv_at hl 2 rfl) ?_
    refine r_S [] E G (c_X8_isHour l Z q S X p2) kX8_isHour m_264 ⟨Nat.le_of_ble_eq_true rfl, Nat.le_of_ble_eq_true rfl⟩ hl dX8_worth_12 rfl rfl (Nat.le_of_ble_eq_true rfl) ⟨Nat.zero_le _, Nat.zero_le _⟩ (fun H locs G => ?_)
    refine r_neb (tgt := 25) hx hb dX8_worth_15 (by decide) (fun c_15 => ?_) (fun c_15 => ?_)
    · skip
      refine lv_aload_n hx hb dX8_worth_25 rfl (lv_at hl 0 rfl) ?_
      refine gC_0_1 E G m_189 dX8_worth_26 ?_
      refine lv_iload_n hx hb dX8_worth_29 rfl (lv_at hl 1 rfl) ?_
      refine lv_iload_n hx hb dX8_worth_30 rfl (lv_at hl 2 rfl) ?_
      refine r_V [] E G (c_X5_worthAt l Z q S X p1 p2 hI c_8 c_15) kX5_worthAt m_372 2 rfl rfl ⟨Nat.le_of_ble_eq_true rfl, Nat.le_of_ble_eq_true rfl⟩ hl dX8_worth_31 rfl rfl (Nat.le_of_ble_eq_true rfl) ⟨Nat.zero_le _, Nat.zero_le _⟩ (fun H locs G => ?_)
      have hs : (sp_worth S p1 p2) = (wor S p1 p2, S) := by first | rfl | (simp [sp_worth, c_8, c_15]; done) | (simp_all [sp_worth]; done)
      exact r_ret E G hr hlk hQ (by rw [hs]) (by rw [hs]) dX8_worth_34
    · skip
      refine lv_aload_n hx hb dX8_worth_18 rfl (lv_at hl 0 rfl) ?_
      refine lv_ldc hx hb E.1.2.2.2.1 (E.1.2.2.2.2 _ m_226) dX8_worth_19 ?_
      refine r_V [] E G (c_X8_finding l Z q S X (-1000001) (by decide)) kX8_finding m_227 0 rfl rfl ⟨Nat.le_of_ble_eq_true rfl, Nat.le_of_ble_eq_true rfl⟩ hl dX8_worth_21 rfl rfl (Nat.le_of_ble_eq_true rfl) ⟨Nat.zero_le _, Nat.zero_le _⟩ (fun H locs G => ?_)
      have hs : (sp_worth S p1 p2) = ((fnd S (-1000001)).1, (fnd S (-1000001)).2) := by first | rfl | (simp [sp_worth, c_8, c_15]; done) | (simp_all [sp_worth]; done)
      exact r_ret E G hr hlk hQ (by rw [hs]) (by rw [hs]) dX8_worth_24
set_option maxHeartbeats 4000000 in
set_option maxRecDepth 100000 in
theorem c_X8_stand (l : Launch) (Z : ZT) (q : Nat → Nat) (S : St) (X : XC) (p1 p2 p3 : Int32) (hI : Inv S) : CT l Z yX8_stand cX8_stand 6 (some .int) 3 [.ref (q 0), .int (p1), .int (p2), .int (p3)] (CW Z q S X) (some (.int ((sp_stand S p1 p2 p3).1))) (CW Z q ((sp_stand S p1 p2 p3).2) (X)) := by
  refine CE.mk rfl (Nat.le_of_ble_eq_true rfl) (fun p e s m args below meth c A Qx ls E hr hlk hnm hQ G hl => ?_)
  have hx := E.1.1
  have hb := E.1.2.1
  have hl : lv_has ls 6 [(0, .ref (q 0)), (1, .int (p1)), (2, .int (p2)), (3, .int (p3))] := hl
  refine lv_aload_n hx hb dX8_stand_0 rfl (lv_at hl 0 rfl) ?_
  refine lv_iload_n hx hb dX8_stand_1 rfl (lv_at hl 1 rfl) ?_
  rcases va_em S p1 with hv_2 | hv_2
  · skip
    refine r_V [] E G (c_X8_vanNumber_t l Z q S X p1 hI hv_2) kX8_vanNumber m_325 0 rfl rfl ⟨Nat.le_of_ble_eq_true rfl, Nat.le_of_ble_eq_true rfl⟩ hl dX8_stand_2 rfl rfl (Nat.le_of_ble_eq_true rfl) ⟨Nat.zero_le _, Nat.zero_le _⟩ (fun H locs G => ?_)
    refine lv_ifnull hx hb dX8_stand_5 ?_
    refine lv_aload_n hx hb dX8_stand_8 rfl (lv_at hl 0 rfl) ?_
    refine lv_iload_n hx hb dX8_stand_9 rfl (lv_at hl 2 rfl) ?_
    refine r_V [] E G (c_X8_isPlace l Z q S X p2) kX8_isPlace m_385 0 rfl rfl ⟨Nat.le_of_ble_eq_true rfl, Nat.le_of_ble_eq_true rfl⟩ hl dX8_stand_10 rfl rfl (Nat.le_of_ble_eq_true rfl) ⟨Nat.zero_le _, Nat.zero_le _⟩ (fun H locs G => ?_)
    refine r_eqb (tgt := 25) hx hb dX8_stand_13 (by decide) (fun c_13 => ?_) (fun c_13 => ?_)
    · skip
      refine lv_aload_n hx hb dX8_stand_25 rfl (lv_at hl 0 rfl) ?_
      refine lv_ldc hx hb E.1.2.2.2.1 (E.1.2.2.2.2 _ m_226) dX8_stand_26 ?_
      refine r_V [] E G (c_X8_finding l Z q S X (-1000001) (by decide)) kX8_finding m_227 0 rfl rfl ⟨Nat.le_of_ble_eq_true rfl, Nat.le_of_ble_eq_true rfl⟩ hl dX8_stand_28 rfl rfl (Nat.le_of_ble_eq_true rfl) ⟨Nat.zero_le _, Nat.zero_le _⟩ (fun H locs G => ?_)
      have hs : (sp_stand S p1 p2 p3) = ((fnd S (-1000001)).1, (fnd S (-1000001)).2) := by first | rfl | (simp [sp_stand, hv_2, c_13]; done)
      exact r_ret E G hr hlk hQ (by rw [hs]) (by rw [hs]) dX8_stand_31
    · skip
      refine lv_iload_n hx hb dX8_stand_16 rfl (lv_at hl 3 rfl) ?_
      refine lv_bipush (v := 99) hx hb dX8_stand_17 (by decide) ?_
      refine r_S [] E G (c_X8_isWithin l Z q S X p3 99) kX8_isWithin m_249 ⟨Nat.le_of_ble_eq_true rfl, Nat.le_of_ble_eq_true rfl⟩ hl dX8_stand_19 rfl rfl (Nat.le_of_ble_eq_true rfl) ⟨Nat.zero_le _, Nat.zero_le _⟩ (fun H locs G => ?_)
      refine r_neb (tgt := 32) hx hb dX8_stand_22 (by decide) (fun c_22 => ?_) (fun c_22 => ?_)
      · skip
        refine lv_iload_n hx hb dX8_stand_32 rfl (lv_at hl 2 rfl) ?_
        refine r_S [] E G (c_X8_hourOf l Z q S X p2) kX8_hourOf m_392 ⟨Nat.le_of_ble_eq_true rfl, Nat.le_of_ble_eq_true rfl⟩ hl dX8_stand_33 rfl rfl (Nat.le_of_ble_eq_true rfl) ⟨Nat.zero_le _, Nat.zero_le _⟩ (fun H locs G => ?_)
        refine lv_istore (lv' := [(4, .int (ho p2)), (0, .ref (q 0)), (1, .int (p1)), (2, .int (p2)), (3, .int (p3))]) hx hb dX8_stand_36 hl (by decide) rfl (fun ls hl => ?_)
        refine lv_aload_n hx hb dX8_stand_38 rfl (lv_at hl 1 rfl) ?_
        refine gC_0_7 E G m_195 dX8_stand_39 ?_
        refine lv_iload_n hx hb dX8_stand_42 rfl (lv_at hl 2 rfl) ?_
        refine lv_aload_n hx hb dX8_stand_43 rfl (lv_at hl 1 rfl) ?_
        refine gC_0_7 E G m_195 dX8_stand_44 ?_
        refine gC_7_4 E G m_151 dX8_stand_47 ?_
        refine r_V [] E G (c_X4_latestAhead l Z q S X p1 (s_sd S) (hI.sd.1) (hI.sd.2)) kX4_latestAhead m_479 7 rfl rfl ⟨Nat.le_of_ble_eq_true rfl, Nat.le_of_ble_eq_true rfl⟩ hl dX8_stand_50 rfl rfl (Nat.le_of_ble_eq_true rfl) ⟨Nat.zero_le _, Nat.zero_le _⟩ (fun H locs G => ?_)
        refine lv_istore (lv' := [(5, .int (laS S p1 (s_sd S).toNatClampNeg)), (4, .int (ho p2)), (0, .ref (q 0)), (1, .int (p1)), (2, .int (p2)), (3, .int (p3))]) hx hb dX8_stand_53 hl (by decide) rfl (fun ls hl => ?_)
        refine lv_aload_n hx hb dX8_stand_55 rfl (lv_at hl 2 rfl) ?_
        refine gC_0_7 E G m_195 dX8_stand_56 ?_
        refine lv_iload hx hb dX8_stand_59 (lv_at hl 0 rfl) ?_
        refine r_V [] E G (c_X4_has l Z q S X (laS S p1 (s_sd S).toNatClampNeg)) kX4_has m_483 7 rfl rfl ⟨Nat.le_of_ble_eq_true rfl, Nat.le_of_ble_eq_true rfl⟩ hl dX8_stand_61 rfl rfl (Nat.le_of_ble_eq_true rfl) ⟨Nat.zero_le _, Nat.zero_le _⟩ (fun H locs G => ?_)
        refine r_eqb (tgt := 89) hx hb dX8_stand_64 (by decide) (fun c_64 => ?_) (fun c_64 => ?_)
        · skip
          refine lv_aload_n hx hb dX8_stand_89 rfl (lv_at hl 2 rfl) ?_
          refine gC_0_7 E G m_195 dX8_stand_90 ?_
          refine r_V [] E G (c_X4_isFull l Z q S X hI) kX4_isFull m_487 7 rfl rfl ⟨Nat.le_of_ble_eq_true rfl, Nat.le_of_ble_eq_true rfl⟩ hl dX8_stand_93 rfl rfl (Nat.le_of_ble_eq_true rfl) ⟨Nat.zero_le _, Nat.zero_le _⟩ (fun H locs G => ?_)
          refine r_eqb (tgt := 106) hx hb dX8_stand_96 (by decide) (fun c_96 => ?_) (fun c_96 => ?_)
          · skip
            have c_96d := of_decide_eq_false c_96
            refine lv_aload_n hx hb dX8_stand_106 rfl (lv_at hl 2 rfl) ?_
            refine gC_0_7 E G m_195 dX8_stand_107 ?_
            refine lv_iload_n hx hb dX8_stand_110 rfl (lv_at hl 3 rfl) ?_
            refine lv_iload_n hx hb dX8_stand_111 rfl (lv_at hl 4 rfl) ?_
            refine r_S [.int (p1), .ref (q 7)] E G (c_X8_streetOf l Z q S X p2) kX8_streetOf m_389 ⟨Nat.le_of_ble_eq_true rfl, Nat.le_of_ble_eq_true rfl⟩ hl dX8_stand_112 rfl rfl (Nat.le_of_ble_eq_true rfl) ⟨Nat.zero_le _, Nat.zero_le _⟩ (fun H locs G => ?_)
            refine lv_iload hx hb dX8_stand_115 (lv_at hl 1 rfl) ?_
            refine lv_iload_n hx hb dX8_stand_117 rfl (lv_at hl 5 rfl) ?_
            refine r_V [] E G (c_X4_add l Z q S X p1 (p2 / 100) (ho p2) p3 hI (ne_lim hI.sd.2 (of_decide_eq_false c_96))) kX4_add m_491 7 rfl rfl ⟨Nat.le_of_ble_eq_true rfl, Nat.le_of_ble_eq_true rfl⟩ hl dX8_stand_118 rfl rfl (Nat.le_of_ble_eq_true rfl) ⟨Nat.zero_le _, Nat.zero_le _⟩ (fun H locs G => ?_)
            have hs : (sp_stand S p1 p2 p3) = ((adS S p1 (p2 / 100) (ho p2) p3).1, (adS S p1 (p2 / 100) (ho p2) p3).2) := by first | rfl | (simp [sp_stand, hv_2, c_13, c_22, c_64, c_96, c_96d]; done)
            exact r_ret E G hr hlk hQ (by rw [hs]) (by rw [hs]) dX8_stand_121
          · skip
            have c_96d := of_decide_eq_true c_96
            refine lv_aload_n hx hb dX8_stand_99 rfl (lv_at hl 2 rfl) ?_
            refine lv_ldc hx hb E.1.2.2.2.1 (E.1.2.2.2.2 _ m_236) dX8_stand_100 ?_
            refine r_V [] E G (c_X8_finding l Z q S X (-1000004) (by decide)) kX8_finding m_227 0 rfl rfl ⟨Nat.le_of_ble_eq_true rfl, Nat.le_of_ble_eq_true rfl⟩ hl dX8_stand_102 rfl rfl (Nat.le_of_ble_eq_true rfl) ⟨Nat.zero_le _, Nat.zero_le _⟩ (fun H locs G => ?_)
            have hs : (sp_stand S p1 p2 p3) = ((fnd S (-1000004)).1, (fnd S (-1000004)).2) := by unfold sp_stand; rw [if_pos (by simp [hv_2, c_13, c_22]), if_neg (by first | (simp [c_64]; done) | (simp [c_79n]; done)), if_pos c_96d]
            exact r_ret E G hr hlk hQ (by rw [hs]) (by rw [hs]) dX8_stand_105
        · skip
          refine lv_iload hx hb dX8_stand_67 (lv_at hl 1 rfl) ?_
          refine lv_aload_n hx hb dX8_stand_69 rfl (lv_at hl 2 rfl) ?_
          refine gC_0_7 E G m_195 dX8_stand_70 ?_
          refine gC_7_2 E G m_147 dX8_stand_73 ?_
          refine lv_iload hx hb dX8_stand_76 (lv_at hl 0 rfl) ?_
          refine aC_19 E G (ix_sd hI c_64) dX8_stand_78 ?_
          refine lv_icmp_gt (tgt := 89) hx hb dX8_stand_79 (by decide) (fun c_79 => ?_) (fun c_79 => ?_)
          · skip
            have c_79n := Int32.not_le.mpr c_79
            refine lv_aload_n hx hb dX8_stand_89 rfl (lv_at hl 2 rfl) ?_
            refine gC_0_7 E G m_195 dX8_stand_90 ?_
            refine r_V [] E G (c_X4_isFull l Z q S X hI) kX4_isFull m_487 7 rfl rfl ⟨Nat.le_of_ble_eq_true rfl, Nat.le_of_ble_eq_true rfl⟩ hl dX8_stand_93 rfl rfl (Nat.le_of_ble_eq_true rfl) ⟨Nat.zero_le _, Nat.zero_le _⟩ (fun H locs G => ?_)
            refine r_eqb (tgt := 106) hx hb dX8_stand_96 (by decide) (fun c_96 => ?_) (fun c_96 => ?_)
            · skip
              have c_96d := of_decide_eq_false c_96
              refine lv_aload_n hx hb dX8_stand_106 rfl (lv_at hl 2 rfl) ?_
              refine gC_0_7 E G m_195 dX8_stand_107 ?_
              refine lv_iload_n hx hb dX8_stand_110 rfl (lv_at hl 3 rfl) ?_
              refine lv_iload_n hx hb dX8_stand_111 rfl (lv_at hl 4 rfl) ?_
              refine r_S [.int (p1), .ref (q 7)] E G (c_X8_streetOf l Z q S X p2) kX8_streetOf m_389 ⟨Nat.le_of_ble_eq_true rfl, Nat.le_of_ble_eq_true rfl⟩ hl dX8_stand_112 rfl rfl (Nat.le_of_ble_eq_true rfl) ⟨Nat.zero_le _, Nat.zero_le _⟩ (fun H locs G => ?_)
              refine lv_iload hx hb dX8_stand_115 (lv_at hl 1 rfl) ?_
              refine lv_iload_n hx hb dX8_stand_117 rfl (lv_at hl 5 rfl) ?_
              refine r_V [] E G (c_X4_add l Z q S X p1 (p2 / 100) (ho p2) p3 hI (ne_lim hI.sd.2 (of_decide_eq_false c_96))) kX4_add m_491 7 rfl rfl ⟨Nat.le_of_ble_eq_true rfl, Nat.le_of_ble_eq_true rfl⟩ hl dX8_stand_118 rfl rfl (Nat.le_of_ble_eq_true rfl) ⟨Nat.zero_le _, Nat.zero_le _⟩ (fun H locs G => ?_)
              have hs : (sp_stand S p1 p2 p3) = ((adS S p1 (p2 / 100) (ho p2) p3).1, (adS S p1 (p2 / 100) (ho p2) p3).2) := by first | rfl | (simp [sp_stand, hv_2, c_13, c_22, c_64, c_79, c_79n, c_96, c_96d]; done)
              exact r_ret E G hr hlk hQ (by rw [hs]) (by rw [hs]) dX8_stand_121
            · skip
              have c_96d := of_decide_eq_true c_96
              refine lv_aload_n hx hb dX8_stand_99 rfl (lv_at hl 2 rfl) ?_
              refine lv_ldc hx hb E.1.2.2.2.1 (E.1.2.2.2.2 _ m_236) dX8_stand_100 ?_
              refine r_V [] E G (c_X8_finding l Z q S X (-1000004) (by decide)) kX8_finding m_227 0 rfl rfl ⟨Nat.le_of_ble_eq_true rfl, Nat.le_of_ble_eq_true rfl⟩ hl dX8_stand_102 rfl rfl (Nat.le_of_ble_eq_true rfl) ⟨Nat.zero_le _, Nat.zero_le _⟩ (fun H locs G => ?_)
              have hs : (sp_stand S p1 p2 p3) = ((fnd S (-1000004)).1, (fnd S (-1000004)).2) := by unfold sp_stand; rw [if_pos (by simp [hv_2, c_13, c_22]), if_neg (by first | (simp [c_64]; done) | (simp [c_79n]; done)), if_pos c_96d]
              exact r_ret E G hr hlk hQ (by rw [hs]) (by rw [hs]) dX8_stand_105
          · skip
            have c_79n := Int32.not_lt.mp c_79
            refine lv_aload_n hx hb dX8_stand_82 rfl (lv_at hl 2 rfl) ?_
            refine lv_ldc hx hb E.1.2.2.2.1 (E.1.2.2.2.2 _ m_395) dX8_stand_83 ?_
            refine r_V [] E G (c_X8_finding l Z q S X (-1000003) (by decide)) kX8_finding m_227 0 rfl rfl ⟨Nat.le_of_ble_eq_true rfl, Nat.le_of_ble_eq_true rfl⟩ hl dX8_stand_85 rfl rfl (Nat.le_of_ble_eq_true rfl) ⟨Nat.zero_le _, Nat.zero_le _⟩ (fun H locs G => ?_)
            have hs : (sp_stand S p1 p2 p3) = ((fnd S (-1000003)).1, (fnd S (-1000003)).2) := by first | rfl | (simp [sp_stand, hv_2, c_13, c_22, c_64, c_79, c_79n]; done)
            exact r_ret E G hr hlk hQ (by rw [hs]) (by rw [hs]) dX8_stand_88
      · skip
        refine lv_aload_n hx hb dX8_stand_25 rfl (lv_at hl 0 rfl) ?_
        refine lv_ldc hx hb E.1.2.2.2.1 (E.1.2.2.2.2 _ m_226) dX8_stand_26 ?_
        refine r_V [] E G (c_X8_finding l Z q S X (-1000001) (by decide)) kX8_finding m_227 0 rfl rfl ⟨Nat.le_of_ble_eq_true rfl, Nat.le_of_ble_eq_true rfl⟩ hl dX8_stand_28 rfl rfl (Nat.le_of_ble_eq_true rfl) ⟨Nat.zero_le _, Nat.zero_le _⟩ (fun H locs G => ?_)
        have hs : (sp_stand S p1 p2 p3) = ((fnd S (-1000001)).1, (fnd S (-1000001)).2) := by first | rfl | (simp [sp_stand, hv_2, c_13, c_22]; done)
        exact r_ret E G hr hlk hQ (by rw [hs]) (by rw [hs]) dX8_stand_31
  · skip
    refine r_V [] E G (c_X8_vanNumber_f l Z q S X p1 hI hv_2) kX8_vanNumber m_325 0 rfl rfl ⟨Nat.le_of_ble_eq_true rfl, Nat.le_of_ble_eq_true rfl⟩ hl dX8_stand_2 rfl rfl (Nat.le_of_ble_eq_true rfl) ⟨Nat.zero_le _, Nat.zero_le _⟩ (fun H locs G => ?_)
    refine lv_ifnullN (tgt := 25) hx hb dX8_stand_5 (by decide) ?_
    refine lv_aload_n hx hb dX8_stand_25 rfl (lv_at hl 0 rfl) ?_
    refine lv_ldc hx hb E.1.2.2.2.1 (E.1.2.2.2.2 _ m_226) dX8_stand_26 ?_
    refine r_V [] E G (c_X8_finding l Z q S X (-1000001) (by decide)) kX8_finding m_227 0 rfl rfl ⟨Nat.le_of_ble_eq_true rfl, Nat.le_of_ble_eq_true rfl⟩ hl dX8_stand_28 rfl rfl (Nat.le_of_ble_eq_true rfl) ⟨Nat.zero_le _, Nat.zero_le _⟩ (fun H locs G => ?_)
    have hs : (sp_stand S p1 p2 p3) = ((fnd S (-1000001)).1, (fnd S (-1000001)).2) := by first | rfl | (simp [sp_stand, hv_2]; done)
    exact r_ret E G hr hlk hQ (by rw [hs]) (by rw [hs]) dX8_stand_31
set_option maxHeartbeats 4000000 in
set_option maxRecDepth 100000 in
theorem c_X8_isTooSoon (l : Launch) (Z : ZT) (q : Nat → Nat) (S : St) (X : XC) (p1 : Int32) (hI : Inv S) (hv : isVa S (ar (s_sv S) p1) = true) (h1 : isSd S p1 = true) : CT l Z yX8_isTooSoon cX8_isTooSoon 5 (some .boolean) 4 [.ref (q 0), .ref (q (24 + (ar (s_sv S) p1).toNatClampNeg)), .int (p1)] (CW Z q S X) (some (.int (b01 (soon S p1)))) (CW Z q S X) := by
  refine CE.mk rfl (Nat.le_of_ble_eq_true rfl) (fun p e s m args below meth c A Qx ls E hr hlk hnm hQ G hl => ?_)
  have hx := E.1.1
  have hb := E.1.2.1
  have hl : lv_has ls 5 [(0, .ref (q 0)), (1, .ref (q (24 + (ar (s_sv S) p1).toNatClampNeg))), (2, .int (p1))] := hl
  have h24 := sd_cl hI h1
  have hlt := sd_lt hI h1
  refine lv_aload_n hx hb dX8_isTooSoon_0 rfl (lv_at hl 0 rfl) ?_
  refine gC_0_7 E G m_195 dX8_isTooSoon_1 ?_
  refine lv_aload_n hx hb dX8_isTooSoon_4 rfl (lv_at hl 0 rfl) ?_
  refine gC_0_7 E G m_195 dX8_isTooSoon_5 ?_
  refine gC_7_0 E G m_143 dX8_isTooSoon_8 ?_
  refine lv_iload_n hx hb dX8_isTooSoon_11 rfl (lv_at hl 2 rfl) ?_
  refine aC_17 E G (ix_sd hI h1) dX8_isTooSoon_12 ?_
  refine lv_iload_n hx hb dX8_isTooSoon_13 rfl (lv_at hl 2 rfl) ?_
  refine r_V [] E G (c_X4_latestAhead l Z q S X (ar (s_sv S) p1) p1 (sd_0 h1) (by have := sd_of hI h1; have e := e_lit; rw [i_le]; omega)) kX4_latestAhead m_479 7 rfl rfl ⟨Nat.le_of_ble_eq_true rfl, Nat.le_of_ble_eq_true rfl⟩ hl dX8_isTooSoon_14 rfl rfl (Nat.le_of_ble_eq_true rfl) ⟨Nat.zero_le _, Nat.zero_le _⟩ (fun H locs G => ?_)
  refine lv_istore_n (lv' := [(3, .int (laS S (ar (s_sv S) p1) p1.toNatClampNeg)), (0, .ref (q 0)), (1, .ref (q (24 + (ar (s_sv S) p1).toNatClampNeg))), (2, .int (p1))]) hx hb dX8_isTooSoon_17 rfl hl (by decide) rfl (fun ls hl => ?_)
  refine lv_aload_n hx hb dX8_isTooSoon_18 rfl (lv_at hl 1 rfl) ?_
  refine gC_0_7 E G m_195 dX8_isTooSoon_19 ?_
  refine lv_iload_n hx hb dX8_isTooSoon_22 rfl (lv_at hl 0 rfl) ?_
  refine r_V [] E G (c_X4_has l Z q S X (laS S (ar (s_sv S) p1) p1.toNatClampNeg)) kX4_has m_483 7 rfl rfl ⟨Nat.le_of_ble_eq_true rfl, Nat.le_of_ble_eq_true rfl⟩ hl dX8_isTooSoon_23 rfl rfl (Nat.le_of_ble_eq_true rfl) ⟨Nat.zero_le _, Nat.zero_le _⟩ (fun H locs G => ?_)
  refine r_neb (tgt := 31) hx hb dX8_isTooSoon_26 (by decide) (fun c_26 => ?_) (fun c_26 => ?_)
  · skip
    refine lv_aload_n hx hb dX8_isTooSoon_31 rfl (lv_at hl 1 rfl) ?_
    refine lv_aload_n hx hb dX8_isTooSoon_32 rfl (lv_at hl 2 rfl) ?_
    refine lv_aload_n hx hb dX8_isTooSoon_33 rfl (lv_at hl 1 rfl) ?_
    refine gC_0_7 E G m_195 dX8_isTooSoon_34 ?_
    refine gC_7_1 E G m_145 dX8_isTooSoon_37 ?_
    refine lv_iload_n hx hb dX8_isTooSoon_40 rfl (lv_at hl 0 rfl) ?_
    refine aC_18 E G (ix_sd hI c_26) dX8_isTooSoon_41 ?_
    refine lv_aload_n hx hb dX8_isTooSoon_42 rfl (lv_at hl 1 rfl) ?_
    refine gC_0_7 E G m_195 dX8_isTooSoon_43 ?_
    refine gC_7_1 E G m_145 dX8_isTooSoon_46 ?_
    refine lv_iload_n hx hb dX8_isTooSoon_49 rfl (lv_at hl 3 rfl) ?_
    refine aC_18 E G (ix_sd hI h1) dX8_isTooSoon_50 ?_
    refine r_V [] E G (c_X8_hoursBetween l Z q S X (ar (s_ss S) (laS S (ar (s_sv S) p1) p1.toNatClampNeg)) (ar (s_ss S) p1) (ar (s_sv S) p1) hI (hv) ((sd_in hI c_26).2.1) ((sd_in hI h1).2.1)) kX8_hoursBetween m_445 0 rfl rfl ⟨Nat.le_of_ble_eq_true rfl, Nat.le_of_ble_eq_true rfl⟩ hl dX8_isTooSoon_51 rfl rfl (Nat.le_of_ble_eq_true rfl) ⟨Nat.zero_le _, Nat.zero_le _⟩ (fun H locs G => ?_)
    refine lv_istore (lv' := [(4, .int (lat S (ar (s_sv S) p1) (ar (s_ss S) (laS S (ar (s_sv S) p1) p1.toNatClampNeg)) (ar (s_ss S) p1))), (3, .int (laS S (ar (s_sv S) p1) p1.toNatClampNeg)), (0, .ref (q 0)), (1, .ref (q (24 + (ar (s_sv S) p1).toNatClampNeg))), (2, .int (p1))]) hx hb dX8_isTooSoon_54 hl (by decide) rfl (fun ls hl => ?_)
    refine lv_aload_n hx hb dX8_isTooSoon_56 rfl (lv_at hl 2 rfl) ?_
    refine gC_0_7 E G m_195 dX8_isTooSoon_57 ?_
    refine gC_7_2 E G m_147 dX8_isTooSoon_60 ?_
    refine lv_iload_n hx hb dX8_isTooSoon_63 rfl (lv_at hl 4 rfl) ?_
    refine aC_19 E G (ix_sd hI h1) dX8_isTooSoon_64 ?_
    refine lv_aload_n hx hb dX8_isTooSoon_65 rfl (lv_at hl 2 rfl) ?_
    refine gC_0_7 E G m_195 dX8_isTooSoon_66 ?_
    refine gC_7_2 E G m_147 dX8_isTooSoon_69 ?_
    refine lv_iload_n hx hb dX8_isTooSoon_72 rfl (lv_at hl 1 rfl) ?_
    refine aC_19 E G (ix_sd hI c_26) dX8_isTooSoon_73 ?_
    refine lv_isub hx hb dX8_isTooSoon_74 ?_
    refine lv_iload hx hb dX8_isTooSoon_75 (lv_at hl 0 rfl) ?_
    refine lv_icmp_ge (tgt := 84) hx hb dX8_isTooSoon_77 (by decide) (fun c_77 => ?_) (fun c_77 => ?_)
    · skip
      have c_77n := Int32.not_lt.mpr c_77
      refine lv_iconst (v := 0) hx hb dX8_isTooSoon_84 (by decide) ?_
      have hs : (soon S p1) = false := by unfold soon; rw [← la_sd hI _ (Nat.le_of_lt hlt), c_26]; have g := soon_eq hI h1 c_26 _ (lat_rng hI (ar (s_sv S) p1) (ar (s_ss S) (laS S (ar (s_sv S) p1) p1.toNatClampNeg)) (ar (s_ss S) p1)); simp only [Bool.true_and, ← g]; simp [c_26, c_77, c_77n]
      exact r_retz E G hr hlk hQ (by decide) (congrArg (fun t => some (Value.int (b01 t))) hs) rfl dX8_isTooSoon_85
    · skip
      have c_77n := Int32.not_le.mp c_77
      refine lv_iconst (v := 1) hx hb dX8_isTooSoon_80 (by decide) ?_
      refine lv_goto (tgt := 85) hx hb dX8_isTooSoon_81 (by decide) ?_
      have hs : (soon S p1) = true := by unfold soon; rw [← la_sd hI _ (Nat.le_of_lt hlt), c_26]; have g := soon_eq hI h1 c_26 _ (lat_rng hI (ar (s_sv S) p1) (ar (s_ss S) (laS S (ar (s_sv S) p1) p1.toNatClampNeg)) (ar (s_ss S) p1)); simp only [Bool.true_and, ← g]; simp [c_26, c_77, c_77n]
      exact r_retz E G hr hlk hQ (by decide) (congrArg (fun t => some (Value.int (b01 t))) hs) rfl dX8_isTooSoon_85
  · skip
    refine lv_iconst (v := 0) hx hb dX8_isTooSoon_29 (by decide) ?_
    have hs : (soon S p1) = false := by unfold soon; rw [← la_sd hI _ (Nat.le_of_lt hlt), c_26]; rfl
    exact r_retz E G hr hlk hQ (by decide) (congrArg (fun t => some (Value.int (b01 t))) hs) rfl dX8_isTooSoon_30
set_option maxHeartbeats 4000000 in
set_option maxRecDepth 100000 in
theorem c_X8_faultOf (l : Launch) (Z : ZT) (q : Nat → Nat) (S : St) (X : XC) (p1 : Int32) (hI : Inv S) (h1 : isSd S p1 = true) : CT l Z yX8_faultOf cX8_faultOf 4 (some .int) 5 [.ref (q 0), .int (p1)] (CW Z q S X) (some (.int (wrS S p1))) (CW Z q S X) := by
  refine CE.mk rfl (Nat.le_of_ble_eq_true rfl) (fun p e s m args below meth c A Qx ls E hr hlk hnm hQ G hl => ?_)
  have hx := E.1.1
  have hb := E.1.2.1
  have hl : lv_has ls 4 [(0, .ref (q 0)), (1, .int (p1))] := hl
  refine lv_aload_n hx hb dX8_faultOf_0 rfl (lv_at hl 0 rfl) ?_
  refine lv_aload_n hx hb dX8_faultOf_1 rfl (lv_at hl 0 rfl) ?_
  refine gC_0_7 E G m_195 dX8_faultOf_2 ?_
  refine gC_7_0 E G m_143 dX8_faultOf_5 ?_
  refine lv_iload_n hx hb dX8_faultOf_8 rfl (lv_at hl 1 rfl) ?_
  refine aC_17 E G (ix_sd hI h1) dX8_faultOf_9 ?_
  refine r_V [] E G (c_X8_vanNumber_t l Z q S X (ar (s_sv S) p1) hI ((sd_in hI h1).1)) kX8_vanNumber m_325 0 rfl rfl ⟨Nat.le_of_ble_eq_true rfl, Nat.le_of_ble_eq_true rfl⟩ hl dX8_faultOf_10 rfl rfl (Nat.le_of_ble_eq_true rfl) ⟨Nat.zero_le _, Nat.zero_le _⟩ (fun H locs G => ?_)
  refine lv_astore_n (lv' := [(2, .ref (q (24 + (ar (s_sv S) p1).toNatClampNeg))), (0, .ref (q 0)), (1, .int (p1))]) hx hb dX8_faultOf_13 rfl hl (by decide) rfl (fun ls hl => ?_)
  refine lv_aload_n hx hb dX8_faultOf_14 rfl (lv_at hl 1 rfl) ?_
  refine gC_0_7 E G m_195 dX8_faultOf_15 ?_
  refine gC_7_1 E G m_145 dX8_faultOf_18 ?_
  refine lv_iload_n hx hb dX8_faultOf_21 rfl (lv_at hl 2 rfl) ?_
  refine aC_18 E G (ix_sd hI h1) dX8_faultOf_22 ?_
  refine lv_istore_n (lv' := [(3, .int (ar (s_ss S) p1)), (2, .ref (q (24 + (ar (s_sv S) p1).toNatClampNeg))), (0, .ref (q 0)), (1, .int (p1))]) hx hb dX8_faultOf_23 rfl hl (by decide) rfl (fun ls hl => ?_)
  refine lv_aload_n hx hb dX8_faultOf_24 rfl (lv_at hl 1 rfl) ?_
  refine lv_ifnull hx hb dX8_faultOf_25 ?_
  refine lv_aload_n hx hb dX8_faultOf_28 rfl (lv_at hl 1 rfl) ?_
  refine lv_iload_n hx hb dX8_faultOf_29 rfl (lv_at hl 0 rfl) ?_
  refine rV_isLicensed [] E G ((sd_in hI h1).1) ⟨Nat.le_of_ble_eq_true rfl, Nat.le_of_ble_eq_true rfl⟩ hl dX8_faultOf_30 rfl (Nat.le_of_ble_eq_true rfl) ⟨Nat.zero_le _, Nat.zero_le _⟩ (fun H locs G => ?_)
  refine r_neb (tgt := 38) hx hb dX8_faultOf_33 (by decide) (fun c_33 => ?_) (fun c_33 => ?_)
  · skip
    refine lv_aload_n hx hb dX8_faultOf_38 rfl (lv_at hl 2 rfl) ?_
    refine lv_iload_n hx hb dX8_faultOf_39 rfl (lv_at hl 0 rfl) ?_
    refine lv_aload_n hx hb dX8_faultOf_40 rfl (lv_at hl 2 rfl) ?_
    refine gC_0_7 E G m_195 dX8_faultOf_41 ?_
    refine gC_7_2 E G m_147 dX8_faultOf_44 ?_
    refine lv_iload_n hx hb dX8_faultOf_47 rfl (lv_at hl 3 rfl) ?_
    refine aC_19 E G (ix_sd hI h1) dX8_faultOf_48 ?_
    refine r_V [] E G (c_X8_isBarred l Z q S X (ar (s_ss S) p1) (ar (s_sh S) p1) hI ((sd_in hI h1).2.1)) kX8_isBarred m_360 0 rfl rfl ⟨Nat.le_of_ble_eq_true rfl, Nat.le_of_ble_eq_true rfl⟩ hl dX8_faultOf_49 rfl rfl (Nat.le_of_ble_eq_true rfl) ⟨Nat.zero_le _, Nat.zero_le _⟩ (fun H locs G => ?_)
    refine r_eqb (tgt := 57) hx hb dX8_faultOf_52 (by decide) (fun c_52 => ?_) (fun c_52 => ?_)
    · skip
      refine lv_aload_n hx hb dX8_faultOf_57 rfl (lv_at hl 2 rfl) ?_
      refine gC_0_7 E G m_195 dX8_faultOf_58 ?_
      refine gC_7_3 E G m_149 dX8_faultOf_61 ?_
      refine lv_iload_n hx hb dX8_faultOf_64 rfl (lv_at hl 3 rfl) ?_
      refine aC_20 E G (ix_sd hI h1) dX8_faultOf_65 ?_
      refine lv_aload_n hx hb dX8_faultOf_66 rfl (lv_at hl 2 rfl) ?_
      refine gC_0_2 E G m_190 dX8_faultOf_67 ?_
      refine gC_3_2 E G m_99 dX8_faultOf_70 ?_
      refine lv_icmp_le (tgt := 78) hx hb dX8_faultOf_73 (by decide) (fun c_73 => ?_) (fun c_73 => ?_)
      · skip
        have c_73n := Int32.not_lt.mpr c_73
        refine lv_aload_n hx hb dX8_faultOf_78 rfl (lv_at hl 2 rfl) ?_
        refine lv_aload_n hx hb dX8_faultOf_79 rfl (lv_at hl 1 rfl) ?_
        refine lv_iload_n hx hb dX8_faultOf_80 rfl (lv_at hl 3 rfl) ?_
        refine r_V [] E G (c_X8_isTooSoon l Z q S X p1 hI ((sd_in hI h1).1) h1) kX8_isTooSoon m_503 0 rfl rfl ⟨Nat.le_of_ble_eq_true rfl, Nat.le_of_ble_eq_true rfl⟩ hl dX8_faultOf_81 rfl rfl (Nat.le_of_ble_eq_true rfl) ⟨Nat.zero_le _, Nat.zero_le _⟩ (fun H locs G => ?_)
        refine r_eqb (tgt := 89) hx hb dX8_faultOf_84 (by decide) (fun c_84 => ?_) (fun c_84 => ?_)
        · skip
          refine lv_aload_n hx hb dX8_faultOf_89 rfl (lv_at hl 2 rfl) ?_
          refine gC_0_7 E G m_195 dX8_faultOf_90 ?_
          refine lv_iload_n hx hb dX8_faultOf_93 rfl (lv_at hl 3 rfl) ?_
          refine r_V [] E G (c_X4_isTaken l Z q S X p1 hI h1) kX4_isTaken m_507 7 rfl rfl ⟨Nat.le_of_ble_eq_true rfl, Nat.le_of_ble_eq_true rfl⟩ hl dX8_faultOf_94 rfl rfl (Nat.le_of_ble_eq_true rfl) ⟨Nat.zero_le _, Nat.zero_le _⟩ (fun H locs G => ?_)
          refine r_eqb (tgt := 104) hx hb dX8_faultOf_97 (by decide) (fun c_97 => ?_) (fun c_97 => ?_)
          · skip
            refine lv_iconst (v := 0) hx hb dX8_faultOf_104 (by decide) ?_
            have hs : (wrS S p1) = 0 := by first | rfl | (simp [wrS, c_33, c_52, c_73, c_73n, c_84, c_97]; done) | (simp_all [wrS]; done)
            exact r_ret E G hr hlk hQ (congrArg (fun t => some (Value.int t)) hs) rfl dX8_faultOf_105
          · skip
            refine lv_iconst (v := 5) hx hb dX8_faultOf_100 (by decide) ?_
            refine lv_goto (tgt := 105) hx hb dX8_faultOf_101 (by decide) ?_
            have hs : (wrS S p1) = 5 := by first | rfl | (simp [wrS, c_33, c_52, c_73, c_73n, c_84, c_97]; done) | (simp_all [wrS]; done)
            exact r_ret E G hr hlk hQ (congrArg (fun t => some (Value.int t)) hs) rfl dX8_faultOf_105
        · skip
          refine lv_iconst (v := 4) hx hb dX8_faultOf_87 (by decide) ?_
          have hs : (wrS S p1) = 4 := by first | rfl | (simp [wrS, c_33, c_52, c_73, c_73n, c_84]; done) | (simp_all [wrS]; done)
          exact r_ret E G hr hlk hQ (congrArg (fun t => some (Value.int t)) hs) rfl dX8_faultOf_88
      · skip
        have c_73n := Int32.not_le.mp c_73
        refine lv_iconst (v := 3) hx hb dX8_faultOf_76 (by decide) ?_
        have hs : (wrS S p1) = 3 := by first | rfl | (simp [wrS, c_33, c_52, c_73, c_73n]; done) | (simp_all [wrS]; done)
        exact r_ret E G hr hlk hQ (congrArg (fun t => some (Value.int t)) hs) rfl dX8_faultOf_77
    · skip
      refine lv_iconst (v := 2) hx hb dX8_faultOf_55 (by decide) ?_
      have hs : (wrS S p1) = 2 := by first | rfl | (simp [wrS, c_33, c_52]; done) | (simp_all [wrS]; done)
      exact r_ret E G hr hlk hQ (congrArg (fun t => some (Value.int t)) hs) rfl dX8_faultOf_56
  · skip
    refine lv_iconst (v := 1) hx hb dX8_faultOf_36 (by decide) ?_
    have hs : (wrS S p1) = 1 := by first | rfl | (simp [wrS, c_33]; done) | (simp_all [wrS]; done)
    exact r_ret E G hr hlk hQ (congrArg (fun t => some (Value.int t)) hs) rfl dX8_faultOf_37
set_option maxHeartbeats 4000000 in
set_option maxRecDepth 100000 in
theorem c_X8_wrong (l : Launch) (Z : ZT) (q : Nat → Nat) (S : St) (X : XC) (p1 : Int32) (hI : Inv S) : CT l Z yX8_wrong cX8_wrong 2 (some .int) 6 [.ref (q 0), .int (p1)] (CW Z q S X) (some (.int ((sp_wrong S p1).1))) (CW Z q ((sp_wrong S p1).2) (X)) := by
  refine CE.mk rfl (Nat.le_of_ble_eq_true rfl) (fun p e s m args below meth c A Qx ls E hr hlk hnm hQ G hl => ?_)
  have hx := E.1.1
  have hb := E.1.2.1
  have hl : lv_has ls 2 [(0, .ref (q 0)), (1, .int (p1))] := hl
  refine lv_aload_n hx hb dX8_wrong_0 rfl (lv_at hl 0 rfl) ?_
  refine gC_0_7 E G m_195 dX8_wrong_1 ?_
  refine lv_iload_n hx hb dX8_wrong_4 rfl (lv_at hl 1 rfl) ?_
  refine r_V [] E G (c_X4_has l Z q S X p1) kX4_has m_483 7 rfl rfl ⟨Nat.le_of_ble_eq_true rfl, Nat.le_of_ble_eq_true rfl⟩ hl dX8_wrong_5 rfl rfl (Nat.le_of_ble_eq_true rfl) ⟨Nat.zero_le _, Nat.zero_le _⟩ (fun H locs G => ?_)
  refine r_neb (tgt := 18) hx hb dX8_wrong_8 (by decide) (fun c_8 => ?_) (fun c_8 => ?_)
  · skip
    refine lv_aload_n hx hb dX8_wrong_18 rfl (lv_at hl 0 rfl) ?_
    refine lv_iload_n hx hb dX8_wrong_19 rfl (lv_at hl 1 rfl) ?_
    refine r_V [] E G (c_X8_faultOf l Z q S X p1 hI c_8) kX8_faultOf m_499 0 rfl rfl ⟨Nat.le_of_ble_eq_true rfl, Nat.le_of_ble_eq_true rfl⟩ hl dX8_wrong_20 rfl rfl (Nat.le_of_ble_eq_true rfl) ⟨Nat.zero_le _, Nat.zero_le _⟩ (fun H locs G => ?_)
    have hs : (sp_wrong S p1) = (wrS S p1, S) := by first | rfl | (simp [sp_wrong, c_8]; done) | (simp_all [sp_wrong]; done)
    exact r_ret E G hr hlk hQ (by rw [hs]) (by rw [hs]) dX8_wrong_23
  · skip
    refine lv_aload_n hx hb dX8_wrong_11 rfl (lv_at hl 0 rfl) ?_
    refine lv_ldc hx hb E.1.2.2.2.1 (E.1.2.2.2.2 _ m_226) dX8_wrong_12 ?_
    refine r_V [] E G (c_X8_finding l Z q S X (-1000001) (by decide)) kX8_finding m_227 0 rfl rfl ⟨Nat.le_of_ble_eq_true rfl, Nat.le_of_ble_eq_true rfl⟩ hl dX8_wrong_14 rfl rfl (Nat.le_of_ble_eq_true rfl) ⟨Nat.zero_le _, Nat.zero_le _⟩ (fun H locs G => ?_)
    have hs : (sp_wrong S p1) = ((fnd S (-1000001)).1, (fnd S (-1000001)).2) := by first | rfl | (simp [sp_wrong, c_8]; done) | (simp_all [sp_wrong]; done)
    exact r_ret E G hr hlk hQ (by rw [hs]) (by rw [hs]) dX8_wrong_17
set_option maxHeartbeats 4000000 in
set_option maxRecDepth 100000 in
theorem c_X8_clear (l : Launch) (Z : ZT) (q : Nat → Nat) (S : St) (X : XC) (hI : Inv S) : CT l Z yX8_clear cX8_clear 3 (some .int) 6 [.ref (q 0)] (CW Z q S X) (some (.int ((sp_clear S).1))) (CW Z q ((sp_clear S).2) (X)) := by
  refine CE.mk rfl (Nat.le_of_ble_eq_true rfl) (fun p e s m args below meth c A Qx ls E hr hlk hnm hQ G hl => ?_)
  have hx := E.1.1
  have hb := E.1.2.1
  have hl : lv_has ls 3 [(0, .ref (q 0))] := hl
  have h0 := hI.sd.1
  have h24 := N24 hI
  refine lv_iconst (v := 0) hx hb dX8_clear_0 (by decide) ?_
  refine lv_istore_n (lv' := [(1, .int (0)), (0, .ref (q 0))]) hx hb dX8_clear_1 rfl hl (by decide) rfl (fun ls hl => ?_)
  refine lv_iconst (v := 0) hx hb dX8_clear_2 (by decide) ?_
  refine lv_istore_n (lv' := [(2, .int (0)), (1, .int (0)), (0, .ref (q 0))]) hx hb dX8_clear_3 rfl hl (by decide) rfl (fun ls hl => ?_)
  have L4 : ∀ k : Nat, k ≤ (s_sd S).toNatClampNeg → (∀ (H : Heap) (locs : List Loc) (ls : Array Slot), GW Z (CW Z q S X) A s.heap H locs → lv_has ls 3 [(0, .ref (q 0)), (1, .int (clS S k)), (2, .int (nI k))] → W p l e (rmk 6 0 0) s m args below meth c H locs 0 0 Qx (F0 m 4 ls [])) := by
    refine up_in2 (P := fun k => (∀ (H : Heap) (locs : List Loc) (ls : Array Slot), GW Z (CW Z q S X) A s.heap H locs → lv_has ls 3 [(0, .ref (q 0)), (1, .int (clS S k)), (2, .int (nI k))] → W p l e (rmk 6 0 0) s m args below meth c H locs 0 0 Qx (F0 m 4 ls []))) ((s_sd S).toNatClampNeg) ?_
    intro k hkk ih4 H locs ls G hl
    refine lv_iload_n hx hb dX8_clear_4 rfl (lv_at hl 2 rfl) ?_
    refine lv_aload_n hx hb dX8_clear_5 rfl (lv_at hl 0 rfl) ?_
    refine gC_0_7 E G m_195 dX8_clear_6 ?_
    refine gC_7_4 E G m_151 dX8_clear_9 ?_
    refine lv_icmp_ge (tgt := 32) hx hb dX8_clear_12 (by decide) (fun c_12 => ?_) (fun c_12 => ?_)
    · skip
      have c_12n := Int32.not_lt.mpr c_12
      refine lv_aload_n hx hb dX8_clear_32 rfl (lv_at hl 0 rfl) ?_
      refine gC_0_7 E G m_195 dX8_clear_33 ?_
      refine lv_iconst (v := 0) hx hb dX8_clear_36 (by decide) ?_
      refine pC_7_4 E G m_151 dX8_clear_37 (fun H locs G => ?_)
      refine lv_iload_n hx hb dX8_clear_40 rfl (lv_at hl 1 rfl) ?_
      have hs : (sp_clear S) = (clS S k, u_sd S 0) := by rw [lp_eq h0 hkk c_12]; rfl
      exact r_ret E G hr hlk hQ (by rw [hs]) (by rw [hs]) dX8_clear_41
    · skip
      have c_12n := Int32.not_le.mp c_12
      refine lv_aload_n hx hb dX8_clear_15 rfl (lv_at hl 0 rfl) ?_
      refine lv_iload_n hx hb dX8_clear_16 rfl (lv_at hl 2 rfl) ?_
      refine r_V [] E G (c_X8_faultOf l Z q S X (nI k) hI (sd_k hI (lp_lt h0 hkk c_12))) kX8_faultOf m_499 0 rfl rfl ⟨Nat.le_of_ble_eq_true rfl, Nat.le_of_ble_eq_true rfl⟩ hl dX8_clear_17 rfl rfl (Nat.le_of_ble_eq_true rfl) ⟨Nat.zero_le _, Nat.zero_le _⟩ (fun H locs G => ?_)
      refine lv_if_eq (tgt := 26) hx hb dX8_clear_20 (by decide) (fun c_20 => ?_) (fun c_20 => ?_)
      · skip
        refine lv_iinc (v := (nI k) + 1) (lv' := [(2, .int ((nI k) + 1)), (0, .ref (q 0)), (1, .int (clS S k))]) hx hb dX8_clear_26 hl (k := 2) rfl rfl (by decide) rfl (fun ls hl => ?_)
        refine lv_goto (tgt := 4) hx hb dX8_clear_29 (by decide) ?_
        exact ih4 (lp_lt h0 hkk c_12) _ _ _ (GW.cast (rfl) G) (lv_cast (lv_sub (l' := [(0, .ref (q 0)), (1, .int (clS S k)), (2, .int ((nI k) + 1))]) hl [1, 2, 0] rfl) (by simp [nI_1, clS, c_12, c_12n, c_20]))
      · skip
        refine lv_iinc (v := (clS S k) + 1) (lv' := [(1, .int ((clS S k) + 1)), (0, .ref (q 0)), (2, .int (nI k))]) hx hb dX8_clear_23 hl (k := 1) rfl rfl (by decide) rfl (fun ls hl => ?_)
        refine lv_iinc (v := (nI k) + 1) (lv' := [(2, .int ((nI k) + 1)), (1, .int ((clS S k) + 1)), (0, .ref (q 0))]) hx hb dX8_clear_26 hl (k := 2) rfl rfl (by decide) rfl (fun ls hl => ?_)
        refine lv_goto (tgt := 4) hx hb dX8_clear_29 (by decide) ?_
        exact ih4 (lp_lt h0 hkk c_12) _ _ _ (GW.cast (rfl) G) (lv_cast (lv_sub (l' := [(0, .ref (q 0)), (1, .int ((clS S k) + 1)), (2, .int ((nI k) + 1))]) hl [2, 1, 0] rfl) (by simp [nI_1, clS, c_12, c_12n, c_20]))
  exact L4 0 (Nat.zero_le _) _ _ _ (GW.cast (rfl) G) (lv_cast (lv_sub (l' := [(0, .ref (q 0)), (1, .int (0)), (2, .int (0))]) hl [2, 1, 0] rfl) (by rw [nI_0]; rfl))
set_option maxHeartbeats 4000000 in
set_option maxRecDepth 100000 in
theorem c_X8_holderOf (l : Launch) (Z : ZT) (q : Nat → Nat) (S : St) (X : XC) (p1 : Int32) (hI : Inv S) : CT l Z yX8_holderOf cX8_holderOf 6 (some .int) 2 [.ref (q 0), .int (p1)] (CW Z q S X) (some (.int (hol S p1))) (CW Z q S X) := by
  refine CE.mk rfl (Nat.le_of_ble_eq_true rfl) (fun p e s m args below meth c A Qx ls E hr hlk hnm hQ G hl => ?_)
  have hx := E.1.1
  have hb := E.1.2.1
  have hl : lv_has ls 6 [(0, .ref (q 0)), (1, .int (p1))] := hl
  have h0 := hI.va.1
  have h4 := N4 hI
  refine lv_iconst (v := -1) hx hb dX8_holderOf_0 (by decide) ?_
  refine lv_istore_n (lv' := [(2, .int ((-1))), (0, .ref (q 0)), (1, .int (p1))]) hx hb dX8_holderOf_1 rfl hl (by decide) rfl (fun ls hl => ?_)
  refine lv_iconst (v := 0) hx hb dX8_holderOf_2 (by decide) ?_
  refine lv_istore_n (lv' := [(3, .int (0)), (2, .int ((-1))), (0, .ref (q 0)), (1, .int (p1))]) hx hb dX8_holderOf_3 rfl hl (by decide) rfl (fun ls hl => ?_)
  refine lv_iconst (v := 0) hx hb dX8_holderOf_4 (by decide) ?_
  refine lv_istore (lv' := [(4, .int (0)), (3, .int (0)), (2, .int ((-1))), (0, .ref (q 0)), (1, .int (p1))]) hx hb dX8_holderOf_5 hl (by decide) rfl (fun ls hl => ?_)
  have L7 : ∀ k : Nat, k ≤ (s_va S).toNatClampNeg → (∀ (H : Heap) (locs : List Loc) (ls : Array Slot), GW Z (CW Z q S X) A s.heap H locs → lv_has ls 6 [(0, .ref (q 0)), (1, .int (p1)), (2, .int ((hoS S p1 k).1)), (3, .int ((hoS S p1 k).2)), (4, .int (nI k))] → W p l e (rmk 2 0 0) s m args below meth c H locs 0 0 Qx (F0 m 7 ls [])) := by
    refine up_in2 (P := fun k => (∀ (H : Heap) (locs : List Loc) (ls : Array Slot), GW Z (CW Z q S X) A s.heap H locs → lv_has ls 6 [(0, .ref (q 0)), (1, .int (p1)), (2, .int ((hoS S p1 k).1)), (3, .int ((hoS S p1 k).2)), (4, .int (nI k))] → W p l e (rmk 2 0 0) s m args below meth c H locs 0 0 Qx (F0 m 7 ls []))) ((s_va S).toNatClampNeg) ?_
    intro k hkk ih7 H locs ls G hl
    refine lv_iload hx hb dX8_holderOf_7 (lv_at hl 4 rfl) ?_
    refine lv_aload_n hx hb dX8_holderOf_9 rfl (lv_at hl 0 rfl) ?_
    refine gC_0_4 E G m_192 dX8_holderOf_10 ?_
    refine lv_icmp_ge (tgt := 46) hx hb dX8_holderOf_13 (by decide) (fun c_13 => ?_) (fun c_13 => ?_)
    · skip
      have c_13n := Int32.not_lt.mpr c_13
      refine lv_iload_n hx hb dX8_holderOf_46 rfl (lv_at hl 2 rfl) ?_
      have hs : (hol S p1) = (hoS S p1 k).1 := by rw [lp_eq h0 hkk c_13]; rfl
      exact r_ret E G hr hlk hQ (congrArg (fun t => some (Value.int t)) hs) rfl dX8_holderOf_47
    · skip
      have c_13n := Int32.not_le.mp c_13
      refine lv_aload_n hx hb dX8_holderOf_16 rfl (lv_at hl 0 rfl) ?_
      refine gC_0_7 E G m_195 dX8_holderOf_17 ?_
      refine lv_iload hx hb dX8_holderOf_20 (lv_at hl 4 rfl) ?_
      refine lv_iload_n hx hb dX8_holderOf_22 rfl (lv_at hl 1 rfl) ?_
      refine r_V [] E G (c_X4_countOf l Z q S X (nI k) p1 hI) kX4_countOf m_523 7 rfl rfl ⟨Nat.le_of_ble_eq_true rfl, Nat.le_of_ble_eq_true rfl⟩ hl dX8_holderOf_23 rfl rfl (Nat.le_of_ble_eq_true rfl) ⟨Nat.zero_le _, Nat.zero_le _⟩ (fun H locs G => ?_)
      refine lv_istore (lv' := [(5, .int (coS S (nI k) p1 (s_sd S).toNatClampNeg)), (0, .ref (q 0)), (1, .int (p1)), (2, .int ((hoS S p1 k).1)), (3, .int ((hoS S p1 k).2)), (4, .int (nI k))]) hx hb dX8_holderOf_26 hl (by decide) rfl (fun ls hl => ?_)
      refine lv_iload hx hb dX8_holderOf_28 (lv_at hl 0 rfl) ?_
      refine lv_iload_n hx hb dX8_holderOf_30 rfl (lv_at hl 4 rfl) ?_
      refine lv_icmp_le (tgt := 40) hx hb dX8_holderOf_31 (by decide) (fun c_31 => ?_) (fun c_31 => ?_)
      · skip
        have c_31n := Int32.not_lt.mpr c_31
        refine lv_iinc (v := (nI k) + 1) (lv' := [(4, .int ((nI k) + 1)), (5, .int (coS S (nI k) p1 (s_sd S).toNatClampNeg)), (0, .ref (q 0)), (1, .int (p1)), (2, .int ((hoS S p1 k).1)), (3, .int ((hoS S p1 k).2))]) hx hb dX8_holderOf_40 hl (k := 5) rfl rfl (by decide) rfl (fun ls hl => ?_)
        refine lv_goto (tgt := 7) hx hb dX8_holderOf_43 (by decide) ?_
        exact ih7 (lp_lt h0 hkk c_13) _ _ _ (GW.cast (rfl) G) (lv_cast (lv_sub (l' := [(0, .ref (q 0)), (1, .int (p1)), (2, .int ((hoS S p1 k).1)), (3, .int ((hoS S p1 k).2)), (4, .int ((nI k) + 1))]) hl [2, 3, 4, 5, 0] rfl) (by simp [nI_1, hoS, c_13, c_13n, c_31, c_31n]))
      · skip
        have c_31n := Int32.not_le.mp c_31
        refine lv_iload hx hb dX8_holderOf_34 (lv_at hl 0 rfl) ?_
        refine lv_istore_n (lv' := [(3, .int (coS S (nI k) p1 (s_sd S).toNatClampNeg)), (5, .int (coS S (nI k) p1 (s_sd S).toNatClampNeg)), (0, .ref (q 0)), (1, .int (p1)), (2, .int ((hoS S p1 k).1)), (4, .int (nI k))]) hx hb dX8_holderOf_36 rfl hl (by decide) rfl (fun ls hl => ?_)
        refine lv_iload hx hb dX8_holderOf_37 (lv_at hl 5 rfl) ?_
        refine lv_istore_n (lv' := [(2, .int (nI k)), (3, .int (coS S (nI k) p1 (s_sd S).toNatClampNeg)), (5, .int (coS S (nI k) p1 (s_sd S).toNatClampNeg)), (0, .ref (q 0)), (1, .int (p1)), (4, .int (nI k))]) hx hb dX8_holderOf_39 rfl hl (by decide) rfl (fun ls hl => ?_)
        refine lv_iinc (v := (nI k) + 1) (lv' := [(4, .int ((nI k) + 1)), (2, .int (nI k)), (3, .int (coS S (nI k) p1 (s_sd S).toNatClampNeg)), (5, .int (coS S (nI k) p1 (s_sd S).toNatClampNeg)), (0, .ref (q 0)), (1, .int (p1))]) hx hb dX8_holderOf_40 hl (k := 5) rfl rfl (by decide) rfl (fun ls hl => ?_)
        refine lv_goto (tgt := 7) hx hb dX8_holderOf_43 (by decide) ?_
        exact ih7 (lp_lt h0 hkk c_13) _ _ _ (GW.cast (rfl) G) (lv_cast (lv_sub (l' := [(0, .ref (q 0)), (1, .int (p1)), (2, .int (nI k)), (3, .int (coS S (nI k) p1 (s_sd S).toNatClampNeg)), (4, .int ((nI k) + 1))]) hl [4, 5, 1, 2, 0] rfl) (by simp [nI_1, hoS, c_13, c_13n, c_31, c_31n]))
  exact L7 0 (Nat.zero_le _) _ _ _ (GW.cast (rfl) G) (lv_cast (lv_sub (l' := [(0, .ref (q 0)), (1, .int (p1)), (2, .int ((-1))), (3, .int (0)), (4, .int (0))]) hl [3, 4, 2, 1, 0] rfl) (by rw [nI_0]; rfl))
set_option maxHeartbeats 4000000 in
set_option maxRecDepth 100000 in
theorem c_X8_holder (l : Launch) (Z : ZT) (q : Nat → Nat) (S : St) (X : XC) (p1 : Int32) (hI : Inv S) : CT l Z yX8_holder cX8_holder 3 (some .int) 3 [.ref (q 0), .int (p1)] (CW Z q S X) (some (.int ((sp_holder S p1).1))) (CW Z q ((sp_holder S p1).2) (X)) := by
  refine CE.mk rfl (Nat.le_of_ble_eq_true rfl) (fun p e s m args below meth c A Qx ls E hr hlk hnm hQ G hl => ?_)
  have hx := E.1.1
  have hb := E.1.2.1
  have hl : lv_has ls 3 [(0, .ref (q 0)), (1, .int (p1))] := hl
  refine lv_aload_n hx hb dX8_holder_0 rfl (lv_at hl 0 rfl) ?_
  refine gC_0_1 E G m_189 dX8_holder_1 ?_
  refine lv_iload_n hx hb dX8_holder_4 rfl (lv_at hl 1 rfl) ?_
  refine r_V [] E G (c_X5_has l Z q S X p1) kX5_has m_245 2 rfl rfl ⟨Nat.le_of_ble_eq_true rfl, Nat.le_of_ble_eq_true rfl⟩ hl dX8_holder_5 rfl rfl (Nat.le_of_ble_eq_true rfl) ⟨Nat.zero_le _, Nat.zero_le _⟩ (fun H locs G => ?_)
  refine r_neb (tgt := 18) hx hb dX8_holder_8 (by decide) (fun c_8 => ?_) (fun c_8 => ?_)
  · skip
    refine lv_aload_n hx hb dX8_holder_18 rfl (lv_at hl 0 rfl) ?_
    refine lv_iload_n hx hb dX8_holder_19 rfl (lv_at hl 1 rfl) ?_
    refine r_V [] E G (c_X8_holderOf l Z q S X p1 hI) kX8_holderOf m_519 0 rfl rfl ⟨Nat.le_of_ble_eq_true rfl, Nat.le_of_ble_eq_true rfl⟩ hl dX8_holder_20 rfl rfl (Nat.le_of_ble_eq_true rfl) ⟨Nat.zero_le _, Nat.zero_le _⟩ (fun H locs G => ?_)
    refine lv_istore_n (lv' := [(2, .int (hol S p1)), (0, .ref (q 0)), (1, .int (p1))]) hx hb dX8_holder_23 rfl hl (by decide) rfl (fun ls hl => ?_)
    refine lv_iload_n hx hb dX8_holder_24 rfl (lv_at hl 0 rfl) ?_
    refine lv_iconst (v := -1) hx hb dX8_holder_25 (by decide) ?_
    refine lv_icmp_ne (tgt := 38) hx hb dX8_holder_26 (by decide) (fun c_26 => ?_) (fun c_26 => ?_)
    · skip
      refine lv_iload_n hx hb dX8_holder_38 rfl (lv_at hl 0 rfl) ?_
      have hs : (sp_holder S p1) = (hol S p1, S) := by first | rfl | (simp [sp_holder, c_8, c_26]; done) | (simp_all [sp_holder]; done)
      exact r_ret E G hr hlk hQ (by rw [hs]) (by rw [hs]) dX8_holder_39
    · skip
      refine lv_aload_n hx hb dX8_holder_29 rfl (lv_at hl 1 rfl) ?_
      refine lv_ldc hx hb E.1.2.2.2.1 (E.1.2.2.2.2 _ m_470) dX8_holder_30 ?_
      refine r_V [] E G (c_X8_finding l Z q S X (-1000002) (by decide)) kX8_finding m_227 0 rfl rfl ⟨Nat.le_of_ble_eq_true rfl, Nat.le_of_ble_eq_true rfl⟩ hl dX8_holder_32 rfl rfl (Nat.le_of_ble_eq_true rfl) ⟨Nat.zero_le _, Nat.zero_le _⟩ (fun H locs G => ?_)
      refine lv_goto (tgt := 39) hx hb dX8_holder_35 (by decide) ?_
      have hs : (sp_holder S p1) = ((fnd S (-1000002)).1, (fnd S (-1000002)).2) := by first | rfl | (simp [sp_holder, c_8, c_26]; done) | (simp_all [sp_holder]; done)
      exact r_ret E G hr hlk hQ (by rw [hs]) (by rw [hs]) dX8_holder_39
  · skip
    refine lv_aload_n hx hb dX8_holder_11 rfl (lv_at hl 0 rfl) ?_
    refine lv_ldc hx hb E.1.2.2.2.1 (E.1.2.2.2.2 _ m_226) dX8_holder_12 ?_
    refine r_V [] E G (c_X8_finding l Z q S X (-1000001) (by decide)) kX8_finding m_227 0 rfl rfl ⟨Nat.le_of_ble_eq_true rfl, Nat.le_of_ble_eq_true rfl⟩ hl dX8_holder_14 rfl rfl (Nat.le_of_ble_eq_true rfl) ⟨Nat.zero_le _, Nat.zero_le _⟩ (fun H locs G => ?_)
    have hs : (sp_holder S p1) = ((fnd S (-1000001)).1, (fnd S (-1000001)).2) := by first | rfl | (simp [sp_holder, c_8]; done) | (simp_all [sp_holder]; done)
    exact r_ret E G hr hlk hQ (by rw [hs]) (by rw [hs]) dX8_holder_17
set_option maxHeartbeats 4000000 in
set_option maxRecDepth 100000 in
theorem c_X8_shareOf (l : Launch) (Z : ZT) (q : Nat → Nat) (S : St) (X : XC) (p1 p2 p3 p4 p5 : Int32) (hI : Inv S) (h1 : isSt S p2 = true) (h2 : isHo p5 = true) : CT l Z yX8_shareOf cX8_shareOf 8 (some .int) 3 [.ref (q 0), .int (p1), .int (p2), .int (p3), .int (p4), .int (p5)] (CW Z q S X) (some (.int (geS S p1 p3 p2 p4 p5))) (CW Z q S X) := by
  refine CE.mk rfl (Nat.le_of_ble_eq_true rfl) (fun p e s m args below meth c A Qx ls E hr hlk hnm hQ G hl => ?_)
  have hx := E.1.1
  have hb := E.1.2.1
  have hl : lv_has ls 8 [(0, .ref (q 0)), (1, .int (p1)), (2, .int (p2)), (3, .int (p3)), (4, .int (p4)), (5, .int (p5))] := hl
  refine lv_aload_n hx hb dX8_shareOf_0 rfl (lv_at hl 0 rfl) ?_
  refine gC_0_1 E G m_189 dX8_shareOf_1 ?_
  refine lv_iload_n hx hb dX8_shareOf_4 rfl (lv_at hl 2 rfl) ?_
  refine lv_iload hx hb dX8_shareOf_5 (lv_at hl 5 rfl) ?_
  refine r_V [] E G (c_X5_worthAt l Z q S X p2 p5 hI h1 h2) kX5_worthAt m_372 2 rfl rfl ⟨Nat.le_of_ble_eq_true rfl, Nat.le_of_ble_eq_true rfl⟩ hl dX8_shareOf_7 rfl rfl (Nat.le_of_ble_eq_true rfl) ⟨Nat.zero_le _, Nat.zero_le _⟩ (fun H locs G => ?_)
  refine lv_istore (lv' := [(6, .int (wor S p2 p5)), (0, .ref (q 0)), (1, .int (p1)), (2, .int (p2)), (3, .int (p3)), (4, .int (p4)), (5, .int (p5))]) hx hb dX8_shareOf_10 hl (by decide) rfl (fun ls hl => ?_)
  refine lv_iload_n hx hb dX8_shareOf_12 rfl (lv_at hl 3 rfl) ?_
  refine lv_iload hx hb dX8_shareOf_13 (lv_at hl 5 rfl) ?_
  refine lv_icmp_eq (tgt := 21) hx hb dX8_shareOf_15 (by decide) (fun c_15 => ?_) (fun c_15 => ?_)
  · skip
    refine lv_aload_n hx hb dX8_shareOf_21 rfl (lv_at hl 1 rfl) ?_
    refine lv_iload_n hx hb dX8_shareOf_22 rfl (lv_at hl 3 rfl) ?_
    refine r_V [] E G (c_X8_holderOf l Z q S X p2 hI) kX8_holderOf m_519 0 rfl rfl ⟨Nat.le_of_ble_eq_true rfl, Nat.le_of_ble_eq_true rfl⟩ hl dX8_shareOf_23 rfl rfl (Nat.le_of_ble_eq_true rfl) ⟨Nat.zero_le _, Nat.zero_le _⟩ (fun H locs G => ?_)
    refine lv_istore (lv' := [(7, .int (hol S p2)), (6, .int (wor S p2 p5)), (0, .ref (q 0)), (1, .int (p1)), (2, .int (p2)), (3, .int (p3)), (4, .int (p4)), (5, .int (p5))]) hx hb dX8_shareOf_26 hl (by decide) rfl (fun ls hl => ?_)
    refine lv_iload hx hb dX8_shareOf_28 (lv_at hl 0 rfl) ?_
    refine lv_iload_n hx hb dX8_shareOf_30 rfl (lv_at hl 3 rfl) ?_
    refine lv_icmp_ne (tgt := 41) hx hb dX8_shareOf_31 (by decide) (fun c_31 => ?_) (fun c_31 => ?_)
    · skip
      refine lv_iload hx hb dX8_shareOf_41 (lv_at hl 0 rfl) ?_
      refine lv_iload_n hx hb dX8_shareOf_43 rfl (lv_at hl 5 rfl) ?_
      refine lv_icmp_ne (tgt := 54) hx hb dX8_shareOf_44 (by decide) (fun c_44 => ?_) (fun c_44 => ?_)
      · skip
        refine lv_iload hx hb dX8_shareOf_54 (lv_at hl 1 rfl) ?_
        refine lv_iconst (v := 2) hx hb dX8_shareOf_56 (by decide) ?_
        refine lv_idiv hx hb dX8_shareOf_57 (by decide) ?_
        have hs : (geS S p1 p3 p2 p4 p5) = (wor S p2 p5) / 2 := by first | rfl | (simp [geS, c_15, c_31, c_44]; done) | (simp_all [geS]; done)
        exact r_ret E G hr hlk hQ (congrArg (fun t => some (Value.int t)) hs) rfl dX8_shareOf_58
      · skip
        refine lv_iload hx hb dX8_shareOf_47 (lv_at hl 1 rfl) ?_
        refine lv_iconst (v := 3) hx hb dX8_shareOf_49 (by decide) ?_
        refine lv_idiv hx hb dX8_shareOf_50 (by decide) ?_
        refine lv_goto (tgt := 58) hx hb dX8_shareOf_51 (by decide) ?_
        have hs : (geS S p1 p3 p2 p4 p5) = (wor S p2 p5) / 3 := by first | rfl | (simp [geS, c_15, c_31, c_44]; done) | (simp_all [geS]; done)
        exact r_ret E G hr hlk hQ (congrArg (fun t => some (Value.int t)) hs) rfl dX8_shareOf_58
    · skip
      refine lv_iload hx hb dX8_shareOf_34 (lv_at hl 1 rfl) ?_
      refine lv_iconst (v := 2) hx hb dX8_shareOf_36 (by decide) ?_
      refine lv_imul hx hb dX8_shareOf_37 ?_
      refine lv_iconst (v := 3) hx hb dX8_shareOf_38 (by decide) ?_
      refine lv_idiv hx hb dX8_shareOf_39 (by decide) ?_
      have hs : (geS S p1 p3 p2 p4 p5) = ((wor S p2 p5) * 2) / 3 := by first | rfl | (simp [geS, c_15, c_31]; done) | (simp_all [geS]; done)
      exact r_ret E G hr hlk hQ (congrArg (fun t => some (Value.int t)) hs) rfl dX8_shareOf_40
  · skip
    refine lv_iload hx hb dX8_shareOf_18 (lv_at hl 0 rfl) ?_
    have hs : (geS S p1 p3 p2 p4 p5) = wor S p2 p5 := by first | rfl | (simp [geS, c_15]; done) | (simp_all [geS]; done)
    exact r_ret E G hr hlk hQ (congrArg (fun t => some (Value.int t)) hs) rfl dX8_shareOf_20
set_option maxHeartbeats 4000000 in
set_option maxRecDepth 100000 in
theorem c_X8_gets (l : Launch) (Z : ZT) (q : Nat → Nat) (S : St) (X : XC) (p1 p2 p3 p4 : Int32) (hI : Inv S) : CT l Z yX8_gets cX8_gets 9 (some .int) 5 [.ref (q 0), .int (p1), .int (p2), .int (p3), .int (p4)] (CW Z q S X) (some (.int ((sp_gets S p1 p2 p3 p4).1))) (CW Z q ((sp_gets S p1 p2 p3 p4).2) (X)) := by
  refine CE.mk rfl (Nat.le_of_ble_eq_true rfl) (fun p e s m args below meth c A Qx ls E hr hlk hnm hQ G hl => ?_)
  have hx := E.1.1
  have hb := E.1.2.1
  have hl : lv_has ls 9 [(0, .ref (q 0)), (1, .int (p1)), (2, .int (p2)), (3, .int (p3)), (4, .int (p4))] := hl
  refine lv_aload_n hx hb dX8_gets_0 rfl (lv_at hl 0 rfl) ?_
  refine lv_iload_n hx hb dX8_gets_1 rfl (lv_at hl 1 rfl) ?_
  rcases va_em S p1 with hv_2 | hv_2
  · skip
    refine r_V [] E G (c_X8_vanNumber_t l Z q S X p1 hI hv_2) kX8_vanNumber m_325 0 rfl rfl ⟨Nat.le_of_ble_eq_true rfl, Nat.le_of_ble_eq_true rfl⟩ hl dX8_gets_2 rfl rfl (Nat.le_of_ble_eq_true rfl) ⟨Nat.zero_le _, Nat.zero_le _⟩ (fun H locs G => ?_)
    refine lv_astore (lv' := [(5, .ref (q (24 + p1.toNatClampNeg))), (0, .ref (q 0)), (1, .int (p1)), (2, .int (p2)), (3, .int (p3)), (4, .int (p4))]) hx hb dX8_gets_5 hl (by decide) rfl (fun ls hl => ?_)
    refine lv_aload_n hx hb dX8_gets_7 rfl (lv_at hl 1 rfl) ?_
    refine lv_iload_n hx hb dX8_gets_8 rfl (lv_at hl 3 rfl) ?_
    rcases va_em S p2 with hv_9 | hv_9
    · skip
      refine r_V [] E G (c_X8_vanNumber_t l Z q S X p2 hI hv_9) kX8_vanNumber m_325 0 rfl rfl ⟨Nat.le_of_ble_eq_true rfl, Nat.le_of_ble_eq_true rfl⟩ hl dX8_gets_9 rfl rfl (Nat.le_of_ble_eq_true rfl) ⟨Nat.zero_le _, Nat.zero_le _⟩ (fun H locs G => ?_)
      refine lv_astore (lv' := [(6, .ref (q (24 + p2.toNatClampNeg))), (5, .ref (q (24 + p1.toNatClampNeg))), (0, .ref (q 0)), (1, .int (p1)), (2, .int (p2)), (3, .int (p3)), (4, .int (p4))]) hx hb dX8_gets_12 hl (by decide) rfl (fun ls hl => ?_)
      refine lv_aload hx hb dX8_gets_14 (lv_at hl 1 rfl) ?_
      refine lv_ifnull hx hb dX8_gets_16 ?_
      refine lv_aload hx hb dX8_gets_19 (lv_at hl 0 rfl) ?_
      refine lv_ifnull hx hb dX8_gets_21 ?_
      refine lv_iload_n hx hb dX8_gets_24 rfl (lv_at hl 3 rfl) ?_
      refine lv_iload_n hx hb dX8_gets_25 rfl (lv_at hl 4 rfl) ?_
      refine lv_icmp_eq (tgt := 45) hx hb dX8_gets_26 (by decide) (fun c_26 => ?_) (fun c_26 => ?_)
      · skip
        refine lv_aload_n hx hb dX8_gets_45 rfl (lv_at hl 2 rfl) ?_
        refine lv_ldc hx hb E.1.2.2.2.1 (E.1.2.2.2.2 _ m_226) dX8_gets_46 ?_
        refine r_V [] E G (c_X8_finding l Z q S X (-1000001) (by decide)) kX8_finding m_227 0 rfl rfl ⟨Nat.le_of_ble_eq_true rfl, Nat.le_of_ble_eq_true rfl⟩ hl dX8_gets_48 rfl rfl (Nat.le_of_ble_eq_true rfl) ⟨Nat.zero_le _, Nat.zero_le _⟩ (fun H locs G => ?_)
        have hs : (sp_gets S p1 p2 p3 p4) = ((fnd S (-1000001)).1, (fnd S (-1000001)).2) := by first | rfl | (simp [sp_gets, re10, hv_2, hv_9, c_26]; done) | (simp_all [sp_gets, re10]; done)
        exact r_ret E G hr hlk hQ (by rw [hs]) (by rw [hs]) dX8_gets_51
      · skip
        refine lv_aload_n hx hb dX8_gets_29 rfl (lv_at hl 2 rfl) ?_
        refine lv_iload_n hx hb dX8_gets_30 rfl (lv_at hl 5 rfl) ?_
        refine r_V [] E G (c_X8_isPair l Z q S X p3) kX8_isPair m_531 0 rfl rfl ⟨Nat.le_of_ble_eq_true rfl, Nat.le_of_ble_eq_true rfl⟩ hl dX8_gets_31 rfl rfl (Nat.le_of_ble_eq_true rfl) ⟨Nat.zero_le _, Nat.zero_le _⟩ (fun H locs G => ?_)
        refine r_eqb (tgt := 45) hx hb dX8_gets_34 (by decide) (fun c_34 => ?_) (fun c_34 => ?_)
        · skip
          refine lv_aload_n hx hb dX8_gets_45 rfl (lv_at hl 2 rfl) ?_
          refine lv_ldc hx hb E.1.2.2.2.1 (E.1.2.2.2.2 _ m_226) dX8_gets_46 ?_
          refine r_V [] E G (c_X8_finding l Z q S X (-1000001) (by decide)) kX8_finding m_227 0 rfl rfl ⟨Nat.le_of_ble_eq_true rfl, Nat.le_of_ble_eq_true rfl⟩ hl dX8_gets_48 rfl rfl (Nat.le_of_ble_eq_true rfl) ⟨Nat.zero_le _, Nat.zero_le _⟩ (fun H locs G => ?_)
          have hs : (sp_gets S p1 p2 p3 p4) = ((fnd S (-1000001)).1, (fnd S (-1000001)).2) := by first | rfl | (simp [sp_gets, re10, hv_2, hv_9, c_26, c_34]; done) | (simp_all [sp_gets, re10]; done)
          exact r_ret E G hr hlk hQ (by rw [hs]) (by rw [hs]) dX8_gets_51
        · skip
          refine lv_iload hx hb dX8_gets_37 (lv_at hl 6 rfl) ?_
          refine r_S [] E G (c_X8_isHour l Z q S X p4) kX8_isHour m_264 ⟨Nat.le_of_ble_eq_true rfl, Nat.le_of_ble_eq_true rfl⟩ hl dX8_gets_39 rfl rfl (Nat.le_of_ble_eq_true rfl) ⟨Nat.zero_le _, Nat.zero_le _⟩ (fun H locs G => ?_)
          refine r_neb (tgt := 52) hx hb dX8_gets_42 (by decide) (fun c_42 => ?_) (fun c_42 => ?_)
          · skip
            refine lv_iload_n hx hb dX8_gets_52 rfl (lv_at hl 5 rfl) ?_
            refine lv_bipush (v := 10) hx hb dX8_gets_53 (by decide) ?_
            refine lv_idiv hx hb dX8_gets_55 (by decide) ?_
            refine lv_istore (lv' := [(7, .int (p3 / 10)), (6, .ref (q (24 + p2.toNatClampNeg))), (5, .ref (q (24 + p1.toNatClampNeg))), (0, .ref (q 0)), (1, .int (p1)), (2, .int (p2)), (3, .int (p3)), (4, .int (p4))]) hx hb dX8_gets_56 hl (by decide) rfl (fun ls hl => ?_)
            refine lv_iload_n hx hb dX8_gets_58 rfl (lv_at hl 6 rfl) ?_
            refine lv_bipush (v := 10) hx hb dX8_gets_59 (by decide) ?_
            refine lv_irem hx hb dX8_gets_61 (by decide) ?_
            refine lv_istore (lv' := [(8, .int (p3 - p3 / 10 * 10)), (7, .int (p3 / 10)), (6, .ref (q (24 + p2.toNatClampNeg))), (5, .ref (q (24 + p1.toNatClampNeg))), (0, .ref (q 0)), (1, .int (p1)), (2, .int (p2)), (3, .int (p3)), (4, .int (p4))]) hx hb dX8_gets_62 hl (by decide) rfl (fun ls hl => ?_)
            refine lv_aload_n hx hb dX8_gets_64 rfl (lv_at hl 4 rfl) ?_
            refine lv_aload hx hb dX8_gets_65 (lv_at hl 3 rfl) ?_
            refine lv_iload hx hb dX8_gets_67 (lv_at hl 1 rfl) ?_
            refine lv_iload hx hb dX8_gets_69 (lv_at hl 8 rfl) ?_
            refine r_V [] E G (c_X8_mayStand l Z q S X (p3 / 10) p4 p1 hI (hv_2) ((pr_st c_34).1)) kX8_mayStand m_349 0 rfl rfl ⟨Nat.le_of_ble_eq_true rfl, Nat.le_of_ble_eq_true rfl⟩ hl dX8_gets_71 rfl rfl (Nat.le_of_ble_eq_true rfl) ⟨Nat.zero_le _, Nat.zero_le _⟩ (fun H locs G => ?_)
            refine r_eqb (tgt := 90) hx hb dX8_gets_74 (by decide) (fun c_74 => ?_) (fun c_74 => ?_)
            · skip
              refine lv_aload_n hx hb dX8_gets_90 rfl (lv_at hl 4 rfl) ?_
              refine lv_ldc hx hb E.1.2.2.2.1 (E.1.2.2.2.2 _ m_395) dX8_gets_91 ?_
              refine r_V [] E G (c_X8_finding l Z q S X (-1000003) (by decide)) kX8_finding m_227 0 rfl rfl ⟨Nat.le_of_ble_eq_true rfl, Nat.le_of_ble_eq_true rfl⟩ hl dX8_gets_93 rfl rfl (Nat.le_of_ble_eq_true rfl) ⟨Nat.zero_le _, Nat.zero_le _⟩ (fun H locs G => ?_)
              have hs : (sp_gets S p1 p2 p3 p4) = ((fnd S (-1000003)).1, (fnd S (-1000003)).2) := by first | rfl | (simp [sp_gets, re10, hv_2, hv_9, c_26, c_34, c_42, c_74]; done) | (simp_all [sp_gets, re10]; done)
              exact r_ret E G hr hlk hQ (by rw [hs]) (by rw [hs]) dX8_gets_96
            · skip
              refine lv_aload_n hx hb dX8_gets_77 rfl (lv_at hl 4 rfl) ?_
              refine lv_aload hx hb dX8_gets_78 (lv_at hl 2 rfl) ?_
              refine lv_iload hx hb dX8_gets_80 (lv_at hl 0 rfl) ?_
              refine lv_iload hx hb dX8_gets_82 (lv_at hl 8 rfl) ?_
              refine r_V [] E G (c_X8_mayStand l Z q S X (p3 - p3 / 10 * 10) p4 p2 hI (hv_9) ((pr_st c_34).2)) kX8_mayStand m_349 0 rfl rfl ⟨Nat.le_of_ble_eq_true rfl, Nat.le_of_ble_eq_true rfl⟩ hl dX8_gets_84 rfl rfl (Nat.le_of_ble_eq_true rfl) ⟨Nat.zero_le _, Nat.zero_le _⟩ (fun H locs G => ?_)
              refine r_neb (tgt := 97) hx hb dX8_gets_87 (by decide) (fun c_87 => ?_) (fun c_87 => ?_)
              · skip
                refine lv_aload_n hx hb dX8_gets_97 rfl (lv_at hl 4 rfl) ?_
                refine lv_iload_n hx hb dX8_gets_98 rfl (lv_at hl 5 rfl) ?_
                refine lv_iload hx hb dX8_gets_99 (lv_at hl 1 rfl) ?_
                refine lv_iload_n hx hb dX8_gets_101 rfl (lv_at hl 6 rfl) ?_
                refine lv_iload hx hb dX8_gets_102 (lv_at hl 0 rfl) ?_
                refine lv_iload hx hb dX8_gets_104 (lv_at hl 8 rfl) ?_
                refine r_V [] E G (c_X8_shareOf l Z q S X p1 (p3 / 10) p2 (p3 - p3 / 10 * 10) p4 hI ((pr_st c_34).1) c_42) kX8_shareOf m_535 0 rfl rfl ⟨Nat.le_of_ble_eq_true rfl, Nat.le_of_ble_eq_true rfl⟩ hl dX8_gets_106 rfl rfl (Nat.le_of_ble_eq_true rfl) ⟨Nat.zero_le _, Nat.zero_le _⟩ (fun H locs G => ?_)
                have hs : (sp_gets S p1 p2 p3 p4) = (geS S p1 p2 (p3 / 10) (p3 - p3 / 10 * 10) p4, S) := by first | rfl | (simp [sp_gets, re10, hv_2, hv_9, c_26, c_34, c_42, c_74, c_87]; done) | (simp_all [sp_gets, re10]; done)
                exact r_ret E G hr hlk hQ (by rw [hs]) (by rw [hs]) dX8_gets_109
              · skip
                refine lv_aload_n hx hb dX8_gets_90 rfl (lv_at hl 4 rfl) ?_
                refine lv_ldc hx hb E.1.2.2.2.1 (E.1.2.2.2.2 _ m_395) dX8_gets_91 ?_
                refine r_V [] E G (c_X8_finding l Z q S X (-1000003) (by decide)) kX8_finding m_227 0 rfl rfl ⟨Nat.le_of_ble_eq_true rfl, Nat.le_of_ble_eq_true rfl⟩ hl dX8_gets_93 rfl rfl (Nat.le_of_ble_eq_true rfl) ⟨Nat.zero_le _, Nat.zero_le _⟩ (fun H locs G => ?_)
                have hs : (sp_gets S p1 p2 p3 p4) = ((fnd S (-1000003)).1, (fnd S (-1000003)).2) := by first | rfl | (simp [sp_gets, re10, hv_2, hv_9, c_26, c_34, c_42, c_74, c_87]; done) | (simp_all [sp_gets, re10]; done)
                exact r_ret E G hr hlk hQ (by rw [hs]) (by rw [hs]) dX8_gets_96
          · skip
            refine lv_aload_n hx hb dX8_gets_45 rfl (lv_at hl 2 rfl) ?_
            refine lv_ldc hx hb E.1.2.2.2.1 (E.1.2.2.2.2 _ m_226) dX8_gets_46 ?_
            refine r_V [] E G (c_X8_finding l Z q S X (-1000001) (by decide)) kX8_finding m_227 0 rfl rfl ⟨Nat.le_of_ble_eq_true rfl, Nat.le_of_ble_eq_true rfl⟩ hl dX8_gets_48 rfl rfl (Nat.le_of_ble_eq_true rfl) ⟨Nat.zero_le _, Nat.zero_le _⟩ (fun H locs G => ?_)
            have hs : (sp_gets S p1 p2 p3 p4) = ((fnd S (-1000001)).1, (fnd S (-1000001)).2) := by first | rfl | (simp [sp_gets, re10, hv_2, hv_9, c_26, c_34, c_42]; done) | (simp_all [sp_gets, re10]; done)
            exact r_ret E G hr hlk hQ (by rw [hs]) (by rw [hs]) dX8_gets_51
    · skip
      refine r_V [] E G (c_X8_vanNumber_f l Z q S X p2 hI hv_9) kX8_vanNumber m_325 0 rfl rfl ⟨Nat.le_of_ble_eq_true rfl, Nat.le_of_ble_eq_true rfl⟩ hl dX8_gets_9 rfl rfl (Nat.le_of_ble_eq_true rfl) ⟨Nat.zero_le _, Nat.zero_le _⟩ (fun H locs G => ?_)
      refine lv_astoreN (lv' := [(6, .null), (5, .ref (q (24 + p1.toNatClampNeg))), (0, .ref (q 0)), (1, .int (p1)), (2, .int (p2)), (3, .int (p3)), (4, .int (p4))]) hx hb dX8_gets_12 hl (by decide) rfl (fun ls hl => ?_)
      refine lv_aload hx hb dX8_gets_14 (lv_at hl 1 rfl) ?_
      refine lv_ifnull hx hb dX8_gets_16 ?_
      refine lv_aloadN hx hb dX8_gets_19 (lv_at hl 0 rfl) ?_
      refine lv_ifnullN (tgt := 45) hx hb dX8_gets_21 (by decide) ?_
      refine lv_aload_n hx hb dX8_gets_45 rfl (lv_at hl 2 rfl) ?_
      refine lv_ldc hx hb E.1.2.2.2.1 (E.1.2.2.2.2 _ m_226) dX8_gets_46 ?_
      refine r_V [] E G (c_X8_finding l Z q S X (-1000001) (by decide)) kX8_finding m_227 0 rfl rfl ⟨Nat.le_of_ble_eq_true rfl, Nat.le_of_ble_eq_true rfl⟩ hl dX8_gets_48 rfl rfl (Nat.le_of_ble_eq_true rfl) ⟨Nat.zero_le _, Nat.zero_le _⟩ (fun H locs G => ?_)
      have hs : (sp_gets S p1 p2 p3 p4) = ((fnd S (-1000001)).1, (fnd S (-1000001)).2) := by first | rfl | (simp [sp_gets, re10, hv_2, hv_9]; done) | (simp_all [sp_gets, re10]; done)
      exact r_ret E G hr hlk hQ (by rw [hs]) (by rw [hs]) dX8_gets_51
  · skip
    refine r_V [] E G (c_X8_vanNumber_f l Z q S X p1 hI hv_2) kX8_vanNumber m_325 0 rfl rfl ⟨Nat.le_of_ble_eq_true rfl, Nat.le_of_ble_eq_true rfl⟩ hl dX8_gets_2 rfl rfl (Nat.le_of_ble_eq_true rfl) ⟨Nat.zero_le _, Nat.zero_le _⟩ (fun H locs G => ?_)
    refine lv_astoreN (lv' := [(5, .null), (0, .ref (q 0)), (1, .int (p1)), (2, .int (p2)), (3, .int (p3)), (4, .int (p4))]) hx hb dX8_gets_5 hl (by decide) rfl (fun ls hl => ?_)
    refine lv_aload_n hx hb dX8_gets_7 rfl (lv_at hl 1 rfl) ?_
    refine lv_iload_n hx hb dX8_gets_8 rfl (lv_at hl 3 rfl) ?_
    rcases va_em S p2 with hv_9 | hv_9
    · skip
      refine r_V [] E G (c_X8_vanNumber_t l Z q S X p2 hI hv_9) kX8_vanNumber m_325 0 rfl rfl ⟨Nat.le_of_ble_eq_true rfl, Nat.le_of_ble_eq_true rfl⟩ hl dX8_gets_9 rfl rfl (Nat.le_of_ble_eq_true rfl) ⟨Nat.zero_le _, Nat.zero_le _⟩ (fun H locs G => ?_)
      refine lv_astore (lv' := [(6, .ref (q (24 + p2.toNatClampNeg))), (5, .null), (0, .ref (q 0)), (1, .int (p1)), (2, .int (p2)), (3, .int (p3)), (4, .int (p4))]) hx hb dX8_gets_12 hl (by decide) rfl (fun ls hl => ?_)
      refine lv_aloadN hx hb dX8_gets_14 (lv_at hl 1 rfl) ?_
      refine lv_ifnullN (tgt := 45) hx hb dX8_gets_16 (by decide) ?_
      refine lv_aload_n hx hb dX8_gets_45 rfl (lv_at hl 2 rfl) ?_
      refine lv_ldc hx hb E.1.2.2.2.1 (E.1.2.2.2.2 _ m_226) dX8_gets_46 ?_
      refine r_V [] E G (c_X8_finding l Z q S X (-1000001) (by decide)) kX8_finding m_227 0 rfl rfl ⟨Nat.le_of_ble_eq_true rfl, Nat.le_of_ble_eq_true rfl⟩ hl dX8_gets_48 rfl rfl (Nat.le_of_ble_eq_true rfl) ⟨Nat.zero_le _, Nat.zero_le _⟩ (fun H locs G => ?_)
      have hs : (sp_gets S p1 p2 p3 p4) = ((fnd S (-1000001)).1, (fnd S (-1000001)).2) := by first | rfl | (simp [sp_gets, re10, hv_2, hv_9]; done) | (simp_all [sp_gets, re10]; done)
      exact r_ret E G hr hlk hQ (by rw [hs]) (by rw [hs]) dX8_gets_51
    · skip
      refine r_V [] E G (c_X8_vanNumber_f l Z q S X p2 hI hv_9) kX8_vanNumber m_325 0 rfl rfl ⟨Nat.le_of_ble_eq_true rfl, Nat.le_of_ble_eq_true rfl⟩ hl dX8_gets_9 rfl rfl (Nat.le_of_ble_eq_true rfl) ⟨Nat.zero_le _, Nat.zero_le _⟩ (fun H locs G => ?_)
      refine lv_astoreN (lv' := [(6, .null), (5, .null), (0, .ref (q 0)), (1, .int (p1)), (2, .int (p2)), (3, .int (p3)), (4, .int (p4))]) hx hb dX8_gets_12 hl (by decide) rfl (fun ls hl => ?_)
      refine lv_aloadN hx hb dX8_gets_14 (lv_at hl 1 rfl) ?_
      refine lv_ifnullN (tgt := 45) hx hb dX8_gets_16 (by decide) ?_
      refine lv_aload_n hx hb dX8_gets_45 rfl (lv_at hl 2 rfl) ?_
      refine lv_ldc hx hb E.1.2.2.2.1 (E.1.2.2.2.2 _ m_226) dX8_gets_46 ?_
      refine r_V [] E G (c_X8_finding l Z q S X (-1000001) (by decide)) kX8_finding m_227 0 rfl rfl ⟨Nat.le_of_ble_eq_true rfl, Nat.le_of_ble_eq_true rfl⟩ hl dX8_gets_48 rfl rfl (Nat.le_of_ble_eq_true rfl) ⟨Nat.zero_le _, Nat.zero_le _⟩ (fun H locs G => ?_)
      have hs : (sp_gets S p1 p2 p3 p4) = ((fnd S (-1000001)).1, (fnd S (-1000001)).2) := by first | rfl | (simp [sp_gets, re10, hv_2, hv_9]; done) | (simp_all [sp_gets, re10]; done)
      exact r_ret E G hr hlk hQ (by rw [hs]) (by rw [hs]) dX8_gets_51
set_option maxHeartbeats 4000000 in
set_option maxRecDepth 100000 in
theorem c_X8_credit (l : Launch) (Z : ZT) (q : Nat → Nat) (S : St) (X : XC) (p1 : Int32) (hI : Inv S) : CT l Z yX8_credit cX8_credit 3 (some .int) 3 [.ref (q 0), .int (p1)] (CW Z q S X) (some (.int ((sp_credit S p1).1))) (CW Z q ((sp_credit S p1).2) (X)) := by
  refine CE.mk rfl (Nat.le_of_ble_eq_true rfl) (fun p e s m args below meth c A Qx ls E hr hlk hnm hQ G hl => ?_)
  have hx := E.1.1
  have hb := E.1.2.1
  have hl : lv_has ls 3 [(0, .ref (q 0)), (1, .int (p1))] := hl
  refine lv_iload_n hx hb dX8_credit_0 rfl (lv_at hl 1 rfl) ?_
  refine lv_bipush (v := 60) hx hb dX8_credit_1 (by decide) ?_
  refine r_S [] E G (c_X8_isWithin l Z q S X p1 60) kX8_isWithin m_249 ⟨Nat.le_of_ble_eq_true rfl, Nat.le_of_ble_eq_true rfl⟩ hl dX8_credit_3 rfl rfl (Nat.le_of_ble_eq_true rfl) ⟨Nat.zero_le _, Nat.zero_le _⟩ (fun H locs G => ?_)
  refine r_neb (tgt := 16) hx hb dX8_credit_6 (by decide) (fun c_6 => ?_) (fun c_6 => ?_)
  · skip
    refine lv_aload_n hx hb dX8_credit_16 rfl (lv_at hl 0 rfl) ?_
    refine gC_0_8 E G m_196 dX8_credit_17 ?_
    refine gC_8_4 E G m_176 dX8_credit_20 ?_
    refine lv_istore_n (lv' := [(2, .int (s_cr S)), (0, .ref (q 0)), (1, .int (p1))]) hx hb dX8_credit_23 rfl hl (by decide) rfl (fun ls hl => ?_)
    refine lv_aload_n hx hb dX8_credit_24 rfl (lv_at hl 1 rfl) ?_
    refine gC_0_8 E G m_196 dX8_credit_25 ?_
    refine lv_iload_n hx hb dX8_credit_28 rfl (lv_at hl 2 rfl) ?_
    refine pC_8_4 E G m_176 dX8_credit_29 (fun H locs G => ?_)
    refine lv_iload_n hx hb dX8_credit_32 rfl (lv_at hl 0 rfl) ?_
    have hs : (sp_credit S p1) = (s_cr S, u_cr S p1) := by first | rfl | (simp [sp_credit, c_6]; done) | (simp_all [sp_credit]; done)
    exact r_ret E G hr hlk hQ (by rw [hs]) (by rw [hs]) dX8_credit_33
  · skip
    refine lv_aload_n hx hb dX8_credit_9 rfl (lv_at hl 0 rfl) ?_
    refine lv_ldc hx hb E.1.2.2.2.1 (E.1.2.2.2.2 _ m_226) dX8_credit_10 ?_
    refine r_V [] E G (c_X8_finding l Z q S X (-1000001) (by decide)) kX8_finding m_227 0 rfl rfl ⟨Nat.le_of_ble_eq_true rfl, Nat.le_of_ble_eq_true rfl⟩ hl dX8_credit_12 rfl rfl (Nat.le_of_ble_eq_true rfl) ⟨Nat.zero_le _, Nat.zero_le _⟩ (fun H locs G => ?_)
    have hs : (sp_credit S p1) = ((fnd S (-1000001)).1, (fnd S (-1000001)).2) := by first | rfl | (simp [sp_credit, c_6]; done) | (simp_all [sp_credit]; done)
    exact r_ret E G hr hlk hQ (by rw [hs]) (by rw [hs]) dX8_credit_15
set_option maxHeartbeats 4000000 in
set_option maxRecDepth 100000 in
theorem c_X8_bill (l : Launch) (Z : ZT) (q : Nat → Nat) (S : St) (X : XC) (p1 p2 : Int32) (hI : Inv S) : CT l Z yX8_bill cX8_bill 3 (some .int) 3 [.ref (q 0), .int (p1), .int (p2)] (CW Z q S X) (some (.int ((sp_bill S p1 p2).1))) (CW Z q ((sp_bill S p1 p2).2) (X)) := by
  refine CE.mk rfl (Nat.le_of_ble_eq_true rfl) (fun p e s m args below meth c A Qx ls E hr hlk hnm hQ G hl => ?_)
  have hx := E.1.1
  have hb := E.1.2.1
  have hl : lv_has ls 3 [(0, .ref (q 0)), (1, .int (p1)), (2, .int (p2))] := hl
  refine lv_iload_n hx hb dX8_bill_0 rfl (lv_at hl 1 rfl) ?_
  refine lv_iconst (v := 1) hx hb dX8_bill_1 (by decide) ?_
  refine lv_icmp_lt (tgt := 22) hx hb dX8_bill_2 (by decide) (fun c_2 => ?_) (fun c_2 => ?_)
  · skip
    have c_2n := Int32.not_le.mpr c_2
    refine lv_aload_n hx hb dX8_bill_22 rfl (lv_at hl 0 rfl) ?_
    refine lv_ldc hx hb E.1.2.2.2.1 (E.1.2.2.2.2 _ m_226) dX8_bill_23 ?_
    refine r_V [] E G (c_X8_finding l Z q S X (-1000001) (by decide)) kX8_finding m_227 0 rfl rfl ⟨Nat.le_of_ble_eq_true rfl, Nat.le_of_ble_eq_true rfl⟩ hl dX8_bill_25 rfl rfl (Nat.le_of_ble_eq_true rfl) ⟨Nat.zero_le _, Nat.zero_le _⟩ (fun H locs G => ?_)
    have hs : (sp_bill S p1 p2) = ((fnd S (-1000001)).1, (fnd S (-1000001)).2) := by first | rfl | (simp [sp_bill, show inr p1 1 10000 = (decide (1 ≤ p1) && decide (p1 ≤ 10000)) from rfl, c_2, c_2n]; done)
    exact r_ret E G hr hlk hQ (by rw [hs]) (by rw [hs]) dX8_bill_28
  · skip
    have c_2n := Int32.not_lt.mp c_2
    refine lv_iload_n hx hb dX8_bill_5 rfl (lv_at hl 1 rfl) ?_
    refine lv_sipush (v := 10000) hx hb dX8_bill_6 (by decide) ?_
    refine lv_icmp_gt (tgt := 22) hx hb dX8_bill_9 (by decide) (fun c_9 => ?_) (fun c_9 => ?_)
    · skip
      have c_9n := Int32.not_le.mpr c_9
      refine lv_aload_n hx hb dX8_bill_22 rfl (lv_at hl 0 rfl) ?_
      refine lv_ldc hx hb E.1.2.2.2.1 (E.1.2.2.2.2 _ m_226) dX8_bill_23 ?_
      refine r_V [] E G (c_X8_finding l Z q S X (-1000001) (by decide)) kX8_finding m_227 0 rfl rfl ⟨Nat.le_of_ble_eq_true rfl, Nat.le_of_ble_eq_true rfl⟩ hl dX8_bill_25 rfl rfl (Nat.le_of_ble_eq_true rfl) ⟨Nat.zero_le _, Nat.zero_le _⟩ (fun H locs G => ?_)
      have hs : (sp_bill S p1 p2) = ((fnd S (-1000001)).1, (fnd S (-1000001)).2) := by first | rfl | (simp [sp_bill, show inr p1 1 10000 = (decide (1 ≤ p1) && decide (p1 ≤ 10000)) from rfl, c_2, c_2n, c_9, c_9n]; done)
      exact r_ret E G hr hlk hQ (by rw [hs]) (by rw [hs]) dX8_bill_28
    · skip
      have c_9n := Int32.not_lt.mp c_9
      refine lv_iload_n hx hb dX8_bill_12 rfl (lv_at hl 2 rfl) ?_
      refine lv_sipush (v := 1000) hx hb dX8_bill_13 (by decide) ?_
      refine r_S [] E G (c_X8_isWithin l Z q S X p2 1000) kX8_isWithin m_249 ⟨Nat.le_of_ble_eq_true rfl, Nat.le_of_ble_eq_true rfl⟩ hl dX8_bill_16 rfl rfl (Nat.le_of_ble_eq_true rfl) ⟨Nat.zero_le _, Nat.zero_le _⟩ (fun H locs G => ?_)
      refine r_neb (tgt := 29) hx hb dX8_bill_19 (by decide) (fun c_19 => ?_) (fun c_19 => ?_)
      · skip
        refine lv_aload_n hx hb dX8_bill_29 rfl (lv_at hl 0 rfl) ?_
        refine gC_0_8 E G m_196 dX8_bill_30 ?_
        refine r_V [] E G (c_X1_isFull l Z q S X hI) kX1_isFull m_567 8 rfl rfl ⟨Nat.le_of_ble_eq_true rfl, Nat.le_of_ble_eq_true rfl⟩ hl dX8_bill_33 rfl rfl (Nat.le_of_ble_eq_true rfl) ⟨Nat.zero_le _, Nat.zero_le _⟩ (fun H locs G => ?_)
        refine r_eqb (tgt := 46) hx hb dX8_bill_36 (by decide) (fun c_36 => ?_) (fun c_36 => ?_)
        · skip
          have c_36d := of_decide_eq_false c_36
          refine lv_aload_n hx hb dX8_bill_46 rfl (lv_at hl 0 rfl) ?_
          refine gC_0_8 E G m_196 dX8_bill_47 ?_
          refine lv_iload_n hx hb dX8_bill_50 rfl (lv_at hl 1 rfl) ?_
          refine lv_iload_n hx hb dX8_bill_51 rfl (lv_at hl 2 rfl) ?_
          refine r_V [] E G (c_X1_add l Z q S X p1 p2 hI (ne_lim hI.bi.2 (of_decide_eq_false c_36))) kX1_add m_571 8 rfl rfl ⟨Nat.le_of_ble_eq_true rfl, Nat.le_of_ble_eq_true rfl⟩ hl dX8_bill_52 rfl rfl (Nat.le_of_ble_eq_true rfl) ⟨Nat.zero_le _, Nat.zero_le _⟩ (fun H locs G => ?_)
          have hs : (sp_bill S p1 p2) = ((adB S p1 p2).1, (adB S p1 p2).2) := by first | rfl | (simp [sp_bill, show inr p1 1 10000 = (decide (1 ≤ p1) && decide (p1 ≤ 10000)) from rfl, c_2, c_2n, c_9, c_9n, c_19, c_36, c_36d]; done)
          exact r_ret E G hr hlk hQ (by rw [hs]) (by rw [hs]) dX8_bill_55
        · skip
          have c_36d := of_decide_eq_true c_36
          refine lv_aload_n hx hb dX8_bill_39 rfl (lv_at hl 0 rfl) ?_
          refine lv_ldc hx hb E.1.2.2.2.1 (E.1.2.2.2.2 _ m_236) dX8_bill_40 ?_
          refine r_V [] E G (c_X8_finding l Z q S X (-1000004) (by decide)) kX8_finding m_227 0 rfl rfl ⟨Nat.le_of_ble_eq_true rfl, Nat.le_of_ble_eq_true rfl⟩ hl dX8_bill_42 rfl rfl (Nat.le_of_ble_eq_true rfl) ⟨Nat.zero_le _, Nat.zero_le _⟩ (fun H locs G => ?_)
          have hs : (sp_bill S p1 p2) = ((fnd S (-1000004)).1, (fnd S (-1000004)).2) := by first | rfl | (simp [sp_bill, show inr p1 1 10000 = (decide (1 ≤ p1) && decide (p1 ≤ 10000)) from rfl, c_2, c_2n, c_9, c_9n, c_19, c_36, c_36d]; done)
          exact r_ret E G hr hlk hQ (by rw [hs]) (by rw [hs]) dX8_bill_45
      · skip
        refine lv_aload_n hx hb dX8_bill_22 rfl (lv_at hl 0 rfl) ?_
        refine lv_ldc hx hb E.1.2.2.2.1 (E.1.2.2.2.2 _ m_226) dX8_bill_23 ?_
        refine r_V [] E G (c_X8_finding l Z q S X (-1000001) (by decide)) kX8_finding m_227 0 rfl rfl ⟨Nat.le_of_ble_eq_true rfl, Nat.le_of_ble_eq_true rfl⟩ hl dX8_bill_25 rfl rfl (Nat.le_of_ble_eq_true rfl) ⟨Nat.zero_le _, Nat.zero_le _⟩ (fun H locs G => ?_)
        have hs : (sp_bill S p1 p2) = ((fnd S (-1000001)).1, (fnd S (-1000001)).2) := by first | rfl | (simp [sp_bill, show inr p1 1 10000 = (decide (1 ≤ p1) && decide (p1 ≤ 10000)) from rfl, c_2, c_2n, c_9, c_9n, c_19]; done)
        exact r_ret E G hr hlk hQ (by rw [hs]) (by rw [hs]) dX8_bill_28
set_option maxHeartbeats 4000000 in
set_option maxRecDepth 100000 in
theorem c_X8_pay (l : Launch) (Z : ZT) (q : Nat → Nat) (S : St) (X : XC) (p1 p2 : Int32) (hI : Inv S) : CT l Z yX8_pay cX8_pay 3 (some .int) 3 [.ref (q 0), .int (p1), .int (p2)] (CW Z q S X) (some (.int ((sp_pay S p1 p2).1))) (CW Z q ((sp_pay S p1 p2).2) (X)) := by
  refine CE.mk rfl (Nat.le_of_ble_eq_true rfl) (fun p e s m args below meth c A Qx ls E hr hlk hnm hQ G hl => ?_)
  have hx := E.1.1
  have hb := E.1.2.1
  have hl : lv_has ls 3 [(0, .ref (q 0)), (1, .int (p1)), (2, .int (p2))] := hl
  refine lv_aload_n hx hb dX8_pay_0 rfl (lv_at hl 0 rfl) ?_
  refine gC_0_8 E G m_196 dX8_pay_1 ?_
  refine lv_iload_n hx hb dX8_pay_4 rfl (lv_at hl 1 rfl) ?_
  refine r_V [] E G (c_X1_has l Z q S X p1) kX1_has m_579 8 rfl rfl ⟨Nat.le_of_ble_eq_true rfl, Nat.le_of_ble_eq_true rfl⟩ hl dX8_pay_5 rfl rfl (Nat.le_of_ble_eq_true rfl) ⟨Nat.zero_le _, Nat.zero_le _⟩ (fun H locs G => ?_)
  refine r_eqb (tgt := 16) hx hb dX8_pay_8 (by decide) (fun c_8 => ?_) (fun c_8 => ?_)
  · skip
    refine lv_aload_n hx hb dX8_pay_16 rfl (lv_at hl 0 rfl) ?_
    refine lv_ldc hx hb E.1.2.2.2.1 (E.1.2.2.2.2 _ m_226) dX8_pay_17 ?_
    refine r_V [] E G (c_X8_finding l Z q S X (-1000001) (by decide)) kX8_finding m_227 0 rfl rfl ⟨Nat.le_of_ble_eq_true rfl, Nat.le_of_ble_eq_true rfl⟩ hl dX8_pay_19 rfl rfl (Nat.le_of_ble_eq_true rfl) ⟨Nat.zero_le _, Nat.zero_le _⟩ (fun H locs G => ?_)
    have hs : (sp_pay S p1 p2) = ((fnd S (-1000001)).1, (fnd S (-1000001)).2) := by first | rfl | (simp [sp_pay, ar_au, c_8]; done) | (simp_all [sp_pay, ar_au]; done)
    exact r_ret E G hr hlk hQ (by rw [hs]) (by rw [hs]) dX8_pay_22
  · skip
    refine lv_iload_n hx hb dX8_pay_11 rfl (lv_at hl 2 rfl) ?_
    refine lv_iconst (v := 1) hx hb dX8_pay_12 (by decide) ?_
    refine lv_icmp_ge (tgt := 23) hx hb dX8_pay_13 (by decide) (fun c_13 => ?_) (fun c_13 => ?_)
    · skip
      have c_13n := Int32.not_lt.mpr c_13
      refine lv_aload_n hx hb dX8_pay_23 rfl (lv_at hl 0 rfl) ?_
      refine gC_0_8 E G m_196 dX8_pay_24 ?_
      refine gC_8_0 E G m_170 dX8_pay_27 ?_
      refine lv_iload_n hx hb dX8_pay_30 rfl (lv_at hl 1 rfl) ?_
      refine aC_21 E G (ix_bi hI c_8) dX8_pay_31 ?_
      refine lv_iload_n hx hb dX8_pay_32 rfl (lv_at hl 2 rfl) ?_
      refine lv_icmp_ge (tgt := 43) hx hb dX8_pay_33 (by decide) (fun c_33 => ?_) (fun c_33 => ?_)
      · skip
        have c_33n := Int32.not_lt.mpr c_33
        refine lv_aload_n hx hb dX8_pay_43 rfl (lv_at hl 0 rfl) ?_
        refine gC_0_8 E G m_196 dX8_pay_44 ?_
        refine gC_8_0 E G m_170 dX8_pay_47 ?_
        refine lv_iload_n hx hb dX8_pay_50 rfl (lv_at hl 1 rfl) ?_
        refine lv_dup2_11 hx hb dX8_pay_51 rfl rfl ?_
        refine aC_21 E G (ix_bi hI c_8) dX8_pay_52 ?_
        refine lv_iload_n hx hb dX8_pay_53 rfl (lv_at hl 2 rfl) ?_
        refine lv_isub hx hb dX8_pay_54 ?_
        refine tC_21 E G (ix_bi hI c_8) dX8_pay_55 (fun H locs G => ?_)
        refine lv_aload_n hx hb dX8_pay_56 rfl (lv_at hl 0 rfl) ?_
        refine gC_0_8 E G m_196 dX8_pay_57 ?_
        refine gC_8_0 E G m_170 dX8_pay_60 ?_
        refine lv_iload_n hx hb dX8_pay_63 rfl (lv_at hl 1 rfl) ?_
        refine aC_21 E G (ix_bi hI c_8) dX8_pay_64 ?_
        refine lv_topc (congrArg (fun f => ar f p1) (es_s_le _ _)) ?_
        have hs : (sp_pay S p1 p2) = (ar (au (s_le S) p1 ((ar (s_le S) p1) - p2)) p1, u_le S (au (s_le S) p1 ((ar (s_le S) p1) - p2))) := by first | rfl | (simp [sp_pay, ar_au, c_8, c_13, c_13n, c_33, c_33n]; done) | (simp_all [sp_pay, ar_au]; done)
        exact r_ret E G hr hlk hQ (by rw [hs]) (by rw [hs]) dX8_pay_65
      · skip
        have c_33n := Int32.not_le.mp c_33
        refine lv_aload_n hx hb dX8_pay_36 rfl (lv_at hl 0 rfl) ?_
        refine lv_ldc hx hb E.1.2.2.2.1 (E.1.2.2.2.2 _ m_395) dX8_pay_37 ?_
        refine r_V [] E G (c_X8_finding l Z q S X (-1000003) (by decide)) kX8_finding m_227 0 rfl rfl ⟨Nat.le_of_ble_eq_true rfl, Nat.le_of_ble_eq_true rfl⟩ hl dX8_pay_39 rfl rfl (Nat.le_of_ble_eq_true rfl) ⟨Nat.zero_le _, Nat.zero_le _⟩ (fun H locs G => ?_)
        have hs : (sp_pay S p1 p2) = ((fnd S (-1000003)).1, (fnd S (-1000003)).2) := by first | rfl | (simp [sp_pay, ar_au, c_8, c_13, c_13n, c_33, c_33n]; done) | (simp_all [sp_pay, ar_au]; done)
        exact r_ret E G hr hlk hQ (by rw [hs]) (by rw [hs]) dX8_pay_42
    · skip
      have c_13n := Int32.not_le.mp c_13
      refine lv_aload_n hx hb dX8_pay_16 rfl (lv_at hl 0 rfl) ?_
      refine lv_ldc hx hb E.1.2.2.2.1 (E.1.2.2.2.2 _ m_226) dX8_pay_17 ?_
      refine r_V [] E G (c_X8_finding l Z q S X (-1000001) (by decide)) kX8_finding m_227 0 rfl rfl ⟨Nat.le_of_ble_eq_true rfl, Nat.le_of_ble_eq_true rfl⟩ hl dX8_pay_19 rfl rfl (Nat.le_of_ble_eq_true rfl) ⟨Nat.zero_le _, Nat.zero_le _⟩ (fun H locs G => ?_)
      have hs : (sp_pay S p1 p2) = ((fnd S (-1000001)).1, (fnd S (-1000001)).2) := by first | rfl | (simp [sp_pay, ar_au, c_8, c_13, c_13n]; done) | (simp_all [sp_pay, ar_au]; done)
      exact r_ret E G hr hlk hQ (by rw [hs]) (by rw [hs]) dX8_pay_22
set_option maxHeartbeats 4000000 in
set_option maxRecDepth 100000 in
theorem c_X8_owed (l : Launch) (Z : ZT) (q : Nat → Nat) (S : St) (X : XC) (p1 p2 : Int32) (hI : Inv S) : CT l Z yX8_owed cX8_owed 3 (some .int) 4 [.ref (q 0), .int (p1), .int (p2)] (CW Z q S X) (some (.int ((sp_owed S p1 p2).1))) (CW Z q ((sp_owed S p1 p2).2) (X)) := by
  refine CE.mk rfl (Nat.le_of_ble_eq_true rfl) (fun p e s m args below meth c A Qx ls E hr hlk hnm hQ G hl => ?_)
  have hx := E.1.1
  have hb := E.1.2.1
  have hl : lv_has ls 3 [(0, .ref (q 0)), (1, .int (p1)), (2, .int (p2))] := hl
  refine lv_iload_n hx hb dX8_owed_0 rfl (lv_at hl 1 rfl) ?_
  refine lv_iconst (v := -1) hx hb dX8_owed_1 (by decide) ?_
  refine lv_icmp_eq (tgt := 16) hx hb dX8_owed_2 (by decide) (fun c_2 => ?_) (fun c_2 => ?_)
  · skip
    refine lv_iload_n hx hb dX8_owed_16 rfl (lv_at hl 2 rfl) ?_
    refine lv_sipush (v := 2000) hx hb dX8_owed_17 (by decide) ?_
    refine r_S [] E G (c_X8_isWithin l Z q S X p2 2000) kX8_isWithin m_249 ⟨Nat.le_of_ble_eq_true rfl, Nat.le_of_ble_eq_true rfl⟩ hl dX8_owed_20 rfl rfl (Nat.le_of_ble_eq_true rfl) ⟨Nat.zero_le _, Nat.zero_le _⟩ (fun H locs G => ?_)
    refine r_neb (tgt := 33) hx hb dX8_owed_23 (by decide) (fun c_23 => ?_) (fun c_23 => ?_)
    · skip
      refine lv_iload_n hx hb dX8_owed_33 rfl (lv_at hl 1 rfl) ?_
      refine lv_iconst (v := -1) hx hb dX8_owed_34 (by decide) ?_
      refine lv_icmp_ne (tgt := 49) hx hb dX8_owed_35 (by decide) (fun c_35 => ?_) (fun c_35 => ?_)
      · skip
        refine lv_aload_n hx hb dX8_owed_49 rfl (lv_at hl 0 rfl) ?_
        refine gC_0_8 E G m_196 dX8_owed_50 ?_
        refine lv_iload_n hx hb dX8_owed_53 rfl (lv_at hl 1 rfl) ?_
        refine lv_iload_n hx hb dX8_owed_54 rfl (lv_at hl 2 rfl) ?_
        refine r_V [] E G (c_X1_owedOf l Z q S X p1 p2 hI (by simp_all)) kX1_owedOf m_598 8 rfl rfl ⟨Nat.le_of_ble_eq_true rfl, Nat.le_of_ble_eq_true rfl⟩ hl dX8_owed_55 rfl rfl (Nat.le_of_ble_eq_true rfl) ⟨Nat.zero_le _, Nat.zero_le _⟩ (fun H locs G => ?_)
        have hs : (sp_owed S p1 p2) = (owS S p1 p2, S) := by first | rfl | (simp [sp_owed, c_2, c_23, c_35]; done) | (simp_all [sp_owed]; done)
        exact r_ret E G hr hlk hQ (by rw [hs]) (by rw [hs]) dX8_owed_58
      · skip
        refine lv_aload_n hx hb dX8_owed_38 rfl (lv_at hl 0 rfl) ?_
        refine gC_0_8 E G m_196 dX8_owed_39 ?_
        refine lv_iload_n hx hb dX8_owed_42 rfl (lv_at hl 2 rfl) ?_
        refine r_V [] E G (c_X1_owedOfAll l Z q S X p2 hI) kX1_owedOfAll m_587 8 rfl rfl ⟨Nat.le_of_ble_eq_true rfl, Nat.le_of_ble_eq_true rfl⟩ hl dX8_owed_43 rfl rfl (Nat.le_of_ble_eq_true rfl) ⟨Nat.zero_le _, Nat.zero_le _⟩ (fun H locs G => ?_)
        refine lv_goto (tgt := 58) hx hb dX8_owed_46 (by decide) ?_
        have hs : (sp_owed S p1 p2) = (owA S p2 (s_bi S).toNatClampNeg, S) := by first | rfl | (simp [sp_owed, c_2, c_23, c_35]; done) | (simp_all [sp_owed]; done)
        exact r_ret E G hr hlk hQ (by rw [hs]) (by rw [hs]) dX8_owed_58
    · skip
      refine lv_aload_n hx hb dX8_owed_26 rfl (lv_at hl 0 rfl) ?_
      refine lv_ldc hx hb E.1.2.2.2.1 (E.1.2.2.2.2 _ m_226) dX8_owed_27 ?_
      refine r_V [] E G (c_X8_finding l Z q S X (-1000001) (by decide)) kX8_finding m_227 0 rfl rfl ⟨Nat.le_of_ble_eq_true rfl, Nat.le_of_ble_eq_true rfl⟩ hl dX8_owed_29 rfl rfl (Nat.le_of_ble_eq_true rfl) ⟨Nat.zero_le _, Nat.zero_le _⟩ (fun H locs G => ?_)
      have hs : (sp_owed S p1 p2) = ((fnd S (-1000001)).1, (fnd S (-1000001)).2) := by first | rfl | (simp [sp_owed, c_2, c_23]; done) | (simp_all [sp_owed]; done)
      exact r_ret E G hr hlk hQ (by rw [hs]) (by rw [hs]) dX8_owed_32
  · skip
    refine lv_aload_n hx hb dX8_owed_5 rfl (lv_at hl 0 rfl) ?_
    refine gC_0_8 E G m_196 dX8_owed_6 ?_
    refine lv_iload_n hx hb dX8_owed_9 rfl (lv_at hl 1 rfl) ?_
    refine r_V [] E G (c_X1_has l Z q S X p1) kX1_has m_579 8 rfl rfl ⟨Nat.le_of_ble_eq_true rfl, Nat.le_of_ble_eq_true rfl⟩ hl dX8_owed_10 rfl rfl (Nat.le_of_ble_eq_true rfl) ⟨Nat.zero_le _, Nat.zero_le _⟩ (fun H locs G => ?_)
    refine r_eqb (tgt := 26) hx hb dX8_owed_13 (by decide) (fun c_13 => ?_) (fun c_13 => ?_)
    · skip
      refine lv_aload_n hx hb dX8_owed_26 rfl (lv_at hl 0 rfl) ?_
      refine lv_ldc hx hb E.1.2.2.2.1 (E.1.2.2.2.2 _ m_226) dX8_owed_27 ?_
      refine r_V [] E G (c_X8_finding l Z q S X (-1000001) (by decide)) kX8_finding m_227 0 rfl rfl ⟨Nat.le_of_ble_eq_true rfl, Nat.le_of_ble_eq_true rfl⟩ hl dX8_owed_29 rfl rfl (Nat.le_of_ble_eq_true rfl) ⟨Nat.zero_le _, Nat.zero_le _⟩ (fun H locs G => ?_)
      have hs : (sp_owed S p1 p2) = ((fnd S (-1000001)).1, (fnd S (-1000001)).2) := by first | rfl | (simp [sp_owed, c_2, c_13]; done) | (simp_all [sp_owed]; done)
      exact r_ret E G hr hlk hQ (by rw [hs]) (by rw [hs]) dX8_owed_32
    · skip
      refine lv_iload_n hx hb dX8_owed_16 rfl (lv_at hl 2 rfl) ?_
      refine lv_sipush (v := 2000) hx hb dX8_owed_17 (by decide) ?_
      refine r_S [] E G (c_X8_isWithin l Z q S X p2 2000) kX8_isWithin m_249 ⟨Nat.le_of_ble_eq_true rfl, Nat.le_of_ble_eq_true rfl⟩ hl dX8_owed_20 rfl rfl (Nat.le_of_ble_eq_true rfl) ⟨Nat.zero_le _, Nat.zero_le _⟩ (fun H locs G => ?_)
      refine r_neb (tgt := 33) hx hb dX8_owed_23 (by decide) (fun c_23 => ?_) (fun c_23 => ?_)
      · skip
        refine lv_iload_n hx hb dX8_owed_33 rfl (lv_at hl 1 rfl) ?_
        refine lv_iconst (v := -1) hx hb dX8_owed_34 (by decide) ?_
        refine lv_icmp_ne (tgt := 49) hx hb dX8_owed_35 (by decide) (fun c_35 => ?_) (fun c_35 => ?_)
        · skip
          refine lv_aload_n hx hb dX8_owed_49 rfl (lv_at hl 0 rfl) ?_
          refine gC_0_8 E G m_196 dX8_owed_50 ?_
          refine lv_iload_n hx hb dX8_owed_53 rfl (lv_at hl 1 rfl) ?_
          refine lv_iload_n hx hb dX8_owed_54 rfl (lv_at hl 2 rfl) ?_
          refine r_V [] E G (c_X1_owedOf l Z q S X p1 p2 hI (by simp_all)) kX1_owedOf m_598 8 rfl rfl ⟨Nat.le_of_ble_eq_true rfl, Nat.le_of_ble_eq_true rfl⟩ hl dX8_owed_55 rfl rfl (Nat.le_of_ble_eq_true rfl) ⟨Nat.zero_le _, Nat.zero_le _⟩ (fun H locs G => ?_)
          have hs : (sp_owed S p1 p2) = (owS S p1 p2, S) := by first | rfl | (simp [sp_owed, c_2, c_13, c_23, c_35]; done) | (simp_all [sp_owed]; done)
          exact r_ret E G hr hlk hQ (by rw [hs]) (by rw [hs]) dX8_owed_58
        · skip
          refine lv_aload_n hx hb dX8_owed_38 rfl (lv_at hl 0 rfl) ?_
          refine gC_0_8 E G m_196 dX8_owed_39 ?_
          refine lv_iload_n hx hb dX8_owed_42 rfl (lv_at hl 2 rfl) ?_
          refine r_V [] E G (c_X1_owedOfAll l Z q S X p2 hI) kX1_owedOfAll m_587 8 rfl rfl ⟨Nat.le_of_ble_eq_true rfl, Nat.le_of_ble_eq_true rfl⟩ hl dX8_owed_43 rfl rfl (Nat.le_of_ble_eq_true rfl) ⟨Nat.zero_le _, Nat.zero_le _⟩ (fun H locs G => ?_)
          refine lv_goto (tgt := 58) hx hb dX8_owed_46 (by decide) ?_
          have hs : (sp_owed S p1 p2) = (owA S p2 (s_bi S).toNatClampNeg, S) := by first | rfl | (simp [sp_owed, c_2, c_13, c_23, c_35]; done) | (simp_all [sp_owed]; done)
          exact r_ret E G hr hlk hQ (by rw [hs]) (by rw [hs]) dX8_owed_58
      · skip
        refine lv_aload_n hx hb dX8_owed_26 rfl (lv_at hl 0 rfl) ?_
        refine lv_ldc hx hb E.1.2.2.2.1 (E.1.2.2.2.2 _ m_226) dX8_owed_27 ?_
        refine r_V [] E G (c_X8_finding l Z q S X (-1000001) (by decide)) kX8_finding m_227 0 rfl rfl ⟨Nat.le_of_ble_eq_true rfl, Nat.le_of_ble_eq_true rfl⟩ hl dX8_owed_29 rfl rfl (Nat.le_of_ble_eq_true rfl) ⟨Nat.zero_le _, Nat.zero_le _⟩ (fun H locs G => ?_)
        have hs : (sp_owed S p1 p2) = ((fnd S (-1000001)).1, (fnd S (-1000001)).2) := by first | rfl | (simp [sp_owed, c_2, c_13, c_23]; done) | (simp_all [sp_owed]; done)
        exact r_ret E G hr hlk hQ (by rw [hs]) (by rw [hs]) dX8_owed_32
set_option maxHeartbeats 4000000 in
set_option maxRecDepth 100000 in
theorem c_X8_tell (l : Launch) (Z : ZT) (q : Nat → Nat) (S : St) (X : XC) (p1 : Int32) (hI : Inv S) : CT l Z yX8_tell cX8_tell 2 (some .int) 3 [.ref (q 0), .int (p1)] (CW Z q S X) (some (.int ((sp_tell S p1).1))) (CW Z q ((sp_tell S p1).2) (X)) := by
  refine CE.mk rfl (Nat.le_of_ble_eq_true rfl) (fun p e s m args below meth c A Qx ls E hr hlk hnm hQ G hl => ?_)
  have hx := E.1.1
  have hb := E.1.2.1
  have hl : lv_has ls 2 [(0, .ref (q 0)), (1, .int (p1))] := hl
  refine lv_aload_n hx hb dX8_tell_0 rfl (lv_at hl 0 rfl) ?_
  refine gC_0_10 E G m_198 dX8_tell_1 ?_
  refine lv_bipush (v := 12) hx hb dX8_tell_4 (by decide) ?_
  refine lv_icmp_lt (tgt := 16) hx hb dX8_tell_6 (by decide) (fun c_6 => ?_) (fun c_6 => ?_)
  · skip
    have c_6n := Int32.not_le.mpr c_6
    refine lv_aload_n hx hb dX8_tell_16 rfl (lv_at hl 0 rfl) ?_
    refine gC_0_9 E G m_197 dX8_tell_17 ?_
    refine lv_aload_n hx hb dX8_tell_20 rfl (lv_at hl 0 rfl) ?_
    refine gC_0_10 E G m_198 dX8_tell_21 ?_
    refine lv_iload_n hx hb dX8_tell_24 rfl (lv_at hl 1 rfl) ?_
    refine tC_9 E G (ix_lim hI.wa.1 c_6 (by decide)) dX8_tell_25 (fun H locs G => ?_)
    refine lv_aload_n hx hb dX8_tell_26 rfl (lv_at hl 0 rfl) ?_
    refine lv_dup hx hb dX8_tell_27 rfl ?_
    refine gC_0_10 E G m_198 dX8_tell_28 ?_
    refine lv_topc (e_s_wa_wt _ _) ?_
    refine lv_iconst (v := 1) hx hb dX8_tell_31 (by decide) ?_
    refine lv_iadd hx hb dX8_tell_32 ?_
    refine pC_0_10 E G m_198 dX8_tell_33 (fun H locs G => ?_)
    refine lv_aload_n hx hb dX8_tell_36 rfl (lv_at hl 0 rfl) ?_
    refine gC_0_10 E G m_198 dX8_tell_37 ?_
    refine lv_topc (es_s_wa _ _) ?_
    have hs : (sp_tell S p1) = ((s_wa S) + 1, u_wa (u_wt S (au (s_wt S) (s_wa S) p1)) ((s_wa S) + 1)) := by simp [sp_tell, show ¬ s_wa S = 12 from fun e => by rw [e] at c_6; exact absurd c_6 (by decide)]
    exact r_ret E G hr hlk hQ (by rw [hs]) (by rw [hs]) dX8_tell_40
  · skip
    have c_6n := Int32.not_lt.mp c_6
    refine lv_aload_n hx hb dX8_tell_9 rfl (lv_at hl 0 rfl) ?_
    refine lv_ldc hx hb E.1.2.2.2.1 (E.1.2.2.2.2 _ m_236) dX8_tell_10 ?_
    refine r_V [] E G (c_X8_finding l Z q S X (-1000004) (by decide)) kX8_finding m_227 0 rfl rfl ⟨Nat.le_of_ble_eq_true rfl, Nat.le_of_ble_eq_true rfl⟩ hl dX8_tell_12 rfl rfl (Nat.le_of_ble_eq_true rfl) ⟨Nat.zero_le _, Nat.zero_le _⟩ (fun H locs G => ?_)
    have hs : (sp_tell S p1) = ((fnd S (-1000004)).1, (fnd S (-1000004)).2) := by simp [sp_tell, (ge_lim hI.wa.2).mp c_6n]
    exact r_ret E G hr hlk hQ (by rw [hs]) (by rw [hs]) dX8_tell_15
set_option maxHeartbeats 4000000 in
set_option maxRecDepth 100000 in
theorem c_X8_stockOfAll (l : Launch) (Z : ZT) (q : Nat → Nat) (S : St) (X : XC) (hI : Inv S) : CT l Z yX8_stockOfAll cX8_stockOfAll 4 (some .int) 2 [.ref (q 0)] (CW Z q S X) (some (.int (soA S (s_va S).toNatClampNeg))) (CW Z q S X) := by
  refine CE.mk rfl (Nat.le_of_ble_eq_true rfl) (fun p e s m args below meth c A Qx ls E hr hlk hnm hQ G hl => ?_)
  have hx := E.1.1
  have hb := E.1.2.1
  have hl : lv_has ls 4 [(0, .ref (q 0))] := hl
  have h0 := hI.va.1
  have h4 := N4 hI
  refine lv_iconst (v := 0) hx hb dX8_stockOfAll_0 (by decide) ?_
  refine lv_istore_n (lv' := [(1, .int (0)), (0, .ref (q 0))]) hx hb dX8_stockOfAll_1 rfl hl (by decide) rfl (fun ls hl => ?_)
  refine lv_iconst (v := 0) hx hb dX8_stockOfAll_2 (by decide) ?_
  refine lv_istore_n (lv' := [(2, .int (0)), (1, .int (0)), (0, .ref (q 0))]) hx hb dX8_stockOfAll_3 rfl hl (by decide) rfl (fun ls hl => ?_)
  have L4 : ∀ k : Nat, k ≤ (s_va S).toNatClampNeg → (∀ (H : Heap) (locs : List Loc) (ls : Array Slot), GW Z (CW Z q S X) A s.heap H locs → lv_has ls 4 [(0, .ref (q 0)), (1, .int (soA S k)), (2, .int (nI k))] → W p l e (rmk 2 0 0) s m args below meth c H locs 0 0 Qx (F0 m 4 ls [])) := by
    refine up_in2 (P := fun k => (∀ (H : Heap) (locs : List Loc) (ls : Array Slot), GW Z (CW Z q S X) A s.heap H locs → lv_has ls 4 [(0, .ref (q 0)), (1, .int (soA S k)), (2, .int (nI k))] → W p l e (rmk 2 0 0) s m args below meth c H locs 0 0 Qx (F0 m 4 ls []))) ((s_va S).toNatClampNeg) ?_
    intro k hkk ih4 H locs ls G hl
    refine lv_iload_n hx hb dX8_stockOfAll_4 rfl (lv_at hl 2 rfl) ?_
    refine lv_aload_n hx hb dX8_stockOfAll_5 rfl (lv_at hl 0 rfl) ?_
    refine gC_0_4 E G m_192 dX8_stockOfAll_6 ?_
    refine lv_icmp_ge (tgt := 36) hx hb dX8_stockOfAll_9 (by decide) (fun c_9 => ?_) (fun c_9 => ?_)
    · skip
      have c_9n := Int32.not_lt.mpr c_9
      refine lv_iload_n hx hb dX8_stockOfAll_36 rfl (lv_at hl 1 rfl) ?_
      have hs : (soA S (s_va S).toNatClampNeg) = soA S k := by rw [lp_eq h0 hkk c_9]
      exact r_ret E G hr hlk hQ (congrArg (fun t => some (Value.int t)) hs) rfl dX8_stockOfAll_37
    · skip
      have c_9n := Int32.not_le.mp c_9
      refine lv_aload_n hx hb dX8_stockOfAll_12 rfl (lv_at hl 0 rfl) ?_
      refine gC_0_3 E G m_191 dX8_stockOfAll_13 ?_
      refine lv_iload_n hx hb dX8_stockOfAll_16 rfl (lv_at hl 2 rfl) ?_
      refine aC_4 E G (ix_va hI (va_k hI (lp_lt h0 hkk c_9))) dX8_stockOfAll_17 ?_
      rw [vf_t (va_k hI (lp_lt h0 hkk c_9))]
      refine lv_astore_n (lv' := [(3, .ref (q (24 + (nI k).toNatClampNeg))), (0, .ref (q 0)), (1, .int (soA S k)), (2, .int (nI k))]) hx hb dX8_stockOfAll_18 rfl hl (by decide) rfl (fun ls hl => ?_)
      refine lv_aload_n hx hb dX8_stockOfAll_19 rfl (lv_at hl 0 rfl) ?_
      refine lv_ifnull hx hb dX8_stockOfAll_20 ?_
      refine lv_iload_n hx hb dX8_stockOfAll_23 rfl (lv_at hl 2 rfl) ?_
      refine lv_aload_n hx hb dX8_stockOfAll_24 rfl (lv_at hl 0 rfl) ?_
      refine hV_0 E G (va_k hI (lp_lt h0 hkk c_9)) m_299 dX8_stockOfAll_25 ?_
      refine lv_iadd hx hb dX8_stockOfAll_28 ?_
      refine lv_istore_n (lv' := [(1, .int ((soA S k) + (ar (s_so S) (nI k)))), (3, .ref (q (24 + (nI k).toNatClampNeg))), (0, .ref (q 0)), (2, .int (nI k))]) hx hb dX8_stockOfAll_29 rfl hl (by decide) rfl (fun ls hl => ?_)
      refine lv_iinc (v := (nI k) + 1) (lv' := [(2, .int ((nI k) + 1)), (1, .int ((soA S k) + (ar (s_so S) (nI k)))), (3, .ref (q (24 + (nI k).toNatClampNeg))), (0, .ref (q 0))]) hx hb dX8_stockOfAll_30 hl (k := 3) rfl rfl (by decide) rfl (fun ls hl => ?_)
      refine lv_goto (tgt := 4) hx hb dX8_stockOfAll_33 (by decide) ?_
      exact ih4 (lp_lt h0 hkk c_9) _ _ _ (GW.cast (rfl) G) (lv_cast (lv_sub (l' := [(0, .ref (q 0)), (1, .int ((soA S k) + (ar (s_so S) (nI k)))), (2, .int ((nI k) + 1))]) hl [3, 1, 0] rfl) (by rw [nI_1, ar_nI _ (show k < 2 ^ 31 by omega)]; rfl))
  exact L4 0 (Nat.zero_le _) _ _ _ (GW.cast (rfl) G) (lv_cast (lv_sub (l' := [(0, .ref (q 0)), (1, .int (0)), (2, .int (0))]) hl [2, 1, 0] rfl) (by rw [nI_0]; rfl))
set_option maxHeartbeats 4000000 in
set_option maxRecDepth 100000 in
theorem c_X8_count (l : Launch) (Z : ZT) (q : Nat → Nat) (S : St) (X : XC) (p1 : Int32) (hI : Inv S) : CT l Z yX8_count cX8_count 2 (some .int) 3 [.ref (q 0), .int (p1)] (CW Z q S X) (some (.int ((sp_count S p1).1))) (CW Z q ((sp_count S p1).2) (X)) := by
  refine CE.mk rfl (Nat.le_of_ble_eq_true rfl) (fun p e s m args below meth c A Qx ls E hr hlk hnm hQ G hl => ?_)
  have hx := E.1.1
  have hb := E.1.2.1
  have hl : lv_has ls 2 [(0, .ref (q 0)), (1, .int (p1))] := hl
  refine lv_iload_n hx hb dX8_count_0 rfl (lv_at hl 1 rfl) ?_
  by_cases hk_0 : p1 = 0
  · skip
    refine lv_tableIn (off := 43) (tgt := 44) hx hb dX8_count_1 (by rw [hk_0]; decide) (by rw [hk_0]; decide) (by rw [hk_0]; rfl) (by decide) ?_
    refine lv_aload_n hx hb dX8_count_44 rfl (lv_at hl 0 rfl) ?_
    refine gC_0_1 E G m_189 dX8_count_45 ?_
    refine gC_2_3 E G m_72 dX8_count_48 ?_
    have hs : (sp_count S p1) = (s_st S, S) := by simp [sp_count, hk_0]
    exact r_ret E G hr hlk hQ (by rw [hs]) (by rw [hs]) dX8_count_51
  by_cases hk_1 : p1 = 1
  · skip
    refine lv_tableIn (off := 51) (tgt := 52) hx hb dX8_count_1 (by rw [hk_1]; decide) (by rw [hk_1]; decide) (by rw [hk_1]; rfl) (by decide) ?_
    refine lv_aload_n hx hb dX8_count_52 rfl (lv_at hl 0 rfl) ?_
    refine gC_0_4 E G m_192 dX8_count_53 ?_
    have hs : (sp_count S p1) = (s_va S, S) := by simp [sp_count, hk_0, hk_1]
    exact r_ret E G hr hlk hQ (by rw [hs]) (by rw [hs]) dX8_count_56
  by_cases hk_2 : p1 = 2
  · skip
    refine lv_tableIn (off := 56) (tgt := 57) hx hb dX8_count_1 (by rw [hk_2]; decide) (by rw [hk_2]; decide) (by rw [hk_2]; rfl) (by decide) ?_
    refine lv_aload_n hx hb dX8_count_57 rfl (lv_at hl 0 rfl) ?_
    refine gC_0_7 E G m_195 dX8_count_58 ?_
    refine gC_7_4 E G m_151 dX8_count_61 ?_
    have hs : (sp_count S p1) = (s_sd S, S) := by simp [sp_count, hk_0, hk_1, hk_2]
    exact r_ret E G hr hlk hQ (by rw [hs]) (by rw [hs]) dX8_count_64
  by_cases hk_3 : p1 = 3
  · skip
    refine lv_tableIn (off := 64) (tgt := 65) hx hb dX8_count_1 (by rw [hk_3]; decide) (by rw [hk_3]; decide) (by rw [hk_3]; rfl) (by decide) ?_
    refine lv_aload_n hx hb dX8_count_65 rfl (lv_at hl 0 rfl) ?_
    refine gC_0_8 E G m_196 dX8_count_66 ?_
    refine gC_8_3 E G m_174 dX8_count_69 ?_
    have hs : (sp_count S p1) = (s_bi S, S) := by simp [sp_count, hk_0, hk_1, hk_2, hk_3]
    exact r_ret E G hr hlk hQ (by rw [hs]) (by rw [hs]) dX8_count_72
  by_cases hk_4 : p1 = 4
  · skip
    refine lv_tableIn (off := 72) (tgt := 73) hx hb dX8_count_1 (by rw [hk_4]; decide) (by rw [hk_4]; decide) (by rw [hk_4]; rfl) (by decide) ?_
    refine lv_aload_n hx hb dX8_count_73 rfl (lv_at hl 0 rfl) ?_
    refine gC_0_10 E G m_198 dX8_count_74 ?_
    have hs : (sp_count S p1) = (s_wa S, S) := by simp [sp_count, hk_0, hk_1, hk_2, hk_3, hk_4]
    exact r_ret E G hr hlk hQ (by rw [hs]) (by rw [hs]) dX8_count_77
  by_cases hk_5 : p1 = 5
  · skip
    refine lv_tableIn (off := 77) (tgt := 78) hx hb dX8_count_1 (by rw [hk_5]; decide) (by rw [hk_5]; decide) (by rw [hk_5]; rfl) (by decide) ?_
    refine lv_aload_n hx hb dX8_count_78 rfl (lv_at hl 0 rfl) ?_
    refine r_V [] E G (c_X8_stockOfAll l Z q S X hI) kX8_stockOfAll m_619 0 rfl rfl ⟨Nat.le_of_ble_eq_true rfl, Nat.le_of_ble_eq_true rfl⟩ hl dX8_count_79 rfl rfl (Nat.le_of_ble_eq_true rfl) ⟨Nat.zero_le _, Nat.zero_le _⟩ (fun H locs G => ?_)
    have hs : (sp_count S p1) = (soA S (s_va S).toNatClampNeg, S) := by simp [sp_count, hk_0, hk_1, hk_2, hk_3, hk_4, hk_5]
    exact r_ret E G hr hlk hQ (by rw [hs]) (by rw [hs]) dX8_count_82
  by_cases hk_6 : p1 = 6
  · skip
    refine lv_tableIn (off := 82) (tgt := 83) hx hb dX8_count_1 (by rw [hk_6]; decide) (by rw [hk_6]; decide) (by rw [hk_6]; rfl) (by decide) ?_
    refine lv_aload_n hx hb dX8_count_83 rfl (lv_at hl 0 rfl) ?_
    refine gC_0_1 E G m_189 dX8_count_84 ?_
    refine gC_2_4 E G m_74 dX8_count_87 ?_
    have hs : (sp_count S p1) = (s_he S, S) := by simp [sp_count, hk_0, hk_1, hk_2, hk_3, hk_4, hk_5, hk_6]
    exact r_ret E G hr hlk hQ (by rw [hs]) (by rw [hs]) dX8_count_90
  refine lv_tableOut (tgt := 91) hx hb dX8_count_1 (by have a0 := lv_neT (k := 0) (a := 0) hk_0 (by decide); have a1 := lv_neT (k := 1) (a := 1) hk_1 (by decide); have a2 := lv_neT (k := 2) (a := 2) hk_2 (by decide); have a3 := lv_neT (k := 3) (a := 3) hk_3 (by decide); have a4 := lv_neT (k := 4) (a := 4) hk_4 (by decide); have a5 := lv_neT (k := 5) (a := 5) hk_5 (by decide); have a6 := lv_neT (k := 6) (a := 6) hk_6 (by decide); omega) (by decide) ?_
  refine lv_aload_n hx hb dX8_count_91 rfl (lv_at hl 0 rfl) ?_
  refine lv_ldc hx hb E.1.2.2.2.1 (E.1.2.2.2.2 _ m_226) dX8_count_92 ?_
  refine r_V [] E G (c_X8_finding l Z q S X (-1000001) (by decide)) kX8_finding m_227 0 rfl rfl ⟨Nat.le_of_ble_eq_true rfl, Nat.le_of_ble_eq_true rfl⟩ hl dX8_count_94 rfl rfl (Nat.le_of_ble_eq_true rfl) ⟨Nat.zero_le _, Nat.zero_le _⟩ (fun H locs G => ?_)
  have hs : (sp_count S p1) = ((fnd S (-1000001)).1, (fnd S (-1000001)).2) := by simp [sp_count, hk_0, hk_1, hk_2, hk_3, hk_4, hk_5, hk_6]
  exact r_ret E G hr hlk hQ (by rw [hs]) (by rw [hs]) dX8_count_97
set_option maxHeartbeats 4000000 in
set_option maxRecDepth 100000 in
theorem c_X8_found (l : Launch) (Z : ZT) (q : Nat → Nat) (S : St) (X : XC) (p1 : Int32) (hI : Inv S) : CT l Z yX8_found cX8_found 2 (some .int) 3 [.ref (q 0), .int (p1)] (CW Z q S X) (some (.int ((sp_found S p1).1))) (CW Z q ((sp_found S p1).2) (X)) := by
  refine CE.mk rfl (Nat.le_of_ble_eq_true rfl) (fun p e s m args below meth c A Qx ls E hr hlk hnm hQ G hl => ?_)
  have hx := E.1.1
  have hb := E.1.2.1
  have hl : lv_has ls 2 [(0, .ref (q 0)), (1, .int (p1))] := hl
  refine lv_iload_n hx hb dX8_found_0 rfl (lv_at hl 1 rfl) ?_
  refine lv_iconst (v := 1) hx hb dX8_found_1 (by decide) ?_
  refine lv_icmp_lt (tgt := 10) hx hb dX8_found_2 (by decide) (fun c_2 => ?_) (fun c_2 => ?_)
  · skip
    have c_2n := Int32.not_le.mpr c_2
    refine lv_aload_n hx hb dX8_found_10 rfl (lv_at hl 0 rfl) ?_
    refine lv_ldc hx hb E.1.2.2.2.1 (E.1.2.2.2.2 _ m_226) dX8_found_11 ?_
    refine r_V [] E G (c_X8_finding l Z q S X (-1000001) (by decide)) kX8_finding m_227 0 rfl rfl ⟨Nat.le_of_ble_eq_true rfl, Nat.le_of_ble_eq_true rfl⟩ hl dX8_found_13 rfl rfl (Nat.le_of_ble_eq_true rfl) ⟨Nat.zero_le _, Nat.zero_le _⟩ (fun H locs G => ?_)
    have hs : (sp_found S p1) = ((fnd S (-1000001)).1, (fnd S (-1000001)).2) := by first | rfl | (simp [sp_found, inr, c_2, c_2n]; done) | (simp_all [sp_found, inr]; done)
    exact r_ret E G hr hlk hQ (by rw [hs]) (by rw [hs]) dX8_found_16
  · skip
    have c_2n := Int32.not_lt.mp c_2
    refine lv_iload_n hx hb dX8_found_5 rfl (lv_at hl 1 rfl) ?_
    refine lv_iconst (v := 5) hx hb dX8_found_6 (by decide) ?_
    refine lv_icmp_le (tgt := 17) hx hb dX8_found_7 (by decide) (fun c_7 => ?_) (fun c_7 => ?_)
    · skip
      have c_7n := Int32.not_lt.mpr c_7
      refine lv_aload_n hx hb dX8_found_17 rfl (lv_at hl 0 rfl) ?_
      refine gC_0_0 E G m_188 dX8_found_18 ?_
      refine lv_iload_n hx hb dX8_found_21 rfl (lv_at hl 1 rfl) ?_
      refine aC_1 E G (ix_fd (by simp [inr, c_2n, c_7])) dX8_found_22 ?_
      have hs : (sp_found S p1) = (ar (s_co S) p1, S) := by first | rfl | (simp [sp_found, inr, c_2, c_2n, c_7, c_7n]; done) | (simp_all [sp_found, inr]; done)
      exact r_ret E G hr hlk hQ (by rw [hs]) (by rw [hs]) dX8_found_23
    · skip
      have c_7n := Int32.not_le.mp c_7
      refine lv_aload_n hx hb dX8_found_10 rfl (lv_at hl 0 rfl) ?_
      refine lv_ldc hx hb E.1.2.2.2.1 (E.1.2.2.2.2 _ m_226) dX8_found_11 ?_
      refine r_V [] E G (c_X8_finding l Z q S X (-1000001) (by decide)) kX8_finding m_227 0 rfl rfl ⟨Nat.le_of_ble_eq_true rfl, Nat.le_of_ble_eq_true rfl⟩ hl dX8_found_13 rfl rfl (Nat.le_of_ble_eq_true rfl) ⟨Nat.zero_le _, Nat.zero_le _⟩ (fun H locs G => ?_)
      have hs : (sp_found S p1) = ((fnd S (-1000001)).1, (fnd S (-1000001)).2) := by first | rfl | (simp [sp_found, inr, c_2, c_2n, c_7, c_7n]; done) | (simp_all [sp_found, inr]; done)
      exact r_ret E G hr hlk hQ (by rw [hs]) (by rw [hs]) dX8_found_16
