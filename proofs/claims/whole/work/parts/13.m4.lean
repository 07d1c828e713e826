def taM (S : St) (v a h : Int32) : Nat → Bool
  | 0 => false
  | k + 1 => taM S v a h k || (!decide (s_sv S k = v) && (decide (s_ss S k = a) && decide (s_sh S k = h)))
theorem taM_mono {S : St} {v a h : Int32} {k : Nat} (c : taM S v a h k = true) : ∀ n, k ≤ n → taM S v a h n = true := by
  intro n hn
  induction n with
  | zero => rw [show k = 0 by omega] at c; exact c
  | succ n ih =>
    rcases Nat.lt_or_ge k (n + 1) with g | g
    · unfold taM; rw [ih (by omega)]; rfl
    · rw [show k = n + 1 by omega] at c; exact c
theorem taS_M {S : St} (hI : Inv S) {n : Int32} (h : isSd S n = true) : taS S (ar (s_ss S) n) (ar (s_sh S) n) n.toNatClampNeg = taM S (ar (s_sv S) n) (ar (s_ss S) n) (ar (s_sh S) n) n.toNatClampNeg := by
  have hlt := sd_lt hI h
  have key : ∀ k, k ≤ n.toNatClampNeg → taS S (ar (s_ss S) n) (ar (s_sh S) n) k = taM S (ar (s_sv S) n) (ar (s_ss S) n) (ar (s_sh S) n) k := by
    intro k
    induction k with
    | zero => intro _; rfl
    | succ k ih =>
      intro hk
      unfold taS taM
      rw [ih (by omega)]
      by_cases e : s_sv S k = ar (s_sv S) n
      · have g := hI.2.2.2.2.2.1 k n.toNatClampNeg (by omega) hlt e
        have g2 : ¬ s_sh S k = ar (s_sh S) n := fun z => by
          have z2 : s_sh S k = s_sh S n.toNatClampNeg := z
          rw [z2] at g
          exact Int32.lt_irrefl g
        simp [e, g2]
      · simp [e]
  exact key _ (Nat.le_refl _)
theorem ow_eq {S : St} (hI : Inv S) {n d : Int32} (hd : inr d 0 2000 = true) : (if d - ar (s_du S) n < 0 then 0 else d - ar (s_du S) n) / 7 = if ar (s_du S) n < d then (d - ar (s_du S) n) / 7 else 0 := by
  have h1 := in_of hd
  have h2 := (hI.2.2.2.2.2.2.2 n.toNatClampNeg).2
  have h0 : ar (s_du S) n = s_du S n.toNatClampNeg := rfl
  rw [h0]
  rw [i_le, i_le] at h2
  have e0 : (0 : Int32).toInt = 0 := by decide
  have e1 : (1060 : Int32).toInt = 1060 := by decide
  have e2 : (2000 : Int32).toInt = 2000 := by decide
  have h3 : (d - s_du S n.toNatClampNeg).toInt = d.toInt - (s_du S n.toNatClampNeg).toInt := i_sub (by omega) (by omega)
  by_cases g : s_du S n.toNatClampNeg < d
  · rw [if_pos g, if_neg]
    rw [i_lt] at g
    rw [i_lt]
    omega
  · rw [if_neg g]
    by_cases g2 : d - s_du S n.toNatClampNeg < 0
    · rw [if_pos g2]; decide
    · rw [if_neg g2]
      have g3 : d - s_du S n.toNatClampNeg = 0 := by
        rw [← Int32.toInt_inj]
        rw [i_lt] at g g2
        omega
      rw [g3]; decide
def sp_van (S : St) (k : Int32) : Int32 × St := if isKi k then (if s_va S = 4 then fnd S (-1000004) else (s_va S + 1 - 1, u_va (u_li (u_so (u_ki S (au (s_ki S) (s_va S) k)) (au (s_so S) (s_va S) 0)) (au (s_li S) (s_va S) 63)) (s_va S + 1))) else fnd S (-1000001)
theorem ow_b {S : St} {n : Int32} (h : 0 ≤ n) (g : n = -1 ∨ isBi S n = true) : isBi S n = true := by
  rcases g with e | e
  · subst e; exact absurd h (by decide)
  · exact e
theorem in_sd {S : St} (hI : Inv S) (n : Int32) : inr n 0 (s_sd S - 1) = isSd S n := inr_pred hI.sd.1
theorem bi_0 {S : St} {n : Int32} (h : isBi S n = true) : 0 ≤ n := by
  unfold isBi at h; simp only [Bool.and_eq_true, decide_eq_true_eq] at h; exact h.1
theorem neg1 (x : Int32) : x + -1 = x - 1 := (Int32.sub_eq_add_neg x 1).symm
theorem fq1 (S : St) : fnd S (-1000000 - 1) = fnd S (-1000001) := rfl
theorem fq2 (S : St) : fnd S (-1000000 - 2) = fnd S (-1000002) := rfl
theorem fq3 (S : St) : fnd S (-1000000 - 3) = fnd S (-1000003) := rfl
theorem fq4 (S : St) : fnd S (-1000000 - 4) = fnd S (-1000004) := rfl
theorem fq5 (S : St) : fnd S (-1000000 - 5) = fnd S (-1000005) := rfl
set_option maxHeartbeats 4000000 in
set_option maxRecDepth 100000 in
theorem c_X9_in (l : Launch) (Z : ZT) (q : Nat → Nat) (S : St) (Y : YM) (p1 p2 p3 : Int32) : CT l Z yX9_in cX9_in 3 (some .boolean) 1 [.int (p1), .int (p2), .int (p3)] (MW Z q S Y) (some (.int (b01 (inr p1 p2 p3)))) (MW Z q S Y) := by
  refine CE.mk rfl (Nat.le_of_ble_eq_true rfl) (fun p e s m args below meth c A Qx ls E hr hlk hnm hQ G hl => ?_)
  have hx := E.1.1
  have hb := E.1.2.1
  have hl : lv_has ls 3 [(0, .int (p1)), (1, .int (p2)), (2, .int (p3))] := hl
  refine lv_iload_n hx hb dX9_in_0 rfl (lv_at hl 0 rfl) ?_
  refine lv_iload_n hx hb dX9_in_1 rfl (lv_at hl 1 rfl) ?_
  refine lv_icmp_lt (tgt := 14) hx hb dX9_in_2 (by decide) (fun c_2 => ?_) (fun c_2 => ?_)
  · skip
    have c_2n := Int32.not_le.mpr c_2
    refine lv_iconst (v := 0) hx hb dX9_in_14 (by decide) ?_
    have hs : (inr p1 p2 p3) = false := by first | rfl | (simp [inr, c_2, c_2n]; done) | (simp_all [inr]; done)
    exact r_retz E G hr hlk hQ (by decide) (congrArg (fun t => some (Value.int (b01 t))) hs) rfl dX9_in_15
  · skip
    have c_2n := Int32.not_lt.mp c_2
    refine lv_iload_n hx hb dX9_in_5 rfl (lv_at hl 0 rfl) ?_
    refine lv_iload_n hx hb dX9_in_6 rfl (lv_at hl 2 rfl) ?_
    refine lv_icmp_gt (tgt := 14) hx hb dX9_in_7 (by decide) (fun c_7 => ?_) (fun c_7 => ?_)
    · skip
      have c_7n := Int32.not_le.mpr c_7
      refine lv_iconst (v := 0) hx hb dX9_in_14 (by decide) ?_
      have hs : (inr p1 p2 p3) = false := by first | rfl | (simp [inr, c_2, c_2n, c_7, c_7n]; done) | (simp_all [inr]; done)
      exact r_retz E G hr hlk hQ (by decide) (congrArg (fun t => some (Value.int (b01 t))) hs) rfl dX9_in_15
    · skip
      have c_7n := Int32.not_lt.mp c_7
      refine lv_iconst (v := 1) hx hb dX9_in_10 (by decide) ?_
      refine lv_goto (tgt := 15) hx hb dX9_in_11 (by decide) ?_
      have hs : (inr p1 p2 p3) = true := by first | rfl | (simp [inr, c_2, c_2n, c_7, c_7n]; done) | (simp_all [inr]; done)
      exact r_retz E G hr hlk hQ (by decide) (congrArg (fun t => some (Value.int (b01 t))) hs) rfl dX9_in_15
set_option maxHeartbeats 4000000 in
set_option maxRecDepth 100000 in
theorem c_X9_finds (l : Launch) (Z : ZT) (q : Nat → Nat) (S : St) (Y : YM) (p1 : Int32) (h1 : inr p1 1 5 = true) : CT l Z yX9_finds cX9_finds 2 (some .int) 1 [.ref (q 0), .int (p1)] (MW Z q S Y) (some (.int ((fnd S (-1000000 - p1)).1))) (MW Z q ((fnd S (-1000000 - p1)).2) (Y)) := by
  refine CE.mk rfl (Nat.le_of_ble_eq_true rfl) (fun p e s m args below meth c A Qx ls E hr hlk hnm hQ G hl => ?_)
  have hx := E.1.1
  have hb := E.1.2.1
  have hl : lv_has ls 2 [(0, .ref (q 0)), (1, .int (p1))] := hl
  refine lv_aload_n hx hb dX9_finds_0 rfl (lv_at hl 0 rfl) ?_
  refine gM_0_24 E G m_657 dX9_finds_1 ?_
  refine lv_iload_n hx hb dX9_finds_4 rfl (lv_at hl 1 rfl) ?_
  refine lv_dup2_11 hx hb dX9_finds_5 rfl rfl ?_
  refine aM_15 E G (ix_fd h1) dX9_finds_6 ?_
  refine lv_iconst (v := 1) hx hb dX9_finds_7 (by decide) ?_
  refine lv_iadd hx hb dX9_finds_8 ?_
  refine tM_15 E G (ix_fd h1) dX9_finds_9 (fun H locs G => ?_)
  refine lv_ldc hx hb E.1.2.2.2.1 (E.1.2.2.2.2 _ m_750) dX9_finds_10 ?_
  refine lv_iload_n hx hb dX9_finds_12 rfl (lv_at hl 1 rfl) ?_
  refine lv_isub hx hb dX9_finds_13 ?_
  have hs : (fnd S (-1000000 - p1)) = ((-1000000) - p1, u_co S (au (s_co S) p1 ((ar (s_co S) p1) + 1))) := by simp [fnd, sub_sub h1]
  exact r_ret E G hr hlk hQ (by rw [hs]) (by rw [hs]) dX9_finds_14
set_option maxHeartbeats 4000000 in
set_option maxRecDepth 100000 in
theorem c_X9_isStreet (l : Launch) (Z : ZT) (q : Nat → Nat) (S : St) (Y : YM) (p1 : Int32) (hI : Inv S) : CT l Z yX9_isStreet cX9_isStreet 2 (some .boolean) 2 [.ref (q 0), .int (p1)] (MW Z q S Y) (some (.int (b01 (isSt S p1)))) (MW Z q S Y) := by
  refine CE.mk rfl (Nat.le_of_ble_eq_true rfl) (fun p e s m args below meth c A Qx ls E hr hlk hnm hQ G hl => ?_)
  have hx := E.1.1
  have hb := E.1.2.1
  have hl : lv_has ls 2 [(0, .ref (q 0)), (1, .int (p1))] := hl
  refine lv_iload_n hx hb dX9_isStreet_0 rfl (lv_at hl 1 rfl) ?_
  refine lv_iconst (v := 0) hx hb dX9_isStreet_1 (by decide) ?_
  refine lv_aload_n hx hb dX9_isStreet_2 rfl (lv_at hl 0 rfl) ?_
  refine gM_0_0 E G m_633 dX9_isStreet_3 ?_
  refine lv_iconst (v := 1) hx hb dX9_isStreet_6 (by decide) ?_
  refine lv_isub hx hb dX9_isStreet_7 ?_
  refine r_S [] E G (c_X9_in l Z q S Y p1 0 ((s_st S) - 1)) kX9_in m_743 ⟨Nat.le_of_ble_eq_true rfl, Nat.le_of_ble_eq_true rfl⟩ hl dX9_isStreet_8 rfl rfl (Nat.le_of_ble_eq_true rfl) ⟨Nat.zero_le _, Nat.zero_le _⟩ (fun H locs G => ?_)
  have hs : (isSt S p1) = inr p1 0 ((s_st S) - 1) := by unfold isSt; exact (inr_pred hI.st.1).symm
  exact r_retz E G hr hlk hQ (b01_n _) (congrArg (fun t => some (Value.int (b01 t))) hs) rfl dX9_isStreet_11
set_option maxHeartbeats 4000000 in
set_option maxRecDepth 100000 in
theorem c_X9_isVan (l : Launch) (Z : ZT) (q : Nat → Nat) (S : St) (Y : YM) (p1 : Int32) (hI : Inv S) : CT l Z yX9_isVan cX9_isVan 2 (some .boolean) 2 [.ref (q 0), .int (p1)] (MW Z q S Y) (some (.int (b01 (isVa S p1)))) (MW Z q S Y) := by
  refine CE.mk rfl (Nat.le_of_ble_eq_true rfl) (fun p e s m args below meth c A Qx ls E hr hlk hnm hQ G hl => ?_)
  have hx := E.1.1
  have hb := E.1.2.1
  have hl : lv_has ls 2 [(0, .ref (q 0)), (1, .int (p1))] := hl
  refine lv_iload_n hx hb dX9_isVan_0 rfl (lv_at hl 1 rfl) ?_
  refine lv_iconst (v := 0) hx hb dX9_isVan_1 (by decide) ?_
  refine lv_aload_n hx hb dX9_isVan_2 rfl (lv_at hl 0 rfl) ?_
  refine gM_0_1 E G m_634 dX9_isVan_3 ?_
  refine lv_iconst (v := 1) hx hb dX9_isVan_6 (by decide) ?_
  refine lv_isub hx hb dX9_isVan_7 ?_
  refine r_S [] E G (c_X9_in l Z q S Y p1 0 ((s_va S) - 1)) kX9_in m_743 ⟨Nat.le_of_ble_eq_true rfl, Nat.le_of_ble_eq_true rfl⟩ hl dX9_isVan_8 rfl rfl (Nat.le_of_ble_eq_true rfl) ⟨Nat.zero_le _, Nat.zero_le _⟩ (fun H locs G => ?_)
  have hs : (isVa S p1) = inr p1 0 ((s_va S) - 1) := by unfold isVa; exact (inr_pred hI.va.1).symm
  exact r_retz E G hr hlk hQ (b01_n _) (congrArg (fun t => some (Value.int (b01 t))) hs) rfl dX9_isVan_11
set_option maxHeartbeats 4000000 in
set_option maxRecDepth 100000 in
theorem c_X9_isBill (l : Launch) (Z : ZT) (q : Nat → Nat) (S : St) (Y : YM) (p1 : Int32) (hI : Inv S) : CT l Z yX9_isBill cX9_isBill 2 (some .boolean) 2 [.ref (q 0), .int (p1)] (MW Z q S Y) (some (.int (b01 (isBi S p1)))) (MW Z q S Y) := by
  refine CE.mk rfl (Nat.le_of_ble_eq_true rfl) (fun p e s m args below meth c A Qx ls E hr hlk hnm hQ G hl => ?_)
  have hx := E.1.1
  have hb := E.1.2.1
  have hl : lv_has ls 2 [(0, .ref (q 0)), (1, .int (p1))] := hl
  refine lv_iload_n hx hb dX9_isBill_0 rfl (lv_at hl 1 rfl) ?_
  refine lv_iconst (v := 0) hx hb dX9_isBill_1 (by decide) ?_
  refine lv_aload_n hx hb dX9_isBill_2 rfl (lv_at hl 0 rfl) ?_
  refine gM_0_3 E G m_636 dX9_isBill_3 ?_
  refine lv_iconst (v := 1) hx hb dX9_isBill_6 (by decide) ?_
  refine lv_isub hx hb dX9_isBill_7 ?_
  refine r_S [] E G (c_X9_in l Z q S Y p1 0 ((s_bi S) - 1)) kX9_in m_743 ⟨Nat.le_of_ble_eq_true rfl, Nat.le_of_ble_eq_true rfl⟩ hl dX9_isBill_8 rfl rfl (Nat.le_of_ble_eq_true rfl) ⟨Nat.zero_le _, Nat.zero_le _⟩ (fun H locs G => ?_)
  have hs : (isBi S p1) = inr p1 0 ((s_bi S) - 1) := by unfold isBi; exact (inr_pred hI.bi.1).symm
  exact r_retz E G hr hlk hQ (b01_n _) (congrArg (fun t => some (Value.int (b01 t))) hs) rfl dX9_isBill_11
set_option maxHeartbeats 4000000 in
set_option maxRecDepth 100000 in
theorem c_X9_isHour (l : Launch) (Z : ZT) (q : Nat → Nat) (S : St) (Y : YM) (p1 : Int32) : CT l Z yX9_isHour cX9_isHour 1 (some .boolean) 2 [.int (p1)] (MW Z q S Y) (some (.int (b01 (isHo p1)))) (MW Z q S Y) := by
  refine CE.mk rfl (Nat.le_of_ble_eq_true rfl) (fun p e s m args below meth c A Qx ls E hr hlk hnm hQ G hl => ?_)
  have hx := E.1.1
  have hb := E.1.2.1
  have hl : lv_has ls 1 [(0, .int (p1))] := hl
  refine lv_iload_n hx hb dX9_isHour_0 rfl (lv_at hl 0 rfl) ?_
  refine lv_iconst (v := 0) hx hb dX9_isHour_1 (by decide) ?_
  refine lv_bipush (v := 11) hx hb dX9_isHour_2 (by decide) ?_
  refine r_S [] E G (c_X9_in l Z q S Y p1 0 11) kX9_in m_743 ⟨Nat.le_of_ble_eq_true rfl, Nat.le_of_ble_eq_true rfl⟩ hl dX9_isHour_4 rfl rfl (Nat.le_of_ble_eq_true rfl) ⟨Nat.zero_le _, Nat.zero_le _⟩ (fun H locs G => ?_)
  have hs : (isHo p1) = inr p1 0 11 := rfl
  exact r_retz E G hr hlk hQ (b01_n _) (congrArg (fun t => some (Value.int (b01 t))) hs) rfl dX9_isHour_7
set_option maxHeartbeats 4000000 in
set_option maxRecDepth 100000 in
theorem c_X9_isAt (l : Launch) (Z : ZT) (q : Nat → Nat) (S : St) (Y : YM) (p1 : Int32) (hI : Inv S) : CT l Z yX9_isAt cX9_isAt 2 (some .boolean) 3 [.ref (q 0), .int (p1)] (MW Z q S Y) (some (.int (b01 (isAt S p1)))) (MW Z q S Y) := by
  refine CE.mk rfl (Nat.le_of_ble_eq_true rfl) (fun p e s m args below meth c A Qx ls E hr hlk hnm hQ G hl => ?_)
  have hx := E.1.1
  have hb := E.1.2.1
  have hl : lv_has ls 2 [(0, .ref (q 0)), (1, .int (p1))] := hl
  refine lv_iload_n hx hb dX9_isAt_0 rfl (lv_at hl 1 rfl) ?_
  refine lv_if_lt (tgt := 29) hx hb dX9_isAt_1 (by decide) (fun c_1 => ?_) (fun c_1 => ?_)
  · skip
    have c_1n := Int32.not_le.mpr c_1
    refine lv_iconst (v := 0) hx hb dX9_isAt_29 (by decide) ?_
    have hs : (isAt S p1) = false := by first | rfl | (simp [isAt, ho, c_1, c_1n]; done) | (simp_all [isAt, ho]; done)
    exact r_retz E G hr hlk hQ (by decide) (congrArg (fun t => some (Value.int (b01 t))) hs) rfl dX9_isAt_30
  · skip
    have c_1n := Int32.not_lt.mp c_1
    refine lv_aload_n hx hb dX9_isAt_4 rfl (lv_at hl 0 rfl) ?_
    refine lv_iload_n hx hb dX9_isAt_5 rfl (lv_at hl 1 rfl) ?_
    refine lv_bipush (v := 100) hx hb dX9_isAt_6 (by decide) ?_
    refine lv_idiv hx hb dX9_isAt_8 (by decide) ?_
    refine r_V [] E G (c_X9_isStreet l Z q S Y (p1 / 100) hI) kX9_isStreet m_755 0 rfl rfl ⟨Nat.le_of_ble_eq_true rfl, Nat.le_of_ble_eq_true rfl⟩ hl dX9_isAt_9 rfl rfl (Nat.le_of_ble_eq_true rfl) ⟨Nat.zero_le _, Nat.zero_le _⟩ (fun H locs G => ?_)
    refine r_eqb (tgt := 29) hx hb dX9_isAt_12 (by decide) (fun c_12 => ?_) (fun c_12 => ?_)
    · skip
      refine lv_iconst (v := 0) hx hb dX9_isAt_29 (by decide) ?_
      have hs : (isAt S p1) = false := by first | rfl | (simp [isAt, ho, c_1, c_1n, c_12]; done) | (simp_all [isAt, ho]; done)
      exact r_retz E G hr hlk hQ (by decide) (congrArg (fun t => some (Value.int (b01 t))) hs) rfl dX9_isAt_30
    · skip
      refine lv_iload_n hx hb dX9_isAt_15 rfl (lv_at hl 1 rfl) ?_
      refine lv_bipush (v := 100) hx hb dX9_isAt_16 (by decide) ?_
      refine lv_irem hx hb dX9_isAt_18 (by decide) ?_
      refine r_S [] E G (c_X9_isHour l Z q S Y (p1 - p1 / 100 * 100)) kX9_isHour m_763 ⟨Nat.le_of_ble_eq_true rfl, Nat.le_of_ble_eq_true rfl⟩ hl dX9_isAt_19 rfl rfl (Nat.le_of_ble_eq_true rfl) ⟨Nat.zero_le _, Nat.zero_le _⟩ (fun H locs G => ?_)
      refine r_eqb (tgt := 29) hx hb dX9_isAt_22 (by decide) (fun c_22 => ?_) (fun c_22 => ?_)
      · skip
        refine lv_iconst (v := 0) hx hb dX9_isAt_29 (by decide) ?_
        have hs : (isAt S p1) = false := by first | rfl | (simp [isAt, ho, c_1, c_1n, c_12, c_22]; done) | (simp_all [isAt, ho]; done)
        exact r_retz E G hr hlk hQ (by decide) (congrArg (fun t => some (Value.int (b01 t))) hs) rfl dX9_isAt_30
      · skip
        refine lv_iconst (v := 1) hx hb dX9_isAt_25 (by decide) ?_
        refine lv_goto (tgt := 30) hx hb dX9_isAt_26 (by decide) ?_
        have hs : (isAt S p1) = true := by first | rfl | (simp [isAt, ho, c_1, c_1n, c_12, c_22]; done) | (simp_all [isAt, ho]; done)
        exact r_retz E G hr hlk hQ (by decide) (congrArg (fun t => some (Value.int (b01 t))) hs) rfl dX9_isAt_30
set_option maxHeartbeats 4000000 in
set_option maxRecDepth 100000 in
theorem c_X9_street (l : Launch) (Z : ZT) (q : Nat → Nat) (S : St) (Y : YM) (p1 : Int32) (hI : Inv S) : CT l Z yX9_street cX9_street 2 (some .int) 3 [.ref (q 0), .int (p1)] (MW Z q S Y) (some (.int ((sp_street S p1).1))) (MW Z q ((sp_street S p1).2) (Y)) := by
  refine CE.mk rfl (Nat.le_of_ble_eq_true rfl) (fun p e s m args below meth c A Qx ls E hr hlk hnm hQ G hl => ?_)
  have hx := E.1.1
  have hb := E.1.2.1
  have hl : lv_has ls 2 [(0, .ref (q 0)), (1, .int (p1))] := hl
  refine lv_iload_n hx hb dX9_street_0 rfl (lv_at hl 1 rfl) ?_
  refine lv_iconst (v := 0) hx hb dX9_street_1 (by decide) ?_
  refine lv_iconst (v := 1) hx hb dX9_street_2 (by decide) ?_
  refine r_S [] E G (c_X9_in l Z q S Y p1 0 1) kX9_in m_743 ⟨Nat.le_of_ble_eq_true rfl, Nat.le_of_ble_eq_true rfl⟩ hl dX9_street_3 rfl rfl (Nat.le_of_ble_eq_true rfl) ⟨Nat.zero_le _, Nat.zero_le _⟩ (fun H locs G => ?_)
  refine r_neb (tgt := 15) hx hb dX9_street_6 (by decide) (fun c_6 => ?_) (fun c_6 => ?_)
  · skip
    refine lv_aload_n hx hb dX9_street_15 rfl (lv_at hl 0 rfl) ?_
    refine gM_0_0 E G m_633 dX9_street_16 ?_
    refine lv_bipush (v := 6) hx hb dX9_street_19 (by decide) ?_
    refine lv_icmp_ne (tgt := 30) hx hb dX9_street_21 (by decide) (fun c_21 => ?_) (fun c_21 => ?_)
    · skip
      refine lv_aload_n hx hb dX9_street_30 rfl (lv_at hl 0 rfl) ?_
      refine gM_0_10 E G m_643 dX9_street_31 ?_
      refine lv_aload_n hx hb dX9_street_34 rfl (lv_at hl 0 rfl) ?_
      refine gM_0_0 E G m_633 dX9_street_35 ?_
      refine lv_iload_n hx hb dX9_street_38 rfl (lv_at hl 1 rfl) ?_
      refine tM_1 E G (ix_lim hI.st.1 (ne_lim hI.st.2 c_21) (by decide)) dX9_street_39 (fun H locs G => ?_)
      refine lv_aload_n hx hb dX9_street_40 rfl (lv_at hl 0 rfl) ?_
      refine lv_dup hx hb dX9_street_41 rfl ?_
      refine gM_0_0 E G m_633 dX9_street_42 ?_
      refine lv_topc (e_s_st_sc _ _) ?_
      refine lv_iconst (v := 1) hx hb dX9_street_45 (by decide) ?_
      refine lv_iadd hx hb dX9_street_46 ?_
      refine pM_0_0 E G m_633 dX9_street_47 (fun H locs G => ?_)
      refine lv_aload_n hx hb dX9_street_50 rfl (lv_at hl 0 rfl) ?_
      refine gM_0_0 E G m_633 dX9_street_51 ?_
      refine lv_topc (es_s_st _ _) ?_
      refine lv_iconst (v := 1) hx hb dX9_street_54 (by decide) ?_
      refine lv_isub hx hb dX9_street_55 ?_
      have hs : (sp_street S p1) = (((s_st S) + 1) - 1, u_st (u_sc S (au (s_sc S) (s_st S) p1)) ((s_st S) + 1)) := by first | rfl | (simp [sp_street, fq1, fq2, fq3, fq4, fq5, c_6, c_21]; done) | (simp_all [sp_street, fq1, fq2, fq3, fq4, fq5]; done)
      exact r_ret E G hr hlk hQ (by rw [hs]) (by rw [hs]) dX9_street_56
    · skip
      refine lv_aload_n hx hb dX9_street_24 rfl (lv_at hl 0 rfl) ?_
      refine lv_iconst (v := 4) hx hb dX9_street_25 (by decide) ?_
      refine r_V [] E G (c_X9_finds l Z q S Y 4 (by decide)) kX9_finds m_746 0 rfl rfl ⟨Nat.le_of_ble_eq_true rfl, Nat.le_of_ble_eq_true rfl⟩ hl dX9_street_26 rfl rfl (Nat.le_of_ble_eq_true rfl) ⟨Nat.zero_le _, Nat.zero_le _⟩ (fun H locs G => ?_)
      have hs : (sp_street S p1) = ((fnd S (-1000000 - 4)).1, (fnd S (-1000000 - 4)).2) := by first | rfl | (simp [sp_street, fq1, fq2, fq3, fq4, fq5, c_6, c_21]; done) | (simp_all [sp_street, fq1, fq2, fq3, fq4, fq5]; done)
      exact r_ret E G hr hlk hQ (by rw [hs]) (by rw [hs]) dX9_street_29
  · skip
    refine lv_aload_n hx hb dX9_street_9 rfl (lv_at hl 0 rfl) ?_
    refine lv_iconst (v := 1) hx hb dX9_street_10 (by decide) ?_
    refine r_V [] E G (c_X9_finds l Z q S Y 1 (by decide)) kX9_finds m_746 0 rfl rfl ⟨Nat.le_of_ble_eq_true rfl, Nat.le_of_ble_eq_true rfl⟩ hl dX9_street_11 rfl rfl (Nat.le_of_ble_eq_true rfl) ⟨Nat.zero_le _, Nat.zero_le _⟩ (fun H locs G => ?_)
    have hs : (sp_street S p1) = ((fnd S (-1000000 - 1)).1, (fnd S (-1000000 - 1)).2) := by first | rfl | (simp [sp_street, fq1, fq2, fq3, fq4, fq5, c_6]; done) | (simp_all [sp_street, fq1, fq2, fq3, fq4, fq5]; done)
    exact r_ret E G hr hlk hQ (by rw [hs]) (by rw [hs]) dX9_street_14
set_option maxHeartbeats 4000000 in
set_option maxRecDepth 100000 in
theorem c_X9_way (l : Launch) (Z : ZT) (q : Nat → Nat) (S : St) (Y : YM) (p1 p2 p3 : Int32) (hI : Inv S) : CT l Z yX9_way cX9_way 5 (some .int) 3 [.ref (q 0), .int (p1), .int (p2), .int (p3)] (MW Z q S Y) (some (.int ((sp_way S p1 p2 p3).1))) (MW Z q ((sp_way S p1 p2 p3).2) (Y)) := by
  refine CE.mk rfl (Nat.le_of_ble_eq_true rfl) (fun p e s m args below meth c A Qx ls E hr hlk hnm hQ G hl => ?_)
  have hx := E.1.1
  have hb := E.1.2.1
  have hl : lv_has ls 5 [(0, .ref (q 0)), (1, .int (p1)), (2, .int (p2)), (3, .int (p3))] := hl
  refine lv_aload_n hx hb dX9_way_0 rfl (lv_at hl 0 rfl) ?_
  refine lv_iload_n hx hb dX9_way_1 rfl (lv_at hl 1 rfl) ?_
  refine r_V [] E G (c_X9_isStreet l Z q S Y p1 hI) kX9_isStreet m_755 0 rfl rfl ⟨Nat.le_of_ble_eq_true rfl, Nat.le_of_ble_eq_true rfl⟩ hl dX9_way_2 rfl rfl (Nat.le_of_ble_eq_true rfl) ⟨Nat.zero_le _, Nat.zero_le _⟩ (fun H locs G => ?_)
  refine r_eqb (tgt := 30) hx hb dX9_way_5 (by decide) (fun c_5 => ?_) (fun c_5 => ?_)
  · skip
    refine lv_aload_n hx hb dX9_way_30 rfl (lv_at hl 0 rfl) ?_
    refine lv_iconst (v := 1) hx hb dX9_way_31 (by decide) ?_
    refine r_V [] E G (c_X9_finds l Z q S Y 1 (by decide)) kX9_finds m_746 0 rfl rfl ⟨Nat.le_of_ble_eq_true rfl, Nat.le_of_ble_eq_true rfl⟩ hl dX9_way_32 rfl rfl (Nat.le_of_ble_eq_true rfl) ⟨Nat.zero_le _, Nat.zero_le _⟩ (fun H locs G => ?_)
    have hs : (sp_way S p1 p2 p3) = ((fnd S (-1000000 - 1)).1, (fnd S (-1000000 - 1)).2) := by first | rfl | (simp [sp_way, cm6, fq1, fq2, fq3, fq4, fq5, c_5]; done) | (simp_all [sp_way, cm6, fq1, fq2, fq3, fq4, fq5]; done)
    exact r_ret E G hr hlk hQ (by rw [hs]) (by rw [hs]) dX9_way_35
  · skip
    refine lv_aload_n hx hb dX9_way_8 rfl (lv_at hl 0 rfl) ?_
    refine lv_iload_n hx hb dX9_way_9 rfl (lv_at hl 2 rfl) ?_
    refine r_V [] E G (c_X9_isStreet l Z q S Y p2 hI) kX9_isStreet m_755 0 rfl rfl ⟨Nat.le_of_ble_eq_true rfl, Nat.le_of_ble_eq_true rfl⟩ hl dX9_way_10 rfl rfl (Nat.le_of_ble_eq_true rfl) ⟨Nat.zero_le _, Nat.zero_le _⟩ (fun H locs G => ?_)
    refine r_eqb (tgt := 30) hx hb dX9_way_13 (by decide) (fun c_13 => ?_) (fun c_13 => ?_)
    · skip
      refine lv_aload_n hx hb dX9_way_30 rfl (lv_at hl 0 rfl) ?_
      refine lv_iconst (v := 1) hx hb dX9_way_31 (by decide) ?_
      refine r_V [] E G (c_X9_finds l Z q S Y 1 (by decide)) kX9_finds m_746 0 rfl rfl ⟨Nat.le_of_ble_eq_true rfl, Nat.le_of_ble_eq_true rfl⟩ hl dX9_way_32 rfl rfl (Nat.le_of_ble_eq_true rfl) ⟨Nat.zero_le _, Nat.zero_le _⟩ (fun H locs G => ?_)
      have hs : (sp_way S p1 p2 p3) = ((fnd S (-1000000 - 1)).1, (fnd S (-1000000 - 1)).2) := by first | rfl | (simp [sp_way, cm6, fq1, fq2, fq3, fq4, fq5, c_5, c_13]; done) | (simp_all [sp_way, cm6, fq1, fq2, fq3, fq4, fq5]; done)
      exact r_ret E G hr hlk hQ (by rw [hs]) (by rw [hs]) dX9_way_35
    · skip
      refine lv_iload_n hx hb dX9_way_16 rfl (lv_at hl 1 rfl) ?_
      refine lv_iload_n hx hb dX9_way_17 rfl (lv_at hl 2 rfl) ?_
      refine lv_icmp_eq (tgt := 30) hx hb dX9_way_18 (by decide) (fun c_18 => ?_) (fun c_18 => ?_)
      · skip
        refine lv_aload_n hx hb dX9_way_30 rfl (lv_at hl 0 rfl) ?_
        refine lv_iconst (v := 1) hx hb dX9_way_31 (by decide) ?_
        refine r_V [] E G (c_X9_finds l Z q S Y 1 (by decide)) kX9_finds m_746 0 rfl rfl ⟨Nat.le_of_ble_eq_true rfl, Nat.le_of_ble_eq_true rfl⟩ hl dX9_way_32 rfl rfl (Nat.le_of_ble_eq_true rfl) ⟨Nat.zero_le _, Nat.zero_le _⟩ (fun H locs G => ?_)
        have hs : (sp_way S p1 p2 p3) = ((fnd S (-1000000 - 1)).1, (fnd S (-1000000 - 1)).2) := by first | rfl | (simp [sp_way, cm6, fq1, fq2, fq3, fq4, fq5, c_5, c_13, c_18]; done) | (simp_all [sp_way, cm6, fq1, fq2, fq3, fq4, fq5]; done)
        exact r_ret E G hr hlk hQ (by rw [hs]) (by rw [hs]) dX9_way_35
      · skip
        refine lv_iload_n hx hb dX9_way_21 rfl (lv_at hl 3 rfl) ?_
        refine lv_iconst (v := 0) hx hb dX9_way_22 (by decide) ?_
        refine lv_iconst (v := 3) hx hb dX9_way_23 (by decide) ?_
        refine r_S [] E G (c_X9_in l Z q S Y p3 0 3) kX9_in m_743 ⟨Nat.le_of_ble_eq_true rfl, Nat.le_of_ble_eq_true rfl⟩ hl dX9_way_24 rfl rfl (Nat.le_of_ble_eq_true rfl) ⟨Nat.zero_le _, Nat.zero_le _⟩ (fun H locs G => ?_)
        refine r_neb (tgt := 36) hx hb dX9_way_27 (by decide) (fun c_27 => ?_) (fun c_27 => ?_)
        · skip
          refine lv_aload_n hx hb dX9_way_36 rfl (lv_at hl 0 rfl) ?_
          refine gM_0_11 E G m_644 dX9_way_37 ?_
          refine lv_bipush (v := 6) hx hb dX9_way_40 (by decide) ?_
          refine lv_iload_n hx hb dX9_way_42 rfl (lv_at hl 1 rfl) ?_
          refine lv_imul hx hb dX9_way_43 ?_
          refine lv_iload_n hx hb dX9_way_44 rfl (lv_at hl 2 rfl) ?_
          refine lv_iadd hx hb dX9_way_45 ?_
          refine aM_2 E G (iy_wy hI c_5 c_13) dX9_way_46 ?_
          refine lv_istore (lv' := [(4, .int (ar (s_wy S) ((6 * p1) + p2))), (0, .ref (q 0)), (1, .int (p1)), (2, .int (p2)), (3, .int (p3))]) hx hb dX9_way_47 hl (by decide) rfl (fun ls hl => ?_)
          refine lv_aload_n hx hb dX9_way_49 rfl (lv_at hl 1 rfl) ?_
          refine gM_0_11 E G m_644 dX9_way_50 ?_
          refine lv_bipush (v := 6) hx hb dX9_way_53 (by decide) ?_
          refine lv_iload_n hx hb dX9_way_55 rfl (lv_at hl 2 rfl) ?_
          refine lv_imul hx hb dX9_way_56 ?_
          refine lv_iload_n hx hb dX9_way_57 rfl (lv_at hl 3 rfl) ?_
          refine lv_iadd hx hb dX9_way_58 ?_
          refine lv_iload_n hx hb dX9_way_59 rfl (lv_at hl 4 rfl) ?_
          refine tM_2 E G (iy_wy hI c_5 c_13) dX9_way_60 (fun H locs G => ?_)
          refine lv_aload_n hx hb dX9_way_61 rfl (lv_at hl 1 rfl) ?_
          refine gM_0_11 E G m_644 dX9_way_62 ?_
          refine lv_bipush (v := 6) hx hb dX9_way_65 (by decide) ?_
          refine lv_iload_n hx hb dX9_way_67 rfl (lv_at hl 3 rfl) ?_
          refine lv_imul hx hb dX9_way_68 ?_
          refine lv_iload_n hx hb dX9_way_69 rfl (lv_at hl 2 rfl) ?_
          refine lv_iadd hx hb dX9_way_70 ?_
          refine lv_iload_n hx hb dX9_way_71 rfl (lv_at hl 4 rfl) ?_
          refine tM_2 E G (iy_wy hI c_13 c_5) dX9_way_72 (fun H locs G => ?_)
          have G := GW.cast (congrArg (fun f => MW Z q (u_wy (u_wy S (au (s_wy S) ((6 * p1) + p2) p3)) (au f ((6 * p2) + p1) p3)) (Y)) (es_s_wy _ _)) G
          have G := GW.cast (congrArg (fun T => MW Z q T Y) (uu_s_wy _ _ _)) G
          refine lv_iload hx hb dX9_way_73 (lv_at hl 0 rfl) ?_
          have hs : (sp_way S p1 p2 p3) = (ar (s_wy S) ((6 * p1) + p2), u_wy S (au (au (s_wy S) ((6 * p1) + p2) p3) ((6 * p2) + p1) p3)) := by first | rfl | (simp [sp_way, cm6, fq1, fq2, fq3, fq4, fq5, c_5, c_13, c_18, c_27]; done) | (simp_all [sp_way, cm6, fq1, fq2, fq3, fq4, fq5]; done)
          exact r_ret E G hr hlk hQ (by rw [hs]) (by rw [hs]) dX9_way_75
        · skip
          refine lv_aload_n hx hb dX9_way_30 rfl (lv_at hl 0 rfl) ?_
          refine lv_iconst (v := 1) hx hb dX9_way_31 (by decide) ?_
          refine r_V [] E G (c_X9_finds l Z q S Y 1 (by decide)) kX9_finds m_746 0 rfl rfl ⟨Nat.le_of_ble_eq_true rfl, Nat.le_of_ble_eq_true rfl⟩ hl dX9_way_32 rfl rfl (Nat.le_of_ble_eq_true rfl) ⟨Nat.zero_le _, Nat.zero_le _⟩ (fun H locs G => ?_)
          have hs : (sp_way S p1 p2 p3) = ((fnd S (-1000000 - 1)).1, (fnd S (-1000000 - 1)).2) := by first | rfl | (simp [sp_way, cm6, fq1, fq2, fq3, fq4, fq5, c_5, c_13, c_18, c_27]; done) | (simp_all [sp_way, cm6, fq1, fq2, fq3, fq4, fq5]; done)
          exact r_ret E G hr hlk hQ (by rw [hs]) (by rw [hs]) dX9_way_35
set_option maxHeartbeats 4000000 in
set_option maxRecDepth 100000 in
theorem c_X9_wish (l : Launch) (Z : ZT) (q : Nat → Nat) (S : St) (Y : YM) (p1 p2 p3 : Int32) (hI : Inv S) : CT l Z yX9_wish cX9_wish 5 (some .int) 3 [.ref (q 0), .int (p1), .int (p2), .int (p3)] (MW Z q S Y) (some (.int ((sp_wish S p1 p2 p3).1))) (MW Z q ((sp_wish S p1 p2 p3).2) (Y)) := by
  refine CE.mk rfl (Nat.le_of_ble_eq_true rfl) (fun p e s m args below meth c A Qx ls E hr hlk hnm hQ G hl => ?_)
  have hx := E.1.1
  have hb := E.1.2.1
  have hl : lv_has ls 5 [(0, .ref (q 0)), (1, .int (p1)), (2, .int (p2)), (3, .int (p3))] := hl
  refine lv_aload_n hx hb dX9_wish_0 rfl (lv_at hl 0 rfl) ?_
  refine lv_iload_n hx hb dX9_wish_1 rfl (lv_at hl 1 rfl) ?_
  refine r_V [] E G (c_X9_isStreet l Z q S Y p1 hI) kX9_isStreet m_755 0 rfl rfl ⟨Nat.le_of_ble_eq_true rfl, Nat.le_of_ble_eq_true rfl⟩ hl dX9_wish_2 rfl rfl (Nat.le_of_ble_eq_true rfl) ⟨Nat.zero_le _, Nat.zero_le _⟩ (fun H locs G => ?_)
  refine r_eqb (tgt := 26) hx hb dX9_wish_5 (by decide) (fun c_5 => ?_) (fun c_5 => ?_)
  · skip
    refine lv_aload_n hx hb dX9_wish_26 rfl (lv_at hl 0 rfl) ?_
    refine lv_iconst (v := 1) hx hb dX9_wish_27 (by decide) ?_
    refine r_V [] E G (c_X9_finds l Z q S Y 1 (by decide)) kX9_finds m_746 0 rfl rfl ⟨Nat.le_of_ble_eq_true rfl, Nat.le_of_ble_eq_true rfl⟩ hl dX9_wish_28 rfl rfl (Nat.le_of_ble_eq_true rfl) ⟨Nat.zero_le _, Nat.zero_le _⟩ (fun H locs G => ?_)
    have hs : (sp_wish S p1 p2 p3) = ((fnd S (-1000000 - 1)).1, (fnd S (-1000000 - 1)).2) := by first | rfl | (simp [sp_wish, cm12, fq1, fq2, fq3, fq4, fq5, c_5]; done) | (simp_all [sp_wish, cm12, fq1, fq2, fq3, fq4, fq5]; done)
    exact r_ret E G hr hlk hQ (by rw [hs]) (by rw [hs]) dX9_wish_31
  · skip
    refine lv_iload_n hx hb dX9_wish_8 rfl (lv_at hl 2 rfl) ?_
    refine r_S [] E G (c_X9_isHour l Z q S Y p2) kX9_isHour m_763 ⟨Nat.le_of_ble_eq_true rfl, Nat.le_of_ble_eq_true rfl⟩ hl dX9_wish_9 rfl rfl (Nat.le_of_ble_eq_true rfl) ⟨Nat.zero_le _, Nat.zero_le _⟩ (fun H locs G => ?_)
    refine r_eqb (tgt := 26) hx hb dX9_wish_12 (by decide) (fun c_12 => ?_) (fun c_12 => ?_)
    · skip
      refine lv_aload_n hx hb dX9_wish_26 rfl (lv_at hl 0 rfl) ?_
      refine lv_iconst (v := 1) hx hb dX9_wish_27 (by decide) ?_
      refine r_V [] E G (c_X9_finds l Z q S Y 1 (by decide)) kX9_finds m_746 0 rfl rfl ⟨Nat.le_of_ble_eq_true rfl, Nat.le_of_ble_eq_true rfl⟩ hl dX9_wish_28 rfl rfl (Nat.le_of_ble_eq_true rfl) ⟨Nat.zero_le _, Nat.zero_le _⟩ (fun H locs G => ?_)
      have hs : (sp_wish S p1 p2 p3) = ((fnd S (-1000000 - 1)).1, (fnd S (-1000000 - 1)).2) := by first | rfl | (simp [sp_wish, cm12, fq1, fq2, fq3, fq4, fq5, c_5, c_12]; done) | (simp_all [sp_wish, cm12, fq1, fq2, fq3, fq4, fq5]; done)
      exact r_ret E G hr hlk hQ (by rw [hs]) (by rw [hs]) dX9_wish_31
    · skip
      refine lv_iload_n hx hb dX9_wish_15 rfl (lv_at hl 3 rfl) ?_
      refine lv_iconst (v := 0) hx hb dX9_wish_16 (by decide) ?_
      refine lv_sipush (v := 200) hx hb dX9_wish_17 (by decide) ?_
      refine r_S [] E G (c_X9_in l Z q S Y p3 0 200) kX9_in m_743 ⟨Nat.le_of_ble_eq_true rfl, Nat.le_of_ble_eq_true rfl⟩ hl dX9_wish_20 rfl rfl (Nat.le_of_ble_eq_true rfl) ⟨Nat.zero_le _, Nat.zero_le _⟩ (fun H locs G => ?_)
      refine r_neb (tgt := 32) hx hb dX9_wish_23 (by decide) (fun c_23 => ?_) (fun c_23 => ?_)
      · skip
        refine lv_aload_n hx hb dX9_wish_32 rfl (lv_at hl 0 rfl) ?_
        refine gM_0_12 E G m_645 dX9_wish_33 ?_
        refine lv_bipush (v := 12) hx hb dX9_wish_36 (by decide) ?_
        refine lv_iload_n hx hb dX9_wish_38 rfl (lv_at hl 1 rfl) ?_
        refine lv_imul hx hb dX9_wish_39 ?_
        refine lv_iload_n hx hb dX9_wish_40 rfl (lv_at hl 2 rfl) ?_
        refine lv_iadd hx hb dX9_wish_41 ?_
        refine aM_3 E G (iy_wi hI c_5 c_12) dX9_wish_42 ?_
        refine lv_istore (lv' := [(4, .int (ar (s_wi S) ((12 * p1) + p2))), (0, .ref (q 0)), (1, .int (p1)), (2, .int (p2)), (3, .int (p3))]) hx hb dX9_wish_43 hl (by decide) rfl (fun ls hl => ?_)
        refine lv_aload_n hx hb dX9_wish_45 rfl (lv_at hl 1 rfl) ?_
        refine gM_0_12 E G m_645 dX9_wish_46 ?_
        refine lv_bipush (v := 12) hx hb dX9_wish_49 (by decide) ?_
        refine lv_iload_n hx hb dX9_wish_51 rfl (lv_at hl 2 rfl) ?_
        refine lv_imul hx hb dX9_wish_52 ?_
        refine lv_iload_n hx hb dX9_wish_53 rfl (lv_at hl 3 rfl) ?_
        refine lv_iadd hx hb dX9_wish_54 ?_
        refine lv_iload_n hx hb dX9_wish_55 rfl (lv_at hl 4 rfl) ?_
        refine tM_3 E G (iy_wi hI c_5 c_12) dX9_wish_56 (fun H locs G => ?_)
        refine lv_iload hx hb dX9_wish_57 (lv_at hl 0 rfl) ?_
        have hs : (sp_wish S p1 p2 p3) = (ar (s_wi S) ((12 * p1) + p2), u_wi S (au (s_wi S) ((12 * p1) + p2) p3)) := by first | rfl | (simp [sp_wish, cm12, fq1, fq2, fq3, fq4, fq5, c_5, c_12, c_23]; done) | (simp_all [sp_wish, cm12, fq1, fq2, fq3, fq4, fq5]; done)
        exact r_ret E G hr hlk hQ (by rw [hs]) (by rw [hs]) dX9_wish_59
      · skip
        refine lv_aload_n hx hb dX9_wish_26 rfl (lv_at hl 0 rfl) ?_
        refine lv_iconst (v := 1) hx hb dX9_wish_27 (by decide) ?_
        refine r_V [] E G (c_X9_finds l Z q S Y 1 (by decide)) kX9_finds m_746 0 rfl rfl ⟨Nat.le_of_ble_eq_true rfl, Nat.le_of_ble_eq_true rfl⟩ hl dX9_wish_28 rfl rfl (Nat.le_of_ble_eq_true rfl) ⟨Nat.zero_le _, Nat.zero_le _⟩ (fun H locs G => ?_)
        have hs : (sp_wish S p1 p2 p3) = ((fnd S (-1000000 - 1)).1, (fnd S (-1000000 - 1)).2) := by first | rfl | (simp [sp_wish, cm12, fq1, fq2, fq3, fq4, fq5, c_5, c_12, c_23]; done) | (simp_all [sp_wish, cm12, fq1, fq2, fq3, fq4, fq5]; done)
        exact r_ret E G hr hlk hQ (by rw [hs]) (by rw [hs]) dX9_wish_31
set_option maxHeartbeats 4000000 in
set_option maxRecDepth 100000 in
theorem c_X9_heat (l : Launch) (Z : ZT) (q : Nat → Nat) (S : St) (Y : YM) (p1 : Int32) (hI : Inv S) : CT l Z yX9_heat cX9_heat 3 (some .int) 3 [.ref (q 0), .int (p1)] (MW Z q S Y) (some (.int ((sp_heat S p1).1))) (MW Z q ((sp_heat S p1).2) (Y)) := by
  refine CE.mk rfl (Nat.le_of_ble_eq_true rfl) (fun p e s m args below meth c A Qx ls E hr hlk hnm hQ G hl => ?_)
  have hx := E.1.1
  have hb := E.1.2.1
  have hl : lv_has ls 3 [(0, .ref (q 0)), (1, .int (p1))] := hl
  refine lv_iload_n hx hb dX9_heat_0 rfl (lv_at hl 1 rfl) ?_
  refine lv_iconst (v := 0) hx hb dX9_heat_1 (by decide) ?_
  refine lv_iconst (v := 4) hx hb dX9_heat_2 (by decide) ?_
  refine r_S [] E G (c_X9_in l Z q S Y p1 0 4) kX9_in m_743 ⟨Nat.le_of_ble_eq_true rfl, Nat.le_of_ble_eq_true rfl⟩ hl dX9_heat_3 rfl rfl (Nat.le_of_ble_eq_true rfl) ⟨Nat.zero_le _, Nat.zero_le _⟩ (fun H locs G => ?_)
  refine r_neb (tgt := 15) hx hb dX9_heat_6 (by decide) (fun c_6 => ?_) (fun c_6 => ?_)
  · skip
    refine lv_aload_n hx hb dX9_heat_15 rfl (lv_at hl 0 rfl) ?_
    refine gM_0_5 E G m_638 dX9_heat_16 ?_
    refine lv_istore_n (lv' := [(2, .int (s_he S)), (0, .ref (q 0)), (1, .int (p1))]) hx hb dX9_heat_19 rfl hl (by decide) rfl (fun ls hl => ?_)
    refine lv_aload_n hx hb dX9_heat_20 rfl (lv_at hl 1 rfl) ?_
    refine lv_iload_n hx hb dX9_heat_21 rfl (lv_at hl 2 rfl) ?_
    refine pM_0_5 E G m_638 dX9_heat_22 (fun H locs G => ?_)
    refine lv_iload_n hx hb dX9_heat_25 rfl (lv_at hl 0 rfl) ?_
    have hs : (sp_heat S p1) = (s_he S, u_he S p1) := by first | rfl | (simp [sp_heat, fq1, fq2, fq3, fq4, fq5, c_6]; done) | (simp_all [sp_heat, fq1, fq2, fq3, fq4, fq5]; done)
    exact r_ret E G hr hlk hQ (by rw [hs]) (by rw [hs]) dX9_heat_26
  · skip
    refine lv_aload_n hx hb dX9_heat_9 rfl (lv_at hl 0 rfl) ?_
    refine lv_iconst (v := 1) hx hb dX9_heat_10 (by decide) ?_
    refine r_V [] E G (c_X9_finds l Z q S Y 1 (by decide)) kX9_finds m_746 0 rfl rfl ⟨Nat.le_of_ble_eq_true rfl, Nat.le_of_ble_eq_true rfl⟩ hl dX9_heat_11 rfl rfl (Nat.le_of_ble_eq_true rfl) ⟨Nat.zero_le _, Nat.zero_le _⟩ (fun H locs G => ?_)
    have hs : (sp_heat S p1) = ((fnd S (-1000000 - 1)).1, (fnd S (-1000000 - 1)).2) := by first | rfl | (simp [sp_heat, fq1, fq2, fq3, fq4, fq5, c_6]; done) | (simp_all [sp_heat, fq1, fq2, fq3, fq4, fq5]; done)
    exact r_ret E G hr hlk hQ (by rw [hs]) (by rw [hs]) dX9_heat_14
set_option maxHeartbeats 4000000 in
set_option maxRecDepth 100000 in
theorem c_X9_van (l : Launch) (Z : ZT) (q : Nat → Nat) (S : St) (Y : YM) (p1 : Int32) (hI : Inv S) : CT l Z yX9_van cX9_van 2 (some .int) 3 [.ref (q 0), .int (p1)] (MW Z q S Y) (some (.int ((sp_van S p1).1))) (MW Z q ((sp_van S p1).2) (Y)) := by
  refine CE.mk rfl (Nat.le_of_ble_eq_true rfl) (fun p e s m args below meth c A Qx ls E hr hlk hnm hQ G hl => ?_)
  have hx := E.1.1
  have hb := E.1.2.1
  have hl : lv_has ls 2 [(0, .ref (q 0)), (1, .int (p1))] := hl
  refine lv_iload_n hx hb dX9_van_0 rfl (lv_at hl 1 rfl) ?_
  refine lv_iconst (v := 0) hx hb dX9_van_1 (by decide) ?_
  refine lv_iconst (v := 2) hx hb dX9_van_2 (by decide) ?_
  refine r_S [] E G (c_X9_in l Z q S Y p1 0 2) kX9_in m_743 ⟨Nat.le_of_ble_eq_true rfl, Nat.le_of_ble_eq_true rfl⟩ hl dX9_van_3 rfl rfl (Nat.le_of_ble_eq_true rfl) ⟨Nat.zero_le _, Nat.zero_le _⟩ (fun H locs G => ?_)
  refine r_neb (tgt := 15) hx hb dX9_van_6 (by decide) (fun c_6 => ?_) (fun c_6 => ?_)
  · skip
    refine lv_aload_n hx hb dX9_van_15 rfl (lv_at hl 0 rfl) ?_
    refine gM_0_1 E G m_634 dX9_van_16 ?_
    refine lv_iconst (v := 4) hx hb dX9_van_19 (by decide) ?_
    refine lv_icmp_ne (tgt := 29) hx hb dX9_van_20 (by decide) (fun c_20 => ?_) (fun c_20 => ?_)
    · skip
      refine lv_aload_n hx hb dX9_van_29 rfl (lv_at hl 0 rfl) ?_
      refine gM_0_13 E G m_646 dX9_van_30 ?_
      refine lv_aload_n hx hb dX9_van_33 rfl (lv_at hl 0 rfl) ?_
      refine gM_0_1 E G m_634 dX9_van_34 ?_
      refine lv_iload_n hx hb dX9_van_37 rfl (lv_at hl 1 rfl) ?_
      refine tM_4 E G (ix_lim hI.va.1 (ne_lim hI.va.2 c_20) (by decide)) dX9_van_38 (fun H locs G => ?_)
      refine lv_aload_n hx hb dX9_van_39 rfl (lv_at hl 0 rfl) ?_
      refine gM_0_14 E G m_647 dX9_van_40 ?_
      refine lv_aload_n hx hb dX9_van_43 rfl (lv_at hl 0 rfl) ?_
      refine gM_0_1 E G m_634 dX9_van_44 ?_
      refine lv_topc (e_s_va_ki _ _) ?_
      refine lv_iconst (v := 0) hx hb dX9_van_47 (by decide) ?_
      refine tM_5 E G (ix_lim hI.va.1 (ne_lim hI.va.2 c_20) (by decide)) dX9_van_48 (fun H locs G => ?_)
      have G := GW.cast (congrArg (fun f => MW Z q (u_so (u_ki S (au (s_ki S) (s_va S) p1)) (au f (s_va S) 0)) (Y)) (e_s_so_ki _ _)) G
      refine lv_aload_n hx hb dX9_van_49 rfl (lv_at hl 0 rfl) ?_
      refine gM_0_15 E G m_648 dX9_van_50 ?_
      refine lv_aload_n hx hb dX9_van_53 rfl (lv_at hl 0 rfl) ?_
      refine gM_0_1 E G m_634 dX9_van_54 ?_
      refine lv_topc ((e_s_va_so _ _).trans (e_s_va_ki _ _)) ?_
      refine lv_bipush (v := 63) hx hb dX9_van_57 (by decide) ?_
      refine tM_6 E G (ix_lim hI.va.1 (ne_lim hI.va.2 c_20) (by decide)) dX9_van_59 (fun H locs G => ?_)
      have G := GW.cast (congrArg (fun f => MW Z q (u_li (u_so (u_ki S (au (s_ki S) (s_va S) p1)) (au (s_so S) (s_va S) 0)) (au f (s_va S) 63)) (Y)) ((e_s_li_so _ _).trans (e_s_li_ki _ _))) G
      refine lv_aload_n hx hb dX9_van_60 rfl (lv_at hl 0 rfl) ?_
      refine lv_dup hx hb dX9_van_61 rfl ?_
      refine gM_0_1 E G m_634 dX9_van_62 ?_
      refine lv_topc ((e_s_va_li _ _).trans ((e_s_va_so _ _).trans (e_s_va_ki _ _))) ?_
      refine lv_iconst (v := 1) hx hb dX9_van_65 (by decide) ?_
      refine lv_iadd hx hb dX9_van_66 ?_
      refine pM_0_1 E G m_634 dX9_van_67 (fun H locs G => ?_)
      refine lv_aload_n hx hb dX9_van_70 rfl (lv_at hl 0 rfl) ?_
      refine gM_0_1 E G m_634 dX9_van_71 ?_
      refine lv_topc (es_s_va _ _) ?_
      refine lv_iconst (v := 1) hx hb dX9_van_74 (by decide) ?_
      refine lv_isub hx hb dX9_van_75 ?_
      have hs : (sp_van S p1) = (((s_va S) + 1) - 1, u_va (u_li (u_so (u_ki S (au (s_ki S) (s_va S) p1)) (au (s_so S) (s_va S) 0)) (au (s_li S) (s_va S) 63)) ((s_va S) + 1)) := by first | rfl | (simp [sp_van, isKi, fq1, fq2, fq3, fq4, fq5, c_6, c_20]; done) | (simp_all [sp_van, isKi, fq1, fq2, fq3, fq4, fq5]; done)
      exact r_ret E G hr hlk hQ (by rw [hs]) (by rw [hs]) dX9_van_76
    · skip
      refine lv_aload_n hx hb dX9_van_23 rfl (lv_at hl 0 rfl) ?_
      refine lv_iconst (v := 4) hx hb dX9_van_24 (by decide) ?_
      refine r_V [] E G (c_X9_finds l Z q S Y 4 (by decide)) kX9_finds m_746 0 rfl rfl ⟨Nat.le_of_ble_eq_true rfl, Nat.le_of_ble_eq_true rfl⟩ hl dX9_van_25 rfl rfl (Nat.le_of_ble_eq_true rfl) ⟨Nat.zero_le _, Nat.zero_le _⟩ (fun H locs G => ?_)
      have hs : (sp_van S p1) = ((fnd S (-1000000 - 4)).1, (fnd S (-1000000 - 4)).2) := by first | rfl | (simp [sp_van, isKi, fq1, fq2, fq3, fq4, fq5, c_6, c_20]; done) | (simp_all [sp_van, isKi, fq1, fq2, fq3, fq4, fq5]; done)
      exact r_ret E G hr hlk hQ (by rw [hs]) (by rw [hs]) dX9_van_28
  · skip
    refine lv_aload_n hx hb dX9_van_9 rfl (lv_at hl 0 rfl) ?_
    refine lv_iconst (v := 1) hx hb dX9_van_10 (by decide) ?_
    refine r_V [] E G (c_X9_finds l Z q S Y 1 (by decide)) kX9_finds m_746 0 rfl rfl ⟨Nat.le_of_ble_eq_true rfl, Nat.le_of_ble_eq_true rfl⟩ hl dX9_van_11 rfl rfl (Nat.le_of_ble_eq_true rfl) ⟨Nat.zero_le _, Nat.zero_le _⟩ (fun H locs G => ?_)
    have hs : (sp_van S p1) = ((fnd S (-1000000 - 1)).1, (fnd S (-1000000 - 1)).2) := by first | rfl | (simp [sp_van, isKi, fq1, fq2, fq3, fq4, fq5, c_6]; done) | (simp_all [sp_van, isKi, fq1, fq2, fq3, fq4, fq5]; done)
    exact r_ret E G hr hlk hQ (by rw [hs]) (by rw [hs]) dX9_van_14
set_option maxHeartbeats 4000000 in
set_option maxRecDepth 100000 in
theorem c_X9_as (l : Launch) (Z : ZT) (q : Nat → Nat) (S : St) (Y : YM) (p1 p2 : Int32) (hI : Inv S) : CT l Z yX9_as cX9_as 3 (some .int) 3 [.ref (q 0), .int (p1), .int (p2)] (MW Z q S Y) (some (.int ((sp_as S p1 p2).1))) (MW Z q ((sp_as S p1 p2).2) (Y)) := by
  refine CE.mk rfl (Nat.le_of_ble_eq_true rfl) (fun p e s m args below meth c A Qx ls E hr hlk hnm hQ G hl => ?_)
  have hx := E.1.1
  have hb := E.1.2.1
  have hl : lv_has ls 3 [(0, .ref (q 0)), (1, .int (p1)), (2, .int (p2))] := hl
  refine lv_aload_n hx hb dX9_as_0 rfl (lv_at hl 0 rfl) ?_
  refine lv_iload_n hx hb dX9_as_1 rfl (lv_at hl 1 rfl) ?_
  refine r_V [] E G (c_X9_isVan l Z q S Y p1 hI) kX9_isVan m_778 0 rfl rfl ⟨Nat.le_of_ble_eq_true rfl, Nat.le_of_ble_eq_true rfl⟩ hl dX9_as_2 rfl rfl (Nat.le_of_ble_eq_true rfl) ⟨Nat.zero_le _, Nat.zero_le _⟩ (fun H locs G => ?_)
  refine r_eqb (tgt := 17) hx hb dX9_as_5 (by decide) (fun c_5 => ?_) (fun c_5 => ?_)
  · skip
    refine lv_aload_n hx hb dX9_as_17 rfl (lv_at hl 0 rfl) ?_
    refine lv_iconst (v := 1) hx hb dX9_as_18 (by decide) ?_
    refine r_V [] E G (c_X9_finds l Z q S Y 1 (by decide)) kX9_finds m_746 0 rfl rfl ⟨Nat.le_of_ble_eq_true rfl, Nat.le_of_ble_eq_true rfl⟩ hl dX9_as_19 rfl rfl (Nat.le_of_ble_eq_true rfl) ⟨Nat.zero_le _, Nat.zero_le _⟩ (fun H locs G => ?_)
    have hs : (sp_as S p1 p2) = ((fnd S (-1000000 - 1)).1, (fnd S (-1000000 - 1)).2) := by first | rfl | (simp [sp_as, isKi, fq1, fq2, fq3, fq4, fq5, c_5]; done) | (simp_all [sp_as, isKi, fq1, fq2, fq3, fq4, fq5]; done)
    exact r_ret E G hr hlk hQ (by rw [hs]) (by rw [hs]) dX9_as_22
  · skip
    refine lv_iload_n hx hb dX9_as_8 rfl (lv_at hl 2 rfl) ?_
    refine lv_iconst (v := 0) hx hb dX9_as_9 (by decide) ?_
    refine lv_iconst (v := 2) hx hb dX9_as_10 (by decide) ?_
    refine r_S [] E G (c_X9_in l Z q S Y p2 0 2) kX9_in m_743 ⟨Nat.le_of_ble_eq_true rfl, Nat.le_of_ble_eq_true rfl⟩ hl dX9_as_11 rfl rfl (Nat.le_of_ble_eq_true rfl) ⟨Nat.zero_le _, Nat.zero_le _⟩ (fun H locs G => ?_)
    refine r_neb (tgt := 23) hx hb dX9_as_14 (by decide) (fun c_14 => ?_) (fun c_14 => ?_)
    · skip
      refine lv_iload_n hx hb dX9_as_23 rfl (lv_at hl 2 rfl) ?_
      refine lv_if_eq (tgt := 37) hx hb dX9_as_24 (by decide) (fun c_24 => ?_) (fun c_24 => ?_)
      · skip
        refine lv_aload_n hx hb dX9_as_37 rfl (lv_at hl 0 rfl) ?_
        refine gM_0_14 E G m_647 dX9_as_38 ?_
        refine lv_iload_n hx hb dX9_as_41 rfl (lv_at hl 1 rfl) ?_
        refine aM_5 E G (ix_va hI c_5) dX9_as_42 ?_
        refine lv_goto (tgt := 51) hx hb dX9_as_43 (by decide) ?_
        have hs : (sp_as S p1 p2) = (ar (s_so S) p1, S) := by first | rfl | (simp [sp_as, isKi, fq1, fq2, fq3, fq4, fq5, c_5, c_14, c_24]; done) | (simp_all [sp_as, isKi, fq1, fq2, fq3, fq4, fq5]; done)
        exact r_ret E G hr hlk hQ (by rw [hs]) (by rw [hs]) dX9_as_51
      · skip
        refine lv_aload_n hx hb dX9_as_27 rfl (lv_at hl 0 rfl) ?_
        refine gM_0_13 E G m_646 dX9_as_28 ?_
        refine lv_iload_n hx hb dX9_as_31 rfl (lv_at hl 1 rfl) ?_
        refine aM_4 E G (ix_va hI c_5) dX9_as_32 ?_
        refine lv_iload_n hx hb dX9_as_33 rfl (lv_at hl 2 rfl) ?_
        refine lv_icmp_ne (tgt := 46) hx hb dX9_as_34 (by decide) (fun c_34 => ?_) (fun c_34 => ?_)
        · skip
          refine lv_aload_n hx hb dX9_as_46 rfl (lv_at hl 0 rfl) ?_
          refine lv_iconst (v := 5) hx hb dX9_as_47 (by decide) ?_
          refine r_V [] E G (c_X9_finds l Z q S Y 5 (by decide)) kX9_finds m_746 0 rfl rfl ⟨Nat.le_of_ble_eq_true rfl, Nat.le_of_ble_eq_true rfl⟩ hl dX9_as_48 rfl rfl (Nat.le_of_ble_eq_true rfl) ⟨Nat.zero_le _, Nat.zero_le _⟩ (fun H locs G => ?_)
          have hs : (sp_as S p1 p2) = ((fnd S (-1000000 - 5)).1, (fnd S (-1000000 - 5)).2) := by first | rfl | (simp [sp_as, isKi, fq1, fq2, fq3, fq4, fq5, c_5, c_14, c_24, c_34]; done) | (simp_all [sp_as, isKi, fq1, fq2, fq3, fq4, fq5]; done)
          exact r_ret E G hr hlk hQ (by rw [hs]) (by rw [hs]) dX9_as_51
        · skip
          refine lv_aload_n hx hb dX9_as_37 rfl (lv_at hl 0 rfl) ?_
          refine gM_0_14 E G m_647 dX9_as_38 ?_
          refine lv_iload_n hx hb dX9_as_41 rfl (lv_at hl 1 rfl) ?_
          refine aM_5 E G (ix_va hI c_5) dX9_as_42 ?_
          refine lv_goto (tgt := 51) hx hb dX9_as_43 (by decide) ?_
          have hs : (sp_as S p1 p2) = (ar (s_so S) p1, S) := by first | rfl | (simp [sp_as, isKi, fq1, fq2, fq3, fq4, fq5, c_5, c_14, c_24, c_34]; done) | (simp_all [sp_as, isKi, fq1, fq2, fq3, fq4, fq5]; done)
          exact r_ret E G hr hlk hQ (by rw [hs]) (by rw [hs]) dX9_as_51
    · skip
      refine lv_aload_n hx hb dX9_as_17 rfl (lv_at hl 0 rfl) ?_
      refine lv_iconst (v := 1) hx hb dX9_as_18 (by decide) ?_
      refine r_V [] E G (c_X9_finds l Z q S Y 1 (by decide)) kX9_finds m_746 0 rfl rfl ⟨Nat.le_of_ble_eq_true rfl, Nat.le_of_ble_eq_true rfl⟩ hl dX9_as_19 rfl rfl (Nat.le_of_ble_eq_true rfl) ⟨Nat.zero_le _, Nat.zero_le _⟩ (fun H locs G => ?_)
      have hs : (sp_as S p1 p2) = ((fnd S (-1000000 - 1)).1, (fnd S (-1000000 - 1)).2) := by first | rfl | (simp [sp_as, isKi, fq1, fq2, fq3, fq4, fq5, c_5, c_14]; done) | (simp_all [sp_as, isKi, fq1, fq2, fq3, fq4, fq5]; done)
      exact r_ret E G hr hlk hQ (by rw [hs]) (by rw [hs]) dX9_as_22
set_option maxHeartbeats 4000000 in
set_option maxRecDepth 100000 in
theorem c_X9_stock (l : Launch) (Z : ZT) (q : Nat → Nat) (S : St) (Y : YM) (p1 p2 : Int32) (hI : Inv S) : CT l Z yX9_stock cX9_stock 4 (some .int) 3 [.ref (q 0), .int (p1), .int (p2)] (MW Z q S Y) (some (.int ((sp_stock S p1 p2).1))) (MW Z q ((sp_stock S p1 p2).2) (Y)) := by
  refine CE.mk rfl (Nat.le_of_ble_eq_true rfl) (fun p e s m args below meth c A Qx ls E hr hlk hnm hQ G hl => ?_)
  have hx := E.1.1
  have hb := E.1.2.1
  have hl : lv_has ls 4 [(0, .ref (q 0)), (1, .int (p1)), (2, .int (p2))] := hl
  refine lv_aload_n hx hb dX9_stock_0 rfl (lv_at hl 0 rfl) ?_
  refine lv_iload_n hx hb dX9_stock_1 rfl (lv_at hl 1 rfl) ?_
  refine r_V [] E G (c_X9_isVan l Z q S Y p1 hI) kX9_isVan m_778 0 rfl rfl ⟨Nat.le_of_ble_eq_true rfl, Nat.le_of_ble_eq_true rfl⟩ hl dX9_stock_2 rfl rfl (Nat.le_of_ble_eq_true rfl) ⟨Nat.zero_le _, Nat.zero_le _⟩ (fun H locs G => ?_)
  refine r_eqb (tgt := 19) hx hb dX9_stock_5 (by decide) (fun c_5 => ?_) (fun c_5 => ?_)
  · skip
    refine lv_aload_n hx hb dX9_stock_19 rfl (lv_at hl 0 rfl) ?_
    refine lv_iconst (v := 1) hx hb dX9_stock_20 (by decide) ?_
    refine r_V [] E G (c_X9_finds l Z q S Y 1 (by decide)) kX9_finds m_746 0 rfl rfl ⟨Nat.le_of_ble_eq_true rfl, Nat.le_of_ble_eq_true rfl⟩ hl dX9_stock_21 rfl rfl (Nat.le_of_ble_eq_true rfl) ⟨Nat.zero_le _, Nat.zero_le _⟩ (fun H locs G => ?_)
    have hs : (sp_stock S p1 p2) = ((fnd S (-1000000 - 1)).1, (fnd S (-1000000 - 1)).2) := by first | rfl | (simp [sp_stock, fq1, fq2, fq3, fq4, fq5, c_5]; done) | (simp_all [sp_stock, fq1, fq2, fq3, fq4, fq5]; done)
    exact r_ret E G hr hlk hQ (by rw [hs]) (by rw [hs]) dX9_stock_24
  · skip
    refine lv_iload_n hx hb dX9_stock_8 rfl (lv_at hl 2 rfl) ?_
    refine lv_iconst (v := 0) hx hb dX9_stock_9 (by decide) ?_
    refine lv_sipush (v := 2000) hx hb dX9_stock_10 (by decide) ?_
    refine r_S [] E G (c_X9_in l Z q S Y p2 0 2000) kX9_in m_743 ⟨Nat.le_of_ble_eq_true rfl, Nat.le_of_ble_eq_true rfl⟩ hl dX9_stock_13 rfl rfl (Nat.le_of_ble_eq_true rfl) ⟨Nat.zero_le _, Nat.zero_le _⟩ (fun H locs G => ?_)
    refine r_neb (tgt := 25) hx hb dX9_stock_16 (by decide) (fun c_16 => ?_) (fun c_16 => ?_)
    · skip
      refine lv_aload_n hx hb dX9_stock_25 rfl (lv_at hl 0 rfl) ?_
      refine gM_0_14 E G m_647 dX9_stock_26 ?_
      refine lv_iload_n hx hb dX9_stock_29 rfl (lv_at hl 1 rfl) ?_
      refine aM_5 E G (ix_va hI c_5) dX9_stock_30 ?_
      refine lv_istore_n (lv' := [(3, .int (ar (s_so S) p1)), (0, .ref (q 0)), (1, .int (p1)), (2, .int (p2))]) hx hb dX9_stock_31 rfl hl (by decide) rfl (fun ls hl => ?_)
      refine lv_aload_n hx hb dX9_stock_32 rfl (lv_at hl 1 rfl) ?_
      refine gM_0_14 E G m_647 dX9_stock_33 ?_
      refine lv_iload_n hx hb dX9_stock_36 rfl (lv_at hl 2 rfl) ?_
      refine lv_iload_n hx hb dX9_stock_37 rfl (lv_at hl 3 rfl) ?_
      refine tM_5 E G (ix_va hI c_5) dX9_stock_38 (fun H locs G => ?_)
      refine lv_iload_n hx hb dX9_stock_39 rfl (lv_at hl 0 rfl) ?_
      have hs : (sp_stock S p1 p2) = (ar (s_so S) p1, u_so S (au (s_so S) p1 p2)) := by first | rfl | (simp [sp_stock, fq1, fq2, fq3, fq4, fq5, c_5, c_16]; done) | (simp_all [sp_stock, fq1, fq2, fq3, fq4, fq5]; done)
      exact r_ret E G hr hlk hQ (by rw [hs]) (by rw [hs]) dX9_stock_40
    · skip
      refine lv_aload_n hx hb dX9_stock_19 rfl (lv_at hl 0 rfl) ?_
      refine lv_iconst (v := 1) hx hb dX9_stock_20 (by decide) ?_
      refine r_V [] E G (c_X9_finds l Z q S Y 1 (by decide)) kX9_finds m_746 0 rfl rfl ⟨Nat.le_of_ble_eq_true rfl, Nat.le_of_ble_eq_true rfl⟩ hl dX9_stock_21 rfl rfl (Nat.le_of_ble_eq_true rfl) ⟨Nat.zero_le _, Nat.zero_le _⟩ (fun H locs G => ?_)
      have hs : (sp_stock S p1 p2) = ((fnd S (-1000000 - 1)).1, (fnd S (-1000000 - 1)).2) := by first | rfl | (simp [sp_stock, fq1, fq2, fq3, fq4, fq5, c_5, c_16]; done) | (simp_all [sp_stock, fq1, fq2, fq3, fq4, fq5]; done)
      exact r_ret E G hr hlk hQ (by rw [hs]) (by rw [hs]) dX9_stock_24
set_option maxHeartbeats 4000000 in
set_option maxRecDepth 100000 in
theorem c_X9_licence (l : Launch) (Z : ZT) (q : Nat → Nat) (S : St) (Y : YM) (p1 p2 : Int32) (hI : Inv S) : CT l Z yX9_licence cX9_licence 4 (some .int) 3 [.ref (q 0), .int (p1), .int (p2)] (MW Z q S Y) (some (.int ((sp_licence S p1 p2).1))) (MW Z q ((sp_licence S p1 p2).2) (Y)) := by
  refine CE.mk rfl (Nat.le_of_ble_eq_true rfl) (fun p e s m args below meth c A Qx ls E hr hlk hnm hQ G hl => ?_)
  have hx := E.1.1
  have hb := E.1.2.1
  have hl : lv_has ls 4 [(0, .ref (q 0)), (1, .int (p1)), (2, .int (p2))] := hl
  refine lv_aload_n hx hb dX9_licence_0 rfl (lv_at hl 0 rfl) ?_
  refine lv_iload_n hx hb dX9_licence_1 rfl (lv_at hl 1 rfl) ?_
  refine r_V [] E G (c_X9_isVan l Z q S Y p1 hI) kX9_isVan m_778 0 rfl rfl ⟨Nat.le_of_ble_eq_true rfl, Nat.le_of_ble_eq_true rfl⟩ hl dX9_licence_2 rfl rfl (Nat.le_of_ble_eq_true rfl) ⟨Nat.zero_le _, Nat.zero_le _⟩ (fun H locs G => ?_)
  refine r_eqb (tgt := 18) hx hb dX9_licence_5 (by decide) (fun c_5 => ?_) (fun c_5 => ?_)
  · skip
    refine lv_aload_n hx hb dX9_licence_18 rfl (lv_at hl 0 rfl) ?_
    refine lv_iconst (v := 1) hx hb dX9_licence_19 (by decide) ?_
    refine r_V [] E G (c_X9_finds l Z q S Y 1 (by decide)) kX9_finds m_746 0 rfl rfl ⟨Nat.le_of_ble_eq_true rfl, Nat.le_of_ble_eq_true rfl⟩ hl dX9_licence_20 rfl rfl (Nat.le_of_ble_eq_true rfl) ⟨Nat.zero_le _, Nat.zero_le _⟩ (fun H locs G => ?_)
    have hs : (sp_licence S p1 p2) = ((fnd S (-1000000 - 1)).1, (fnd S (-1000000 - 1)).2) := by first | rfl | (simp [sp_licence, fq1, fq2, fq3, fq4, fq5, c_5]; done) | (simp_all [sp_licence, fq1, fq2, fq3, fq4, fq5]; done)
    exact r_ret E G hr hlk hQ (by rw [hs]) (by rw [hs]) dX9_licence_23
  · skip
    refine lv_iload_n hx hb dX9_licence_8 rfl (lv_at hl 2 rfl) ?_
    refine lv_iconst (v := 0) hx hb dX9_licence_9 (by decide) ?_
    refine lv_bipush (v := 63) hx hb dX9_licence_10 (by decide) ?_
    refine r_S [] E G (c_X9_in l Z q S Y p2 0 63) kX9_in m_743 ⟨Nat.le_of_ble_eq_true rfl, Nat.le_of_ble_eq_true rfl⟩ hl dX9_licence_12 rfl rfl (Nat.le_of_ble_eq_true rfl) ⟨Nat.zero_le _, Nat.zero_le _⟩ (fun H locs G => ?_)
    refine r_neb (tgt := 24) hx hb dX9_licence_15 (by decide) (fun c_15 => ?_) (fun c_15 => ?_)
    · skip
      refine lv_aload_n hx hb dX9_licence_24 rfl (lv_at hl 0 rfl) ?_
      refine gM_0_15 E G m_648 dX9_licence_25 ?_
      refine lv_iload_n hx hb dX9_licence_28 rfl (lv_at hl 1 rfl) ?_
      refine aM_6 E G (ix_va hI c_5) dX9_licence_29 ?_
      refine lv_istore_n (lv' := [(3, .int (ar (s_li S) p1)), (0, .ref (q 0)), (1, .int (p1)), (2, .int (p2))]) hx hb dX9_licence_30 rfl hl (by decide) rfl (fun ls hl => ?_)
      refine lv_aload_n hx hb dX9_licence_31 rfl (lv_at hl 1 rfl) ?_
      refine gM_0_15 E G m_648 dX9_licence_32 ?_
      refine lv_iload_n hx hb dX9_licence_35 rfl (lv_at hl 2 rfl) ?_
      refine lv_iload_n hx hb dX9_licence_36 rfl (lv_at hl 3 rfl) ?_
      refine tM_6 E G (ix_va hI c_5) dX9_licence_37 (fun H locs G => ?_)
      refine lv_iload_n hx hb dX9_licence_38 rfl (lv_at hl 0 rfl) ?_
      have hs : (sp_licence S p1 p2) = (ar (s_li S) p1, u_li S (au (s_li S) p1 p2)) := by first | rfl | (simp [sp_licence, fq1, fq2, fq3, fq4, fq5, c_5, c_15]; done) | (simp_all [sp_licence, fq1, fq2, fq3, fq4, fq5]; done)
      exact r_ret E G hr hlk hQ (by rw [hs]) (by rw [hs]) dX9_licence_39
    · skip
      refine lv_aload_n hx hb dX9_licence_18 rfl (lv_at hl 0 rfl) ?_
      refine lv_iconst (v := 1) hx hb dX9_licence_19 (by decide) ?_
      refine r_V [] E G (c_X9_finds l Z q S Y 1 (by decide)) kX9_finds m_746 0 rfl rfl ⟨Nat.le_of_ble_eq_true rfl, Nat.le_of_ble_eq_true rfl⟩ hl dX9_licence_20 rfl rfl (Nat.le_of_ble_eq_true rfl) ⟨Nat.zero_le _, Nat.zero_le _⟩ (fun H locs G => ?_)
      have hs : (sp_licence S p1 p2) = ((fnd S (-1000000 - 1)).1, (fnd S (-1000000 - 1)).2) := by first | rfl | (simp [sp_licence, fq1, fq2, fq3, fq4, fq5, c_5, c_15]; done) | (simp_all [sp_licence, fq1, fq2, fq3, fq4, fq5]; done)
      exact r_ret E G hr hlk hQ (by rw [hs]) (by rw [hs]) dX9_licence_23
set_option maxHeartbeats 4000000 in
set_option maxRecDepth 100000 in
theorem c_X9_law (l : Launch) (Z : ZT) (q : Nat → Nat) (S : St) (Y : YM) (p1 p2 p3 : Int32) (hI : Inv S) : CT l Z yX9_law cX9_law 4 (some .int) 3 [.ref (q 0), .int (p1), .int (p2), .int (p3)] (MW Z q S Y) (some (.int ((sp_law S p1 p2 p3).1))) (MW Z q ((sp_law S p1 p2 p3).2) (Y)) := by
  refine CE.mk rfl (Nat.le_of_ble_eq_true rfl) (fun p e s m args below meth c A Qx ls E hr hlk hnm hQ G hl => ?_)
  have hx := E.1.1
  have hb := E.1.2.1
  have hl : lv_has ls 4 [(0, .ref (q 0)), (1, .int (p1)), (2, .int (p2)), (3, .int (p3))] := hl
  refine lv_iload_n hx hb dX9_law_0 rfl (lv_at hl 1 rfl) ?_
  refine r_S [] E G (c_X9_isHour l Z q S Y p1) kX9_isHour m_763 ⟨Nat.le_of_ble_eq_true rfl, Nat.le_of_ble_eq_true rfl⟩ hl dX9_law_1 rfl rfl (Nat.le_of_ble_eq_true rfl) ⟨Nat.zero_le _, Nat.zero_le _⟩ (fun H locs G => ?_)
  refine r_eqb (tgt := 24) hx hb dX9_law_4 (by decide) (fun c_4 => ?_) (fun c_4 => ?_)
  · skip
    refine lv_aload_n hx hb dX9_law_24 rfl (lv_at hl 0 rfl) ?_
    refine lv_iconst (v := 1) hx hb dX9_law_25 (by decide) ?_
    refine r_V [] E G (c_X9_finds l Z q S Y 1 (by decide)) kX9_finds m_746 0 rfl rfl ⟨Nat.le_of_ble_eq_true rfl, Nat.le_of_ble_eq_true rfl⟩ hl dX9_law_26 rfl rfl (Nat.le_of_ble_eq_true rfl) ⟨Nat.zero_le _, Nat.zero_le _⟩ (fun H locs G => ?_)
    have hs : (sp_law S p1 p2 p3) = ((fnd S (-1000000 - 1)).1, (fnd S (-1000000 - 1)).2) := by first | rfl | (simp [sp_law, fq1, fq2, fq3, fq4, fq5, c_4]; done) | (simp_all [sp_law, fq1, fq2, fq3, fq4, fq5]; done)
    exact r_ret E G hr hlk hQ (by rw [hs]) (by rw [hs]) dX9_law_29
  · skip
    refine lv_iload_n hx hb dX9_law_7 rfl (lv_at hl 2 rfl) ?_
    refine r_S [] E G (c_X9_isHour l Z q S Y p2) kX9_isHour m_763 ⟨Nat.le_of_ble_eq_true rfl, Nat.le_of_ble_eq_true rfl⟩ hl dX9_law_8 rfl rfl (Nat.le_of_ble_eq_true rfl) ⟨Nat.zero_le _, Nat.zero_le _⟩ (fun H locs G => ?_)
    refine r_eqb (tgt := 24) hx hb dX9_law_11 (by decide) (fun c_11 => ?_) (fun c_11 => ?_)
    · skip
      refine lv_aload_n hx hb dX9_law_24 rfl (lv_at hl 0 rfl) ?_
      refine lv_iconst (v := 1) hx hb dX9_law_25 (by decide) ?_
      refine r_V [] E G (c_X9_finds l Z q S Y 1 (by decide)) kX9_finds m_746 0 rfl rfl ⟨Nat.le_of_ble_eq_true rfl, Nat.le_of_ble_eq_true rfl⟩ hl dX9_law_26 rfl rfl (Nat.le_of_ble_eq_true rfl) ⟨Nat.zero_le _, Nat.zero_le _⟩ (fun H locs G => ?_)
      have hs : (sp_law S p1 p2 p3) = ((fnd S (-1000000 - 1)).1, (fnd S (-1000000 - 1)).2) := by first | rfl | (simp [sp_law, fq1, fq2, fq3, fq4, fq5, c_4, c_11]; done) | (simp_all [sp_law, fq1, fq2, fq3, fq4, fq5]; done)
      exact r_ret E G hr hlk hQ (by rw [hs]) (by rw [hs]) dX9_law_29
    · skip
      refine lv_iload_n hx hb dX9_law_14 rfl (lv_at hl 3 rfl) ?_
      refine lv_iconst (v := 0) hx hb dX9_law_15 (by decide) ?_
      refine lv_bipush (v := 60) hx hb dX9_law_16 (by decide) ?_
      refine r_S [] E G (c_X9_in l Z q S Y p3 0 60) kX9_in m_743 ⟨Nat.le_of_ble_eq_true rfl, Nat.le_of_ble_eq_true rfl⟩ hl dX9_law_18 rfl rfl (Nat.le_of_ble_eq_true rfl) ⟨Nat.zero_le _, Nat.zero_le _⟩ (fun H locs G => ?_)
      refine r_neb (tgt := 30) hx hb dX9_law_21 (by decide) (fun c_21 => ?_) (fun c_21 => ?_)
      · skip
        refine lv_aload_n hx hb dX9_law_30 rfl (lv_at hl 0 rfl) ?_
        refine lv_iload_n hx hb dX9_law_31 rfl (lv_at hl 1 rfl) ?_
        refine pM_0_6 E G m_639 dX9_law_32 (fun H locs G => ?_)
        refine lv_aload_n hx hb dX9_law_35 rfl (lv_at hl 0 rfl) ?_
        refine lv_iload_n hx hb dX9_law_36 rfl (lv_at hl 2 rfl) ?_
        refine pM_0_7 E G m_640 dX9_law_37 (fun H locs G => ?_)
        refine lv_aload_n hx hb dX9_law_40 rfl (lv_at hl 0 rfl) ?_
        refine lv_iload_n hx hb dX9_law_41 rfl (lv_at hl 3 rfl) ?_
        refine pM_0_8 E G m_641 dX9_law_42 (fun H locs G => ?_)
        refine lv_iconst (v := 1) hx hb dX9_law_45 (by decide) ?_
        have hs : (sp_law S p1 p2 p3) = (1, u_cm (u_bt (u_bf S p1) p2) p3) := by first | rfl | (simp [sp_law, fq1, fq2, fq3, fq4, fq5, c_4, c_11, c_21]; done) | (simp_all [sp_law, fq1, fq2, fq3, fq4, fq5]; done)
        exact r_ret E G hr hlk hQ (by rw [hs]) (by rw [hs]) dX9_law_46
      · skip
        refine lv_aload_n hx hb dX9_law_24 rfl (lv_at hl 0 rfl) ?_
        refine lv_iconst (v := 1) hx hb dX9_law_25 (by decide) ?_
        refine r_V [] E G (c_X9_finds l Z q S Y 1 (by decide)) kX9_finds m_746 0 rfl rfl ⟨Nat.le_of_ble_eq_true rfl, Nat.le_of_ble_eq_true rfl⟩ hl dX9_law_26 rfl rfl (Nat.le_of_ble_eq_true rfl) ⟨Nat.zero_le _, Nat.zero_le _⟩ (fun H locs G => ?_)
        have hs : (sp_law S p1 p2 p3) = ((fnd S (-1000000 - 1)).1, (fnd S (-1000000 - 1)).2) := by first | rfl | (simp [sp_law, fq1, fq2, fq3, fq4, fq5, c_4, c_11, c_21]; done) | (simp_all [sp_law, fq1, fq2, fq3, fq4, fq5]; done)
        exact r_ret E G hr hlk hQ (by rw [hs]) (by rw [hs]) dX9_law_29
set_option maxHeartbeats 4000000 in
set_option maxRecDepth 100000 in
theorem c_X9_isLicensed (l : Launch) (Z : ZT) (q : Nat → Nat) (S : St) (Y : YM) (p1 p2 : Int32) (hI : Inv S) (h1 : isVa S p1 = true) : CT l Z yX9_isLicensed cX9_isLicensed 3 (some .boolean) 1 [.ref (q 0), .int (p1), .int (p2)] (MW Z q S Y) (some (.int (b01 (isLi S p1 p2)))) (MW Z q S Y) := by
  refine CE.mk rfl (Nat.le_of_ble_eq_true rfl) (fun p e s m args below meth c A Qx ls E hr hlk hnm hQ G hl => ?_)
  have hx := E.1.1
  have hb := E.1.2.1
  have hl : lv_has ls 3 [(0, .ref (q 0)), (1, .int (p1)), (2, .int (p2))] := hl
  refine lv_aload_n hx hb dX9_isLicensed_0 rfl (lv_at hl 0 rfl) ?_
  refine gM_0_15 E G m_648 dX9_isLicensed_1 ?_
  refine lv_iload_n hx hb dX9_isLicensed_4 rfl (lv_at hl 1 rfl) ?_
  refine aM_6 E G (ix_va hI h1) dX9_isLicensed_5 ?_
  refine lv_iload_n hx hb dX9_isLicensed_6 rfl (lv_at hl 2 rfl) ?_
  refine lv_ishr hx hb dX9_isLicensed_7 ?_
  refine lv_iconst (v := 1) hx hb dX9_isLicensed_8 (by decide) ?_
  refine lv_iand hx hb dX9_isLicensed_9 ?_
  refine lv_iconst (v := 1) hx hb dX9_isLicensed_10 (by decide) ?_
  refine lv_icmp_ne (tgt := 18) hx hb dX9_isLicensed_11 (by decide) (fun c_11 => ?_) (fun c_11 => ?_)
  · skip
    refine lv_iconst (v := 0) hx hb dX9_isLicensed_18 (by decide) ?_
    have hs : (isLi S p1 p2) = false := by first | rfl | (simp [isLi, c_11]; done) | (simp_all [isLi]; done)
    exact r_retz E G hr hlk hQ (by decide) (congrArg (fun t => some (Value.int (b01 t))) hs) rfl dX9_isLicensed_19
  · skip
    refine lv_iconst (v := 1) hx hb dX9_isLicensed_14 (by decide) ?_
    refine lv_goto (tgt := 19) hx hb dX9_isLicensed_15 (by decide) ?_
    have hs : (isLi S p1 p2) = true := by first | rfl | (simp [isLi, c_11]; done) | (simp_all [isLi]; done)
    exact r_retz E G hr hlk hQ (by decide) (congrArg (fun t => some (Value.int (b01 t))) hs) rfl dX9_isLicensed_19
set_option maxHeartbeats 4000000 in
set_option maxRecDepth 100000 in
theorem c_X9_isBarred (l : Launch) (Z : ZT) (q : Nat → Nat) (S : St) (Y : YM) (p1 p2 : Int32) (hI : Inv S) (h1 : isSt S p1 = true) : CT l Z yX9_isBarred cX9_isBarred 3 (some .boolean) 2 [.ref (q 0), .int (p1), .int (p2)] (MW Z q S Y) (some (.int (b01 (isBa S p1 p2)))) (MW Z q S Y) := by
  refine CE.mk rfl (Nat.le_of_ble_eq_true rfl) (fun p e s m args below meth c A Qx ls E hr hlk hnm hQ G hl => ?_)
  have hx := E.1.1
  have hb := E.1.2.1
  have hl : lv_has ls 3 [(0, .ref (q 0)), (1, .int (p1)), (2, .int (p2))] := hl
  refine lv_aload_n hx hb dX9_isBarred_0 rfl (lv_at hl 0 rfl) ?_
  refine gM_0_10 E G m_643 dX9_isBarred_1 ?_
  refine lv_iload_n hx hb dX9_isBarred_4 rfl (lv_at hl 1 rfl) ?_
  refine aM_1 E G (ix_st hI h1) dX9_isBarred_5 ?_
  refine lv_iconst (v := 1) hx hb dX9_isBarred_6 (by decide) ?_
  refine lv_icmp_ne (tgt := 29) hx hb dX9_isBarred_7 (by decide) (fun c_7 => ?_) (fun c_7 => ?_)
  · skip
    refine lv_iconst (v := 0) hx hb dX9_isBarred_29 (by decide) ?_
    have hs : (isBa S p1 p2) = false := by first | rfl | (simp [isBa, c_7]; done) | (simp_all [isBa]; done)
    exact r_retz E G hr hlk hQ (by decide) (congrArg (fun t => some (Value.int (b01 t))) hs) rfl dX9_isBarred_30
  · skip
    refine lv_iload_n hx hb dX9_isBarred_10 rfl (lv_at hl 2 rfl) ?_
    refine lv_aload_n hx hb dX9_isBarred_11 rfl (lv_at hl 0 rfl) ?_
    refine gM_0_6 E G m_639 dX9_isBarred_12 ?_
    refine lv_aload_n hx hb dX9_isBarred_15 rfl (lv_at hl 0 rfl) ?_
    refine gM_0_7 E G m_640 dX9_isBarred_16 ?_
    refine r_S [] E G (c_X9_in l Z q S Y p2 (s_bf S) (s_bt S)) kX9_in m_743 ⟨Nat.le_of_ble_eq_true rfl, Nat.le_of_ble_eq_true rfl⟩ hl dX9_isBarred_19 rfl rfl (Nat.le_of_ble_eq_true rfl) ⟨Nat.zero_le _, Nat.zero_le _⟩ (fun H locs G => ?_)
    refine r_eqb (tgt := 29) hx hb dX9_isBarred_22 (by decide) (fun c_22 => ?_) (fun c_22 => ?_)
    · skip
      refine lv_iconst (v := 0) hx hb dX9_isBarred_29 (by decide) ?_
      have hs : (isBa S p1 p2) = false := by first | rfl | (simp [isBa, c_7, c_22]; done) | (simp_all [isBa]; done)
      exact r_retz E G hr hlk hQ (by decide) (congrArg (fun t => some (Value.int (b01 t))) hs) rfl dX9_isBarred_30
    · skip
      refine lv_iconst (v := 1) hx hb dX9_isBarred_25 (by decide) ?_
      refine lv_goto (tgt := 30) hx hb dX9_isBarred_26 (by decide) ?_
      have hs : (isBa S p1 p2) = true := by first | rfl | (simp [isBa, c_7, c_22]; done) | (simp_all [isBa]; done)
      exact r_retz E G hr hlk hQ (by decide) (congrArg (fun t => some (Value.int (b01 t))) hs) rfl dX9_isBarred_30
set_option maxHeartbeats 4000000 in
set_option maxRecDepth 100000 in
theorem c_X9_mayStand (l : Launch) (Z : ZT) (q : Nat → Nat) (S : St) (Y : YM) (p1 p2 p3 : Int32) (hI : Inv S) (h1 : isVa S p1 = true) (h2 : isSt S p2 = true) : CT l Z yX9_mayStand cX9_mayStand 4 (some .boolean) 3 [.ref (q 0), .int (p1), .int (p2), .int (p3)] (MW Z q S Y) (some (.int (b01 (may S p1 p2 p3)))) (MW Z q S Y) := by
  refine CE.mk rfl (Nat.le_of_ble_eq_true rfl) (fun p e s m args below meth c A Qx ls E hr hlk hnm hQ G hl => ?_)
  have hx := E.1.1
  have hb := E.1.2.1
  have hl : lv_has ls 4 [(0, .ref (q 0)), (1, .int (p1)), (2, .int (p2)), (3, .int (p3))] := hl
  refine lv_aload_n hx hb dX9_mayStand_0 rfl (lv_at hl 0 rfl) ?_
  refine lv_iload_n hx hb dX9_mayStand_1 rfl (lv_at hl 1 rfl) ?_
  refine lv_iload_n hx hb dX9_mayStand_2 rfl (lv_at hl 2 rfl) ?_
  refine r_V [] E G (c_X9_isLicensed l Z q S Y p1 p2 hI h1) kX9_isLicensed m_802 0 rfl rfl ⟨Nat.le_of_ble_eq_true rfl, Nat.le_of_ble_eq_true rfl⟩ hl dX9_mayStand_3 rfl rfl (Nat.le_of_ble_eq_true rfl) ⟨Nat.zero_le _, Nat.zero_le _⟩ (fun H locs G => ?_)
  refine r_eqb (tgt := 22) hx hb dX9_mayStand_6 (by decide) (fun c_6 => ?_) (fun c_6 => ?_)
  · skip
    refine lv_iconst (v := 0) hx hb dX9_mayStand_22 (by decide) ?_
    have hs : (may S p1 p2 p3) = false := by first | rfl | (simp [may, c_6]; done) | (simp_all [may]; done)
    exact r_retz E G hr hlk hQ (by decide) (congrArg (fun t => some (Value.int (b01 t))) hs) rfl dX9_mayStand_23
  · skip
    refine lv_aload_n hx hb dX9_mayStand_9 rfl (lv_at hl 0 rfl) ?_
    refine lv_iload_n hx hb dX9_mayStand_10 rfl (lv_at hl 2 rfl) ?_
    refine lv_iload_n hx hb dX9_mayStand_11 rfl (lv_at hl 3 rfl) ?_
    refine r_V [] E G (c_X9_isBarred l Z q S Y p2 p3 hI h2) kX9_isBarred m_806 0 rfl rfl ⟨Nat.le_of_ble_eq_true rfl, Nat.le_of_ble_eq_true rfl⟩ hl dX9_mayStand_12 rfl rfl (Nat.le_of_ble_eq_true rfl) ⟨Nat.zero_le _, Nat.zero_le _⟩ (fun H locs G => ?_)
    refine r_neb (tgt := 22) hx hb dX9_mayStand_15 (by decide) (fun c_15 => ?_) (fun c_15 => ?_)
    · skip
      refine lv_iconst (v := 0) hx hb dX9_mayStand_22 (by decide) ?_
      have hs : (may S p1 p2 p3) = false := by first | rfl | (simp [may, c_6, c_15]; done) | (simp_all [may]; done)
      exact r_retz E G hr hlk hQ (by decide) (congrArg (fun t => some (Value.int (b01 t))) hs) rfl dX9_mayStand_23
    · skip
      refine lv_iconst (v := 1) hx hb dX9_mayStand_18 (by decide) ?_
      refine lv_goto (tgt := 23) hx hb dX9_mayStand_19 (by decide) ?_
      have hs : (may S p1 p2 p3) = true := by first | rfl | (simp [may, c_6, c_15]; done) | (simp_all [may]; done)
      exact r_retz E G hr hlk hQ (by decide) (congrArg (fun t => some (Value.int (b01 t))) hs) rfl dX9_mayStand_23
set_option maxHeartbeats 4000000 in
set_option maxRecDepth 100000 in
theorem c_X9_may (l : Launch) (Z : ZT) (q : Nat → Nat) (S : St) (Y : YM) (p1 p2 p3 : Int32) (hI : Inv S) : CT l Z yX9_may cX9_may 4 (some .int) 4 [.ref (q 0), .int (p1), .int (p2), .int (p3)] (MW Z q S Y) (some (.int ((sp_may S p1 p2 p3).1))) (MW Z q ((sp_may S p1 p2 p3).2) (Y)) := by
  refine CE.mk rfl (Nat.le_of_ble_eq_true rfl) (fun p e s m args below meth c A Qx ls E hr hlk hnm hQ G hl => ?_)
  have hx := E.1.1
  have hb := E.1.2.1
  have hl : lv_has ls 4 [(0, .ref (q 0)), (1, .int (p1)), (2, .int (p2)), (3, .int (p3))] := hl
  refine lv_aload_n hx hb dX9_may_0 rfl (lv_at hl 0 rfl) ?_
  refine lv_iload_n hx hb dX9_may_1 rfl (lv_at hl 1 rfl) ?_
  refine r_V [] E G (c_X9_isVan l Z q S Y p1 hI) kX9_isVan m_778 0 rfl rfl ⟨Nat.le_of_ble_eq_true rfl, Nat.le_of_ble_eq_true rfl⟩ hl dX9_may_2 rfl rfl (Nat.le_of_ble_eq_true rfl) ⟨Nat.zero_le _, Nat.zero_le _⟩ (fun H locs G => ?_)
  refine r_eqb (tgt := 23) hx hb dX9_may_5 (by decide) (fun c_5 => ?_) (fun c_5 => ?_)
  · skip
    refine lv_aload_n hx hb dX9_may_23 rfl (lv_at hl 0 rfl) ?_
    refine lv_iconst (v := 1) hx hb dX9_may_24 (by decide) ?_
    refine r_V [] E G (c_X9_finds l Z q S Y 1 (by decide)) kX9_finds m_746 0 rfl rfl ⟨Nat.le_of_ble_eq_true rfl, Nat.le_of_ble_eq_true rfl⟩ hl dX9_may_25 rfl rfl (Nat.le_of_ble_eq_true rfl) ⟨Nat.zero_le _, Nat.zero_le _⟩ (fun H locs G => ?_)
    have hs : (sp_may S p1 p2 p3) = ((fnd S (-1000000 - 1)).1, (fnd S (-1000000 - 1)).2) := by first | rfl | (simp [sp_may, b01, fq1, fq2, fq3, fq4, fq5, c_5]; done) | (simp_all [sp_may, b01, fq1, fq2, fq3, fq4, fq5]; done)
    exact r_ret E G hr hlk hQ (by rw [hs]) (by rw [hs]) dX9_may_28
  · skip
    refine lv_aload_n hx hb dX9_may_8 rfl (lv_at hl 0 rfl) ?_
    refine lv_iload_n hx hb dX9_may_9 rfl (lv_at hl 2 rfl) ?_
    refine r_V [] E G (c_X9_isStreet l Z q S Y p2 hI) kX9_isStreet m_755 0 rfl rfl ⟨Nat.le_of_ble_eq_true rfl, Nat.le_of_ble_eq_true rfl⟩ hl dX9_may_10 rfl rfl (Nat.le_of_ble_eq_true rfl) ⟨Nat.zero_le _, Nat.zero_le _⟩ (fun H locs G => ?_)
    refine r_eqb (tgt := 23) hx hb dX9_may_13 (by decide) (fun c_13 => ?_) (fun c_13 => ?_)
    · skip
      refine lv_aload_n hx hb dX9_may_23 rfl (lv_at hl 0 rfl) ?_
      refine lv_iconst (v := 1) hx hb dX9_may_24 (by decide) ?_
      refine r_V [] E G (c_X9_finds l Z q S Y 1 (by decide)) kX9_finds m_746 0 rfl rfl ⟨Nat.le_of_ble_eq_true rfl, Nat.le_of_ble_eq_true rfl⟩ hl dX9_may_25 rfl rfl (Nat.le_of_ble_eq_true rfl) ⟨Nat.zero_le _, Nat.zero_le _⟩ (fun H locs G => ?_)
      have hs : (sp_may S p1 p2 p3) = ((fnd S (-1000000 - 1)).1, (fnd S (-1000000 - 1)).2) := by first | rfl | (simp [sp_may, b01, fq1, fq2, fq3, fq4, fq5, c_5, c_13]; done) | (simp_all [sp_may, b01, fq1, fq2, fq3, fq4, fq5]; done)
      exact r_ret E G hr hlk hQ (by rw [hs]) (by rw [hs]) dX9_may_28
    · skip
      refine lv_iload_n hx hb dX9_may_16 rfl (lv_at hl 3 rfl) ?_
      refine r_S [] E G (c_X9_isHour l Z q S Y p3) kX9_isHour m_763 ⟨Nat.le_of_ble_eq_true rfl, Nat.le_of_ble_eq_true rfl⟩ hl dX9_may_17 rfl rfl (Nat.le_of_ble_eq_true rfl) ⟨Nat.zero_le _, Nat.zero_le _⟩ (fun H locs G => ?_)
      refine r_neb (tgt := 29) hx hb dX9_may_20 (by decide) (fun c_20 => ?_) (fun c_20 => ?_)
      · skip
        refine lv_aload_n hx hb dX9_may_29 rfl (lv_at hl 0 rfl) ?_
        refine lv_iload_n hx hb dX9_may_30 rfl (lv_at hl 1 rfl) ?_
        refine lv_iload_n hx hb dX9_may_31 rfl (lv_at hl 2 rfl) ?_
        refine lv_iload_n hx hb dX9_may_32 rfl (lv_at hl 3 rfl) ?_
        refine r_V [] E G (c_X9_mayStand l Z q S Y p1 p2 p3 hI c_5 c_13) kX9_mayStand m_798 0 rfl rfl ⟨Nat.le_of_ble_eq_true rfl, Nat.le_of_ble_eq_true rfl⟩ hl dX9_may_33 rfl rfl (Nat.le_of_ble_eq_true rfl) ⟨Nat.zero_le _, Nat.zero_le _⟩ (fun H locs G => ?_)
        refine r_eqb (tgt := 43) hx hb dX9_may_36 (by decide) (fun c_36 => ?_) (fun c_36 => ?_)
        · skip
          refine lv_iconst (v := 0) hx hb dX9_may_43 (by decide) ?_
          have hs : (sp_may S p1 p2 p3) = (0, S) := by first | rfl | (simp [sp_may, b01, fq1, fq2, fq3, fq4, fq5, c_5, c_13, c_20, c_36]; done) | (simp_all [sp_may, b01, fq1, fq2, fq3, fq4, fq5]; done)
          exact r_ret E G hr hlk hQ (by rw [hs]) (by rw [hs]) dX9_may_44
        · skip
          refine lv_iconst (v := 1) hx hb dX9_may_39 (by decide) ?_
          refine lv_goto (tgt := 44) hx hb dX9_may_40 (by decide) ?_
          have hs : (sp_may S p1 p2 p3) = (1, S) := by first | rfl | (simp [sp_may, b01, fq1, fq2, fq3, fq4, fq5, c_5, c_13, c_20, c_36]; done) | (simp_all [sp_may, b01, fq1, fq2, fq3, fq4, fq5]; done)
          exact r_ret E G hr hlk hQ (by rw [hs]) (by rw [hs]) dX9_may_44
      · skip
        refine lv_aload_n hx hb dX9_may_23 rfl (lv_at hl 0 rfl) ?_
        refine lv_iconst (v := 1) hx hb dX9_may_24 (by decide) ?_
        refine r_V [] E G (c_X9_finds l Z q S Y 1 (by decide)) kX9_finds m_746 0 rfl rfl ⟨Nat.le_of_ble_eq_true rfl, Nat.le_of_ble_eq_true rfl⟩ hl dX9_may_25 rfl rfl (Nat.le_of_ble_eq_true rfl) ⟨Nat.zero_le _, Nat.zero_le _⟩ (fun H locs G => ?_)
        have hs : (sp_may S p1 p2 p3) = ((fnd S (-1000000 - 1)).1, (fnd S (-1000000 - 1)).2) := by first | rfl | (simp [sp_may, b01, fq1, fq2, fq3, fq4, fq5, c_5, c_13, c_20]; done) | (simp_all [sp_may, b01, fq1, fq2, fq3, fq4, fq5]; done)
        exact r_ret E G hr hlk hQ (by rw [hs]) (by rw [hs]) dX9_may_28
set_option maxHeartbeats 4000000 in
set_option maxRecDepth 100000 in
theorem c_X9_worthOf (l : Launch) (Z : ZT) (q : Nat → Nat) (S : St) (Y : YM) (p1 p2 : Int32) (hI : Inv S) (h1 : isSt S p1 = true) (h2 : isHo p2 = true) : CT l Z yX9_worthOf cX9_worthOf 3 (some .int) 1 [.ref (q 0), .int (p1), .int (p2)] (MW Z q S Y) (some (.int (wor S p1 p2))) (MW Z q S Y) := by
  refine CE.mk rfl (Nat.le_of_ble_eq_true rfl) (fun p e s m args below meth c A Qx ls E hr hlk hnm hQ G hl => ?_)
  have hx := E.1.1
  have hb := E.1.2.1
  have hl : lv_has ls 3 [(0, .ref (q 0)), (1, .int (p1)), (2, .int (p2))] := hl
  refine lv_aload_n hx hb dX9_worthOf_0 rfl (lv_at hl 0 rfl) ?_
  refine gM_0_12 E G m_645 dX9_worthOf_1 ?_
  refine lv_bipush (v := 12) hx hb dX9_worthOf_4 (by decide) ?_
  refine lv_iload_n hx hb dX9_worthOf_6 rfl (lv_at hl 1 rfl) ?_
  refine lv_imul hx hb dX9_worthOf_7 ?_
  refine lv_iload_n hx hb dX9_worthOf_8 rfl (lv_at hl 2 rfl) ?_
  refine lv_iadd hx hb dX9_worthOf_9 ?_
  refine aM_3 E G (iy_wi hI h1 h2) dX9_worthOf_10 ?_
  refine lv_aload_n hx hb dX9_worthOf_11 rfl (lv_at hl 0 rfl) ?_
  refine gM_0_5 E G m_638 dX9_worthOf_12 ?_
  refine lv_iconst (v := 2) hx hb dX9_worthOf_15 (by decide) ?_
  refine lv_iadd hx hb dX9_worthOf_16 ?_
  refine lv_imul hx hb dX9_worthOf_17 ?_
  refine lv_iconst (v := 4) hx hb dX9_worthOf_18 (by decide) ?_
  refine lv_idiv hx hb dX9_worthOf_19 (by decide) ?_
  have hs : (wor S p1 p2) = ((ar (s_wi S) ((12 * p1) + p2)) * ((s_he S) + 2)) / 4 := by unfold wor; rw [cm12]
  exact r_ret E G hr hlk hQ (congrArg (fun t => some (Value.int t)) hs) rfl dX9_worthOf_20
set_option maxHeartbeats 4000000 in
set_option maxRecDepth 100000 in
theorem c_X9_worth (l : Launch) (Z : ZT) (q : Nat → Nat) (S : St) (Y : YM) (p1 p2 : Int32) (hI : Inv S) : CT l Z yX9_worth cX9_worth 3 (some .int) 3 [.ref (q 0), .int (p1), .int (p2)] (MW Z q S Y) (some (.int ((sp_worth S p1 p2).1))) (MW Z q ((sp_worth S p1 p2).2) (Y)) := by
  refine CE.mk rfl (Nat.le_of_ble_eq_true rfl) (fun p e s m args below meth c A Qx ls E hr hlk hnm hQ G hl => ?_)
  have hx := E.1.1
  have hb := E.1.2.1
  have hl : lv_has ls 3 [(0, .ref (q 0)), (1, .int (p1)), (2, .int (p2))] := hl
  refine lv_aload_n hx hb dX9_worth_0 rfl (lv_at hl 0 rfl) ?_
  refine lv_iload_n hx hb dX9_worth_1 rfl (lv_at hl 1 rfl) ?_
  refine r_V [] E G (c_X9_isStreet l Z q S Y p1 hI) kX9_isStreet m_755 0 rfl rfl ⟨Nat.le_of_ble_eq_true rfl, Nat.le_of_ble_eq_true rfl⟩ hl dX9_worth_2 rfl rfl (Nat.le_of_ble_eq_true rfl) ⟨Nat.zero_le _, Nat.zero_le _⟩ (fun H locs G => ?_)
  refine r_eqb (tgt := 24) hx hb dX9_worth_5 (by decide) (fun c_5 => ?_) (fun c_5 => ?_)
  · skip
    refine lv_aload_n hx hb dX9_worth_24 rfl (lv_at hl 0 rfl) ?_
    refine lv_iconst (v := 1) hx hb dX9_worth_25 (by decide) ?_
    refine r_V [] E G (c_X9_finds l Z q S Y 1 (by decide)) kX9_finds m_746 0 rfl rfl ⟨Nat.le_of_ble_eq_true rfl, Nat.le_of_ble_eq_true rfl⟩ hl dX9_worth_26 rfl rfl (Nat.le_of_ble_eq_true rfl) ⟨Nat.zero_le _, Nat.zero_le _⟩ (fun H locs G => ?_)
    have hs : (sp_worth S p1 p2) = ((fnd S (-1000000 - 1)).1, (fnd S (-1000000 - 1)).2) := by first | rfl | (simp [sp_worth, fq1, fq2, fq3, fq4, fq5, c_5]; done) | (simp_all [sp_worth, fq1, fq2, fq3, fq4, fq5]; done)
    exact r_ret E G hr hlk hQ (by rw [hs]) (by rw [hs]) dX9_worth_29
  · skip
    refine lv_iload_n hx hb dX9_worth_8 rfl (lv_at hl 2 rfl) ?_
    refine r_S [] E G (c_X9_isHour l Z q S Y p2) kX9_isHour m_763 ⟨Nat.le_of_ble_eq_true rfl, Nat.le_of_ble_eq_true rfl⟩ hl dX9_worth_9 rfl rfl (Nat.le_of_ble_eq_true rfl) ⟨Nat.zero_le _, Nat.zero_le _⟩ (fun H locs G => ?_)
    refine r_eqb (tgt := 24) hx hb dX9_worth_12 (by decide) (fun c_12 => ?_) (fun c_12 => ?_)
    · skip
      refine lv_aload_n hx hb dX9_worth_24 rfl (lv_at hl 0 rfl) ?_
      refine lv_iconst (v := 1) hx hb dX9_worth_25 (by decide) ?_
      refine r_V [] E G (c_X9_finds l Z q S Y 1 (by decide)) kX9_finds m_746 0 rfl rfl ⟨Nat.le_of_ble_eq_true rfl, Nat.le_of_ble_eq_true rfl⟩ hl dX9_worth_26 rfl rfl (Nat.le_of_ble_eq_true rfl) ⟨Nat.zero_le _, Nat.zero_le _⟩ (fun H locs G => ?_)
      have hs : (sp_worth S p1 p2) = ((fnd S (-1000000 - 1)).1, (fnd S (-1000000 - 1)).2) := by first | rfl | (simp [sp_worth, fq1, fq2, fq3, fq4, fq5, c_5, c_12]; done) | (simp_all [sp_worth, fq1, fq2, fq3, fq4, fq5]; done)
      exact r_ret E G hr hlk hQ (by rw [hs]) (by rw [hs]) dX9_worth_29
    · skip
      refine lv_aload_n hx hb dX9_worth_15 rfl (lv_at hl 0 rfl) ?_
      refine lv_iload_n hx hb dX9_worth_16 rfl (lv_at hl 1 rfl) ?_
      refine lv_iload_n hx hb dX9_worth_17 rfl (lv_at hl 2 rfl) ?_
      refine r_V [] E G (c_X9_worthOf l Z q S Y p1 p2 hI c_5 c_12) kX9_worthOf m_814 0 rfl rfl ⟨Nat.le_of_ble_eq_true rfl, Nat.le_of_ble_eq_true rfl⟩ hl dX9_worth_18 rfl rfl (Nat.le_of_ble_eq_true rfl) ⟨Nat.zero_le _, Nat.zero_le _⟩ (fun H locs G => ?_)
      refine lv_goto (tgt := 29) hx hb dX9_worth_21 (by decide) ?_
      have hs : (sp_worth S p1 p2) = (wor S p1 p2, S) := by first | rfl | (simp [sp_worth, fq1, fq2, fq3, fq4, fq5, c_5, c_12]; done) | (simp_all [sp_worth, fq1, fq2, fq3, fq4, fq5]; done)
      exact r_ret E G hr hlk hQ (by rw [hs]) (by rw [hs]) dX9_worth_29
set_option maxHeartbeats 4000000 in
set_option maxRecDepth 100000 in
theorem c_X9_later (l : Launch) (Z : ZT) (q : Nat → Nat) (S : St) (Y : YM) (p1 p2 p3 : Int32) (hI : Inv S) (h1 : isVa S p1 = true) (h2 : isSt S p2 = true) (h3 : isSt S p3 = true) : CT l Z yX9_later cX9_later 4 (some .int) 1 [.ref (q 0), .int (p1), .int (p2), .int (p3)] (MW Z q S Y) (some (.int (lat S p1 p2 p3))) (MW Z q S Y) := by
  refine CE.mk rfl (Nat.le_of_ble_eq_true rfl) (fun p e s m args below meth c A Qx ls E hr hlk hnm hQ G hl => ?_)
  have hx := E.1.1
  have hb := E.1.2.1
  have hl : lv_has ls 4 [(0, .ref (q 0)), (1, .int (p1)), (2, .int (p2)), (3, .int (p3))] := hl
  refine lv_iload_n hx hb dX9_later_0 rfl (lv_at hl 2 rfl) ?_
  refine lv_iload_n hx hb dX9_later_1 rfl (lv_at hl 3 rfl) ?_
  refine lv_icmp_ne (tgt := 9) hx hb dX9_later_2 (by decide) (fun c_2 => ?_) (fun c_2 => ?_)
  · skip
    refine lv_iconst (v := 1) hx hb dX9_later_9 (by decide) ?_
    refine lv_aload_n hx hb dX9_later_10 rfl (lv_at hl 0 rfl) ?_
    refine gM_0_11 E G m_644 dX9_later_11 ?_
    refine lv_bipush (v := 6) hx hb dX9_later_14 (by decide) ?_
    refine lv_iload_n hx hb dX9_later_16 rfl (lv_at hl 2 rfl) ?_
    refine lv_imul hx hb dX9_later_17 ?_
    refine lv_iload_n hx hb dX9_later_18 rfl (lv_at hl 3 rfl) ?_
    refine lv_iadd hx hb dX9_later_19 ?_
    refine aM_2 E G (iy_wy hI h2 h3) dX9_later_20 ?_
    refine lv_iadd hx hb dX9_later_21 ?_
    refine lv_aload_n hx hb dX9_later_22 rfl (lv_at hl 0 rfl) ?_
    refine gM_0_13 E G m_646 dX9_later_23 ?_
    refine lv_iload_n hx hb dX9_later_26 rfl (lv_at hl 1 rfl) ?_
    refine aM_4 E G (ix_va hI h1) dX9_later_27 ?_
    refine lv_iconst (v := 2) hx hb dX9_later_28 (by decide) ?_
    refine lv_icmp_ne (tgt := 36) hx hb dX9_later_29 (by decide) (fun c_29 => ?_) (fun c_29 => ?_)
    · skip
      refine lv_iconst (v := 0) hx hb dX9_later_36 (by decide) ?_
      refine lv_iadd hx hb dX9_later_37 ?_
      have hs : (lat S p1 p2 p3) = (1 + (ar (s_wy S) ((6 * p2) + p3))) + 0 := by first | rfl | (simp [lat, cm6, c_2, c_29]; done) | (simp_all [lat, cm6]; done)
      exact r_ret E G hr hlk hQ (congrArg (fun t => some (Value.int t)) hs) rfl dX9_later_38
    · skip
      refine lv_iconst (v := 1) hx hb dX9_later_32 (by decide) ?_
      refine lv_goto (tgt := 37) hx hb dX9_later_33 (by decide) ?_
      refine lv_iadd hx hb dX9_later_37 ?_
      have hs : (lat S p1 p2 p3) = (1 + (ar (s_wy S) ((6 * p2) + p3))) + 1 := by first | rfl | (simp [lat, cm6, c_2, c_29]; done) | (simp_all [lat, cm6]; done)
      exact r_ret E G hr hlk hQ (congrArg (fun t => some (Value.int t)) hs) rfl dX9_later_38
  · skip
    refine lv_iconst (v := 1) hx hb dX9_later_5 (by decide) ?_
    refine lv_goto (tgt := 38) hx hb dX9_later_6 (by decide) ?_
    have hs : (lat S p1 p2 p3) = 1 := by first | rfl | (simp [lat, cm6, c_2]; done) | (simp_all [lat, cm6]; done)
    exact r_ret E G hr hlk hQ (congrArg (fun t => some (Value.int t)) hs) rfl dX9_later_38
set_option maxHeartbeats 4000000 in
set_option maxRecDepth 100000 in
theorem c_X9_ahead (l : Launch) (Z : ZT) (q : Nat → Nat) (S : St) (Y : YM) (p1 p2 : Int32) (h0 : 0 ≤ p2) (h1 : p2 ≤ 24) : CT l Z yX9_ahead cX9_ahead 4 (some .int) 1 [.ref (q 0), .int (p1), .int (p2)] (MW Z q S Y) (some (.int (laS S p1 p2.toNatClampNeg))) (MW Z q S Y) := by
  refine CE.mk rfl (Nat.le_of_ble_eq_true rfl) (fun p e s m args below meth c A Qx ls E hr hlk hnm hQ G hl => ?_)
  have hx := E.1.1
  have hb := E.1.2.1
  have hl : lv_has ls 4 [(0, .ref (q 0)), (1, .int (p1)), (2, .int (p2))] := hl
  have h24 : p2.toNatClampNeg ≤ 24 := cl_le h0 (by have := (i_le _ _).mp h1; have e := e_lit; omega)
  refine lv_iload_n hx hb dX9_ahead_0 rfl (lv_at hl 2 rfl) ?_
  refine lv_iconst (v := 1) hx hb dX9_ahead_1 (by decide) ?_
  refine lv_isub hx hb dX9_ahead_2 ?_
  refine lv_istore_n (lv' := [(3, .int (p2 - 1)), (0, .ref (q 0)), (1, .int (p1)), (2, .int (p2))]) hx hb dX9_ahead_3 rfl hl (by decide) rfl (fun ls hl => ?_)
  have L4 : ∀ j : Nat, j ≤ p2.toNatClampNeg → (∀ (H : Heap) (locs : List Loc) (ls : Array Slot), laS S p1 p2.toNatClampNeg = laS S p1 j → GW Z (MW Z q S Y) A s.heap H locs → lv_has ls 4 [(0, .ref (q 0)), (1, .int (p1)), (3, .int (nI j - 1))] → W p l e (rmk 1 0 0) s m args below meth c H locs 0 0 Qx (F0 m 4 ls [])) := by
    intro j
    induction j with
    | zero =>
      intro hj H locs ls hT G hl
      have hl : lv_has ls 4 [(0, .ref (q 0)), (1, .int (p1)), (3, .int (-1))] := lv_cast hl (by rw [nI_0]; rfl)
      refine lv_iload_n hx hb dX9_ahead_4 rfl (lv_at hl 2 rfl) ?_
      refine lv_if_lt (tgt := 24) hx hb dX9_ahead_5 (by decide) (fun c_5 => ?_) (fun c_5 => ?_)
      · skip
        have c_5n := Int32.not_le.mpr c_5
        refine lv_iload_n hx hb dX9_ahead_24 rfl (lv_at hl 2 rfl) ?_
        have hs : (laS S p1 p2.toNatClampNeg) = -1 := by first | exact hT | (rw [hT]; rw [ar_nI _ (show j < 2 ^ 31 by omega)] at c_15; simp [laS, c_15])
        exact r_ret E G hr hlk hQ (congrArg (fun t => some (Value.int t)) hs) rfl dX9_ahead_25
      · skip
        have c_5n := Int32.not_lt.mp c_5
        exact absurd (by decide) c_5
    | succ j ih4 =>
      intro hj H locs ls hT G hl
      have hl : lv_has ls 4 [(0, .ref (q 0)), (1, .int (p1)), (3, .int (nI j))] := lv_cast hl (by rw [nI_pred])
      refine lv_iload_n hx hb dX9_ahead_4 rfl (lv_at hl 2 rfl) ?_
      refine lv_if_lt (tgt := 24) hx hb dX9_ahead_5 (by decide) (fun c_5 => ?_) (fun c_5 => ?_)
      · skip
        have c_5n := Int32.not_le.mpr c_5
        exact absurd c_5 (nI_pos (by omega))
      · skip
        have c_5n := Int32.not_lt.mp c_5
        refine lv_aload_n hx hb dX9_ahead_8 rfl (lv_at hl 0 rfl) ?_
        refine gM_0_16 E G m_649 dX9_ahead_9 ?_
        refine lv_iload_n hx hb dX9_ahead_12 rfl (lv_at hl 2 rfl) ?_
        refine aM_7 E G (ix_k (N := p2.toNatClampNeg) (by omega) h24 (by decide)) dX9_ahead_13 ?_
        refine lv_iload_n hx hb dX9_ahead_14 rfl (lv_at hl 1 rfl) ?_
        refine lv_icmp_eq (tgt := 24) hx hb dX9_ahead_15 (by decide) (fun c_15 => ?_) (fun c_15 => ?_)
        · skip
          refine lv_iload_n hx hb dX9_ahead_24 rfl (lv_at hl 2 rfl) ?_
          have hs : (laS S p1 p2.toNatClampNeg) = nI j := by first | exact hT | (rw [hT]; rw [ar_nI _ (show j < 2 ^ 31 by omega)] at c_15; simp [laS, c_15])
          exact r_ret E G hr hlk hQ (congrArg (fun t => some (Value.int t)) hs) rfl dX9_ahead_25
        · skip
          refine lv_iinc (v := (nI j) + (-1)) (lv' := [(3, .int ((nI j) + (-1))), (0, .ref (q 0)), (1, .int (p1))]) hx hb dX9_ahead_18 hl (k := 2) rfl rfl (by decide) rfl (fun ls hl => ?_)
          refine lv_goto (tgt := 4) hx hb dX9_ahead_21 (by decide) ?_
          exact ih4 (by omega) _ _ _ (by rw [hT]; rw [ar_nI _ (show j < 2 ^ 31 by omega)] at c_15; simp [laS, c_15]) (GW.cast (rfl) G) (lv_cast (lv_sub (l' := [(0, .ref (q 0)), (1, .int (p1)), (3, .int ((nI j) + (-1)))]) hl [1, 2, 0] rfl) (by rw [neg1]))
  exact L4 _ (Nat.le_refl _) _ _ _ (rfl) G (lv_cast (lv_sub (l' := [(0, .ref (q 0)), (1, .int (p1)), (3, .int (p2 - 1))]) hl [1, 2, 0] rfl) (by rw [cl_nI h0]))
set_option maxHeartbeats 4000000 in
set_option maxRecDepth 100000 in
theorem c_X9_wrongOf (l : Launch) (Z : ZT) (q : Nat → Nat) (S : St) (Y : YM) (p1 : Int32) (hI : Inv S) (h1 : isSd S p1 = true) : CT l Z yX9_wrongOf cX9_wrongOf 6 (some .int) 3 [.ref (q 0), .int (p1)] (MW Z q S Y) (some (.int (wrS S p1))) (MW Z q S Y) := by
  refine CE.mk rfl (Nat.le_of_ble_eq_true rfl) (fun p e s m args below meth c A Qx ls E hr hlk hnm hQ G hl => ?_)
  have hx := E.1.1
  have hb := E.1.2.1
  have hl : lv_has ls 6 [(0, .ref (q 0)), (1, .int (p1))] := hl
  have h0 := sd_0 h1
  have h24 := sd_cl hI h1
  have hlt := sd_lt hI h1
  refine lv_aload_n hx hb dX9_wrongOf_0 rfl (lv_at hl 0 rfl) ?_
  refine gM_0_16 E G m_649 dX9_wrongOf_1 ?_
  refine lv_iload_n hx hb dX9_wrongOf_4 rfl (lv_at hl 1 rfl) ?_
  refine aM_7 E G (ix_sd hI h1) dX9_wrongOf_5 ?_
  refine lv_istore_n (lv' := [(2, .int (ar (s_sv S) p1)), (0, .ref (q 0)), (1, .int (p1))]) hx hb dX9_wrongOf_6 rfl hl (by decide) rfl (fun ls hl => ?_)
  refine lv_aload_n hx hb dX9_wrongOf_7 rfl (lv_at hl 1 rfl) ?_
  refine gM_0_17 E G m_650 dX9_wrongOf_8 ?_
  refine lv_iload_n hx hb dX9_wrongOf_11 rfl (lv_at hl 2 rfl) ?_
  refine aM_8 E G (ix_sd hI h1) dX9_wrongOf_12 ?_
  refine lv_istore_n (lv' := [(3, .int (ar (s_ss S) p1)), (2, .int (ar (s_sv S) p1)), (0, .ref (q 0)), (1, .int (p1))]) hx hb dX9_wrongOf_13 rfl hl (by decide) rfl (fun ls hl => ?_)
  refine lv_aload_n hx hb dX9_wrongOf_14 rfl (lv_at hl 2 rfl) ?_
  refine lv_iload_n hx hb dX9_wrongOf_15 rfl (lv_at hl 1 rfl) ?_
  refine lv_iload_n hx hb dX9_wrongOf_16 rfl (lv_at hl 0 rfl) ?_
  refine r_V [] E G (c_X9_isLicensed l Z q S Y (ar (s_sv S) p1) (ar (s_ss S) p1) hI ((sd_in hI h1).1)) kX9_isLicensed m_802 0 rfl rfl ⟨Nat.le_of_ble_eq_true rfl, Nat.le_of_ble_eq_true rfl⟩ hl dX9_wrongOf_17 rfl rfl (Nat.le_of_ble_eq_true rfl) ⟨Nat.zero_le _, Nat.zero_le _⟩ (fun H locs G => ?_)
  refine r_neb (tgt := 25) hx hb dX9_wrongOf_20 (by decide) (fun c_20 => ?_) (fun c_20 => ?_)
  · skip
    refine lv_aload_n hx hb dX9_wrongOf_25 rfl (lv_at hl 2 rfl) ?_
    refine lv_iload_n hx hb dX9_wrongOf_26 rfl (lv_at hl 0 rfl) ?_
    refine lv_aload_n hx hb dX9_wrongOf_27 rfl (lv_at hl 2 rfl) ?_
    refine gM_0_18 E G m_651 dX9_wrongOf_28 ?_
    refine lv_iload_n hx hb dX9_wrongOf_31 rfl (lv_at hl 3 rfl) ?_
    refine aM_9 E G (ix_sd hI h1) dX9_wrongOf_32 ?_
    refine r_V [] E G (c_X9_isBarred l Z q S Y (ar (s_ss S) p1) (ar (s_sh S) p1) hI ((sd_in hI h1).2.1)) kX9_isBarred m_806 0 rfl rfl ⟨Nat.le_of_ble_eq_true rfl, Nat.le_of_ble_eq_true rfl⟩ hl dX9_wrongOf_33 rfl rfl (Nat.le_of_ble_eq_true rfl) ⟨Nat.zero_le _, Nat.zero_le _⟩ (fun H locs G => ?_)
    refine r_eqb (tgt := 41) hx hb dX9_wrongOf_36 (by decide) (fun c_36 => ?_) (fun c_36 => ?_)
    · skip
      refine lv_aload_n hx hb dX9_wrongOf_41 rfl (lv_at hl 2 rfl) ?_
      refine gM_0_19 E G m_652 dX9_wrongOf_42 ?_
      refine lv_iload_n hx hb dX9_wrongOf_45 rfl (lv_at hl 3 rfl) ?_
      refine aM_10 E G (ix_sd hI h1) dX9_wrongOf_46 ?_
      refine lv_aload_n hx hb dX9_wrongOf_47 rfl (lv_at hl 2 rfl) ?_
      refine gM_0_8 E G m_641 dX9_wrongOf_48 ?_
      refine lv_icmp_le (tgt := 56) hx hb dX9_wrongOf_51 (by decide) (fun c_51 => ?_) (fun c_51 => ?_)
      · skip
        have c_51n := Int32.not_lt.mpr c_51
        refine lv_aload_n hx hb dX9_wrongOf_56 rfl (lv_at hl 2 rfl) ?_
        refine lv_iload_n hx hb dX9_wrongOf_57 rfl (lv_at hl 1 rfl) ?_
        refine lv_iload_n hx hb dX9_wrongOf_58 rfl (lv_at hl 3 rfl) ?_
        refine r_V [] E G (c_X9_ahead l Z q S Y (ar (s_sv S) p1) p1 (h0) (by have := sd_of hI h1; have e := e_lit; rw [i_le]; omega)) kX9_ahead m_858 0 rfl rfl ⟨Nat.le_of_ble_eq_true rfl, Nat.le_of_ble_eq_true rfl⟩ hl dX9_wrongOf_59 rfl rfl (Nat.le_of_ble_eq_true rfl) ⟨Nat.zero_le _, Nat.zero_le _⟩ (fun H locs G => ?_)
        refine lv_istore (lv' := [(4, .int (laS S (ar (s_sv S) p1) p1.toNatClampNeg)), (3, .int (ar (s_ss S) p1)), (2, .int (ar (s_sv S) p1)), (0, .ref (q 0)), (1, .int (p1))]) hx hb dX9_wrongOf_62 hl (by decide) rfl (fun ls hl => ?_)
        refine lv_iload hx hb dX9_wrongOf_64 (lv_at hl 0 rfl) ?_
        refine lv_if_lt (tgt := 101) hx hb dX9_wrongOf_66 (by decide) (fun c_66 => ?_) (fun c_66 => ?_)
        · skip
          have c_66n := Int32.not_le.mpr c_66
          refine lv_iconst (v := 0) hx hb dX9_wrongOf_101 (by decide) ?_
          refine lv_istore (lv' := [(5, .int (0)), (4, .int (laS S (ar (s_sv S) p1) p1.toNatClampNeg)), (3, .int (ar (s_ss S) p1)), (2, .int (ar (s_sv S) p1)), (0, .ref (q 0)), (1, .int (p1))]) hx hb dX9_wrongOf_102 hl (by decide) rfl (fun ls hl => ?_)
          have L104 : ∀ k : Nat, k ≤ p1.toNatClampNeg → (∀ (H : Heap) (locs : List Loc) (ls : Array Slot), taM S (ar (s_sv S) p1) (ar (s_ss S) p1) (ar (s_sh S) p1) k = false → GW Z (MW Z q S Y) A s.heap H locs → lv_has ls 6 [(0, .ref (q 0)), (1, .int (p1)), (2, .int (ar (s_sv S) p1)), (3, .int (ar (s_ss S) p1)), (5, .int (nI k))] → W p l e (rmk 3 0 0) s m args below meth c H locs 0 0 Qx (F0 m 104 ls [])) := by
            refine up_in2 (P := fun k => (∀ (H : Heap) (locs : List Loc) (ls : Array Slot), taM S (ar (s_sv S) p1) (ar (s_ss S) p1) (ar (s_sh S) p1) k = false → GW Z (MW Z q S Y) A s.heap H locs → lv_has ls 6 [(0, .ref (q 0)), (1, .int (p1)), (2, .int (ar (s_sv S) p1)), (3, .int (ar (s_ss S) p1)), (5, .int (nI k))] → W p l e (rmk 3 0 0) s m args below meth c H locs 0 0 Qx (F0 m 104 ls []))) (p1.toNatClampNeg) ?_
            intro k hkk ih104 H locs ls hT G hl
            refine lv_iload hx hb dX9_wrongOf_104 (lv_at hl 4 rfl) ?_
            refine lv_iload_n hx hb dX9_wrongOf_106 rfl (lv_at hl 1 rfl) ?_
            refine lv_icmp_ge (tgt := 156) hx hb dX9_wrongOf_107 (by decide) (fun c_107 => ?_) (fun c_107 => ?_)
            · skip
              have c_107n := Int32.not_lt.mpr c_107
              refine lv_iconst (v := 0) hx hb dX9_wrongOf_156 (by decide) ?_
              have hs : (wrS S p1) = 0 := by have hT2 := hT; rw [lp_eq h0 hkk c_107] at hT2; simp [wrS, soon, taS_M hI h1, hT2, c_20, c_36, c_51, c_51n, c_66, c_66n, c_107, c_107n]
              exact r_ret E G hr hlk hQ (congrArg (fun t => some (Value.int t)) hs) rfl dX9_wrongOf_157
            · skip
              have c_107n := Int32.not_le.mp c_107
              refine lv_aload_n hx hb dX9_wrongOf_110 rfl (lv_at hl 0 rfl) ?_
              refine gM_0_16 E G m_649 dX9_wrongOf_111 ?_
              refine lv_iload hx hb dX9_wrongOf_114 (lv_at hl 4 rfl) ?_
              refine aM_7 E G (ix_k (lp_lt h0 hkk c_107) (Nat.le_of_lt h24) (by decide)) dX9_wrongOf_116 ?_
              refine lv_iload_n hx hb dX9_wrongOf_117 rfl (lv_at hl 2 rfl) ?_
              refine lv_icmp_eq (tgt := 150) hx hb dX9_wrongOf_118 (by decide) (fun c_118 => ?_) (fun c_118 => ?_)
              · skip
                refine lv_iinc (v := (nI k) + 1) (lv' := [(5, .int ((nI k) + 1)), (0, .ref (q 0)), (1, .int (p1)), (2, .int (ar (s_sv S) p1)), (3, .int (ar (s_ss S) p1))]) hx hb dX9_wrongOf_150 hl (k := 4) rfl rfl (by decide) rfl (fun ls hl => ?_)
                refine lv_goto (tgt := 104) hx hb dX9_wrongOf_153 (by decide) ?_
                exact ih104 (lp_lt h0 hkk c_107) _ _ _ (by (try simp only [ar_nI _ (show k < 2 ^ 31 by omega)] at c_20 c_36 c_51 c_51n c_66 c_66n c_107 c_107n c_118); simp [taM, c_20, c_36, c_51, c_51n, c_66, c_66n, c_107, c_107n, c_118, hT]) (GW.cast (rfl) G) (lv_cast (lv_sub (l' := [(0, .ref (q 0)), (1, .int (p1)), (2, .int (ar (s_sv S) p1)), (3, .int (ar (s_ss S) p1)), (5, .int ((nI k) + 1))]) hl [1, 2, 3, 4, 0] rfl) (by rw [nI_1]))
              · skip
                refine lv_aload_n hx hb dX9_wrongOf_121 rfl (lv_at hl 0 rfl) ?_
                refine gM_0_17 E G m_650 dX9_wrongOf_122 ?_
                refine lv_iload hx hb dX9_wrongOf_125 (lv_at hl 4 rfl) ?_
                refine aM_8 E G (ix_k (lp_lt h0 hkk c_107) (Nat.le_of_lt h24) (by decide)) dX9_wrongOf_127 ?_
                refine lv_iload_n hx hb dX9_wrongOf_128 rfl (lv_at hl 3 rfl) ?_
                refine lv_icmp_ne (tgt := 150) hx hb dX9_wrongOf_129 (by decide) (fun c_129 => ?_) (fun c_129 => ?_)
                · skip
                  refine lv_iinc (v := (nI k) + 1) (lv' := [(5, .int ((nI k) + 1)), (0, .ref (q 0)), (1, .int (p1)), (2, .int (ar (s_sv S) p1)), (3, .int (ar (s_ss S) p1))]) hx hb dX9_wrongOf_150 hl (k := 4) rfl rfl (by decide) rfl (fun ls hl => ?_)
                  refine lv_goto (tgt := 104) hx hb dX9_wrongOf_153 (by decide) ?_
                  exact ih104 (lp_lt h0 hkk c_107) _ _ _ (by (try simp only [ar_nI _ (show k < 2 ^ 31 by omega)] at c_20 c_36 c_51 c_51n c_66 c_66n c_107 c_107n c_118 c_129); simp [taM, c_20, c_36, c_51, c_51n, c_66, c_66n, c_107, c_107n, c_118, c_129, hT]) (GW.cast (rfl) G) (lv_cast (lv_sub (l' := [(0, .ref (q 0)), (1, .int (p1)), (2, .int (ar (s_sv S) p1)), (3, .int (ar (s_ss S) p1)), (5, .int ((nI k) + 1))]) hl [1, 2, 3, 4, 0] rfl) (by rw [nI_1]))
                · skip
                  refine lv_aload_n hx hb dX9_wrongOf_132 rfl (lv_at hl 0 rfl) ?_
                  refine gM_0_18 E G m_651 dX9_wrongOf_133 ?_
                  refine lv_iload hx hb dX9_wrongOf_136 (lv_at hl 4 rfl) ?_
                  refine aM_9 E G (ix_k (lp_lt h0 hkk c_107) (Nat.le_of_lt h24) (by decide)) dX9_wrongOf_138 ?_
                  refine lv_aload_n hx hb dX9_wrongOf_139 rfl (lv_at hl 0 rfl) ?_
                  refine gM_0_18 E G m_651 dX9_wrongOf_140 ?_
                  refine lv_iload_n hx hb dX9_wrongOf_143 rfl (lv_at hl 1 rfl) ?_
                  refine aM_9 E G (ix_sd hI h1) dX9_wrongOf_144 ?_
                  refine lv_icmp_ne (tgt := 150) hx hb dX9_wrongOf_145 (by decide) (fun c_145 => ?_) (fun c_145 => ?_)
                  · skip
                    refine lv_iinc (v := (nI k) + 1) (lv' := [(5, .int ((nI k) + 1)), (0, .ref (q 0)), (1, .int (p1)), (2, .int (ar (s_sv S) p1)), (3, .int (ar (s_ss S) p1))]) hx hb dX9_wrongOf_150 hl (k := 4) rfl rfl (by decide) rfl (fun ls hl => ?_)
                    refine lv_goto (tgt := 104) hx hb dX9_wrongOf_153 (by decide) ?_
                    exact ih104 (lp_lt h0 hkk c_107) _ _ _ (by (try simp only [ar_nI _ (show k < 2 ^ 31 by omega)] at c_20 c_36 c_51 c_51n c_66 c_66n c_107 c_107n c_118 c_129 c_145); simp [taM, c_20, c_36, c_51, c_51n, c_66, c_66n, c_107, c_107n, c_118, c_129, c_145, hT]) (GW.cast (rfl) G) (lv_cast (lv_sub (l' := [(0, .ref (q 0)), (1, .int (p1)), (2, .int (ar (s_sv S) p1)), (3, .int (ar (s_ss S) p1)), (5, .int ((nI k) + 1))]) hl [1, 2, 3, 4, 0] rfl) (by rw [nI_1]))
                  · skip
                    refine lv_iconst (v := 5) hx hb dX9_wrongOf_148 (by decide) ?_
                    have hs : (wrS S p1) = 5 := by have hT2 := taM_mono (S := S) (v := ar (s_sv S) p1) (a := ar (s_ss S) p1) (h := ar (s_sh S) p1) (k := k + 1) (by (try simp only [ar_nI _ (show k < 2 ^ 31 by omega)] at c_20 c_36 c_51 c_51n c_66 c_66n c_107 c_107n c_118 c_129 c_145); simp [taM, c_20, c_36, c_51, c_51n, c_66, c_66n, c_107, c_107n, c_118, c_129, c_145]) _ (lp_lt h0 hkk c_107); simp [wrS, soon, taS_M hI h1, hT2, c_20, c_36, c_51, c_51n, c_66, c_66n, c_107, c_107n, c_118, c_129, c_145]
                    exact r_ret E G hr hlk hQ (congrArg (fun t => some (Value.int t)) hs) rfl dX9_wrongOf_149
          exact L104 0 (Nat.zero_le _) _ _ _ (rfl) (GW.cast (rfl) G) (lv_cast (lv_sub (l' := [(0, .ref (q 0)), (1, .int (p1)), (2, .int (ar (s_sv S) p1)), (3, .int (ar (s_ss S) p1)), (5, .int (0))]) hl [4, 5, 3, 2, 0] rfl) (by rw [nI_0]))
        · skip
          have c_66n := Int32.not_lt.mp c_66
          have hk6 : isSd S (laS S (ar (s_sv S) p1) p1.toNatClampNeg) = true := (la_sd hI _ (Nat.le_of_lt hlt)).trans (decide_eq_true c_66n)
          refine lv_aload_n hx hb dX9_wrongOf_69 rfl (lv_at hl 3 rfl) ?_
          refine gM_0_18 E G m_651 dX9_wrongOf_70 ?_
          refine lv_iload_n hx hb dX9_wrongOf_73 rfl (lv_at hl 4 rfl) ?_
          refine aM_9 E G (ix_sd hI h1) dX9_wrongOf_74 ?_
          refine lv_aload_n hx hb dX9_wrongOf_75 rfl (lv_at hl 3 rfl) ?_
          refine gM_0_18 E G m_651 dX9_wrongOf_76 ?_
          refine lv_iload hx hb dX9_wrongOf_79 (lv_at hl 0 rfl) ?_
          refine aM_9 E G (ix_sd hI hk6) dX9_wrongOf_81 ?_
          refine lv_aload_n hx hb dX9_wrongOf_82 rfl (lv_at hl 3 rfl) ?_
          refine lv_iload_n hx hb dX9_wrongOf_83 rfl (lv_at hl 2 rfl) ?_
          refine lv_aload_n hx hb dX9_wrongOf_84 rfl (lv_at hl 3 rfl) ?_
          refine gM_0_17 E G m_650 dX9_wrongOf_85 ?_
          refine lv_iload hx hb dX9_wrongOf_88 (lv_at hl 0 rfl) ?_
          refine aM_8 E G (ix_sd hI hk6) dX9_wrongOf_90 ?_
          refine lv_iload_n hx hb dX9_wrongOf_91 rfl (lv_at hl 1 rfl) ?_
          refine r_V [.int (ar (s_sh S) (laS S (ar (s_sv S) p1) p1.toNatClampNeg)), .int (ar (s_sh S) p1)] E G (c_X9_later l Z q S Y (ar (s_sv S) p1) (ar (s_ss S) (laS S (ar (s_sv S) p1) p1.toNatClampNeg)) (ar (s_ss S) p1) hI ((sd_in hI h1).1) ((sd_in hI hk6).2.1) ((sd_in hI h1).2.1)) kX9_later m_842 0 rfl rfl ⟨Nat.le_of_ble_eq_true rfl, Nat.le_of_ble_eq_true rfl⟩ hl dX9_wrongOf_92 rfl rfl (Nat.le_of_ble_eq_true rfl) ⟨Nat.zero_le _, Nat.zero_le _⟩ (fun H locs G => ?_)
          refine lv_iadd hx hb dX9_wrongOf_95 ?_
          refine lv_icmp_ge (tgt := 101) hx hb dX9_wrongOf_96 (by decide) (fun c_96 => ?_) (fun c_96 => ?_)
          · skip
            have c_96n := Int32.not_lt.mpr c_96
            refine lv_iconst (v := 0) hx hb dX9_wrongOf_101 (by decide) ?_
            refine lv_istore (lv' := [(5, .int (0)), (4, .int (laS S (ar (s_sv S) p1) p1.toNatClampNeg)), (3, .int (ar (s_ss S) p1)), (2, .int (ar (s_sv S) p1)), (0, .ref (q 0)), (1, .int (p1))]) hx hb dX9_wrongOf_102 hl (by decide) rfl (fun ls hl => ?_)
            have L104 : ∀ k : Nat, k ≤ p1.toNatClampNeg → (∀ (H : Heap) (locs : List Loc) (ls : Array Slot), taM S (ar (s_sv S) p1) (ar (s_ss S) p1) (ar (s_sh S) p1) k = false → GW Z (MW Z q S Y) A s.heap H locs → lv_has ls 6 [(0, .ref (q 0)), (1, .int (p1)), (2, .int (ar (s_sv S) p1)), (3, .int (ar (s_ss S) p1)), (5, .int (nI k))] → W p l e (rmk 3 0 0) s m args below meth c H locs 0 0 Qx (F0 m 104 ls [])) := by
              refine up_in2 (P := fun k => (∀ (H : Heap) (locs : List Loc) (ls : Array Slot), taM S (ar (s_sv S) p1) (ar (s_ss S) p1) (ar (s_sh S) p1) k = false → GW Z (MW Z q S Y) A s.heap H locs → lv_has ls 6 [(0, .ref (q 0)), (1, .int (p1)), (2, .int (ar (s_sv S) p1)), (3, .int (ar (s_ss S) p1)), (5, .int (nI k))] → W p l e (rmk 3 0 0) s m args below meth c H locs 0 0 Qx (F0 m 104 ls []))) (p1.toNatClampNeg) ?_
              intro k hkk ih104 H locs ls hT G hl
              refine lv_iload hx hb dX9_wrongOf_104 (lv_at hl 4 rfl) ?_
              refine lv_iload_n hx hb dX9_wrongOf_106 rfl (lv_at hl 1 rfl) ?_
              refine lv_icmp_ge (tgt := 156) hx hb dX9_wrongOf_107 (by decide) (fun c_107 => ?_) (fun c_107 => ?_)
              · skip
                have c_107n := Int32.not_lt.mpr c_107
                refine lv_iconst (v := 0) hx hb dX9_wrongOf_156 (by decide) ?_
                have hs : (wrS S p1) = 0 := by have hT2 := hT; rw [lp_eq h0 hkk c_107] at hT2; simp [wrS, soon, taS_M hI h1, hT2, c_20, c_36, c_51, c_51n, c_66, c_66n, c_96, c_96n, c_107, c_107n]
                exact r_ret E G hr hlk hQ (congrArg (fun t => some (Value.int t)) hs) rfl dX9_wrongOf_157
              · skip
                have c_107n := Int32.not_le.mp c_107
                refine lv_aload_n hx hb dX9_wrongOf_110 rfl (lv_at hl 0 rfl) ?_
                refine gM_0_16 E G m_649 dX9_wrongOf_111 ?_
                refine lv_iload hx hb dX9_wrongOf_114 (lv_at hl 4 rfl) ?_
                refine aM_7 E G (ix_k (lp_lt h0 hkk c_107) (Nat.le_of_lt h24) (by decide)) dX9_wrongOf_116 ?_
                refine lv_iload_n hx hb dX9_wrongOf_117 rfl (lv_at hl 2 rfl) ?_
                refine lv_icmp_eq (tgt := 150) hx hb dX9_wrongOf_118 (by decide) (fun c_118 => ?_) (fun c_118 => ?_)
                · skip
                  refine lv_iinc (v := (nI k) + 1) (lv' := [(5, .int ((nI k) + 1)), (0, .ref (q 0)), (1, .int (p1)), (2, .int (ar (s_sv S) p1)), (3, .int (ar (s_ss S) p1))]) hx hb dX9_wrongOf_150 hl (k := 4) rfl rfl (by decide) rfl (fun ls hl => ?_)
                  refine lv_goto (tgt := 104) hx hb dX9_wrongOf_153 (by decide) ?_
                  exact ih104 (lp_lt h0 hkk c_107) _ _ _ (by (try simp only [ar_nI _ (show k < 2 ^ 31 by omega)] at c_20 c_36 c_51 c_51n c_66 c_66n c_96 c_96n c_107 c_107n c_118); simp [taM, c_20, c_36, c_51, c_51n, c_66, c_66n, c_96, c_96n, c_107, c_107n, c_118, hT]) (GW.cast (rfl) G) (lv_cast (lv_sub (l' := [(0, .ref (q 0)), (1, .int (p1)), (2, .int (ar (s_sv S) p1)), (3, .int (ar (s_ss S) p1)), (5, .int ((nI k) + 1))]) hl [1, 2, 3, 4, 0] rfl) (by rw [nI_1]))
                · skip
                  refine lv_aload_n hx hb dX9_wrongOf_121 rfl (lv_at hl 0 rfl) ?_
                  refine gM_0_17 E G m_650 dX9_wrongOf_122 ?_
                  refine lv_iload hx hb dX9_wrongOf_125 (lv_at hl 4 rfl) ?_
                  refine aM_8 E G (ix_k (lp_lt h0 hkk c_107) (Nat.le_of_lt h24) (by decide)) dX9_wrongOf_127 ?_
                  refine lv_iload_n hx hb dX9_wrongOf_128 rfl (lv_at hl 3 rfl) ?_
                  refine lv_icmp_ne (tgt := 150) hx hb dX9_wrongOf_129 (by decide) (fun c_129 => ?_) (fun c_129 => ?_)
                  · skip
                    refine lv_iinc (v := (nI k) + 1) (lv' := [(5, .int ((nI k) + 1)), (0, .ref (q 0)), (1, .int (p1)), (2, .int (ar (s_sv S) p1)), (3, .int (ar (s_ss S) p1))]) hx hb dX9_wrongOf_150 hl (k := 4) rfl rfl (by decide) rfl (fun ls hl => ?_)
                    refine lv_goto (tgt := 104) hx hb dX9_wrongOf_153 (by decide) ?_
                    exact ih104 (lp_lt h0 hkk c_107) _ _ _ (by (try simp only [ar_nI _ (show k < 2 ^ 31 by omega)] at c_20 c_36 c_51 c_51n c_66 c_66n c_96 c_96n c_107 c_107n c_118 c_129); simp [taM, c_20, c_36, c_51, c_51n, c_66, c_66n, c_96, c_96n, c_107, c_107n, c_118, c_129, hT]) (GW.cast (rfl) G) (lv_cast (lv_sub (l' := [(0, .ref (q 0)), (1, .int (p1)), (2, .int (ar (s_sv S) p1)), (3, .int (ar (s_ss S) p1)), (5, .int ((nI k) + 1))]) hl [1, 2, 3, 4, 0] rfl) (by rw [nI_1]))
                  · skip
                    refine lv_aload_n hx hb dX9_wrongOf_132 rfl (lv_at hl 0 rfl) ?_
                    refine gM_0_18 E G m_651 dX9_wrongOf_133 ?_
                    refine lv_iload hx hb dX9_wrongOf_136 (lv_at hl 4 rfl) ?_
                    refine aM_9 E G (ix_k (lp_lt h0 hkk c_107) (Nat.le_of_lt h24) (by decide)) dX9_wrongOf_138 ?_
                    refine lv_aload_n hx hb dX9_wrongOf_139 rfl (lv_at hl 0 rfl) ?_
                    refine gM_0_18 E G m_651 dX9_wrongOf_140 ?_
                    refine lv_iload_n hx hb dX9_wrongOf_143 rfl (lv_at hl 1 rfl) ?_
                    refine aM_9 E G (ix_sd hI h1) dX9_wrongOf_144 ?_
                    refine lv_icmp_ne (tgt := 150) hx hb dX9_wrongOf_145 (by decide) (fun c_145 => ?_) (fun c_145 => ?_)
                    · skip
                      refine lv_iinc (v := (nI k) + 1) (lv' := [(5, .int ((nI k) + 1)), (0, .ref (q 0)), (1, .int (p1)), (2, .int (ar (s_sv S) p1)), (3, .int (ar (s_ss S) p1))]) hx hb dX9_wrongOf_150 hl (k := 4) rfl rfl (by decide) rfl (fun ls hl => ?_)
                      refine lv_goto (tgt := 104) hx hb dX9_wrongOf_153 (by decide) ?_
                      exact ih104 (lp_lt h0 hkk c_107) _ _ _ (by (try simp only [ar_nI _ (show k < 2 ^ 31 by omega)] at c_20 c_36 c_51 c_51n c_66 c_66n c_96 c_96n c_107 c_107n c_118 c_129 c_145); simp [taM, c_20, c_36, c_51, c_51n, c_66, c_66n, c_96, c_96n, c_107, c_107n, c_118, c_129, c_145, hT]) (GW.cast (rfl) G) (lv_cast (lv_sub (l' := [(0, .ref (q 0)), (1, .int (p1)), (2, .int (ar (s_sv S) p1)), (3, .int (ar (s_ss S) p1)), (5, .int ((nI k) + 1))]) hl [1, 2, 3, 4, 0] rfl) (by rw [nI_1]))
                    · skip
                      refine lv_iconst (v := 5) hx hb dX9_wrongOf_148 (by decide) ?_
                      have hs : (wrS S p1) = 5 := by have hT2 := taM_mono (S := S) (v := ar (s_sv S) p1) (a := ar (s_ss S) p1) (h := ar (s_sh S) p1) (k := k + 1) (by (try simp only [ar_nI _ (show k < 2 ^ 31 by omega)] at c_20 c_36 c_51 c_51n c_66 c_66n c_96 c_96n c_107 c_107n c_118 c_129 c_145); simp [taM, c_20, c_36, c_51, c_51n, c_66, c_66n, c_96, c_96n, c_107, c_107n, c_118, c_129, c_145]) _ (lp_lt h0 hkk c_107); simp [wrS, soon, taS_M hI h1, hT2, c_20, c_36, c_51, c_51n, c_66, c_66n, c_96, c_96n, c_107, c_107n, c_118, c_129, c_145]
                      exact r_ret E G hr hlk hQ (congrArg (fun t => some (Value.int t)) hs) rfl dX9_wrongOf_149
            exact L104 0 (Nat.zero_le _) _ _ _ (rfl) (GW.cast (rfl) G) (lv_cast (lv_sub (l' := [(0, .ref (q 0)), (1, .int (p1)), (2, .int (ar (s_sv S) p1)), (3, .int (ar (s_ss S) p1)), (5, .int (0))]) hl [4, 5, 3, 2, 0] rfl) (by rw [nI_0]))
          · skip
            have c_96n := Int32.not_le.mp c_96
            refine lv_iconst (v := 4) hx hb dX9_wrongOf_99 (by decide) ?_
            have hs : (wrS S p1) = 4 := by simp [wrS, soon, c_20, c_36, c_51, c_51n, c_66, c_66n, c_96, c_96n]
            exact r_ret E G hr hlk hQ (congrArg (fun t => some (Value.int t)) hs) rfl dX9_wrongOf_100
      · skip
        have c_51n := Int32.not_le.mp c_51
        refine lv_iconst (v := 3) hx hb dX9_wrongOf_54 (by decide) ?_
        have hs : (wrS S p1) = 3 := by simp [wrS, soon, c_20, c_36, c_51, c_51n]
        exact r_ret E G hr hlk hQ (congrArg (fun t => some (Value.int t)) hs) rfl dX9_wrongOf_55
    · skip
      refine lv_iconst (v := 2) hx hb dX9_wrongOf_39 (by decide) ?_
      have hs : (wrS S p1) = 2 := by simp [wrS, soon, c_20, c_36]
      exact r_ret E G hr hlk hQ (congrArg (fun t => some (Value.int t)) hs) rfl dX9_wrongOf_40
  · skip
    refine lv_iconst (v := 1) hx hb dX9_wrongOf_23 (by decide) ?_
    have hs : (wrS S p1) = 1 := by simp [wrS, soon, c_20]
    exact r_ret E G hr hlk hQ (congrArg (fun t => some (Value.int t)) hs) rfl dX9_wrongOf_24
set_option maxHeartbeats 4000000 in
set_option maxRecDepth 100000 in
theorem c_X9_wrong (l : Launch) (Z : ZT) (q : Nat → Nat) (S : St) (Y : YM) (p1 : Int32) (hI : Inv S) : CT l Z yX9_wrong cX9_wrong 2 (some .int) 4 [.ref (q 0), .int (p1)] (MW Z q S Y) (some (.int ((sp_wrong S p1).1))) (MW Z q ((sp_wrong S p1).2) (Y)) := by
  refine CE.mk rfl (Nat.le_of_ble_eq_true rfl) (fun p e s m args below meth c A Qx ls E hr hlk hnm hQ G hl => ?_)
  have hx := E.1.1
  have hb := E.1.2.1
  have hl : lv_has ls 2 [(0, .ref (q 0)), (1, .int (p1))] := hl
  refine lv_iload_n hx hb dX9_wrong_0 rfl (lv_at hl 1 rfl) ?_
  refine lv_iconst (v := 0) hx hb dX9_wrong_1 (by decide) ?_
  refine lv_aload_n hx hb dX9_wrong_2 rfl (lv_at hl 0 rfl) ?_
  refine gM_0_2 E G m_635 dX9_wrong_3 ?_
  refine lv_iconst (v := 1) hx hb dX9_wrong_6 (by decide) ?_
  refine lv_isub hx hb dX9_wrong_7 ?_
  refine r_S [] E G (c_X9_in l Z q S Y p1 0 ((s_sd S) - 1)) kX9_in m_743 ⟨Nat.le_of_ble_eq_true rfl, Nat.le_of_ble_eq_true rfl⟩ hl dX9_wrong_8 rfl rfl (Nat.le_of_ble_eq_true rfl) ⟨Nat.zero_le _, Nat.zero_le _⟩ (fun H locs G => ?_)
  refine r_eqb (tgt := 22) hx hb dX9_wrong_11 (by decide) (fun c_11 => ?_) (fun c_11 => ?_)
  · skip
    refine lv_aload_n hx hb dX9_wrong_22 rfl (lv_at hl 0 rfl) ?_
    refine lv_iconst (v := 1) hx hb dX9_wrong_23 (by decide) ?_
    refine r_V [] E G (c_X9_finds l Z q S Y 1 (by decide)) kX9_finds m_746 0 rfl rfl ⟨Nat.le_of_ble_eq_true rfl, Nat.le_of_ble_eq_true rfl⟩ hl dX9_wrong_24 rfl rfl (Nat.le_of_ble_eq_true rfl) ⟨Nat.zero_le _, Nat.zero_le _⟩ (fun H locs G => ?_)
    have hs : (sp_wrong S p1) = ((fnd S (-1000000 - 1)).1, (fnd S (-1000000 - 1)).2) := by rw [in_sd hI] at c_11; simp [sp_wrong, fq1, c_11]
    exact r_ret E G hr hlk hQ (by rw [hs]) (by rw [hs]) dX9_wrong_27
  · skip
    refine lv_aload_n hx hb dX9_wrong_14 rfl (lv_at hl 0 rfl) ?_
    refine lv_iload_n hx hb dX9_wrong_15 rfl (lv_at hl 1 rfl) ?_
    refine r_V [] E G (c_X9_wrongOf l Z q S Y p1 hI ((in_sd hI p1).symm.trans c_11)) kX9_wrongOf m_866 0 rfl rfl ⟨Nat.le_of_ble_eq_true rfl, Nat.le_of_ble_eq_true rfl⟩ hl dX9_wrong_16 rfl rfl (Nat.le_of_ble_eq_true rfl) ⟨Nat.zero_le _, Nat.zero_le _⟩ (fun H locs G => ?_)
    refine lv_goto (tgt := 27) hx hb dX9_wrong_19 (by decide) ?_
    have hs : (sp_wrong S p1) = (wrS S p1, S) := by rw [in_sd hI] at c_11; simp [sp_wrong, fq1, c_11]
    exact r_ret E G hr hlk hQ (by rw [hs]) (by rw [hs]) dX9_wrong_27
set_option maxHeartbeats 4000000 in
set_option maxRecDepth 100000 in
theorem c_X9_clear (l : Launch) (Z : ZT) (q : Nat → Nat) (S : St) (Y : YM) (hI : Inv S) : CT l Z yX9_clear cX9_clear 3 (some .int) 4 [.ref (q 0)] (MW Z q S Y) (some (.int ((sp_clear S).1))) (MW Z q ((sp_clear S).2) (Y)) := by
  refine CE.mk rfl (Nat.le_of_ble_eq_true rfl) (fun p e s m args below meth c A Qx ls E hr hlk hnm hQ G hl => ?_)
  have hx := E.1.1
  have hb := E.1.2.1
  have hl : lv_has ls 3 [(0, .ref (q 0))] := hl
  have h0 := hI.sd.1
  have h24 := N24 hI
  refine lv_iconst (v := 0) hx hb dX9_clear_0 (by decide) ?_
  refine lv_istore_n (lv' := [(1, .int (0)), (0, .ref (q 0))]) hx hb dX9_clear_1 rfl hl (by decide) rfl (fun ls hl => ?_)
  refine lv_iconst (v := 0) hx hb dX9_clear_2 (by decide) ?_
  refine lv_istore_n (lv' := [(2, .int (0)), (1, .int (0)), (0, .ref (q 0))]) hx hb dX9_clear_3 rfl hl (by decide) rfl (fun ls hl => ?_)
  have L4 : ∀ k : Nat, k ≤ (s_sd S).toNatClampNeg → (∀ (H : Heap) (locs : List Loc) (ls : Array Slot), GW Z (MW Z q S Y) A s.heap H locs → lv_has ls 3 [(0, .ref (q 0)), (1, .int (clS S k)), (2, .int (nI k))] → W p l e (rmk 4 0 0) s m args below meth c H locs 0 0 Qx (F0 m 4 ls [])) := by
    refine up_in2 (P := fun k => (∀ (H : Heap) (locs : List Loc) (ls : Array Slot), GW Z (MW Z q S Y) A s.heap H locs → lv_has ls 3 [(0, .ref (q 0)), (1, .int (clS S k)), (2, .int (nI k))] → W p l e (rmk 4 0 0) s m args below meth c H locs 0 0 Qx (F0 m 4 ls []))) ((s_sd S).toNatClampNeg) ?_
    intro k hkk ih4 H locs ls G hl
    refine lv_iload_n hx hb dX9_clear_4 rfl (lv_at hl 2 rfl) ?_
    refine lv_aload_n hx hb dX9_clear_5 rfl (lv_at hl 0 rfl) ?_
    refine gM_0_2 E G m_635 dX9_clear_6 ?_
    refine lv_icmp_ge (tgt := 34) hx hb dX9_clear_9 (by decide) (fun c_9 => ?_) (fun c_9 => ?_)
    · skip
      have c_9n := Int32.not_lt.mpr c_9
      refine lv_aload_n hx hb dX9_clear_34 rfl (lv_at hl 0 rfl) ?_
      refine lv_iconst (v := 0) hx hb dX9_clear_35 (by decide) ?_
      refine pM_0_2 E G m_635 dX9_clear_36 (fun H locs G => ?_)
      refine lv_iload_n hx hb dX9_clear_39 rfl (lv_at hl 1 rfl) ?_
      have hs : (sp_clear S) = (clS S k, u_sd S 0) := by rw [lp_eq h0 hkk c_9]; rfl
      exact r_ret E G hr hlk hQ (by rw [hs]) (by rw [hs]) dX9_clear_40
    · skip
      have c_9n := Int32.not_le.mp c_9
      refine lv_iload_n hx hb dX9_clear_12 rfl (lv_at hl 1 rfl) ?_
      refine lv_aload_n hx hb dX9_clear_13 rfl (lv_at hl 0 rfl) ?_
      refine lv_iload_n hx hb dX9_clear_14 rfl (lv_at hl 2 rfl) ?_
      refine r_V [.int (clS S k)] E G (c_X9_wrongOf l Z q S Y (nI k) hI (sd_k hI (lp_lt h0 hkk c_9))) kX9_wrongOf m_866 0 rfl rfl ⟨Nat.le_of_ble_eq_true rfl, Nat.le_of_ble_eq_true rfl⟩ hl dX9_clear_15 rfl rfl (Nat.le_of_ble_eq_true rfl) ⟨Nat.zero_le _, Nat.zero_le _⟩ (fun H locs G => ?_)
      refine lv_if_ne (tgt := 25) hx hb dX9_clear_18 (by decide) (fun c_18 => ?_) (fun c_18 => ?_)
      · skip
        refine lv_iconst (v := 1) hx hb dX9_clear_25 (by decide) ?_
        refine lv_iadd hx hb dX9_clear_26 ?_
        refine lv_istore_n (lv' := [(1, .int ((clS S k) + 1)), (0, .ref (q 0)), (2, .int (nI k))]) hx hb dX9_clear_27 rfl hl (by decide) rfl (fun ls hl => ?_)
        refine lv_iinc (v := (nI k) + 1) (lv' := [(2, .int ((nI k) + 1)), (1, .int ((clS S k) + 1)), (0, .ref (q 0))]) hx hb dX9_clear_28 hl (k := 2) rfl rfl (by decide) rfl (fun ls hl => ?_)
        refine lv_goto (tgt := 4) hx hb dX9_clear_31 (by decide) ?_
        exact ih4 (lp_lt h0 hkk c_9) _ _ _ (GW.cast (rfl) G) (lv_cast (lv_sub (l' := [(0, .ref (q 0)), (1, .int ((clS S k) + 1)), (2, .int ((nI k) + 1))]) hl [2, 1, 0] rfl) (by simp [nI_1, clS, c_9, c_9n, c_18]))
      · skip
        refine lv_iconst (v := 0) hx hb dX9_clear_21 (by decide) ?_
        refine lv_goto (tgt := 26) hx hb dX9_clear_22 (by decide) ?_
        refine lv_iadd hx hb dX9_clear_26 ?_
        refine lv_istore_n (lv' := [(1, .int ((clS S k) + 0)), (0, .ref (q 0)), (2, .int (nI k))]) hx hb dX9_clear_27 rfl hl (by decide) rfl (fun ls hl => ?_)
        refine lv_iinc (v := (nI k) + 1) (lv' := [(2, .int ((nI k) + 1)), (1, .int ((clS S k) + 0)), (0, .ref (q 0))]) hx hb dX9_clear_28 hl (k := 2) rfl rfl (by decide) rfl (fun ls hl => ?_)
        refine lv_goto (tgt := 4) hx hb dX9_clear_31 (by decide) ?_
        exact ih4 (lp_lt h0 hkk c_9) _ _ _ (GW.cast (rfl) G) (lv_cast (lv_sub (l' := [(0, .ref (q 0)), (1, .int ((clS S k) + 0)), (2, .int ((nI k) + 1))]) hl [2, 1, 0] rfl) (by simp [nI_1, clS, c_9, c_9n, c_18]))
  exact L4 0 (Nat.zero_le _) _ _ _ (GW.cast (rfl) G) (lv_cast (lv_sub (l' := [(0, .ref (q 0)), (1, .int (0)), (2, .int (0))]) hl [2, 1, 0] rfl) (by rw [nI_0]; rfl))
set_option maxHeartbeats 4000000 in
set_option maxRecDepth 100000 in
theorem c_X9_holderOf (l : Launch) (Z : ZT) (q : Nat → Nat) (S : St) (Y : YM) (p1 : Int32) (hI : Inv S) : CT l Z yX9_holderOf cX9_holderOf 7 (some .int) 1 [.ref (q 0), .int (p1)] (MW Z q S Y) (some (.int (hol S p1))) (MW Z q S Y) := by
  refine CE.mk rfl (Nat.le_of_ble_eq_true rfl) (fun p e s m args below meth c A Qx ls E hr hlk hnm hQ G hl => ?_)
  have hx := E.1.1
  have hb := E.1.2.1
  have hl : lv_has ls 7 [(0, .ref (q 0)), (1, .int (p1))] := hl
  have h0 := hI.va.1
  have h4 := N4 hI
  have h5 := hI.sd.1
  have h24 := N24 hI
  refine lv_iconst (v := -1) hx hb dX9_holderOf_0 (by decide) ?_
  refine lv_istore_n (lv' := [(2, .int ((-1))), (0, .ref (q 0)), (1, .int (p1))]) hx hb dX9_holderOf_1 rfl hl (by decide) rfl (fun ls hl => ?_)
  refine lv_iconst (v := 0) hx hb dX9_holderOf_2 (by decide) ?_
  refine lv_istore_n (lv' := [(3, .int (0)), (2, .int ((-1))), (0, .ref (q 0)), (1, .int (p1))]) hx hb dX9_holderOf_3 rfl hl (by decide) rfl (fun ls hl => ?_)
  refine lv_iconst (v := 0) hx hb dX9_holderOf_4 (by decide) ?_
  refine lv_istore (lv' := [(4, .int (0)), (3, .int (0)), (2, .int ((-1))), (0, .ref (q 0)), (1, .int (p1))]) hx hb dX9_holderOf_5 hl (by decide) rfl (fun ls hl => ?_)
  have L7 : ∀ k : Nat, k ≤ (s_va S).toNatClampNeg → (∀ (H : Heap) (locs : List Loc) (ls : Array Slot), GW Z (MW Z q S Y) A s.heap H locs → lv_has ls 7 [(0, .ref (q 0)), (1, .int (p1)), (2, .int ((hoS S p1 k).1)), (3, .int ((hoS S p1 k).2)), (4, .int (nI k))] → W p l e (rmk 1 0 0) s m args below meth c H locs 0 0 Qx (F0 m 7 ls [])) := by
    refine up_in2 (P := fun k => (∀ (H : Heap) (locs : List Loc) (ls : Array Slot), GW Z (MW Z q S Y) A s.heap H locs → lv_has ls 7 [(0, .ref (q 0)), (1, .int (p1)), (2, .int ((hoS S p1 k).1)), (3, .int ((hoS S p1 k).2)), (4, .int (nI k))] → W p l e (rmk 1 0 0) s m args below meth c H locs 0 0 Qx (F0 m 7 ls []))) ((s_va S).toNatClampNeg) ?_
    intro k hkk ih7 H locs ls G hl
    refine lv_iload hx hb dX9_holderOf_7 (lv_at hl 4 rfl) ?_
    refine lv_aload_n hx hb dX9_holderOf_9 rfl (lv_at hl 0 rfl) ?_
    refine gM_0_1 E G m_634 dX9_holderOf_10 ?_
    refine lv_icmp_ge (tgt := 91) hx hb dX9_holderOf_13 (by decide) (fun c_13 => ?_) (fun c_13 => ?_)
    · skip
      have c_13n := Int32.not_lt.mpr c_13
      refine lv_iload_n hx hb dX9_holderOf_91 rfl (lv_at hl 2 rfl) ?_
      have hs : (hol S p1) = (hoS S p1 k).1 := by rw [lp_eq h0 hkk c_13]; rfl
      exact r_ret E G hr hlk hQ (congrArg (fun t => some (Value.int t)) hs) rfl dX9_holderOf_92
    · skip
      have c_13n := Int32.not_le.mp c_13
      refine lv_iconst (v := 0) hx hb dX9_holderOf_16 (by decide) ?_
      refine lv_istore (lv' := [(5, .int (0)), (0, .ref (q 0)), (1, .int (p1)), (2, .int ((hoS S p1 k).1)), (3, .int ((hoS S p1 k).2)), (4, .int (nI k))]) hx hb dX9_holderOf_17 hl (by decide) rfl (fun ls hl => ?_)
      refine lv_iconst (v := 0) hx hb dX9_holderOf_19 (by decide) ?_
      refine lv_istore (lv' := [(6, .int (0)), (5, .int (0)), (0, .ref (q 0)), (1, .int (p1)), (2, .int ((hoS S p1 k).1)), (3, .int ((hoS S p1 k).2)), (4, .int (nI k))]) hx hb dX9_holderOf_20 hl (by decide) rfl (fun ls hl => ?_)
      have L22 : ∀ j : Nat, j ≤ (s_sd S).toNatClampNeg → (∀ (H : Heap) (locs : List Loc) (ls : Array Slot), GW Z (MW Z q S Y) A s.heap H locs → lv_has ls 7 [(0, .ref (q 0)), (1, .int (p1)), (2, .int ((hoS S p1 k).1)), (3, .int ((hoS S p1 k).2)), (4, .int (nI k)), (5, .int (coS S (nI k) p1 j)), (6, .int (nI j))] → W p l e (rmk 1 0 0) s m args below meth c H locs 0 0 Qx (F0 m 22 ls [])) := by
        refine up_in2 (P := fun j => (∀ (H : Heap) (locs : List Loc) (ls : Array Slot), GW Z (MW Z q S Y) A s.heap H locs → lv_has ls 7 [(0, .ref (q 0)), (1, .int (p1)), (2, .int ((hoS S p1 k).1)), (3, .int ((hoS S p1 k).2)), (4, .int (nI k)), (5, .int (coS S (nI k) p1 j)), (6, .int (nI j))] → W p l e (rmk 1 0 0) s m args below meth c H locs 0 0 Qx (F0 m 22 ls []))) ((s_sd S).toNatClampNeg) ?_
        intro j hkj ih22 H locs ls G hl
        refine lv_iload hx hb dX9_holderOf_22 (lv_at hl 6 rfl) ?_
        refine lv_aload_n hx hb dX9_holderOf_24 rfl (lv_at hl 0 rfl) ?_
        refine gM_0_2 E G m_635 dX9_holderOf_25 ?_
        refine lv_icmp_ge (tgt := 70) hx hb dX9_holderOf_28 (by decide) (fun c_28 => ?_) (fun c_28 => ?_)
        · skip
          have c_28n := Int32.not_lt.mpr c_28
          refine lv_iload hx hb dX9_holderOf_70 (lv_at hl 5 rfl) ?_
          refine lv_iload_n hx hb dX9_holderOf_72 rfl (lv_at hl 3 rfl) ?_
          refine lv_icmp_gt (tgt := 79) hx hb dX9_holderOf_73 (by decide) (fun c_73 => ?_) (fun c_73 => ?_)
          · skip
            have c_73n := Int32.not_le.mpr c_73
            refine lv_iload hx hb dX9_holderOf_79 (lv_at hl 4 rfl) ?_
            refine lv_istore_n (lv' := [(2, .int (nI k)), (0, .ref (q 0)), (1, .int (p1)), (3, .int ((hoS S p1 k).2)), (4, .int (nI k)), (5, .int (coS S (nI k) p1 j)), (6, .int (nI j))]) hx hb dX9_holderOf_81 rfl hl (by decide) rfl (fun ls hl => ?_)
            refine lv_iload hx hb dX9_holderOf_82 (lv_at hl 5 rfl) ?_
            refine lv_istore_n (lv' := [(3, .int (coS S (nI k) p1 j)), (2, .int (nI k)), (0, .ref (q 0)), (1, .int (p1)), (4, .int (nI k)), (5, .int (coS S (nI k) p1 j)), (6, .int (nI j))]) hx hb dX9_holderOf_84 rfl hl (by decide) rfl (fun ls hl => ?_)
            refine lv_iinc (v := (nI k) + 1) (lv' := [(4, .int ((nI k) + 1)), (3, .int (coS S (nI k) p1 j)), (2, .int (nI k)), (0, .ref (q 0)), (1, .int (p1)), (5, .int (coS S (nI k) p1 j)), (6, .int (nI j))]) hx hb dX9_holderOf_85 hl (k := 4) rfl rfl (by decide) rfl (fun ls hl => ?_)
            refine lv_goto (tgt := 7) hx hb dX9_holderOf_88 (by decide) ?_
            exact ih7 (lp_lt h0 hkk c_13) _ _ _ (GW.cast (rfl) G) (lv_cast (lv_sub (l' := [(0, .ref (q 0)), (1, .int (p1)), (2, .int (nI k)), (3, .int (coS S (nI k) p1 j)), (4, .int ((nI k) + 1))]) hl [3, 4, 2, 1, 0] rfl) (by rw [lp_eq h5 hkj c_28] at c_73; simp [nI_1, hoS, lp_eq h5 hkj c_28, c_13, c_13n, c_28, c_28n, c_73, c_73n]))
          · skip
            have c_73n := Int32.not_lt.mp c_73
            refine lv_goto (tgt := 85) hx hb dX9_holderOf_76 (by decide) ?_
            refine lv_iinc (v := (nI k) + 1) (lv' := [(4, .int ((nI k) + 1)), (0, .ref (q 0)), (1, .int (p1)), (2, .int ((hoS S p1 k).1)), (3, .int ((hoS S p1 k).2)), (5, .int (coS S (nI k) p1 j)), (6, .int (nI j))]) hx hb dX9_holderOf_85 hl (k := 4) rfl rfl (by decide) rfl (fun ls hl => ?_)
            refine lv_goto (tgt := 7) hx hb dX9_holderOf_88 (by decide) ?_
            exact ih7 (lp_lt h0 hkk c_13) _ _ _ (GW.cast (rfl) G) (lv_cast (lv_sub (l' := [(0, .ref (q 0)), (1, .int (p1)), (2, .int ((hoS S p1 k).1)), (3, .int ((hoS S p1 k).2)), (4, .int ((nI k) + 1))]) hl [1, 2, 3, 4, 0] rfl) (by rw [lp_eq h5 hkj c_28] at c_73; simp [nI_1, hoS, lp_eq h5 hkj c_28, c_13, c_13n, c_28, c_28n, c_73, c_73n]))
        · skip
          have c_28n := Int32.not_le.mp c_28
          refine lv_iload hx hb dX9_holderOf_31 (lv_at hl 5 rfl) ?_
          refine lv_aload_n hx hb dX9_holderOf_33 rfl (lv_at hl 0 rfl) ?_
          refine gM_0_16 E G m_649 dX9_holderOf_34 ?_
          refine lv_iload hx hb dX9_holderOf_37 (lv_at hl 6 rfl) ?_
          refine aM_7 E G (ix_k (lp_lt h5 hkj c_28) h24 (by decide)) dX9_holderOf_39 ?_
          refine lv_iload hx hb dX9_holderOf_40 (lv_at hl 4 rfl) ?_
          refine lv_icmp_ne (tgt := 60) hx hb dX9_holderOf_42 (by decide) (fun c_42 => ?_) (fun c_42 => ?_)
          · skip
            refine lv_iconst (v := 0) hx hb dX9_holderOf_60 (by decide) ?_
            refine lv_iadd hx hb dX9_holderOf_61 ?_
            refine lv_istore (lv' := [(5, .int ((coS S (nI k) p1 j) + 0)), (0, .ref (q 0)), (1, .int (p1)), (2, .int ((hoS S p1 k).1)), (3, .int ((hoS S p1 k).2)), (4, .int (nI k)), (6, .int (nI j))]) hx hb dX9_holderOf_62 hl (by decide) rfl (fun ls hl => ?_)
            refine lv_iinc (v := (nI j) + 1) (lv' := [(6, .int ((nI j) + 1)), (5, .int ((coS S (nI k) p1 j) + 0)), (0, .ref (q 0)), (1, .int (p1)), (2, .int ((hoS S p1 k).1)), (3, .int ((hoS S p1 k).2)), (4, .int (nI k))]) hx hb dX9_holderOf_64 hl (k := 6) rfl rfl (by decide) rfl (fun ls hl => ?_)
            refine lv_goto (tgt := 22) hx hb dX9_holderOf_67 (by decide) ?_
            exact ih22 (lp_lt h5 hkj c_28) _ _ _ (GW.cast (rfl) G) (lv_cast (lv_sub (l' := [(0, .ref (q 0)), (1, .int (p1)), (2, .int ((hoS S p1 k).1)), (3, .int ((hoS S p1 k).2)), (4, .int (nI k)), (5, .int ((coS S (nI k) p1 j) + 0)), (6, .int ((nI j) + 1))]) hl [2, 3, 4, 5, 6, 1, 0] rfl) (by (try simp only [ar_nI _ (show j < 2 ^ 31 by omega)] at c_13 c_13n c_28 c_28n c_42); simp [nI_1, coS, c_13, c_13n, c_28, c_28n, c_42]))
          · skip
            refine lv_aload_n hx hb dX9_holderOf_45 rfl (lv_at hl 0 rfl) ?_
            refine gM_0_17 E G m_650 dX9_holderOf_46 ?_
            refine lv_iload hx hb dX9_holderOf_49 (lv_at hl 6 rfl) ?_
            refine aM_8 E G (ix_k (lp_lt h5 hkj c_28) h24 (by decide)) dX9_holderOf_51 ?_
            refine lv_iload_n hx hb dX9_holderOf_52 rfl (lv_at hl 1 rfl) ?_
            refine lv_icmp_ne (tgt := 60) hx hb dX9_holderOf_53 (by decide) (fun c_53 => ?_) (fun c_53 => ?_)
            · skip
              refine lv_iconst (v := 0) hx hb dX9_holderOf_60 (by decide) ?_
              refine lv_iadd hx hb dX9_holderOf_61 ?_
              refine lv_istore (lv' := [(5, .int ((coS S (nI k) p1 j) + 0)), (0, .ref (q 0)), (1, .int (p1)), (2, .int ((hoS S p1 k).1)), (3, .int ((hoS S p1 k).2)), (4, .int (nI k)), (6, .int (nI j))]) hx hb dX9_holderOf_62 hl (by decide) rfl (fun ls hl => ?_)
              refine lv_iinc (v := (nI j) + 1) (lv' := [(6, .int ((nI j) + 1)), (5, .int ((coS S (nI k) p1 j) + 0)), (0, .ref (q 0)), (1, .int (p1)), (2, .int ((hoS S p1 k).1)), (3, .int ((hoS S p1 k).2)), (4, .int (nI k))]) hx hb dX9_holderOf_64 hl (k := 6) rfl rfl (by decide) rfl (fun ls hl => ?_)
              refine lv_goto (tgt := 22) hx hb dX9_holderOf_67 (by decide) ?_
              exact ih22 (lp_lt h5 hkj c_28) _ _ _ (GW.cast (rfl) G) (lv_cast (lv_sub (l' := [(0, .ref (q 0)), (1, .int (p1)), (2, .int ((hoS S p1 k).1)), (3, .int ((hoS S p1 k).2)), (4, .int (nI k)), (5, .int ((coS S (nI k) p1 j) + 0)), (6, .int ((nI j) + 1))]) hl [2, 3, 4, 5, 6, 1, 0] rfl) (by (try simp only [ar_nI _ (show j < 2 ^ 31 by omega)] at c_13 c_13n c_28 c_28n c_42 c_53); simp [nI_1, coS, c_13, c_13n, c_28, c_28n, c_42, c_53]))
            · skip
              refine lv_iconst (v := 1) hx hb dX9_holderOf_56 (by decide) ?_
              refine lv_goto (tgt := 61) hx hb dX9_holderOf_57 (by decide) ?_
              refine lv_iadd hx hb dX9_holderOf_61 ?_
              refine lv_istore (lv' := [(5, .int ((coS S (nI k) p1 j) + 1)), (0, .ref (q 0)), (1, .int (p1)), (2, .int ((hoS S p1 k).1)), (3, .int ((hoS S p1 k).2)), (4, .int (nI k)), (6, .int (nI j))]) hx hb dX9_holderOf_62 hl (by decide) rfl (fun ls hl => ?_)
              refine lv_iinc (v := (nI j) + 1) (lv' := [(6, .int ((nI j) + 1)), (5, .int ((coS S (nI k) p1 j) + 1)), (0, .ref (q 0)), (1, .int (p1)), (2, .int ((hoS S p1 k).1)), (3, .int ((hoS S p1 k).2)), (4, .int (nI k))]) hx hb dX9_holderOf_64 hl (k := 6) rfl rfl (by decide) rfl (fun ls hl => ?_)
              refine lv_goto (tgt := 22) hx hb dX9_holderOf_67 (by decide) ?_
              exact ih22 (lp_lt h5 hkj c_28) _ _ _ (GW.cast (rfl) G) (lv_cast (lv_sub (l' := [(0, .ref (q 0)), (1, .int (p1)), (2, .int ((hoS S p1 k).1)), (3, .int ((hoS S p1 k).2)), (4, .int (nI k)), (5, .int ((coS S (nI k) p1 j) + 1)), (6, .int ((nI j) + 1))]) hl [2, 3, 4, 5, 6, 1, 0] rfl) (by (try simp only [ar_nI _ (show j < 2 ^ 31 by omega)] at c_13 c_13n c_28 c_28n c_42 c_53); simp [nI_1, coS, c_13, c_13n, c_28, c_28n, c_42, c_53]))
      exact L22 0 (Nat.zero_le _) _ _ _ (GW.cast (rfl) G) (lv_cast (lv_sub (l' := [(0, .ref (q 0)), (1, .int (p1)), (2, .int ((hoS S p1 k).1)), (3, .int ((hoS S p1 k).2)), (4, .int (nI k)), (5, .int (0)), (6, .int (0))]) hl [2, 3, 4, 5, 6, 1, 0] rfl) (by rw [nI_0]; rfl))
  exact L7 0 (Nat.zero_le _) _ _ _ (GW.cast (rfl) G) (lv_cast (lv_sub (l' := [(0, .ref (q 0)), (1, .int (p1)), (2, .int ((-1))), (3, .int (0)), (4, .int (0))]) hl [3, 4, 2, 1, 0] rfl) (by rw [nI_0]; rfl))
set_option maxHeartbeats 4000000 in
set_option maxRecDepth 100000 in
theorem c_X9_holder (l : Launch) (Z : ZT) (q : Nat → Nat) (S : St) (Y : YM) (p1 : Int32) (hI : Inv S) : CT l Z yX9_holder cX9_holder 3 (some .int) 3 [.ref (q 0), .int (p1)] (MW Z q S Y) (some (.int ((sp_holder S p1).1))) (MW Z q ((sp_holder S p1).2) (Y)) := by
  refine CE.mk rfl (Nat.le_of_ble_eq_true rfl) (fun p e s m args below meth c A Qx ls E hr hlk hnm hQ G hl => ?_)
  have hx := E.1.1
  have hb := E.1.2.1
  have hl : lv_has ls 3 [(0, .ref (q 0)), (1, .int (p1))] := hl
  refine lv_aload_n hx hb dX9_holder_0 rfl (lv_at hl 0 rfl) ?_
  refine lv_iload_n hx hb dX9_holder_1 rfl (lv_at hl 1 rfl) ?_
  refine r_V [] E G (c_X9_isStreet l Z q S Y p1 hI) kX9_isStreet m_755 0 rfl rfl ⟨Nat.le_of_ble_eq_true rfl, Nat.le_of_ble_eq_true rfl⟩ hl dX9_holder_2 rfl rfl (Nat.le_of_ble_eq_true rfl) ⟨Nat.zero_le _, Nat.zero_le _⟩ (fun H locs G => ?_)
  refine r_neb (tgt := 14) hx hb dX9_holder_5 (by decide) (fun c_5 => ?_) (fun c_5 => ?_)
  · skip
    refine lv_aload_n hx hb dX9_holder_14 rfl (lv_at hl 0 rfl) ?_
    refine lv_iload_n hx hb dX9_holder_15 rfl (lv_at hl 1 rfl) ?_
    refine r_V [] E G (c_X9_holderOf l Z q S Y p1 hI) kX9_holderOf m_878 0 rfl rfl ⟨Nat.le_of_ble_eq_true rfl, Nat.le_of_ble_eq_true rfl⟩ hl dX9_holder_16 rfl rfl (Nat.le_of_ble_eq_true rfl) ⟨Nat.zero_le _, Nat.zero_le _⟩ (fun H locs G => ?_)
    refine lv_istore_n (lv' := [(2, .int (hol S p1)), (0, .ref (q 0)), (1, .int (p1))]) hx hb dX9_holder_19 rfl hl (by decide) rfl (fun ls hl => ?_)
    refine lv_iload_n hx hb dX9_holder_20 rfl (lv_at hl 0 rfl) ?_
    refine lv_if_ge (tgt := 32) hx hb dX9_holder_21 (by decide) (fun c_21 => ?_) (fun c_21 => ?_)
    · skip
      have c_21n := Int32.not_lt.mpr c_21
      refine lv_iload_n hx hb dX9_holder_32 rfl (lv_at hl 0 rfl) ?_
      have hs : (sp_holder S p1) = (hol S p1, S) := by first | rfl | (simp [sp_holder, fq1, fq2, ← hol_neg hI, c_5, c_21, c_21n]; done)
      exact r_ret E G hr hlk hQ (by rw [hs]) (by rw [hs]) dX9_holder_33
    · skip
      have c_21n := Int32.not_le.mp c_21
      refine lv_aload_n hx hb dX9_holder_24 rfl (lv_at hl 1 rfl) ?_
      refine lv_iconst (v := 2) hx hb dX9_holder_25 (by decide) ?_
      refine r_V [] E G (c_X9_finds l Z q S Y 2 (by decide)) kX9_finds m_746 0 rfl rfl ⟨Nat.le_of_ble_eq_true rfl, Nat.le_of_ble_eq_true rfl⟩ hl dX9_holder_26 rfl rfl (Nat.le_of_ble_eq_true rfl) ⟨Nat.zero_le _, Nat.zero_le _⟩ (fun H locs G => ?_)
      refine lv_goto (tgt := 33) hx hb dX9_holder_29 (by decide) ?_
      have hs : (sp_holder S p1) = ((fnd S (-1000000 - 2)).1, (fnd S (-1000000 - 2)).2) := by first | rfl | (simp [sp_holder, fq1, fq2, ← hol_neg hI, c_5, c_21, c_21n]; done)
      exact r_ret E G hr hlk hQ (by rw [hs]) (by rw [hs]) dX9_holder_33
  · skip
    refine lv_aload_n hx hb dX9_holder_8 rfl (lv_at hl 0 rfl) ?_
    refine lv_iconst (v := 1) hx hb dX9_holder_9 (by decide) ?_
    refine r_V [] E G (c_X9_finds l Z q S Y 1 (by decide)) kX9_finds m_746 0 rfl rfl ⟨Nat.le_of_ble_eq_true rfl, Nat.le_of_ble_eq_true rfl⟩ hl dX9_holder_10 rfl rfl (Nat.le_of_ble_eq_true rfl) ⟨Nat.zero_le _, Nat.zero_le _⟩ (fun H locs G => ?_)
    have hs : (sp_holder S p1) = ((fnd S (-1000000 - 1)).1, (fnd S (-1000000 - 1)).2) := by first | rfl | (simp [sp_holder, fq1, fq2, ← hol_neg hI, c_5]; done)
    exact r_ret E G hr hlk hQ (by rw [hs]) (by rw [hs]) dX9_holder_13
set_option maxHeartbeats 4000000 in
set_option maxRecDepth 100000 in
theorem c_X9_getsOf (l : Launch) (Z : ZT) (q : Nat → Nat) (S : St) (Y : YM) (p1 p2 p3 p4 p5 : Int32) (hI : Inv S) (h1 : isSt S p3 = true) (h2 : isHo p5 = true) : CT l Z yX9_getsOf cX9_getsOf 8 (some .int) 2 [.ref (q 0), .int (p1), .int (p2), .int (p3), .int (p4), .int (p5)] (MW Z q S Y) (some (.int (geS S p1 p2 p3 p4 p5))) (MW Z q S Y) := by
  refine CE.mk rfl (Nat.le_of_ble_eq_true rfl) (fun p e s m args below meth c A Qx ls E hr hlk hnm hQ G hl => ?_)
  have hx := E.1.1
  have hb := E.1.2.1
  have hl : lv_has ls 8 [(0, .ref (q 0)), (1, .int (p1)), (2, .int (p2)), (3, .int (p3)), (4, .int (p4)), (5, .int (p5))] := hl
  refine lv_aload_n hx hb dX9_getsOf_0 rfl (lv_at hl 0 rfl) ?_
  refine lv_iload_n hx hb dX9_getsOf_1 rfl (lv_at hl 3 rfl) ?_
  refine lv_iload hx hb dX9_getsOf_2 (lv_at hl 5 rfl) ?_
  refine r_V [] E G (c_X9_worthOf l Z q S Y p3 p5 hI h1 h2) kX9_worthOf m_814 0 rfl rfl ⟨Nat.le_of_ble_eq_true rfl, Nat.le_of_ble_eq_true rfl⟩ hl dX9_getsOf_4 rfl rfl (Nat.le_of_ble_eq_true rfl) ⟨Nat.zero_le _, Nat.zero_le _⟩ (fun H locs G => ?_)
  refine lv_istore (lv' := [(6, .int (wor S p3 p5)), (0, .ref (q 0)), (1, .int (p1)), (2, .int (p2)), (3, .int (p3)), (4, .int (p4)), (5, .int (p5))]) hx hb dX9_getsOf_7 hl (by decide) rfl (fun ls hl => ?_)
  refine lv_iload_n hx hb dX9_getsOf_9 rfl (lv_at hl 4 rfl) ?_
  refine lv_iload hx hb dX9_getsOf_10 (lv_at hl 5 rfl) ?_
  refine lv_icmp_eq (tgt := 18) hx hb dX9_getsOf_12 (by decide) (fun c_12 => ?_) (fun c_12 => ?_)
  · skip
    refine lv_aload_n hx hb dX9_getsOf_18 rfl (lv_at hl 1 rfl) ?_
    refine lv_iload_n hx hb dX9_getsOf_19 rfl (lv_at hl 4 rfl) ?_
    refine r_V [] E G (c_X9_holderOf l Z q S Y p3 hI) kX9_holderOf m_878 0 rfl rfl ⟨Nat.le_of_ble_eq_true rfl, Nat.le_of_ble_eq_true rfl⟩ hl dX9_getsOf_20 rfl rfl (Nat.le_of_ble_eq_true rfl) ⟨Nat.zero_le _, Nat.zero_le _⟩ (fun H locs G => ?_)
    refine lv_istore (lv' := [(7, .int (hol S p3)), (6, .int (wor S p3 p5)), (0, .ref (q 0)), (1, .int (p1)), (2, .int (p2)), (3, .int (p3)), (4, .int (p4)), (5, .int (p5))]) hx hb dX9_getsOf_23 hl (by decide) rfl (fun ls hl => ?_)
    refine lv_iload hx hb dX9_getsOf_25 (lv_at hl 0 rfl) ?_
    refine lv_iload_n hx hb dX9_getsOf_27 rfl (lv_at hl 3 rfl) ?_
    refine lv_icmp_ne (tgt := 40) hx hb dX9_getsOf_28 (by decide) (fun c_28 => ?_) (fun c_28 => ?_)
    · skip
      refine lv_iload hx hb dX9_getsOf_40 (lv_at hl 0 rfl) ?_
      refine lv_iload_n hx hb dX9_getsOf_42 rfl (lv_at hl 4 rfl) ?_
      refine lv_icmp_ne (tgt := 53) hx hb dX9_getsOf_43 (by decide) (fun c_43 => ?_) (fun c_43 => ?_)
      · skip
        refine lv_iload hx hb dX9_getsOf_53 (lv_at hl 1 rfl) ?_
        refine lv_iconst (v := 2) hx hb dX9_getsOf_55 (by decide) ?_
        refine lv_idiv hx hb dX9_getsOf_56 (by decide) ?_
        have hs : (geS S p1 p2 p3 p4 p5) = (wor S p3 p5) / 2 := by first | rfl | (simp [geS, Int32.mul_comm 2, c_12, c_28, c_43]; done) | (simp_all [geS, Int32.mul_comm 2]; done)
        exact r_ret E G hr hlk hQ (congrArg (fun t => some (Value.int t)) hs) rfl dX9_getsOf_57
      · skip
        refine lv_iload hx hb dX9_getsOf_46 (lv_at hl 1 rfl) ?_
        refine lv_iconst (v := 3) hx hb dX9_getsOf_48 (by decide) ?_
        refine lv_idiv hx hb dX9_getsOf_49 (by decide) ?_
        refine lv_goto (tgt := 57) hx hb dX9_getsOf_50 (by decide) ?_
        have hs : (geS S p1 p2 p3 p4 p5) = (wor S p3 p5) / 3 := by first | rfl | (simp [geS, Int32.mul_comm 2, c_12, c_28, c_43]; done) | (simp_all [geS, Int32.mul_comm 2]; done)
        exact r_ret E G hr hlk hQ (congrArg (fun t => some (Value.int t)) hs) rfl dX9_getsOf_57
    · skip
      refine lv_iconst (v := 2) hx hb dX9_getsOf_31 (by decide) ?_
      refine lv_iload hx hb dX9_getsOf_32 (lv_at hl 1 rfl) ?_
      refine lv_imul hx hb dX9_getsOf_34 ?_
      refine lv_iconst (v := 3) hx hb dX9_getsOf_35 (by decide) ?_
      refine lv_idiv hx hb dX9_getsOf_36 (by decide) ?_
      refine lv_goto (tgt := 57) hx hb dX9_getsOf_37 (by decide) ?_
      have hs : (geS S p1 p2 p3 p4 p5) = (2 * (wor S p3 p5)) / 3 := by first | rfl | (simp [geS, Int32.mul_comm 2, c_12, c_28]; done) | (simp_all [geS, Int32.mul_comm 2]; done)
      exact r_ret E G hr hlk hQ (congrArg (fun t => some (Value.int t)) hs) rfl dX9_getsOf_57
  · skip
    refine lv_iload hx hb dX9_getsOf_15 (lv_at hl 0 rfl) ?_
    have hs : (geS S p1 p2 p3 p4 p5) = wor S p3 p5 := by first | rfl | (simp [geS, Int32.mul_comm 2, c_12]; done) | (simp_all [geS, Int32.mul_comm 2]; done)
    exact r_ret E G hr hlk hQ (congrArg (fun t => some (Value.int t)) hs) rfl dX9_getsOf_17
set_option maxHeartbeats 4000000 in
set_option maxRecDepth 100000 in
theorem c_X9_gets (l : Launch) (Z : ZT) (q : Nat → Nat) (S : St) (Y : YM) (p1 p2 p3 p4 : Int32) (hI : Inv S) : CT l Z yX9_gets cX9_gets 5 (some .int) 4 [.ref (q 0), .int (p1), .int (p2), .int (p3), .int (p4)] (MW Z q S Y) (some (.int ((sp_gets S p1 p2 p3 p4).1))) (MW Z q ((sp_gets S p1 p2 p3 p4).2) (Y)) := by
  refine CE.mk rfl (Nat.le_of_ble_eq_true rfl) (fun p e s m args below meth c A Qx ls E hr hlk hnm hQ G hl => ?_)
  have hx := E.1.1
  have hb := E.1.2.1
  have hl : lv_has ls 5 [(0, .ref (q 0)), (1, .int (p1)), (2, .int (p2)), (3, .int (p3)), (4, .int (p4))] := hl
  refine lv_aload_n hx hb dX9_gets_0 rfl (lv_at hl 0 rfl) ?_
  refine lv_iload_n hx hb dX9_gets_1 rfl (lv_at hl 1 rfl) ?_
  refine r_V [] E G (c_X9_isVan l Z q S Y p1 hI) kX9_isVan m_778 0 rfl rfl ⟨Nat.le_of_ble_eq_true rfl, Nat.le_of_ble_eq_true rfl⟩ hl dX9_gets_2 rfl rfl (Nat.le_of_ble_eq_true rfl) ⟨Nat.zero_le _, Nat.zero_le _⟩ (fun H locs G => ?_)
  refine r_eqb (tgt := 55) hx hb dX9_gets_5 (by decide) (fun c_5 => ?_) (fun c_5 => ?_)
  · skip
    refine lv_aload_n hx hb dX9_gets_55 rfl (lv_at hl 0 rfl) ?_
    refine lv_iconst (v := 1) hx hb dX9_gets_56 (by decide) ?_
    refine r_V [] E G (c_X9_finds l Z q S Y 1 (by decide)) kX9_finds m_746 0 rfl rfl ⟨Nat.le_of_ble_eq_true rfl, Nat.le_of_ble_eq_true rfl⟩ hl dX9_gets_57 rfl rfl (Nat.le_of_ble_eq_true rfl) ⟨Nat.zero_le _, Nat.zero_le _⟩ (fun H locs G => ?_)
    have hs : (sp_gets S p1 p2 p3 p4) = ((fnd S (-1000000 - 1)).1, (fnd S (-1000000 - 1)).2) := by first | rfl | (simp [sp_gets, isPr, re10, fq1, fq2, fq3, fq4, fq5, c_5]; done) | (simp_all [sp_gets, isPr, re10, fq1, fq2, fq3, fq4, fq5]; done)
    exact r_ret E G hr hlk hQ (by rw [hs]) (by rw [hs]) dX9_gets_60
  · skip
    refine lv_aload_n hx hb dX9_gets_8 rfl (lv_at hl 0 rfl) ?_
    refine lv_iload_n hx hb dX9_gets_9 rfl (lv_at hl 2 rfl) ?_
    refine r_V [] E G (c_X9_isVan l Z q S Y p2 hI) kX9_isVan m_778 0 rfl rfl ⟨Nat.le_of_ble_eq_true rfl, Nat.le_of_ble_eq_true rfl⟩ hl dX9_gets_10 rfl rfl (Nat.le_of_ble_eq_true rfl) ⟨Nat.zero_le _, Nat.zero_le _⟩ (fun H locs G => ?_)
    refine r_eqb (tgt := 55) hx hb dX9_gets_13 (by decide) (fun c_13 => ?_) (fun c_13 => ?_)
    · skip
      refine lv_aload_n hx hb dX9_gets_55 rfl (lv_at hl 0 rfl) ?_
      refine lv_iconst (v := 1) hx hb dX9_gets_56 (by decide) ?_
      refine r_V [] E G (c_X9_finds l Z q S Y 1 (by decide)) kX9_finds m_746 0 rfl rfl ⟨Nat.le_of_ble_eq_true rfl, Nat.le_of_ble_eq_true rfl⟩ hl dX9_gets_57 rfl rfl (Nat.le_of_ble_eq_true rfl) ⟨Nat.zero_le _, Nat.zero_le _⟩ (fun H locs G => ?_)
      have hs : (sp_gets S p1 p2 p3 p4) = ((fnd S (-1000000 - 1)).1, (fnd S (-1000000 - 1)).2) := by first | rfl | (simp [sp_gets, isPr, re10, fq1, fq2, fq3, fq4, fq5, c_5, c_13]; done) | (simp_all [sp_gets, isPr, re10, fq1, fq2, fq3, fq4, fq5]; done)
      exact r_ret E G hr hlk hQ (by rw [hs]) (by rw [hs]) dX9_gets_60
    · skip
      refine lv_iload_n hx hb dX9_gets_16 rfl (lv_at hl 1 rfl) ?_
      refine lv_iload_n hx hb dX9_gets_17 rfl (lv_at hl 2 rfl) ?_
      refine lv_icmp_eq (tgt := 55) hx hb dX9_gets_18 (by decide) (fun c_18 => ?_) (fun c_18 => ?_)
      · skip
        refine lv_aload_n hx hb dX9_gets_55 rfl (lv_at hl 0 rfl) ?_
        refine lv_iconst (v := 1) hx hb dX9_gets_56 (by decide) ?_
        refine r_V [] E G (c_X9_finds l Z q S Y 1 (by decide)) kX9_finds m_746 0 rfl rfl ⟨Nat.le_of_ble_eq_true rfl, Nat.le_of_ble_eq_true rfl⟩ hl dX9_gets_57 rfl rfl (Nat.le_of_ble_eq_true rfl) ⟨Nat.zero_le _, Nat.zero_le _⟩ (fun H locs G => ?_)
        have hs : (sp_gets S p1 p2 p3 p4) = ((fnd S (-1000000 - 1)).1, (fnd S (-1000000 - 1)).2) := by first | rfl | (simp [sp_gets, isPr, re10, fq1, fq2, fq3, fq4, fq5, c_5, c_13, c_18]; done) | (simp_all [sp_gets, isPr, re10, fq1, fq2, fq3, fq4, fq5]; done)
        exact r_ret E G hr hlk hQ (by rw [hs]) (by rw [hs]) dX9_gets_60
      · skip
        refine lv_iload_n hx hb dX9_gets_21 rfl (lv_at hl 3 rfl) ?_
        refine lv_if_lt (tgt := 55) hx hb dX9_gets_22 (by decide) (fun c_22 => ?_) (fun c_22 => ?_)
        · skip
          have c_22n := Int32.not_le.mpr c_22
          refine lv_aload_n hx hb dX9_gets_55 rfl (lv_at hl 0 rfl) ?_
          refine lv_iconst (v := 1) hx hb dX9_gets_56 (by decide) ?_
          refine r_V [] E G (c_X9_finds l Z q S Y 1 (by decide)) kX9_finds m_746 0 rfl rfl ⟨Nat.le_of_ble_eq_true rfl, Nat.le_of_ble_eq_true rfl⟩ hl dX9_gets_57 rfl rfl (Nat.le_of_ble_eq_true rfl) ⟨Nat.zero_le _, Nat.zero_le _⟩ (fun H locs G => ?_)
          have hs : (sp_gets S p1 p2 p3 p4) = ((fnd S (-1000000 - 1)).1, (fnd S (-1000000 - 1)).2) := by first | rfl | (simp [sp_gets, isPr, re10, fq1, fq2, fq3, fq4, fq5, c_5, c_13, c_18, c_22, c_22n]; done) | (simp_all [sp_gets, isPr, re10, fq1, fq2, fq3, fq4, fq5]; done)
          exact r_ret E G hr hlk hQ (by rw [hs]) (by rw [hs]) dX9_gets_60
        · skip
          have c_22n := Int32.not_lt.mp c_22
          refine lv_aload_n hx hb dX9_gets_25 rfl (lv_at hl 0 rfl) ?_
          refine lv_iload_n hx hb dX9_gets_26 rfl (lv_at hl 3 rfl) ?_
          refine lv_bipush (v := 10) hx hb dX9_gets_27 (by decide) ?_
          refine lv_idiv hx hb dX9_gets_29 (by decide) ?_
          refine r_V [] E G (c_X9_isStreet l Z q S Y (p3 / 10) hI) kX9_isStreet m_755 0 rfl rfl ⟨Nat.le_of_ble_eq_true rfl, Nat.le_of_ble_eq_true rfl⟩ hl dX9_gets_30 rfl rfl (Nat.le_of_ble_eq_true rfl) ⟨Nat.zero_le _, Nat.zero_le _⟩ (fun H locs G => ?_)
          refine r_eqb (tgt := 55) hx hb dX9_gets_33 (by decide) (fun c_33 => ?_) (fun c_33 => ?_)
          · skip
            refine lv_aload_n hx hb dX9_gets_55 rfl (lv_at hl 0 rfl) ?_
            refine lv_iconst (v := 1) hx hb dX9_gets_56 (by decide) ?_
            refine r_V [] E G (c_X9_finds l Z q S Y 1 (by decide)) kX9_finds m_746 0 rfl rfl ⟨Nat.le_of_ble_eq_true rfl, Nat.le_of_ble_eq_true rfl⟩ hl dX9_gets_57 rfl rfl (Nat.le_of_ble_eq_true rfl) ⟨Nat.zero_le _, Nat.zero_le _⟩ (fun H locs G => ?_)
            have hs : (sp_gets S p1 p2 p3 p4) = ((fnd S (-1000000 - 1)).1, (fnd S (-1000000 - 1)).2) := by first | rfl | (simp [sp_gets, isPr, re10, fq1, fq2, fq3, fq4, fq5, c_5, c_13, c_18, c_22, c_22n, c_33]; done) | (simp_all [sp_gets, isPr, re10, fq1, fq2, fq3, fq4, fq5]; done)
            exact r_ret E G hr hlk hQ (by rw [hs]) (by rw [hs]) dX9_gets_60
          · skip
            refine lv_aload_n hx hb dX9_gets_36 rfl (lv_at hl 0 rfl) ?_
            refine lv_iload_n hx hb dX9_gets_37 rfl (lv_at hl 3 rfl) ?_
            refine lv_bipush (v := 10) hx hb dX9_gets_38 (by decide) ?_
            refine lv_irem hx hb dX9_gets_40 (by decide) ?_
            refine r_V [] E G (c_X9_isStreet l Z q S Y (p3 - p3 / 10 * 10) hI) kX9_isStreet m_755 0 rfl rfl ⟨Nat.le_of_ble_eq_true rfl, Nat.le_of_ble_eq_true rfl⟩ hl dX9_gets_41 rfl rfl (Nat.le_of_ble_eq_true rfl) ⟨Nat.zero_le _, Nat.zero_le _⟩ (fun H locs G => ?_)
            refine r_eqb (tgt := 55) hx hb dX9_gets_44 (by decide) (fun c_44 => ?_) (fun c_44 => ?_)
            · skip
              refine lv_aload_n hx hb dX9_gets_55 rfl (lv_at hl 0 rfl) ?_
              refine lv_iconst (v := 1) hx hb dX9_gets_56 (by decide) ?_
              refine r_V [] E G (c_X9_finds l Z q S Y 1 (by decide)) kX9_finds m_746 0 rfl rfl ⟨Nat.le_of_ble_eq_true rfl, Nat.le_of_ble_eq_true rfl⟩ hl dX9_gets_57 rfl rfl (Nat.le_of_ble_eq_true rfl) ⟨Nat.zero_le _, Nat.zero_le _⟩ (fun H locs G => ?_)
              have hs : (sp_gets S p1 p2 p3 p4) = ((fnd S (-1000000 - 1)).1, (fnd S (-1000000 - 1)).2) := by first | rfl | (simp [sp_gets, isPr, re10, fq1, fq2, fq3, fq4, fq5, c_5, c_13, c_18, c_22, c_22n, c_33, c_44]; done) | (simp_all [sp_gets, isPr, re10, fq1, fq2, fq3, fq4, fq5]; done)
              exact r_ret E G hr hlk hQ (by rw [hs]) (by rw [hs]) dX9_gets_60
            · skip
              refine lv_iload hx hb dX9_gets_47 (lv_at hl 4 rfl) ?_
              refine r_S [] E G (c_X9_isHour l Z q S Y p4) kX9_isHour m_763 ⟨Nat.le_of_ble_eq_true rfl, Nat.le_of_ble_eq_true rfl⟩ hl dX9_gets_49 rfl rfl (Nat.le_of_ble_eq_true rfl) ⟨Nat.zero_le _, Nat.zero_le _⟩ (fun H locs G => ?_)
              refine r_neb (tgt := 61) hx hb dX9_gets_52 (by decide) (fun c_52 => ?_) (fun c_52 => ?_)
              · skip
                refine lv_aload_n hx hb dX9_gets_61 rfl (lv_at hl 0 rfl) ?_
                refine lv_iload_n hx hb dX9_gets_62 rfl (lv_at hl 1 rfl) ?_
                refine lv_iload_n hx hb dX9_gets_63 rfl (lv_at hl 3 rfl) ?_
                refine lv_bipush (v := 10) hx hb dX9_gets_64 (by decide) ?_
                refine lv_idiv hx hb dX9_gets_66 (by decide) ?_
                refine lv_iload hx hb dX9_gets_67 (lv_at hl 4 rfl) ?_
                refine r_V [] E G (c_X9_mayStand l Z q S Y p1 (p3 / 10) p4 hI c_5 c_33) kX9_mayStand m_798 0 rfl rfl ⟨Nat.le_of_ble_eq_true rfl, Nat.le_of_ble_eq_true rfl⟩ hl dX9_gets_69 rfl rfl (Nat.le_of_ble_eq_true rfl) ⟨Nat.zero_le _, Nat.zero_le _⟩ (fun H locs G => ?_)
                refine r_eqb (tgt := 89) hx hb dX9_gets_72 (by decide) (fun c_72 => ?_) (fun c_72 => ?_)
                · skip
                  refine lv_aload_n hx hb dX9_gets_89 rfl (lv_at hl 0 rfl) ?_
                  refine lv_iconst (v := 3) hx hb dX9_gets_90 (by decide) ?_
                  refine r_V [] E G (c_X9_finds l Z q S Y 3 (by decide)) kX9_finds m_746 0 rfl rfl ⟨Nat.le_of_ble_eq_true rfl, Nat.le_of_ble_eq_true rfl⟩ hl dX9_gets_91 rfl rfl (Nat.le_of_ble_eq_true rfl) ⟨Nat.zero_le _, Nat.zero_le _⟩ (fun H locs G => ?_)
                  have hs : (sp_gets S p1 p2 p3 p4) = ((fnd S (-1000000 - 3)).1, (fnd S (-1000000 - 3)).2) := by first | rfl | (simp [sp_gets, isPr, re10, fq1, fq2, fq3, fq4, fq5, c_5, c_13, c_18, c_22, c_22n, c_33, c_44, c_52, c_72]; done) | (simp_all [sp_gets, isPr, re10, fq1, fq2, fq3, fq4, fq5]; done)
                  exact r_ret E G hr hlk hQ (by rw [hs]) (by rw [hs]) dX9_gets_94
                · skip
                  refine lv_aload_n hx hb dX9_gets_75 rfl (lv_at hl 0 rfl) ?_
                  refine lv_iload_n hx hb dX9_gets_76 rfl (lv_at hl 2 rfl) ?_
                  refine lv_iload_n hx hb dX9_gets_77 rfl (lv_at hl 3 rfl) ?_
                  refine lv_bipush (v := 10) hx hb dX9_gets_78 (by decide) ?_
                  refine lv_irem hx hb dX9_gets_80 (by decide) ?_
                  refine lv_iload hx hb dX9_gets_81 (lv_at hl 4 rfl) ?_
                  refine r_V [] E G (c_X9_mayStand l Z q S Y p2 (p3 - p3 / 10 * 10) p4 hI c_13 c_44) kX9_mayStand m_798 0 rfl rfl ⟨Nat.le_of_ble_eq_true rfl, Nat.le_of_ble_eq_true rfl⟩ hl dX9_gets_83 rfl rfl (Nat.le_of_ble_eq_true rfl) ⟨Nat.zero_le _, Nat.zero_le _⟩ (fun H locs G => ?_)
                  refine r_neb (tgt := 95) hx hb dX9_gets_86 (by decide) (fun c_86 => ?_) (fun c_86 => ?_)
                  · skip
                    refine lv_aload_n hx hb dX9_gets_95 rfl (lv_at hl 0 rfl) ?_
                    refine lv_iload_n hx hb dX9_gets_96 rfl (lv_at hl 1 rfl) ?_
                    refine lv_iload_n hx hb dX9_gets_97 rfl (lv_at hl 2 rfl) ?_
                    refine lv_iload_n hx hb dX9_gets_98 rfl (lv_at hl 3 rfl) ?_
                    refine lv_bipush (v := 10) hx hb dX9_gets_99 (by decide) ?_
                    refine lv_idiv hx hb dX9_gets_101 (by decide) ?_
                    refine lv_iload_n hx hb dX9_gets_102 rfl (lv_at hl 3 rfl) ?_
                    refine lv_bipush (v := 10) hx hb dX9_gets_103 (by decide) ?_
                    refine lv_irem hx hb dX9_gets_105 (by decide) ?_
                    refine lv_iload hx hb dX9_gets_106 (lv_at hl 4 rfl) ?_
                    refine r_V [] E G (c_X9_getsOf l Z q S Y p1 p2 (p3 / 10) (p3 - p3 / 10 * 10) p4 hI c_33 c_52) kX9_getsOf m_886 0 rfl rfl ⟨Nat.le_of_ble_eq_true rfl, Nat.le_of_ble_eq_true rfl⟩ hl dX9_gets_108 rfl rfl (Nat.le_of_ble_eq_true rfl) ⟨Nat.zero_le _, Nat.zero_le _⟩ (fun H locs G => ?_)
                    have hs : (sp_gets S p1 p2 p3 p4) = (geS S p1 p2 (p3 / 10) (p3 - p3 / 10 * 10) p4, S) := by first | rfl | (simp [sp_gets, isPr, re10, fq1, fq2, fq3, fq4, fq5, c_5, c_13, c_18, c_22, c_22n, c_33, c_44, c_52, c_72, c_86]; done) | (simp_all [sp_gets, isPr, re10, fq1, fq2, fq3, fq4, fq5]; done)
                    exact r_ret E G hr hlk hQ (by rw [hs]) (by rw [hs]) dX9_gets_111
                  · skip
                    refine lv_aload_n hx hb dX9_gets_89 rfl (lv_at hl 0 rfl) ?_
                    refine lv_iconst (v := 3) hx hb dX9_gets_90 (by decide) ?_
                    refine r_V [] E G (c_X9_finds l Z q S Y 3 (by decide)) kX9_finds m_746 0 rfl rfl ⟨Nat.le_of_ble_eq_true rfl, Nat.le_of_ble_eq_true rfl⟩ hl dX9_gets_91 rfl rfl (Nat.le_of_ble_eq_true rfl) ⟨Nat.zero_le _, Nat.zero_le _⟩ (fun H locs G => ?_)
                    have hs : (sp_gets S p1 p2 p3 p4) = ((fnd S (-1000000 - 3)).1, (fnd S (-1000000 - 3)).2) := by first | rfl | (simp [sp_gets, isPr, re10, fq1, fq2, fq3, fq4, fq5, c_5, c_13, c_18, c_22, c_22n, c_33, c_44, c_52, c_72, c_86]; done) | (simp_all [sp_gets, isPr, re10, fq1, fq2, fq3, fq4, fq5]; done)
                    exact r_ret E G hr hlk hQ (by rw [hs]) (by rw [hs]) dX9_gets_94
              · skip
                refine lv_aload_n hx hb dX9_gets_55 rfl (lv_at hl 0 rfl) ?_
                refine lv_iconst (v := 1) hx hb dX9_gets_56 (by decide) ?_
                refine r_V [] E G (c_X9_finds l Z q S Y 1 (by decide)) kX9_finds m_746 0 rfl rfl ⟨Nat.le_of_ble_eq_true rfl, Nat.le_of_ble_eq_true rfl⟩ hl dX9_gets_57 rfl rfl (Nat.le_of_ble_eq_true rfl) ⟨Nat.zero_le _, Nat.zero_le _⟩ (fun H locs G => ?_)
                have hs : (sp_gets S p1 p2 p3 p4) = ((fnd S (-1000000 - 1)).1, (fnd S (-1000000 - 1)).2) := by first | rfl | (simp [sp_gets, isPr, re10, fq1, fq2, fq3, fq4, fq5, c_5, c_13, c_18, c_22, c_22n, c_33, c_44, c_52]; done) | (simp_all [sp_gets, isPr, re10, fq1, fq2, fq3, fq4, fq5]; done)
                exact r_ret E G hr hlk hQ (by rw [hs]) (by rw [hs]) dX9_gets_60
set_option maxHeartbeats 4000000 in
set_option maxRecDepth 100000 in
theorem c_X9_areTwo (l : Launch) (Z : ZT) (q : Nat → Nat) (S : St) (Y : YM) (p1 p2 p3 : Int32) (hI : Inv S) : CT l Z yX9_areTwo cX9_areTwo 4 (some .boolean) 3 [.ref (q 0), .int (p1), .int (p2), .int (p3)] (MW Z q S Y) (some (.int (b01 (isVa S p1 && (isVa S p2 && (!decide (p1 = p2) && isHo p3)))))) (MW Z q S Y) := by
  refine CE.mk rfl (Nat.le_of_ble_eq_true rfl) (fun p e s m args below meth c A Qx ls E hr hlk hnm hQ G hl => ?_)
  have hx := E.1.1
  have hb := E.1.2.1
  have hl : lv_has ls 4 [(0, .ref (q 0)), (1, .int (p1)), (2, .int (p2)), (3, .int (p3))] := hl
  refine lv_aload_n hx hb dX9_areTwo_0 rfl (lv_at hl 0 rfl) ?_
  refine lv_iload_n hx hb dX9_areTwo_1 rfl (lv_at hl 1 rfl) ?_
  refine r_V [] E G (c_X9_isVan l Z q S Y p1 hI) kX9_isVan m_778 0 rfl rfl ⟨Nat.le_of_ble_eq_true rfl, Nat.le_of_ble_eq_true rfl⟩ hl dX9_areTwo_2 rfl rfl (Nat.le_of_ble_eq_true rfl) ⟨Nat.zero_le _, Nat.zero_le _⟩ (fun H locs G => ?_)
  refine r_eqb (tgt := 32) hx hb dX9_areTwo_5 (by decide) (fun c_5 => ?_) (fun c_5 => ?_)
  · skip
    refine lv_iconst (v := 0) hx hb dX9_areTwo_32 (by decide) ?_
    have hs : (isVa S p1 && (isVa S p2 && (!decide (p1 = p2) && isHo p3))) = false := by first | rfl | (simp [c_5]; done) | (simp_all []; done)
    exact r_retz E G hr hlk hQ (by decide) (congrArg (fun t => some (Value.int (b01 t))) hs) rfl dX9_areTwo_33
  · skip
    refine lv_aload_n hx hb dX9_areTwo_8 rfl (lv_at hl 0 rfl) ?_
    refine lv_iload_n hx hb dX9_areTwo_9 rfl (lv_at hl 2 rfl) ?_
    refine r_V [] E G (c_X9_isVan l Z q S Y p2 hI) kX9_isVan m_778 0 rfl rfl ⟨Nat.le_of_ble_eq_true rfl, Nat.le_of_ble_eq_true rfl⟩ hl dX9_areTwo_10 rfl rfl (Nat.le_of_ble_eq_true rfl) ⟨Nat.zero_le _, Nat.zero_le _⟩ (fun H locs G => ?_)
    refine r_eqb (tgt := 32) hx hb dX9_areTwo_13 (by decide) (fun c_13 => ?_) (fun c_13 => ?_)
    · skip
      refine lv_iconst (v := 0) hx hb dX9_areTwo_32 (by decide) ?_
      have hs : (isVa S p1 && (isVa S p2 && (!decide (p1 = p2) && isHo p3))) = false := by first | rfl | (simp [c_5, c_13]; done) | (simp_all []; done)
      exact r_retz E G hr hlk hQ (by decide) (congrArg (fun t => some (Value.int (b01 t))) hs) rfl dX9_areTwo_33
    · skip
      refine lv_iload_n hx hb dX9_areTwo_16 rfl (lv_at hl 1 rfl) ?_
      refine lv_iload_n hx hb dX9_areTwo_17 rfl (lv_at hl 2 rfl) ?_
      refine lv_icmp_eq (tgt := 32) hx hb dX9_areTwo_18 (by decide) (fun c_18 => ?_) (fun c_18 => ?_)
      · skip
        refine lv_iconst (v := 0) hx hb dX9_areTwo_32 (by decide) ?_
        have hs : (isVa S p1 && (isVa S p2 && (!decide (p1 = p2) && isHo p3))) = false := by first | rfl | (simp [c_5, c_13, c_18]; done) | (simp_all []; done)
        exact r_retz E G hr hlk hQ (by decide) (congrArg (fun t => some (Value.int (b01 t))) hs) rfl dX9_areTwo_33
      · skip
        refine lv_iload_n hx hb dX9_areTwo_21 rfl (lv_at hl 3 rfl) ?_
        refine r_S [] E G (c_X9_isHour l Z q S Y p3) kX9_isHour m_763 ⟨Nat.le_of_ble_eq_true rfl, Nat.le_of_ble_eq_true rfl⟩ hl dX9_areTwo_22 rfl rfl (Nat.le_of_ble_eq_true rfl) ⟨Nat.zero_le _, Nat.zero_le _⟩ (fun H locs G => ?_)
        refine r_eqb (tgt := 32) hx hb dX9_areTwo_25 (by decide) (fun c_25 => ?_) (fun c_25 => ?_)
        · skip
          refine lv_iconst (v := 0) hx hb dX9_areTwo_32 (by decide) ?_
          have hs : (isVa S p1 && (isVa S p2 && (!decide (p1 = p2) && isHo p3))) = false := by first | rfl | (simp [c_5, c_13, c_18, c_25]; done) | (simp_all []; done)
          exact r_retz E G hr hlk hQ (by decide) (congrArg (fun t => some (Value.int (b01 t))) hs) rfl dX9_areTwo_33
        · skip
          refine lv_iconst (v := 1) hx hb dX9_areTwo_28 (by decide) ?_
          refine lv_goto (tgt := 33) hx hb dX9_areTwo_29 (by decide) ?_
          have hs : (isVa S p1 && (isVa S p2 && (!decide (p1 = p2) && isHo p3))) = true := by first | rfl | (simp [c_5, c_13, c_18, c_25]; done) | (simp_all []; done)
          exact r_retz E G hr hlk hQ (by decide) (congrArg (fun t => some (Value.int (b01 t))) hs) rfl dX9_areTwo_33
set_option maxHeartbeats 4000000 in
set_option maxRecDepth 100000 in
theorem c_X9_credit (l : Launch) (Z : ZT) (q : Nat → Nat) (S : St) (Y : YM) (p1 : Int32) (hI : Inv S) : CT l Z yX9_credit cX9_credit 3 (some .int) 3 [.ref (q 0), .int (p1)] (MW Z q S Y) (some (.int ((sp_credit S p1).1))) (MW Z q ((sp_credit S p1).2) (Y)) := by
  refine CE.mk rfl (Nat.le_of_ble_eq_true rfl) (fun p e s m args below meth c A Qx ls E hr hlk hnm hQ G hl => ?_)
  have hx := E.1.1
  have hb := E.1.2.1
  have hl : lv_has ls 3 [(0, .ref (q 0)), (1, .int (p1))] := hl
  refine lv_iload_n hx hb dX9_credit_0 rfl (lv_at hl 1 rfl) ?_
  refine lv_iconst (v := 0) hx hb dX9_credit_1 (by decide) ?_
  refine lv_bipush (v := 60) hx hb dX9_credit_2 (by decide) ?_
  refine r_S [] E G (c_X9_in l Z q S Y p1 0 60) kX9_in m_743 ⟨Nat.le_of_ble_eq_true rfl, Nat.le_of_ble_eq_true rfl⟩ hl dX9_credit_4 rfl rfl (Nat.le_of_ble_eq_true rfl) ⟨Nat.zero_le _, Nat.zero_le _⟩ (fun H locs G => ?_)
  refine r_neb (tgt := 16) hx hb dX9_credit_7 (by decide) (fun c_7 => ?_) (fun c_7 => ?_)
  · skip
    refine lv_aload_n hx hb dX9_credit_16 rfl (lv_at hl 0 rfl) ?_
    refine gM_0_9 E G m_642 dX9_credit_17 ?_
    refine lv_istore_n (lv' := [(2, .int (s_cr S)), (0, .ref (q 0)), (1, .int (p1))]) hx hb dX9_credit_20 rfl hl (by decide) rfl (fun ls hl => ?_)
    refine lv_aload_n hx hb dX9_credit_21 rfl (lv_at hl 1 rfl) ?_
    refine lv_iload_n hx hb dX9_credit_22 rfl (lv_at hl 2 rfl) ?_
    refine pM_0_9 E G m_642 dX9_credit_23 (fun H locs G => ?_)
    refine lv_iload_n hx hb dX9_credit_26 rfl (lv_at hl 0 rfl) ?_
    have hs : (sp_credit S p1) = (s_cr S, u_cr S p1) := by first | rfl | (simp [sp_credit, fq1, fq2, fq3, fq4, fq5, c_7]; done) | (simp_all [sp_credit, fq1, fq2, fq3, fq4, fq5]; done)
    exact r_ret E G hr hlk hQ (by rw [hs]) (by rw [hs]) dX9_credit_27
  · skip
    refine lv_aload_n hx hb dX9_credit_10 rfl (lv_at hl 0 rfl) ?_
    refine lv_iconst (v := 1) hx hb dX9_credit_11 (by decide) ?_
    refine r_V [] E G (c_X9_finds l Z q S Y 1 (by decide)) kX9_finds m_746 0 rfl rfl ⟨Nat.le_of_ble_eq_true rfl, Nat.le_of_ble_eq_true rfl⟩ hl dX9_credit_12 rfl rfl (Nat.le_of_ble_eq_true rfl) ⟨Nat.zero_le _, Nat.zero_le _⟩ (fun H locs G => ?_)
    have hs : (sp_credit S p1) = ((fnd S (-1000000 - 1)).1, (fnd S (-1000000 - 1)).2) := by first | rfl | (simp [sp_credit, fq1, fq2, fq3, fq4, fq5, c_7]; done) | (simp_all [sp_credit, fq1, fq2, fq3, fq4, fq5]; done)
    exact r_ret E G hr hlk hQ (by rw [hs]) (by rw [hs]) dX9_credit_15
set_option maxHeartbeats 4000000 in
set_option maxRecDepth 100000 in
theorem c_X9_bill (l : Launch) (Z : ZT) (q : Nat → Nat) (S : St) (Y : YM) (p1 p2 : Int32) (hI : Inv S) : CT l Z yX9_bill cX9_bill 3 (some .int) 3 [.ref (q 0), .int (p1), .int (p2)] (MW Z q S Y) (some (.int ((sp_bill S p1 p2).1))) (MW Z q ((sp_bill S p1 p2).2) (Y)) := by
  refine CE.mk rfl (Nat.le_of_ble_eq_true rfl) (fun p e s m args below meth c A Qx ls E hr hlk hnm hQ G hl => ?_)
  have hx := E.1.1
  have hb := E.1.2.1
  have hl : lv_has ls 3 [(0, .ref (q 0)), (1, .int (p1)), (2, .int (p2))] := hl
  refine lv_iload_n hx hb dX9_bill_0 rfl (lv_at hl 1 rfl) ?_
  refine lv_iconst (v := 1) hx hb dX9_bill_1 (by decide) ?_
  refine lv_sipush (v := 10000) hx hb dX9_bill_2 (by decide) ?_
  refine r_S [] E G (c_X9_in l Z q S Y p1 1 10000) kX9_in m_743 ⟨Nat.le_of_ble_eq_true rfl, Nat.le_of_ble_eq_true rfl⟩ hl dX9_bill_5 rfl rfl (Nat.le_of_ble_eq_true rfl) ⟨Nat.zero_le _, Nat.zero_le _⟩ (fun H locs G => ?_)
  refine r_eqb (tgt := 22) hx hb dX9_bill_8 (by decide) (fun c_8 => ?_) (fun c_8 => ?_)
  · skip
    refine lv_aload_n hx hb dX9_bill_22 rfl (lv_at hl 0 rfl) ?_
    refine lv_iconst (v := 1) hx hb dX9_bill_23 (by decide) ?_
    refine r_V [] E G (c_X9_finds l Z q S Y 1 (by decide)) kX9_finds m_746 0 rfl rfl ⟨Nat.le_of_ble_eq_true rfl, Nat.le_of_ble_eq_true rfl⟩ hl dX9_bill_24 rfl rfl (Nat.le_of_ble_eq_true rfl) ⟨Nat.zero_le _, Nat.zero_le _⟩ (fun H locs G => ?_)
    have hs : (sp_bill S p1 p2) = ((fnd S (-1000000 - 1)).1, (fnd S (-1000000 - 1)).2) := by first | rfl | (simp [sp_bill, adB, fq1, fq2, fq3, fq4, fq5, c_8]; done) | (simp_all [sp_bill, adB, fq1, fq2, fq3, fq4, fq5]; done)
    exact r_ret E G hr hlk hQ (by rw [hs]) (by rw [hs]) dX9_bill_27
  · skip
    refine lv_iload_n hx hb dX9_bill_11 rfl (lv_at hl 2 rfl) ?_
    refine lv_iconst (v := 0) hx hb dX9_bill_12 (by decide) ?_
    refine lv_sipush (v := 1000) hx hb dX9_bill_13 (by decide) ?_
    refine r_S [] E G (c_X9_in l Z q S Y p2 0 1000) kX9_in m_743 ⟨Nat.le_of_ble_eq_true rfl, Nat.le_of_ble_eq_true rfl⟩ hl dX9_bill_16 rfl rfl (Nat.le_of_ble_eq_true rfl) ⟨Nat.zero_le _, Nat.zero_le _⟩ (fun H locs G => ?_)
    refine r_neb (tgt := 28) hx hb dX9_bill_19 (by decide) (fun c_19 => ?_) (fun c_19 => ?_)
    · skip
      refine lv_aload_n hx hb dX9_bill_28 rfl (lv_at hl 0 rfl) ?_
      refine gM_0_3 E G m_636 dX9_bill_29 ?_
      refine lv_bipush (v := 12) hx hb dX9_bill_32 (by decide) ?_
      refine lv_icmp_ne (tgt := 43) hx hb dX9_bill_34 (by decide) (fun c_34 => ?_) (fun c_34 => ?_)
      · skip
        refine lv_aload_n hx hb dX9_bill_43 rfl (lv_at hl 0 rfl) ?_
        refine gM_0_20 E G m_653 dX9_bill_44 ?_
        refine lv_aload_n hx hb dX9_bill_47 rfl (lv_at hl 0 rfl) ?_
        refine gM_0_3 E G m_636 dX9_bill_48 ?_
        refine lv_iload_n hx hb dX9_bill_51 rfl (lv_at hl 1 rfl) ?_
        refine tM_11 E G (ix_lim hI.bi.1 (ne_lim hI.bi.2 c_34) (by decide)) dX9_bill_52 (fun H locs G => ?_)
        refine lv_aload_n hx hb dX9_bill_53 rfl (lv_at hl 0 rfl) ?_
        refine gM_0_21 E G m_654 dX9_bill_54 ?_
        refine lv_aload_n hx hb dX9_bill_57 rfl (lv_at hl 0 rfl) ?_
        refine gM_0_3 E G m_636 dX9_bill_58 ?_
        refine lv_topc (e_s_bi_le _ _) ?_
        refine lv_iload_n hx hb dX9_bill_61 rfl (lv_at hl 2 rfl) ?_
        refine tM_12 E G (ix_lim hI.bi.1 (ne_lim hI.bi.2 c_34) (by decide)) dX9_bill_62 (fun H locs G => ?_)
        have G := GW.cast (congrArg (fun f => MW Z q (u_bd (u_le S (au (s_le S) (s_bi S) p1)) (au f (s_bi S) p2)) (Y)) (e_s_bd_le _ _)) G
        refine lv_aload_n hx hb dX9_bill_63 rfl (lv_at hl 0 rfl) ?_
        refine gM_0_22 E G m_655 dX9_bill_64 ?_
        refine lv_aload_n hx hb dX9_bill_67 rfl (lv_at hl 0 rfl) ?_
        refine gM_0_3 E G m_636 dX9_bill_68 ?_
        refine lv_topc ((e_s_bi_bd _ _).trans (e_s_bi_le _ _)) ?_
        refine lv_iload_n hx hb dX9_bill_71 rfl (lv_at hl 2 rfl) ?_
        refine lv_aload_n hx hb dX9_bill_72 rfl (lv_at hl 0 rfl) ?_
        refine gM_0_9 E G m_642 dX9_bill_73 ?_
        refine lv_topc ((e_s_cr_bd _ _).trans (e_s_cr_le _ _)) ?_
        refine lv_iadd hx hb dX9_bill_76 ?_
        refine tM_13 E G (ix_lim hI.bi.1 (ne_lim hI.bi.2 c_34) (by decide)) dX9_bill_77 (fun H locs G => ?_)
        have G := GW.cast (congrArg (fun f => MW Z q (u_du (u_bd (u_le S (au (s_le S) (s_bi S) p1)) (au (s_bd S) (s_bi S) p2)) (au f (s_bi S) (p2 + (s_cr S)))) (Y)) ((e_s_du_bd _ _).trans (e_s_du_le _ _))) G
        refine lv_aload_n hx hb dX9_bill_78 rfl (lv_at hl 0 rfl) ?_
        refine lv_dup hx hb dX9_bill_79 rfl ?_
        refine gM_0_3 E G m_636 dX9_bill_80 ?_
        refine lv_topc ((e_s_bi_du _ _).trans ((e_s_bi_bd _ _).trans (e_s_bi_le _ _))) ?_
        refine lv_iconst (v := 1) hx hb dX9_bill_83 (by decide) ?_
        refine lv_iadd hx hb dX9_bill_84 ?_
        refine pM_0_3 E G m_636 dX9_bill_85 (fun H locs G => ?_)
        refine lv_aload_n hx hb dX9_bill_88 rfl (lv_at hl 0 rfl) ?_
        refine gM_0_3 E G m_636 dX9_bill_89 ?_
        refine lv_topc (es_s_bi _ _) ?_
        refine lv_iconst (v := 1) hx hb dX9_bill_92 (by decide) ?_
        refine lv_isub hx hb dX9_bill_93 ?_
        have hs : (sp_bill S p1 p2) = (((s_bi S) + 1) - 1, u_bi (u_du (u_bd (u_le S (au (s_le S) (s_bi S) p1)) (au (s_bd S) (s_bi S) p2)) (au (s_du S) (s_bi S) (p2 + (s_cr S)))) ((s_bi S) + 1)) := by first | rfl | (simp [sp_bill, adB, fq1, fq2, fq3, fq4, fq5, c_8, c_19, c_34]; done) | (simp_all [sp_bill, adB, fq1, fq2, fq3, fq4, fq5]; done)
        exact r_ret E G hr hlk hQ (by rw [hs]) (by rw [hs]) dX9_bill_94
      · skip
        refine lv_aload_n hx hb dX9_bill_37 rfl (lv_at hl 0 rfl) ?_
        refine lv_iconst (v := 4) hx hb dX9_bill_38 (by decide) ?_
        refine r_V [] E G (c_X9_finds l Z q S Y 4 (by decide)) kX9_finds m_746 0 rfl rfl ⟨Nat.le_of_ble_eq_true rfl, Nat.le_of_ble_eq_true rfl⟩ hl dX9_bill_39 rfl rfl (Nat.le_of_ble_eq_true rfl) ⟨Nat.zero_le _, Nat.zero_le _⟩ (fun H locs G => ?_)
        have hs : (sp_bill S p1 p2) = ((fnd S (-1000000 - 4)).1, (fnd S (-1000000 - 4)).2) := by first | rfl | (simp [sp_bill, adB, fq1, fq2, fq3, fq4, fq5, c_8, c_19, c_34]; done) | (simp_all [sp_bill, adB, fq1, fq2, fq3, fq4, fq5]; done)
        exact r_ret E G hr hlk hQ (by rw [hs]) (by rw [hs]) dX9_bill_42
    · skip
      refine lv_aload_n hx hb dX9_bill_22 rfl (lv_at hl 0 rfl) ?_
      refine lv_iconst (v := 1) hx hb dX9_bill_23 (by decide) ?_
      refine r_V [] E G (c_X9_finds l Z q S Y 1 (by decide)) kX9_finds m_746 0 rfl rfl ⟨Nat.le_of_ble_eq_true rfl, Nat.le_of_ble_eq_true rfl⟩ hl dX9_bill_24 rfl rfl (Nat.le_of_ble_eq_true rfl) ⟨Nat.zero_le _, Nat.zero_le _⟩ (fun H locs G => ?_)
      have hs : (sp_bill S p1 p2) = ((fnd S (-1000000 - 1)).1, (fnd S (-1000000 - 1)).2) := by first | rfl | (simp [sp_bill, adB, fq1, fq2, fq3, fq4, fq5, c_8, c_19]; done) | (simp_all [sp_bill, adB, fq1, fq2, fq3, fq4, fq5]; done)
      exact r_ret E G hr hlk hQ (by rw [hs]) (by rw [hs]) dX9_bill_27
set_option maxHeartbeats 4000000 in
set_option maxRecDepth 100000 in
theorem c_X9_pay (l : Launch) (Z : ZT) (q : Nat → Nat) (S : St) (Y : YM) (p1 p2 : Int32) (hI : Inv S) : CT l Z yX9_pay cX9_pay 3 (some .int) 3 [.ref (q 0), .int (p1), .int (p2)] (MW Z q S Y) (some (.int ((sp_pay S p1 p2).1))) (MW Z q ((sp_pay S p1 p2).2) (Y)) := by
  refine CE.mk rfl (Nat.le_of_ble_eq_true rfl) (fun p e s m args below meth c A Qx ls E hr hlk hnm hQ G hl => ?_)
  have hx := E.1.1
  have hb := E.1.2.1
  have hl : lv_has ls 3 [(0, .ref (q 0)), (1, .int (p1)), (2, .int (p2))] := hl
  refine lv_aload_n hx hb dX9_pay_0 rfl (lv_at hl 0 rfl) ?_
  refine lv_iload_n hx hb dX9_pay_1 rfl (lv_at hl 1 rfl) ?_
  refine r_V [] E G (c_X9_isBill l Z q S Y p1 hI) kX9_isBill m_918 0 rfl rfl ⟨Nat.le_of_ble_eq_true rfl, Nat.le_of_ble_eq_true rfl⟩ hl dX9_pay_2 rfl rfl (Nat.le_of_ble_eq_true rfl) ⟨Nat.zero_le _, Nat.zero_le _⟩ (fun H locs G => ?_)
  refine r_eqb (tgt := 13) hx hb dX9_pay_5 (by decide) (fun c_5 => ?_) (fun c_5 => ?_)
  · skip
    refine lv_aload_n hx hb dX9_pay_13 rfl (lv_at hl 0 rfl) ?_
    refine lv_iconst (v := 1) hx hb dX9_pay_14 (by decide) ?_
    refine r_V [] E G (c_X9_finds l Z q S Y 1 (by decide)) kX9_finds m_746 0 rfl rfl ⟨Nat.le_of_ble_eq_true rfl, Nat.le_of_ble_eq_true rfl⟩ hl dX9_pay_15 rfl rfl (Nat.le_of_ble_eq_true rfl) ⟨Nat.zero_le _, Nat.zero_le _⟩ (fun H locs G => ?_)
    have hs : (sp_pay S p1 p2) = ((fnd S (-1000000 - 1)).1, (fnd S (-1000000 - 1)).2) := by first | rfl | (simp [sp_pay, ar_au, fq1, fq2, fq3, fq4, fq5, c_5]; done) | (simp_all [sp_pay, ar_au, fq1, fq2, fq3, fq4, fq5]; done)
    exact r_ret E G hr hlk hQ (by rw [hs]) (by rw [hs]) dX9_pay_18
  · skip
    refine lv_iload_n hx hb dX9_pay_8 rfl (lv_at hl 2 rfl) ?_
    refine lv_iconst (v := 1) hx hb dX9_pay_9 (by decide) ?_
    refine lv_icmp_ge (tgt := 19) hx hb dX9_pay_10 (by decide) (fun c_10 => ?_) (fun c_10 => ?_)
    · skip
      have c_10n := Int32.not_lt.mpr c_10
      refine lv_aload_n hx hb dX9_pay_19 rfl (lv_at hl 0 rfl) ?_
      refine gM_0_20 E G m_653 dX9_pay_20 ?_
      refine lv_iload_n hx hb dX9_pay_23 rfl (lv_at hl 1 rfl) ?_
      refine aM_11 E G (ix_bi hI c_5) dX9_pay_24 ?_
      refine lv_iload_n hx hb dX9_pay_25 rfl (lv_at hl 2 rfl) ?_
      refine lv_icmp_ge (tgt := 35) hx hb dX9_pay_26 (by decide) (fun c_26 => ?_) (fun c_26 => ?_)
      · skip
        have c_26n := Int32.not_lt.mpr c_26
        refine lv_aload_n hx hb dX9_pay_35 rfl (lv_at hl 0 rfl) ?_
        refine gM_0_20 E G m_653 dX9_pay_36 ?_
        refine lv_iload_n hx hb dX9_pay_39 rfl (lv_at hl 1 rfl) ?_
        refine lv_dup2_11 hx hb dX9_pay_40 rfl rfl ?_
        refine aM_11 E G (ix_bi hI c_5) dX9_pay_41 ?_
        refine lv_iload_n hx hb dX9_pay_42 rfl (lv_at hl 2 rfl) ?_
        refine lv_isub hx hb dX9_pay_43 ?_
        refine tM_11 E G (ix_bi hI c_5) dX9_pay_44 (fun H locs G => ?_)
        refine lv_aload_n hx hb dX9_pay_45 rfl (lv_at hl 0 rfl) ?_
        refine gM_0_20 E G m_653 dX9_pay_46 ?_
        refine lv_iload_n hx hb dX9_pay_49 rfl (lv_at hl 1 rfl) ?_
        refine aM_11 E G (ix_bi hI c_5) dX9_pay_50 ?_
        refine lv_topc (congrArg (fun f => ar f p1) (es_s_le _ _)) ?_
        have hs : (sp_pay S p1 p2) = (ar (au (s_le S) p1 ((ar (s_le S) p1) - p2)) p1, u_le S (au (s_le S) p1 ((ar (s_le S) p1) - p2))) := by first | rfl | (simp [sp_pay, ar_au, fq1, fq2, fq3, fq4, fq5, c_5, c_10, c_10n, c_26, c_26n]; done) | (simp_all [sp_pay, ar_au, fq1, fq2, fq3, fq4, fq5]; done)
        exact r_ret E G hr hlk hQ (by rw [hs]) (by rw [hs]) dX9_pay_51
      · skip
        have c_26n := Int32.not_le.mp c_26
        refine lv_aload_n hx hb dX9_pay_29 rfl (lv_at hl 0 rfl) ?_
        refine lv_iconst (v := 3) hx hb dX9_pay_30 (by decide) ?_
        refine r_V [] E G (c_X9_finds l Z q S Y 3 (by decide)) kX9_finds m_746 0 rfl rfl ⟨Nat.le_of_ble_eq_true rfl, Nat.le_of_ble_eq_true rfl⟩ hl dX9_pay_31 rfl rfl (Nat.le_of_ble_eq_true rfl) ⟨Nat.zero_le _, Nat.zero_le _⟩ (fun H locs G => ?_)
        have hs : (sp_pay S p1 p2) = ((fnd S (-1000000 - 3)).1, (fnd S (-1000000 - 3)).2) := by first | rfl | (simp [sp_pay, ar_au, fq1, fq2, fq3, fq4, fq5, c_5, c_10, c_10n, c_26, c_26n]; done) | (simp_all [sp_pay, ar_au, fq1, fq2, fq3, fq4, fq5]; done)
        exact r_ret E G hr hlk hQ (by rw [hs]) (by rw [hs]) dX9_pay_34
    · skip
      have c_10n := Int32.not_le.mp c_10
      refine lv_aload_n hx hb dX9_pay_13 rfl (lv_at hl 0 rfl) ?_
      refine lv_iconst (v := 1) hx hb dX9_pay_14 (by decide) ?_
      refine r_V [] E G (c_X9_finds l Z q S Y 1 (by decide)) kX9_finds m_746 0 rfl rfl ⟨Nat.le_of_ble_eq_true rfl, Nat.le_of_ble_eq_true rfl⟩ hl dX9_pay_15 rfl rfl (Nat.le_of_ble_eq_true rfl) ⟨Nat.zero_le _, Nat.zero_le _⟩ (fun H locs G => ?_)
      have hs : (sp_pay S p1 p2) = ((fnd S (-1000000 - 1)).1, (fnd S (-1000000 - 1)).2) := by first | rfl | (simp [sp_pay, ar_au, fq1, fq2, fq3, fq4, fq5, c_5, c_10, c_10n]; done) | (simp_all [sp_pay, ar_au, fq1, fq2, fq3, fq4, fq5]; done)
      exact r_ret E G hr hlk hQ (by rw [hs]) (by rw [hs]) dX9_pay_18
set_option maxHeartbeats 4000000 in
set_option maxRecDepth 100000 in
theorem c_X9_owedOf (l : Launch) (Z : ZT) (q : Nat → Nat) (S : St) (Y : YM) (p1 p2 : Int32) (hI : Inv S) (h1 : isBi S p1 = true) (h2 : inr p2 0 2000 = true) : CT l Z yX9_owedOf cX9_owedOf 4 (some .int) 1 [.ref (q 0), .int (p1), .int (p2)] (MW Z q S Y) (some (.int (owS S p1 p2))) (MW Z q S Y) := by
  refine CE.mk rfl (Nat.le_of_ble_eq_true rfl) (fun p e s m args below meth c A Qx ls E hr hlk hnm hQ G hl => ?_)
  have hx := E.1.1
  have hb := E.1.2.1
  have hl : lv_has ls 4 [(0, .ref (q 0)), (1, .int (p1)), (2, .int (p2))] := hl
  refine lv_iload_n hx hb dX9_owedOf_0 rfl (lv_at hl 2 rfl) ?_
  refine lv_aload_n hx hb dX9_owedOf_1 rfl (lv_at hl 0 rfl) ?_
  refine gM_0_21 E G m_654 dX9_owedOf_2 ?_
  refine lv_iload_n hx hb dX9_owedOf_5 rfl (lv_at hl 1 rfl) ?_
  refine aM_12 E G (ix_bi hI h1) dX9_owedOf_6 ?_
  refine lv_icmp_ge (tgt := 12) hx hb dX9_owedOf_7 (by decide) (fun c_7 => ?_) (fun c_7 => ?_)
  · skip
    have c_7n := Int32.not_lt.mpr c_7
    refine lv_iload_n hx hb dX9_owedOf_12 rfl (lv_at hl 2 rfl) ?_
    refine lv_aload_n hx hb dX9_owedOf_13 rfl (lv_at hl 0 rfl) ?_
    refine gM_0_22 E G m_655 dX9_owedOf_14 ?_
    refine lv_iload_n hx hb dX9_owedOf_17 rfl (lv_at hl 1 rfl) ?_
    refine aM_13 E G (ix_bi hI h1) dX9_owedOf_18 ?_
    refine lv_icmp_le (tgt := 36) hx hb dX9_owedOf_19 (by decide) (fun c_19 => ?_) (fun c_19 => ?_)
    · skip
      have c_19n := Int32.not_lt.mpr c_19
      refine lv_iconst (v := 0) hx hb dX9_owedOf_36 (by decide) ?_
      refine lv_istore_n (lv' := [(3, .int (0)), (0, .ref (q 0)), (1, .int (p1)), (2, .int (p2))]) hx hb dX9_owedOf_37 rfl hl (by decide) rfl (fun ls hl => ?_)
      refine lv_aload_n hx hb dX9_owedOf_38 rfl (lv_at hl 1 rfl) ?_
      refine gM_0_20 E G m_653 dX9_owedOf_39 ?_
      refine lv_iload_n hx hb dX9_owedOf_42 rfl (lv_at hl 2 rfl) ?_
      refine aM_11 E G (ix_bi hI h1) dX9_owedOf_43 ?_
      refine lv_iload_n hx hb dX9_owedOf_44 rfl (lv_at hl 0 rfl) ?_
      refine lv_aload_n hx hb dX9_owedOf_45 rfl (lv_at hl 1 rfl) ?_
      refine gM_0_20 E G m_653 dX9_owedOf_46 ?_
      refine lv_iload_n hx hb dX9_owedOf_49 rfl (lv_at hl 2 rfl) ?_
      refine aM_11 E G (ix_bi hI h1) dX9_owedOf_50 ?_
      refine lv_bipush (v := 50) hx hb dX9_owedOf_51 (by decide) ?_
      refine lv_idiv hx hb dX9_owedOf_53 (by decide) ?_
      refine lv_imul hx hb dX9_owedOf_54 ?_
      refine lv_iadd hx hb dX9_owedOf_55 ?_
      have hs : (owS S p1 p2) = (ar (s_le S) p1) + (0 * ((ar (s_le S) p1) / 50)) := by unfold owS; rw [ow_eq hI h2]; simp [c_7, c_7n, c_19, c_19n]
      exact r_ret E G hr hlk hQ (congrArg (fun t => some (Value.int t)) hs) rfl dX9_owedOf_56
    · skip
      have c_19n := Int32.not_le.mp c_19
      refine lv_iload_n hx hb dX9_owedOf_22 rfl (lv_at hl 2 rfl) ?_
      refine lv_aload_n hx hb dX9_owedOf_23 rfl (lv_at hl 0 rfl) ?_
      refine gM_0_22 E G m_655 dX9_owedOf_24 ?_
      refine lv_iload_n hx hb dX9_owedOf_27 rfl (lv_at hl 1 rfl) ?_
      refine aM_13 E G (ix_bi hI h1) dX9_owedOf_28 ?_
      refine lv_isub hx hb dX9_owedOf_29 ?_
      refine lv_bipush (v := 7) hx hb dX9_owedOf_30 (by decide) ?_
      refine lv_idiv hx hb dX9_owedOf_32 (by decide) ?_
      refine lv_goto (tgt := 37) hx hb dX9_owedOf_33 (by decide) ?_
      refine lv_istore_n (lv' := [(3, .int ((p2 - (ar (s_du S) p1)) / 7)), (0, .ref (q 0)), (1, .int (p1)), (2, .int (p2))]) hx hb dX9_owedOf_37 rfl hl (by decide) rfl (fun ls hl => ?_)
      refine lv_aload_n hx hb dX9_owedOf_38 rfl (lv_at hl 1 rfl) ?_
      refine gM_0_20 E G m_653 dX9_owedOf_39 ?_
      refine lv_iload_n hx hb dX9_owedOf_42 rfl (lv_at hl 2 rfl) ?_
      refine aM_11 E G (ix_bi hI h1) dX9_owedOf_43 ?_
      refine lv_iload_n hx hb dX9_owedOf_44 rfl (lv_at hl 0 rfl) ?_
      refine lv_aload_n hx hb dX9_owedOf_45 rfl (lv_at hl 1 rfl) ?_
      refine gM_0_20 E G m_653 dX9_owedOf_46 ?_
      refine lv_iload_n hx hb dX9_owedOf_49 rfl (lv_at hl 2 rfl) ?_
      refine aM_11 E G (ix_bi hI h1) dX9_owedOf_50 ?_
      refine lv_bipush (v := 50) hx hb dX9_owedOf_51 (by decide) ?_
      refine lv_idiv hx hb dX9_owedOf_53 (by decide) ?_
      refine lv_imul hx hb dX9_owedOf_54 ?_
      refine lv_iadd hx hb dX9_owedOf_55 ?_
      have hs : (owS S p1 p2) = (ar (s_le S) p1) + (((p2 - (ar (s_du S) p1)) / 7) * ((ar (s_le S) p1) / 50)) := by unfold owS; rw [ow_eq hI h2]; simp [c_7, c_7n, c_19, c_19n]
      exact r_ret E G hr hlk hQ (congrArg (fun t => some (Value.int t)) hs) rfl dX9_owedOf_56
  · skip
    have c_7n := Int32.not_le.mp c_7
    refine lv_iconst (v := 0) hx hb dX9_owedOf_10 (by decide) ?_
    have hs : (owS S p1 p2) = 0 := by unfold owS; rw [ow_eq hI h2]; simp [c_7, c_7n]
    exact r_ret E G hr hlk hQ (congrArg (fun t => some (Value.int t)) hs) rfl dX9_owedOf_11
set_option maxHeartbeats 4000000 in
set_option maxRecDepth 100000 in
theorem c_X9_owed (l : Launch) (Z : ZT) (q : Nat → Nat) (S : St) (Y : YM) (p1 p2 : Int32) (hI : Inv S) : CT l Z yX9_owed cX9_owed 5 (some .int) 3 [.ref (q 0), .int (p1), .int (p2)] (MW Z q S Y) (some (.int ((sp_owed S p1 p2).1))) (MW Z q ((sp_owed S p1 p2).2) (Y)) := by
  refine CE.mk rfl (Nat.le_of_ble_eq_true rfl) (fun p e s m args below meth c A Qx ls E hr hlk hnm hQ G hl => ?_)
  have hx := E.1.1
  have hb := E.1.2.1
  have hl : lv_has ls 5 [(0, .ref (q 0)), (1, .int (p1)), (2, .int (p2))] := hl
  have h0 := hI.bi.1
  refine lv_iload_n hx hb dX9_owed_0 rfl (lv_at hl 1 rfl) ?_
  refine lv_iconst (v := -1) hx hb dX9_owed_1 (by decide) ?_
  refine lv_icmp_eq (tgt := 13) hx hb dX9_owed_2 (by decide) (fun c_2 => ?_) (fun c_2 => ?_)
  · skip
    refine lv_iload_n hx hb dX9_owed_13 rfl (lv_at hl 2 rfl) ?_
    refine lv_iconst (v := 0) hx hb dX9_owed_14 (by decide) ?_
    refine lv_sipush (v := 2000) hx hb dX9_owed_15 (by decide) ?_
    refine r_S [] E G (c_X9_in l Z q S Y p2 0 2000) kX9_in m_743 ⟨Nat.le_of_ble_eq_true rfl, Nat.le_of_ble_eq_true rfl⟩ hl dX9_owed_18 rfl rfl (Nat.le_of_ble_eq_true rfl) ⟨Nat.zero_le _, Nat.zero_le _⟩ (fun H locs G => ?_)
    refine r_neb (tgt := 30) hx hb dX9_owed_21 (by decide) (fun c_21 => ?_) (fun c_21 => ?_)
    · skip
      refine lv_iload_n hx hb dX9_owed_30 rfl (lv_at hl 1 rfl) ?_
      refine lv_if_lt (tgt := 41) hx hb dX9_owed_31 (by decide) (fun c_31 => ?_) (fun c_31 => ?_)
      · skip
        have c_31n := Int32.not_le.mpr c_31
        refine lv_iconst (v := 0) hx hb dX9_owed_41 (by decide) ?_
        refine lv_istore_n (lv' := [(3, .int (0)), (0, .ref (q 0)), (1, .int (p1)), (2, .int (p2))]) hx hb dX9_owed_42 rfl hl (by decide) rfl (fun ls hl => ?_)
        refine lv_iconst (v := 0) hx hb dX9_owed_43 (by decide) ?_
        refine lv_istore (lv' := [(4, .int (0)), (3, .int (0)), (0, .ref (q 0)), (1, .int (p1)), (2, .int (p2))]) hx hb dX9_owed_44 hl (by decide) rfl (fun ls hl => ?_)
        have L46 : ∀ k : Nat, k ≤ (s_bi S).toNatClampNeg → (∀ (H : Heap) (locs : List Loc) (ls : Array Slot), GW Z (MW Z q S Y) A s.heap H locs → lv_has ls 5 [(0, .ref (q 0)), (1, .int (p1)), (2, .int (p2)), (3, .int (owA S p2 k)), (4, .int (nI k))] → W p l e (rmk 3 0 0) s m args below meth c H locs 0 0 Qx (F0 m 46 ls [])) := by
          refine up_in2 (P := fun k => (∀ (H : Heap) (locs : List Loc) (ls : Array Slot), GW Z (MW Z q S Y) A s.heap H locs → lv_has ls 5 [(0, .ref (q 0)), (1, .int (p1)), (2, .int (p2)), (3, .int (owA S p2 k)), (4, .int (nI k))] → W p l e (rmk 3 0 0) s m args below meth c H locs 0 0 Qx (F0 m 46 ls []))) ((s_bi S).toNatClampNeg) ?_
          intro k hkk ih46 H locs ls G hl
          refine lv_iload hx hb dX9_owed_46 (lv_at hl 4 rfl) ?_
          refine lv_aload_n hx hb dX9_owed_48 rfl (lv_at hl 0 rfl) ?_
          refine gM_0_3 E G m_636 dX9_owed_49 ?_
          refine lv_icmp_ge (tgt := 71) hx hb dX9_owed_52 (by decide) (fun c_52 => ?_) (fun c_52 => ?_)
          · skip
            have c_52n := Int32.not_lt.mpr c_52
            refine lv_iload_n hx hb dX9_owed_71 rfl (lv_at hl 3 rfl) ?_
            have hs : (sp_owed S p1 p2) = (owA S p2 k, S) := by first | (rw [lp_eq h0 hkk c_52]; simp [sp_owed, c_2, c_21, c_31, c_31n, c_52, c_52n]; done) | exact absurd (bi_0 c_10) c_31n
            exact r_ret E G hr hlk hQ (by rw [hs]) (by rw [hs]) dX9_owed_72
          · skip
            have c_52n := Int32.not_le.mp c_52
            refine lv_iload_n hx hb dX9_owed_55 rfl (lv_at hl 3 rfl) ?_
            refine lv_aload_n hx hb dX9_owed_56 rfl (lv_at hl 0 rfl) ?_
            refine lv_iload hx hb dX9_owed_57 (lv_at hl 4 rfl) ?_
            refine lv_iload_n hx hb dX9_owed_59 rfl (lv_at hl 2 rfl) ?_
            refine r_V [.int (owA S p2 k)] E G (c_X9_owedOf l Z q S Y (nI k) p2 hI (bi_k hI (lp_lt h0 hkk c_52)) c_21) kX9_owedOf m_926 0 rfl rfl ⟨Nat.le_of_ble_eq_true rfl, Nat.le_of_ble_eq_true rfl⟩ hl dX9_owed_60 rfl rfl (Nat.le_of_ble_eq_true rfl) ⟨Nat.zero_le _, Nat.zero_le _⟩ (fun H locs G => ?_)
            refine lv_iadd hx hb dX9_owed_63 ?_
            refine lv_istore_n (lv' := [(3, .int ((owA S p2 k) + (owS S (nI k) p2))), (0, .ref (q 0)), (1, .int (p1)), (2, .int (p2)), (4, .int (nI k))]) hx hb dX9_owed_64 rfl hl (by decide) rfl (fun ls hl => ?_)
            refine lv_iinc (v := (nI k) + 1) (lv' := [(4, .int ((nI k) + 1)), (3, .int ((owA S p2 k) + (owS S (nI k) p2))), (0, .ref (q 0)), (1, .int (p1)), (2, .int (p2))]) hx hb dX9_owed_65 hl (k := 4) rfl rfl (by decide) rfl (fun ls hl => ?_)
            refine lv_goto (tgt := 46) hx hb dX9_owed_68 (by decide) ?_
            exact ih46 (lp_lt h0 hkk c_52) _ _ _ (GW.cast (rfl) G) (lv_cast (lv_sub (l' := [(0, .ref (q 0)), (1, .int (p1)), (2, .int (p2)), (3, .int ((owA S p2 k) + (owS S (nI k) p2))), (4, .int ((nI k) + 1))]) hl [2, 3, 4, 1, 0] rfl) (by rw [nI_1]; rfl))
        exact L46 0 (Nat.zero_le _) _ _ _ (GW.cast (rfl) G) (lv_cast (lv_sub (l' := [(0, .ref (q 0)), (1, .int (p1)), (2, .int (p2)), (3, .int (0)), (4, .int (0))]) hl [2, 3, 4, 1, 0] rfl) (by rw [nI_0]; rfl))
      · skip
        have c_31n := Int32.not_lt.mp c_31
        refine lv_aload_n hx hb dX9_owed_34 rfl (lv_at hl 0 rfl) ?_
        refine lv_iload_n hx hb dX9_owed_35 rfl (lv_at hl 1 rfl) ?_
        refine lv_iload_n hx hb dX9_owed_36 rfl (lv_at hl 2 rfl) ?_
        refine r_V [] E G (c_X9_owedOf l Z q S Y p1 p2 hI (ow_b c_31n (by simp_all)) c_21) kX9_owedOf m_926 0 rfl rfl ⟨Nat.le_of_ble_eq_true rfl, Nat.le_of_ble_eq_true rfl⟩ hl dX9_owed_37 rfl rfl (Nat.le_of_ble_eq_true rfl) ⟨Nat.zero_le _, Nat.zero_le _⟩ (fun H locs G => ?_)
        have hs : (sp_owed S p1 p2) = (owS S p1 p2, S) := by first | rfl | (simp [sp_owed, fq1, fq2, fq3, fq4, fq5, c_2, c_21, c_31, c_31n]; done) | (simp_all [sp_owed, fq1, fq2, fq3, fq4, fq5]; done)
        exact r_ret E G hr hlk hQ (by rw [hs]) (by rw [hs]) dX9_owed_40
    · skip
      refine lv_aload_n hx hb dX9_owed_24 rfl (lv_at hl 0 rfl) ?_
      refine lv_iconst (v := 1) hx hb dX9_owed_25 (by decide) ?_
      refine r_V [] E G (c_X9_finds l Z q S Y 1 (by decide)) kX9_finds m_746 0 rfl rfl ⟨Nat.le_of_ble_eq_true rfl, Nat.le_of_ble_eq_true rfl⟩ hl dX9_owed_26 rfl rfl (Nat.le_of_ble_eq_true rfl) ⟨Nat.zero_le _, Nat.zero_le _⟩ (fun H locs G => ?_)
      have hs : (sp_owed S p1 p2) = ((fnd S (-1000000 - 1)).1, (fnd S (-1000000 - 1)).2) := by first | rfl | (simp [sp_owed, fq1, fq2, fq3, fq4, fq5, c_2, c_21]; done) | (simp_all [sp_owed, fq1, fq2, fq3, fq4, fq5]; done)
      exact r_ret E G hr hlk hQ (by rw [hs]) (by rw [hs]) dX9_owed_29
  · skip
    refine lv_aload_n hx hb dX9_owed_5 rfl (lv_at hl 0 rfl) ?_
    refine lv_iload_n hx hb dX9_owed_6 rfl (lv_at hl 1 rfl) ?_
    refine r_V [] E G (c_X9_isBill l Z q S Y p1 hI) kX9_isBill m_918 0 rfl rfl ⟨Nat.le_of_ble_eq_true rfl, Nat.le_of_ble_eq_true rfl⟩ hl dX9_owed_7 rfl rfl (Nat.le_of_ble_eq_true rfl) ⟨Nat.zero_le _, Nat.zero_le _⟩ (fun H locs G => ?_)
    refine r_eqb (tgt := 24) hx hb dX9_owed_10 (by decide) (fun c_10 => ?_) (fun c_10 => ?_)
    · skip
      refine lv_aload_n hx hb dX9_owed_24 rfl (lv_at hl 0 rfl) ?_
      refine lv_iconst (v := 1) hx hb dX9_owed_25 (by decide) ?_
      refine r_V [] E G (c_X9_finds l Z q S Y 1 (by decide)) kX9_finds m_746 0 rfl rfl ⟨Nat.le_of_ble_eq_true rfl, Nat.le_of_ble_eq_true rfl⟩ hl dX9_owed_26 rfl rfl (Nat.le_of_ble_eq_true rfl) ⟨Nat.zero_le _, Nat.zero_le _⟩ (fun H locs G => ?_)
      have hs : (sp_owed S p1 p2) = ((fnd S (-1000000 - 1)).1, (fnd S (-1000000 - 1)).2) := by first | rfl | (simp [sp_owed, fq1, fq2, fq3, fq4, fq5, c_2, c_10]; done) | (simp_all [sp_owed, fq1, fq2, fq3, fq4, fq5]; done)
      exact r_ret E G hr hlk hQ (by rw [hs]) (by rw [hs]) dX9_owed_29
    · skip
      refine lv_iload_n hx hb dX9_owed_13 rfl (lv_at hl 2 rfl) ?_
      refine lv_iconst (v := 0) hx hb dX9_owed_14 (by decide) ?_
      refine lv_sipush (v := 2000) hx hb dX9_owed_15 (by decide) ?_
      refine r_S [] E G (c_X9_in l Z q S Y p2 0 2000) kX9_in m_743 ⟨Nat.le_of_ble_eq_true rfl, Nat.le_of_ble_eq_true rfl⟩ hl dX9_owed_18 rfl rfl (Nat.le_of_ble_eq_true rfl) ⟨Nat.zero_le _, Nat.zero_le _⟩ (fun H locs G => ?_)
      refine r_neb (tgt := 30) hx hb dX9_owed_21 (by decide) (fun c_21 => ?_) (fun c_21 => ?_)
      · skip
        refine lv_iload_n hx hb dX9_owed_30 rfl (lv_at hl 1 rfl) ?_
        refine lv_if_lt (tgt := 41) hx hb dX9_owed_31 (by decide) (fun c_31 => ?_) (fun c_31 => ?_)
        · skip
          have c_31n := Int32.not_le.mpr c_31
          refine lv_iconst (v := 0) hx hb dX9_owed_41 (by decide) ?_
          refine lv_istore_n (lv' := [(3, .int (0)), (0, .ref (q 0)), (1, .int (p1)), (2, .int (p2))]) hx hb dX9_owed_42 rfl hl (by decide) rfl (fun ls hl => ?_)
          refine lv_iconst (v := 0) hx hb dX9_owed_43 (by decide) ?_
          refine lv_istore (lv' := [(4, .int (0)), (3, .int (0)), (0, .ref (q 0)), (1, .int (p1)), (2, .int (p2))]) hx hb dX9_owed_44 hl (by decide) rfl (fun ls hl => ?_)
          have L46 : ∀ k : Nat, k ≤ (s_bi S).toNatClampNeg → (∀ (H : Heap) (locs : List Loc) (ls : Array Slot), GW Z (MW Z q S Y) A s.heap H locs → lv_has ls 5 [(0, .ref (q 0)), (1, .int (p1)), (2, .int (p2)), (3, .int (owA S p2 k)), (4, .int (nI k))] → W p l e (rmk 3 0 0) s m args below meth c H locs 0 0 Qx (F0 m 46 ls [])) := by
            refine up_in2 (P := fun k => (∀ (H : Heap) (locs : List Loc) (ls : Array Slot), GW Z (MW Z q S Y) A s.heap H locs → lv_has ls 5 [(0, .ref (q 0)), (1, .int (p1)), (2, .int (p2)), (3, .int (owA S p2 k)), (4, .int (nI k))] → W p l e (rmk 3 0 0) s m args below meth c H locs 0 0 Qx (F0 m 46 ls []))) ((s_bi S).toNatClampNeg) ?_
            intro k hkk ih46 H locs ls G hl
            refine lv_iload hx hb dX9_owed_46 (lv_at hl 4 rfl) ?_
            refine lv_aload_n hx hb dX9_owed_48 rfl (lv_at hl 0 rfl) ?_
            refine gM_0_3 E G m_636 dX9_owed_49 ?_
            refine lv_icmp_ge (tgt := 71) hx hb dX9_owed_52 (by decide) (fun c_52 => ?_) (fun c_52 => ?_)
            · skip
              have c_52n := Int32.not_lt.mpr c_52
              refine lv_iload_n hx hb dX9_owed_71 rfl (lv_at hl 3 rfl) ?_
              have hs : (sp_owed S p1 p2) = (owA S p2 k, S) := by first | (rw [lp_eq h0 hkk c_52]; simp [sp_owed, c_2, c_10, c_21, c_31, c_31n, c_52, c_52n]; done) | exact absurd (bi_0 c_10) c_31n
              exact r_ret E G hr hlk hQ (by rw [hs]) (by rw [hs]) dX9_owed_72
            · skip
              have c_52n := Int32.not_le.mp c_52
              refine lv_iload_n hx hb dX9_owed_55 rfl (lv_at hl 3 rfl) ?_
              refine lv_aload_n hx hb dX9_owed_56 rfl (lv_at hl 0 rfl) ?_
              refine lv_iload hx hb dX9_owed_57 (lv_at hl 4 rfl) ?_
              refine lv_iload_n hx hb dX9_owed_59 rfl (lv_at hl 2 rfl) ?_
              refine r_V [.int (owA S p2 k)] E G (c_X9_owedOf l Z q S Y (nI k) p2 hI (bi_k hI (lp_lt h0 hkk c_52)) c_21) kX9_owedOf m_926 0 rfl rfl ⟨Nat.le_of_ble_eq_true rfl, Nat.le_of_ble_eq_true rfl⟩ hl dX9_owed_60 rfl rfl (Nat.le_of_ble_eq_true rfl) ⟨Nat.zero_le _, Nat.zero_le _⟩ (fun H locs G => ?_)
              refine lv_iadd hx hb dX9_owed_63 ?_
              refine lv_istore_n (lv' := [(3, .int ((owA S p2 k) + (owS S (nI k) p2))), (0, .ref (q 0)), (1, .int (p1)), (2, .int (p2)), (4, .int (nI k))]) hx hb dX9_owed_64 rfl hl (by decide) rfl (fun ls hl => ?_)
              refine lv_iinc (v := (nI k) + 1) (lv' := [(4, .int ((nI k) + 1)), (3, .int ((owA S p2 k) + (owS S (nI k) p2))), (0, .ref (q 0)), (1, .int (p1)), (2, .int (p2))]) hx hb dX9_owed_65 hl (k := 4) rfl rfl (by decide) rfl (fun ls hl => ?_)
              refine lv_goto (tgt := 46) hx hb dX9_owed_68 (by decide) ?_
              exact ih46 (lp_lt h0 hkk c_52) _ _ _ (GW.cast (rfl) G) (lv_cast (lv_sub (l' := [(0, .ref (q 0)), (1, .int (p1)), (2, .int (p2)), (3, .int ((owA S p2 k) + (owS S (nI k) p2))), (4, .int ((nI k) + 1))]) hl [2, 3, 4, 1, 0] rfl) (by rw [nI_1]; rfl))
          exact L46 0 (Nat.zero_le _) _ _ _ (GW.cast (rfl) G) (lv_cast (lv_sub (l' := [(0, .ref (q 0)), (1, .int (p1)), (2, .int (p2)), (3, .int (0)), (4, .int (0))]) hl [2, 3, 4, 1, 0] rfl) (by rw [nI_0]; rfl))
        · skip
          have c_31n := Int32.not_lt.mp c_31
          refine lv_aload_n hx hb dX9_owed_34 rfl (lv_at hl 0 rfl) ?_
          refine lv_iload_n hx hb dX9_owed_35 rfl (lv_at hl 1 rfl) ?_
          refine lv_iload_n hx hb dX9_owed_36 rfl (lv_at hl 2 rfl) ?_
          refine r_V [] E G (c_X9_owedOf l Z q S Y p1 p2 hI (ow_b c_31n (by simp_all)) c_21) kX9_owedOf m_926 0 rfl rfl ⟨Nat.le_of_ble_eq_true rfl, Nat.le_of_ble_eq_true rfl⟩ hl dX9_owed_37 rfl rfl (Nat.le_of_ble_eq_true rfl) ⟨Nat.zero_le _, Nat.zero_le _⟩ (fun H locs G => ?_)
          have hs : (sp_owed S p1 p2) = (owS S p1 p2, S) := by first | rfl | (simp [sp_owed, fq1, fq2, fq3, fq4, fq5, c_2, c_10, c_21, c_31, c_31n]; done) | (simp_all [sp_owed, fq1, fq2, fq3, fq4, fq5]; done)
          exact r_ret E G hr hlk hQ (by rw [hs]) (by rw [hs]) dX9_owed_40
      · skip
        refine lv_aload_n hx hb dX9_owed_24 rfl (lv_at hl 0 rfl) ?_
        refine lv_iconst (v := 1) hx hb dX9_owed_25 (by decide) ?_
        refine r_V [] E G (c_X9_finds l Z q S Y 1 (by decide)) kX9_finds m_746 0 rfl rfl ⟨Nat.le_of_ble_eq_true rfl, Nat.le_of_ble_eq_true rfl⟩ hl dX9_owed_26 rfl rfl (Nat.le_of_ble_eq_true rfl) ⟨Nat.zero_le _, Nat.zero_le _⟩ (fun H locs G => ?_)
        have hs : (sp_owed S p1 p2) = ((fnd S (-1000000 - 1)).1, (fnd S (-1000000 - 1)).2) := by first | rfl | (simp [sp_owed, fq1, fq2, fq3, fq4, fq5, c_2, c_10, c_21]; done) | (simp_all [sp_owed, fq1, fq2, fq3, fq4, fq5]; done)
        exact r_ret E G hr hlk hQ (by rw [hs]) (by rw [hs]) dX9_owed_29
set_option maxHeartbeats 4000000 in
set_option maxRecDepth 100000 in
theorem c_X9_tell (l : Launch) (Z : ZT) (q : Nat → Nat) (S : St) (Y : YM) (p1 : Int32) (hI : Inv S) : CT l Z yX9_tell cX9_tell 2 (some .int) 3 [.ref (q 0), .int (p1)] (MW Z q S Y) (some (.int ((sp_tell S p1).1))) (MW Z q ((sp_tell S p1).2) (Y)) := by
  refine CE.mk rfl (Nat.le_of_ble_eq_true rfl) (fun p e s m args below meth c A Qx ls E hr hlk hnm hQ G hl => ?_)
  have hx := E.1.1
  have hb := E.1.2.1
  have hl : lv_has ls 2 [(0, .ref (q 0)), (1, .int (p1))] := hl
  refine lv_aload_n hx hb dX9_tell_0 rfl (lv_at hl 0 rfl) ?_
  refine gM_0_4 E G m_637 dX9_tell_1 ?_
  refine lv_bipush (v := 12) hx hb dX9_tell_4 (by decide) ?_
  refine lv_icmp_ne (tgt := 15) hx hb dX9_tell_6 (by decide) (fun c_6 => ?_) (fun c_6 => ?_)
  · skip
    refine lv_aload_n hx hb dX9_tell_15 rfl (lv_at hl 0 rfl) ?_
    refine gM_0_23 E G m_656 dX9_tell_16 ?_
    refine lv_aload_n hx hb dX9_tell_19 rfl (lv_at hl 0 rfl) ?_
    refine gM_0_4 E G m_637 dX9_tell_20 ?_
    refine lv_iload_n hx hb dX9_tell_23 rfl (lv_at hl 1 rfl) ?_
    refine tM_14 E G (ix_lim hI.wa.1 (ne_lim hI.wa.2 c_6) (by decide)) dX9_tell_24 (fun H locs G => ?_)
    refine lv_aload_n hx hb dX9_tell_25 rfl (lv_at hl 0 rfl) ?_
    refine lv_dup hx hb dX9_tell_26 rfl ?_
    refine gM_0_4 E G m_637 dX9_tell_27 ?_
    refine lv_topc (e_s_wa_wt _ _) ?_
    refine lv_iconst (v := 1) hx hb dX9_tell_30 (by decide) ?_
    refine lv_iadd hx hb dX9_tell_31 ?_
    refine pM_0_4 E G m_637 dX9_tell_32 (fun H locs G => ?_)
    refine lv_aload_n hx hb dX9_tell_35 rfl (lv_at hl 0 rfl) ?_
    refine gM_0_4 E G m_637 dX9_tell_36 ?_
    refine lv_topc (es_s_wa _ _) ?_
    have hs : (sp_tell S p1) = ((s_wa S) + 1, u_wa (u_wt S (au (s_wt S) (s_wa S) p1)) ((s_wa S) + 1)) := by first | rfl | (simp [sp_tell, fq1, fq2, fq3, fq4, fq5, c_6]; done) | (simp_all [sp_tell, fq1, fq2, fq3, fq4, fq5]; done)
    exact r_ret E G hr hlk hQ (by rw [hs]) (by rw [hs]) dX9_tell_39
  · skip
    refine lv_aload_n hx hb dX9_tell_9 rfl (lv_at hl 0 rfl) ?_
    refine lv_iconst (v := 4) hx hb dX9_tell_10 (by decide) ?_
    refine r_V [] E G (c_X9_finds l Z q S Y 4 (by decide)) kX9_finds m_746 0 rfl rfl ⟨Nat.le_of_ble_eq_true rfl, Nat.le_of_ble_eq_true rfl⟩ hl dX9_tell_11 rfl rfl (Nat.le_of_ble_eq_true rfl) ⟨Nat.zero_le _, Nat.zero_le _⟩ (fun H locs G => ?_)
    have hs : (sp_tell S p1) = ((fnd S (-1000000 - 4)).1, (fnd S (-1000000 - 4)).2) := by first | rfl | (simp [sp_tell, fq1, fq2, fq3, fq4, fq5, c_6]; done) | (simp_all [sp_tell, fq1, fq2, fq3, fq4, fq5]; done)
    exact r_ret E G hr hlk hQ (by rw [hs]) (by rw [hs]) dX9_tell_14
set_option maxHeartbeats 4000000 in
set_option maxRecDepth 100000 in
theorem c_X9_count (l : Launch) (Z : ZT) (q : Nat → Nat) (S : St) (Y : YM) (p1 : Int32) (hI : Inv S) : CT l Z yX9_count cX9_count 4 (some .int) 3 [.ref (q 0), .int (p1)] (MW Z q S Y) (some (.int ((sp_count S p1).1))) (MW Z q ((sp_count S p1).2) (Y)) := by
  refine CE.mk rfl (Nat.le_of_ble_eq_true rfl) (fun p e s m args below meth c A Qx ls E hr hlk hnm hQ G hl => ?_)
  have hx := E.1.1
  have hb := E.1.2.1
  have hl : lv_has ls 4 [(0, .ref (q 0)), (1, .int (p1))] := hl
  have h0 := hI.va.1
  have h4 := N4 hI
  refine lv_iconst (v := 0) hx hb dX9_count_0 (by decide) ?_
  refine lv_istore_n (lv' := [(2, .int (0)), (0, .ref (q 0)), (1, .int (p1))]) hx hb dX9_count_1 rfl hl (by decide) rfl (fun ls hl => ?_)
  refine lv_iload_n hx hb dX9_count_2 rfl (lv_at hl 2 rfl) ?_
  by_cases hk_0 : p1 = 0
  · skip
    refine lv_tableIn (off := 41) (tgt := 44) hx hb dX9_count_3 (by rw [hk_0]; decide) (by rw [hk_0]; decide) (by rw [hk_0]; rfl) (by decide) ?_
    refine lv_aload_n hx hb dX9_count_44 rfl (lv_at hl 1 rfl) ?_
    refine gM_0_0 E G m_633 dX9_count_45 ?_
    have hs : (sp_count S p1) = (s_st S, S) := by simp [sp_count, fq1, hk_0]
    exact r_ret E G hr hlk hQ (by rw [hs]) (by rw [hs]) dX9_count_48
  by_cases hk_1 : p1 = 1
  · skip
    refine lv_tableIn (off := 46) (tgt := 49) hx hb dX9_count_3 (by rw [hk_1]; decide) (by rw [hk_1]; decide) (by rw [hk_1]; rfl) (by decide) ?_
    refine lv_aload_n hx hb dX9_count_49 rfl (lv_at hl 1 rfl) ?_
    refine gM_0_1 E G m_634 dX9_count_50 ?_
    have hs : (sp_count S p1) = (s_va S, S) := by simp [sp_count, fq1, hk_0, hk_1]
    exact r_ret E G hr hlk hQ (by rw [hs]) (by rw [hs]) dX9_count_53
  by_cases hk_2 : p1 = 2
  · skip
    refine lv_tableIn (off := 51) (tgt := 54) hx hb dX9_count_3 (by rw [hk_2]; decide) (by rw [hk_2]; decide) (by rw [hk_2]; rfl) (by decide) ?_
    refine lv_aload_n hx hb dX9_count_54 rfl (lv_at hl 1 rfl) ?_
    refine gM_0_2 E G m_635 dX9_count_55 ?_
    have hs : (sp_count S p1) = (s_sd S, S) := by simp [sp_count, fq1, hk_0, hk_1, hk_2]
    exact r_ret E G hr hlk hQ (by rw [hs]) (by rw [hs]) dX9_count_58
  by_cases hk_3 : p1 = 3
  · skip
    refine lv_tableIn (off := 56) (tgt := 59) hx hb dX9_count_3 (by rw [hk_3]; decide) (by rw [hk_3]; decide) (by rw [hk_3]; rfl) (by decide) ?_
    refine lv_aload_n hx hb dX9_count_59 rfl (lv_at hl 1 rfl) ?_
    refine gM_0_3 E G m_636 dX9_count_60 ?_
    have hs : (sp_count S p1) = (s_bi S, S) := by simp [sp_count, fq1, hk_0, hk_1, hk_2, hk_3]
    exact r_ret E G hr hlk hQ (by rw [hs]) (by rw [hs]) dX9_count_63
  by_cases hk_4 : p1 = 4
  · skip
    refine lv_tableIn (off := 61) (tgt := 64) hx hb dX9_count_3 (by rw [hk_4]; decide) (by rw [hk_4]; decide) (by rw [hk_4]; rfl) (by decide) ?_
    refine lv_aload_n hx hb dX9_count_64 rfl (lv_at hl 1 rfl) ?_
    refine gM_0_4 E G m_637 dX9_count_65 ?_
    have hs : (sp_count S p1) = (s_wa S, S) := by simp [sp_count, fq1, hk_0, hk_1, hk_2, hk_3, hk_4]
    exact r_ret E G hr hlk hQ (by rw [hs]) (by rw [hs]) dX9_count_68
  by_cases hk_5 : p1 = 5
  · skip
    refine lv_tableIn (off := 66) (tgt := 69) hx hb dX9_count_3 (by rw [hk_5]; decide) (by rw [hk_5]; decide) (by rw [hk_5]; rfl) (by decide) ?_
    refine lv_iconst (v := 0) hx hb dX9_count_69 (by decide) ?_
    refine lv_istore_n (lv' := [(3, .int (0)), (2, .int (0)), (0, .ref (q 0)), (1, .int (p1))]) hx hb dX9_count_70 rfl hl (by decide) rfl (fun ls hl => ?_)
    have L71 : ∀ k : Nat, k ≤ (s_va S).toNatClampNeg → (∀ (H : Heap) (locs : List Loc) (ls : Array Slot), GW Z (MW Z q S Y) A s.heap H locs → lv_has ls 4 [(0, .ref (q 0)), (1, .int (p1)), (2, .int (soA S k)), (3, .int (nI k))] → W p l e (rmk 3 0 0) s m args below meth c H locs 0 0 Qx (F0 m 71 ls [])) := by
      refine up_in2 (P := fun k => (∀ (H : Heap) (locs : List Loc) (ls : Array Slot), GW Z (MW Z q S Y) A s.heap H locs → lv_has ls 4 [(0, .ref (q 0)), (1, .int (p1)), (2, .int (soA S k)), (3, .int (nI k))] → W p l e (rmk 3 0 0) s m args below meth c H locs 0 0 Qx (F0 m 71 ls []))) ((s_va S).toNatClampNeg) ?_
      intro k hkk ih71 H locs ls G hl
      refine lv_iload_n hx hb dX9_count_71 rfl (lv_at hl 3 rfl) ?_
      refine lv_aload_n hx hb dX9_count_72 rfl (lv_at hl 0 rfl) ?_
      refine gM_0_1 E G m_634 dX9_count_73 ?_
      refine lv_icmp_ge (tgt := 94) hx hb dX9_count_76 (by decide) (fun c_76 => ?_) (fun c_76 => ?_)
      · skip
        have c_76n := Int32.not_lt.mpr c_76
        refine lv_iload_n hx hb dX9_count_94 rfl (lv_at hl 2 rfl) ?_
        have hs : (sp_count S p1) = (soA S k, S) := by rw [lp_eq h0 hkk c_76]; simp [sp_count, hk_0, hk_1, hk_2, hk_3, hk_4, hk_5, c_76, c_76n]
        exact r_ret E G hr hlk hQ (by rw [hs]) (by rw [hs]) dX9_count_95
      · skip
        have c_76n := Int32.not_le.mp c_76
        refine lv_iload_n hx hb dX9_count_79 rfl (lv_at hl 2 rfl) ?_
        refine lv_aload_n hx hb dX9_count_80 rfl (lv_at hl 0 rfl) ?_
        refine gM_0_14 E G m_647 dX9_count_81 ?_
        refine lv_iload_n hx hb dX9_count_84 rfl (lv_at hl 3 rfl) ?_
        refine aM_5 E G (ix_k (lp_lt h0 hkk c_76) h4 (by decide)) dX9_count_85 ?_
        refine lv_iadd hx hb dX9_count_86 ?_
        refine lv_istore_n (lv' := [(2, .int ((soA S k) + (ar (s_so S) (nI k)))), (0, .ref (q 0)), (1, .int (p1)), (3, .int (nI k))]) hx hb dX9_count_87 rfl hl (by decide) rfl (fun ls hl => ?_)
        refine lv_iinc (v := (nI k) + 1) (lv' := [(3, .int ((nI k) + 1)), (2, .int ((soA S k) + (ar (s_so S) (nI k)))), (0, .ref (q 0)), (1, .int (p1))]) hx hb dX9_count_88 hl (k := 3) rfl rfl (by decide) rfl (fun ls hl => ?_)
        refine lv_goto (tgt := 71) hx hb dX9_count_91 (by decide) ?_
        exact ih71 (lp_lt h0 hkk c_76) _ _ _ (GW.cast (rfl) G) (lv_cast (lv_sub (l' := [(0, .ref (q 0)), (1, .int (p1)), (2, .int ((soA S k) + (ar (s_so S) (nI k)))), (3, .int ((nI k) + 1))]) hl [2, 3, 1, 0] rfl) (by rw [nI_1, ar_nI _ (show k < 2 ^ 31 by omega)]; rfl))
    exact L71 0 (Nat.zero_le _) _ _ _ (GW.cast (rfl) G) (lv_cast (lv_sub (l' := [(0, .ref (q 0)), (1, .int (p1)), (2, .int (0)), (3, .int (0))]) hl [2, 3, 1, 0] rfl) (by rw [nI_0]; rfl))
  by_cases hk_6 : p1 = 6
  · skip
    refine lv_tableIn (off := 93) (tgt := 96) hx hb dX9_count_3 (by rw [hk_6]; decide) (by rw [hk_6]; decide) (by rw [hk_6]; rfl) (by decide) ?_
    refine lv_aload_n hx hb dX9_count_96 rfl (lv_at hl 1 rfl) ?_
    refine gM_0_5 E G m_638 dX9_count_97 ?_
    have hs : (sp_count S p1) = (s_he S, S) := by simp [sp_count, fq1, hk_0, hk_1, hk_2, hk_3, hk_4, hk_5, hk_6]
    exact r_ret E G hr hlk hQ (by rw [hs]) (by rw [hs]) dX9_count_100
  refine lv_tableOut (tgt := 101) hx hb dX9_count_3 (by have a0 := lv_neT (k := 0) (a := 0) hk_0 (by decide); have a1 := lv_neT (k := 1) (a := 1) hk_1 (by decide); have a2 := lv_neT (k := 2) (a := 2) hk_2 (by decide); have a3 := lv_neT (k := 3) (a := 3) hk_3 (by decide); have a4 := lv_neT (k := 4) (a := 4) hk_4 (by decide); have a5 := lv_neT (k := 5) (a := 5) hk_5 (by decide); have a6 := lv_neT (k := 6) (a := 6) hk_6 (by decide); omega) (by decide) ?_
  refine lv_aload_n hx hb dX9_count_101 rfl (lv_at hl 1 rfl) ?_
  refine lv_iconst (v := 1) hx hb dX9_count_102 (by decide) ?_
  refine r_V [] E G (c_X9_finds l Z q S Y 1 (by decide)) kX9_finds m_746 0 rfl rfl ⟨Nat.le_of_ble_eq_true rfl, Nat.le_of_ble_eq_true rfl⟩ hl dX9_count_103 rfl rfl (Nat.le_of_ble_eq_true rfl) ⟨Nat.zero_le _, Nat.zero_le _⟩ (fun H locs G => ?_)
  have hs : (sp_count S p1) = ((fnd S (-1000000 - 1)).1, (fnd S (-1000000 - 1)).2) := by simp [sp_count, fq1, hk_0, hk_1, hk_2, hk_3, hk_4, hk_5, hk_6]
  exact r_ret E G hr hlk hQ (by rw [hs]) (by rw [hs]) dX9_count_106
set_option maxHeartbeats 4000000 in
set_option maxRecDepth 100000 in
theorem c_X9_found (l : Launch) (Z : ZT) (q : Nat → Nat) (S : St) (Y : YM) (p1 : Int32) (hI : Inv S) : CT l Z yX9_found cX9_found 2 (some .int) 3 [.ref (q 0), .int (p1)] (MW Z q S Y) (some (.int ((sp_found S p1).1))) (MW Z q ((sp_found S p1).2) (Y)) := by
  refine CE.mk rfl (Nat.le_of_ble_eq_true rfl) (fun p e s m args below meth c A Qx ls E hr hlk hnm hQ G hl => ?_)
  have hx := E.1.1
  have hb := E.1.2.1
  have hl : lv_has ls 2 [(0, .ref (q 0)), (1, .int (p1))] := hl
  refine lv_iload_n hx hb dX9_found_0 rfl (lv_at hl 1 rfl) ?_
  refine lv_iconst (v := 1) hx hb dX9_found_1 (by decide) ?_
  refine lv_iconst (v := 5) hx hb dX9_found_2 (by decide) ?_
  refine r_S [] E G (c_X9_in l Z q S Y p1 1 5) kX9_in m_743 ⟨Nat.le_of_ble_eq_true rfl, Nat.le_of_ble_eq_true rfl⟩ hl dX9_found_3 rfl rfl (Nat.le_of_ble_eq_true rfl) ⟨Nat.zero_le _, Nat.zero_le _⟩ (fun H locs G => ?_)
  refine r_eqb (tgt := 18) hx hb dX9_found_6 (by decide) (fun c_6 => ?_) (fun c_6 => ?_)
  · skip
    refine lv_aload_n hx hb dX9_found_18 rfl (lv_at hl 0 rfl) ?_
    refine lv_iconst (v := 1) hx hb dX9_found_19 (by decide) ?_
    refine r_V [] E G (c_X9_finds l Z q S Y 1 (by decide)) kX9_finds m_746 0 rfl rfl ⟨Nat.le_of_ble_eq_true rfl, Nat.le_of_ble_eq_true rfl⟩ hl dX9_found_20 rfl rfl (Nat.le_of_ble_eq_true rfl) ⟨Nat.zero_le _, Nat.zero_le _⟩ (fun H locs G => ?_)
    have hs : (sp_found S p1) = ((fnd S (-1000000 - 1)).1, (fnd S (-1000000 - 1)).2) := by first | rfl | (simp [sp_found, fq1, fq2, fq3, fq4, fq5, c_6]; done) | (simp_all [sp_found, fq1, fq2, fq3, fq4, fq5]; done)
    exact r_ret E G hr hlk hQ (by rw [hs]) (by rw [hs]) dX9_found_23
  · skip
    refine lv_aload_n hx hb dX9_found_9 rfl (lv_at hl 0 rfl) ?_
    refine gM_0_24 E G m_657 dX9_found_10 ?_
    refine lv_iload_n hx hb dX9_found_13 rfl (lv_at hl 1 rfl) ?_
    refine aM_15 E G (ix_fd (by assumption)) dX9_found_14 ?_
    refine lv_goto (tgt := 23) hx hb dX9_found_15 (by decide) ?_
    have hs : (sp_found S p1) = (ar (s_co S) p1, S) := by first | rfl | (simp [sp_found, fq1, fq2, fq3, fq4, fq5, c_6]; done) | (simp_all [sp_found, fq1, fq2, fq3, fq4, fq5]; done)
    exact r_ret E G hr hlk hQ (by rw [hs]) (by rw [hs]) dX9_found_23
