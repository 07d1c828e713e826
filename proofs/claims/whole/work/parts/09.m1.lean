set_option maxHeartbeats 4000000 in
set_option maxRecDepth 100000 in
theorem c_X8_isWithin (l : Launch) (Z : ZT) (q : Nat → Nat) (S : St) (X : XC) (p1 p2 : Int32) : CT l Z yX8_isWithin cX8_isWithin 2 (some .boolean) 1 [.int (p1), .int (p2)] (CW Z q S X) (some (.int (b01 (inr p1 0 p2)))) (CW Z q S X) := by
  refine CE.mk rfl (Nat.le_of_ble_eq_true rfl) (fun p e s m args below meth c A Qx ls E hr hlk hnm hQ G hl => ?_)
  have hx := E.1.1
  have hb := E.1.2.1
  have hl : lv_has ls 2 [(0, .int (p1)), (1, .int (p2))] := hl
  refine lv_iload_n hx hb dX8_isWithin_0 rfl (lv_at hl 0 rfl) ?_
  refine lv_if_lt (tgt := 13) hx hb dX8_isWithin_1 (by decide) (fun c_1 => ?_) (fun c_1 => ?_)
  · skip
    have c_1n := Int32.not_le.mpr c_1
    refine lv_iconst (v := 0) hx hb dX8_isWithin_13 (by decide) ?_
    have hs : (inr p1 0 p2) = false := by first | rfl | (simp [inr, c_1, c_1n]; done) | (simp_all [inr]; done)
    exact r_retz E G hr hlk hQ (by decide) (congrArg (fun t => some (Value.int (b01 t))) hs) rfl dX8_isWithin_14
  · skip
    have c_1n := Int32.not_lt.mp c_1
    refine lv_iload_n hx hb dX8_isWithin_4 rfl (lv_at hl 0 rfl) ?_
    refine lv_iload_n hx hb dX8_isWithin_5 rfl (lv_at hl 1 rfl) ?_
    refine lv_icmp_gt (tgt := 13) hx hb dX8_isWithin_6 (by decide) (fun c_6 => ?_) (fun c_6 => ?_)
    · skip
      have c_6n := Int32.not_le.mpr c_6
      refine lv_iconst (v := 0) hx hb dX8_isWithin_13 (by decide) ?_
      have hs : (inr p1 0 p2) = false := by first | rfl | (simp [inr, c_1, c_1n, c_6, c_6n]; done) | (simp_all [inr]; done)
      exact r_retz E G hr hlk hQ (by decide) (congrArg (fun t => some (Value.int (b01 t))) hs) rfl dX8_isWithin_14
    · skip
      have c_6n := Int32.not_lt.mp c_6
      refine lv_iconst (v := 1) hx hb dX8_isWithin_9 (by decide) ?_
      refine lv_goto (tgt := 14) hx hb dX8_isWithin_10 (by decide) ?_
      have hs : (inr p1 0 p2) = true := by first | rfl | (simp [inr, c_1, c_1n, c_6, c_6n]; done) | (simp_all [inr]; done)
      exact r_retz E G hr hlk hQ (by decide) (congrArg (fun t => some (Value.int (b01 t))) hs) rfl dX8_isWithin_14
set_option maxHeartbeats 4000000 in
set_option maxRecDepth 100000 in
theorem c_X8_isHour (l : Launch) (Z : ZT) (q : Nat → Nat) (S : St) (X : XC) (p1 : Int32) : CT l Z yX8_isHour cX8_isHour 1 (some .boolean) 1 [.int (p1)] (CW Z q S X) (some (.int (b01 (isHo p1)))) (CW Z q S X) := by
  refine CE.mk rfl (Nat.le_of_ble_eq_true rfl) (fun p e s m args below meth c A Qx ls E hr hlk hnm hQ G hl => ?_)
  have hx := E.1.1
  have hb := E.1.2.1
  have hl : lv_has ls 1 [(0, .int (p1))] := hl
  refine lv_iload_n hx hb dX8_isHour_0 rfl (lv_at hl 0 rfl) ?_
  refine lv_if_lt (tgt := 14) hx hb dX8_isHour_1 (by decide) (fun c_1 => ?_) (fun c_1 => ?_)
  · skip
    have c_1n := Int32.not_le.mpr c_1
    refine lv_iconst (v := 0) hx hb dX8_isHour_14 (by decide) ?_
    have hs : (isHo p1) = false := by first | rfl | (simp [isHo, inr, le11, c_1, c_1n]; done) | (simp_all [isHo, inr, le11]; done)
    exact r_retz E G hr hlk hQ (by decide) (congrArg (fun t => some (Value.int (b01 t))) hs) rfl dX8_isHour_15
  · skip
    have c_1n := Int32.not_lt.mp c_1
    refine lv_iload_n hx hb dX8_isHour_4 rfl (lv_at hl 0 rfl) ?_
    refine lv_bipush (v := 12) hx hb dX8_isHour_5 (by decide) ?_
    refine lv_icmp_ge (tgt := 14) hx hb dX8_isHour_7 (by decide) (fun c_7 => ?_) (fun c_7 => ?_)
    · skip
      have c_7n := Int32.not_lt.mpr c_7
      refine lv_iconst (v := 0) hx hb dX8_isHour_14 (by decide) ?_
      have hs : (isHo p1) = false := by first | rfl | (simp [isHo, inr, le11, c_1, c_1n, c_7, c_7n]; done) | (simp_all [isHo, inr, le11]; done)
      exact r_retz E G hr hlk hQ (by decide) (congrArg (fun t => some (Value.int (b01 t))) hs) rfl dX8_isHour_15
    · skip
      have c_7n := Int32.not_le.mp c_7
      refine lv_iconst (v := 1) hx hb dX8_isHour_10 (by decide) ?_
      refine lv_goto (tgt := 15) hx hb dX8_isHour_11 (by decide) ?_
      have hs : (isHo p1) = true := by first | rfl | (simp [isHo, inr, le11, c_1, c_1n, c_7, c_7n]; done) | (simp_all [isHo, inr, le11]; done)
      exact r_retz E G hr hlk hQ (by decide) (congrArg (fun t => some (Value.int (b01 t))) hs) rfl dX8_isHour_15
set_option maxHeartbeats 4000000 in
set_option maxRecDepth 100000 in
theorem c_X8_streetOf (l : Launch) (Z : ZT) (q : Nat → Nat) (S : St) (X : XC) (p1 : Int32) : CT l Z yX8_streetOf cX8_streetOf 1 (some .int) 1 [.int (p1)] (CW Z q S X) (some (.int (p1 / 100))) (CW Z q S X) := by
  refine CE.mk rfl (Nat.le_of_ble_eq_true rfl) (fun p e s m args below meth c A Qx ls E hr hlk hnm hQ G hl => ?_)
  have hx := E.1.1
  have hb := E.1.2.1
  have hl : lv_has ls 1 [(0, .int (p1))] := hl
  refine lv_iload_n hx hb dX8_streetOf_0 rfl (lv_at hl 0 rfl) ?_
  refine lv_bipush (v := 100) hx hb dX8_streetOf_1 (by decide) ?_
  refine lv_idiv hx hb dX8_streetOf_3 (by decide) ?_
  have hs : (p1 / 100) = p1 / 100 := rfl
  exact r_ret E G hr hlk hQ (congrArg (fun t => some (Value.int t)) hs) rfl dX8_streetOf_4
set_option maxHeartbeats 4000000 in
set_option maxRecDepth 100000 in
theorem c_X8_hourOf (l : Launch) (Z : ZT) (q : Nat → Nat) (S : St) (X : XC) (p1 : Int32) : CT l Z yX8_hourOf cX8_hourOf 1 (some .int) 1 [.int (p1)] (CW Z q S X) (some (.int (ho p1))) (CW Z q S X) := by
  refine CE.mk rfl (Nat.le_of_ble_eq_true rfl) (fun p e s m args below meth c A Qx ls E hr hlk hnm hQ G hl => ?_)
  have hx := E.1.1
  have hb := E.1.2.1
  have hl : lv_has ls 1 [(0, .int (p1))] := hl
  refine lv_iload_n hx hb dX8_hourOf_0 rfl (lv_at hl 0 rfl) ?_
  refine lv_bipush (v := 100) hx hb dX8_hourOf_1 (by decide) ?_
  refine lv_irem hx hb dX8_hourOf_3 (by decide) ?_
  have hs : (ho p1) = p1 - p1 / 100 * 100 := rfl
  exact r_ret E G hr hlk hQ (congrArg (fun t => some (Value.int t)) hs) rfl dX8_hourOf_4
set_option maxHeartbeats 4000000 in
set_option maxRecDepth 100000 in
theorem c_X8_isKind (l : Launch) (Z : ZT) (q : Nat → Nat) (S : St) (X : XC) (p1 : Int32) : CT l Z yX8_isKind cX8_isKind 1 (some .boolean) 1 [.int (p1)] (CW Z q S X) (some (.int (b01 (isKi p1)))) (CW Z q S X) := by
  refine CE.mk rfl (Nat.le_of_ble_eq_true rfl) (fun p e s m args below meth c A Qx ls E hr hlk hnm hQ G hl => ?_)
  have hx := E.1.1
  have hb := E.1.2.1
  have hl : lv_has ls 1 [(0, .int (p1))] := hl
  refine lv_iload_n hx hb dX8_isKind_0 rfl (lv_at hl 0 rfl) ?_
  refine lv_if_eq (tgt := 14) hx hb dX8_isKind_1 (by decide) (fun c_1 => ?_) (fun c_1 => ?_)
  · skip
    refine lv_iconst (v := 1) hx hb dX8_isKind_14 (by decide) ?_
    refine lv_goto (tgt := 19) hx hb dX8_isKind_15 (by decide) ?_
    have hs : (isKi p1) = true := by first | rfl | (simp [ki_or, c_1]; done) | (simp_all [ki_or]; done)
    exact r_retz E G hr hlk hQ (by decide) (congrArg (fun t => some (Value.int (b01 t))) hs) rfl dX8_isKind_19
  · skip
    refine lv_iload_n hx hb dX8_isKind_4 rfl (lv_at hl 0 rfl) ?_
    refine lv_iconst (v := 1) hx hb dX8_isKind_5 (by decide) ?_
    refine lv_icmp_eq (tgt := 14) hx hb dX8_isKind_6 (by decide) (fun c_6 => ?_) (fun c_6 => ?_)
    · skip
      refine lv_iconst (v := 1) hx hb dX8_isKind_14 (by decide) ?_
      refine lv_goto (tgt := 19) hx hb dX8_isKind_15 (by decide) ?_
      have hs : (isKi p1) = true := by first | rfl | (simp [ki_or, c_1, c_6]; done) | (simp_all [ki_or]; done)
      exact r_retz E G hr hlk hQ (by decide) (congrArg (fun t => some (Value.int (b01 t))) hs) rfl dX8_isKind_19
    · skip
      refine lv_iload_n hx hb dX8_isKind_9 rfl (lv_at hl 0 rfl) ?_
      refine lv_iconst (v := 2) hx hb dX8_isKind_10 (by decide) ?_
      refine lv_icmp_ne (tgt := 18) hx hb dX8_isKind_11 (by decide) (fun c_11 => ?_) (fun c_11 => ?_)
      · skip
        refine lv_iconst (v := 0) hx hb dX8_isKind_18 (by decide) ?_
        have hs : (isKi p1) = false := by first | rfl | (simp [ki_or, c_1, c_6, c_11]; done) | (simp_all [ki_or]; done)
        exact r_retz E G hr hlk hQ (by decide) (congrArg (fun t => some (Value.int (b01 t))) hs) rfl dX8_isKind_19
      · skip
        refine lv_iconst (v := 1) hx hb dX8_isKind_14 (by decide) ?_
        refine lv_goto (tgt := 19) hx hb dX8_isKind_15 (by decide) ?_
        have hs : (isKi p1) = true := by first | rfl | (simp [ki_or, c_1, c_6, c_11]; done) | (simp_all [ki_or]; done)
        exact r_retz E G hr hlk hQ (by decide) (congrArg (fun t => some (Value.int (b01 t))) hs) rfl dX8_isKind_19
set_option maxHeartbeats 4000000 in
set_option maxRecDepth 100000 in
theorem c_X5_has (l : Launch) (Z : ZT) (q : Nat → Nat) (S : St) (X : XC) (p1 : Int32) : CT l Z yX5_has cX5_has 2 (some .boolean) 1 [.ref (q 2), .int (p1)] (CW Z q S X) (some (.int (b01 (isSt S p1)))) (CW Z q S X) := by
  refine CE.mk rfl (Nat.le_of_ble_eq_true rfl) (fun p e s m args below meth c A Qx ls E hr hlk hnm hQ G hl => ?_)
  have hx := E.1.1
  have hb := E.1.2.1
  have hl : lv_has ls 2 [(0, .ref (q 2)), (1, .int (p1))] := hl
  refine lv_iload_n hx hb dX5_has_0 rfl (lv_at hl 1 rfl) ?_
  refine lv_if_lt (tgt := 16) hx hb dX5_has_1 (by decide) (fun c_1 => ?_) (fun c_1 => ?_)
  · skip
    have c_1n := Int32.not_le.mpr c_1
    refine lv_iconst (v := 0) hx hb dX5_has_16 (by decide) ?_
    have hs : (isSt S p1) = false := by first | rfl | (simp [isSt, c_1, c_1n]; done) | (simp_all [isSt]; done)
    exact r_retz E G hr hlk hQ (by decide) (congrArg (fun t => some (Value.int (b01 t))) hs) rfl dX5_has_17
  · skip
    have c_1n := Int32.not_lt.mp c_1
    refine lv_iload_n hx hb dX5_has_4 rfl (lv_at hl 1 rfl) ?_
    refine lv_aload_n hx hb dX5_has_5 rfl (lv_at hl 0 rfl) ?_
    refine gC_2_3 E G m_71 dX5_has_6 ?_
    refine lv_icmp_ge (tgt := 16) hx hb dX5_has_9 (by decide) (fun c_9 => ?_) (fun c_9 => ?_)
    · skip
      have c_9n := Int32.not_lt.mpr c_9
      refine lv_iconst (v := 0) hx hb dX5_has_16 (by decide) ?_
      have hs : (isSt S p1) = false := by first | rfl | (simp [isSt, c_1, c_1n, c_9, c_9n]; done) | (simp_all [isSt]; done)
      exact r_retz E G hr hlk hQ (by decide) (congrArg (fun t => some (Value.int (b01 t))) hs) rfl dX5_has_17
    · skip
      have c_9n := Int32.not_le.mp c_9
      refine lv_iconst (v := 1) hx hb dX5_has_12 (by decide) ?_
      refine lv_goto (tgt := 17) hx hb dX5_has_13 (by decide) ?_
      have hs : (isSt S p1) = true := by first | rfl | (simp [isSt, c_1, c_1n, c_9, c_9n]; done) | (simp_all [isSt]; done)
      exact r_retz E G hr hlk hQ (by decide) (congrArg (fun t => some (Value.int (b01 t))) hs) rfl dX5_has_17
set_option maxHeartbeats 4000000 in
set_option maxRecDepth 100000 in
theorem c_X5_isFull (l : Launch) (Z : ZT) (q : Nat → Nat) (S : St) (X : XC) (hI : Inv S) : CT l Z yX5_isFull cX5_isFull 1 (some .boolean) 1 [.ref (q 2)] (CW Z q S X) (some (.int (b01 (decide (s_st S = 6))))) (CW Z q S X) := by
  refine CE.mk rfl (Nat.le_of_ble_eq_true rfl) (fun p e s m args below meth c A Qx ls E hr hlk hnm hQ G hl => ?_)
  have hx := E.1.1
  have hb := E.1.2.1
  have hl : lv_has ls 1 [(0, .ref (q 2))] := hl
  refine lv_aload_n hx hb dX5_isFull_0 rfl (lv_at hl 0 rfl) ?_
  refine gC_2_3 E G m_71 dX5_isFull_1 ?_
  refine lv_bipush (v := 6) hx hb dX5_isFull_4 (by decide) ?_
  refine lv_icmp_lt (tgt := 13) hx hb dX5_isFull_6 (by decide) (fun c_6 => ?_) (fun c_6 => ?_)
  · skip
    have c_6n := Int32.not_le.mpr c_6
    refine lv_iconst (v := 0) hx hb dX5_isFull_13 (by decide) ?_
    have hs : (decide (s_st S = 6)) = false := by simp only [← ge_lim hI.st.2]; simp [c_6, c_6n]
    exact r_retz E G hr hlk hQ (by decide) (congrArg (fun t => some (Value.int (b01 t))) hs) rfl dX5_isFull_14
  · skip
    have c_6n := Int32.not_lt.mp c_6
    refine lv_iconst (v := 1) hx hb dX5_isFull_9 (by decide) ?_
    refine lv_goto (tgt := 14) hx hb dX5_isFull_10 (by decide) ?_
    have hs : (decide (s_st S = 6)) = true := by simp only [← ge_lim hI.st.2]; simp [c_6, c_6n]
    exact r_retz E G hr hlk hQ (by decide) (congrArg (fun t => some (Value.int (b01 t))) hs) rfl dX5_isFull_14
set_option maxHeartbeats 4000000 in
set_option maxRecDepth 100000 in
theorem c_X5_wayBetween (l : Launch) (Z : ZT) (q : Nat → Nat) (S : St) (X : XC) (p1 p2 : Int32) (hI : Inv S) (h1 : isSt S p1 = true) (h2 : isSt S p2 = true) : CT l Z yX5_wayBetween cX5_wayBetween 3 (some .int) 1 [.ref (q 2), .int (p1), .int (p2)] (CW Z q S X) (some (.int (ar (s_wy S) (p1 * 6 + p2)))) (CW Z q S X) := by
  refine CE.mk rfl (Nat.le_of_ble_eq_true rfl) (fun p e s m args below meth c A Qx ls E hr hlk hnm hQ G hl => ?_)
  have hx := E.1.1
  have hb := E.1.2.1
  have hl : lv_has ls 3 [(0, .ref (q 2)), (1, .int (p1)), (2, .int (p2))] := hl
  refine lv_aload_n hx hb dX5_wayBetween_0 rfl (lv_at hl 0 rfl) ?_
  refine gC_2_1 E G m_69 dX5_wayBetween_1 ?_
  refine lv_iload_n hx hb dX5_wayBetween_4 rfl (lv_at hl 1 rfl) ?_
  refine lv_bipush (v := 6) hx hb dX5_wayBetween_5 (by decide) ?_
  refine lv_imul hx hb dX5_wayBetween_7 ?_
  refine lv_iload_n hx hb dX5_wayBetween_8 rfl (lv_at hl 2 rfl) ?_
  refine lv_iadd hx hb dX5_wayBetween_9 ?_
  refine aC_11 E G (ix_wy hI h1 h2) dX5_wayBetween_10 ?_
  have hs : (ar (s_wy S) (p1 * 6 + p2)) = ar (s_wy S) ((p1 * 6) + p2) := rfl
  exact r_ret E G hr hlk hQ (congrArg (fun t => some (Value.int t)) hs) rfl dX5_wayBetween_11
set_option maxHeartbeats 4000000 in
set_option maxRecDepth 100000 in
theorem c_X5_setWay (l : Launch) (Z : ZT) (q : Nat → Nat) (S : St) (X : XC) (p1 p2 p3 : Int32) (hI : Inv S) (h1 : isSt S p1 = true) (h2 : isSt S p2 = true) : CT l Z yX5_setWay cX5_setWay 4 none 1 [.ref (q 2), .int (p1), .int (p2), .int (p3)] (CW Z q S X) none (CW Z q (u_wy S (au (au (s_wy S) (p1 * 6 + p2) p3) (p2 * 6 + p1) p3)) (X)) := by
  refine CE.mk rfl (Nat.le_of_ble_eq_true rfl) (fun p e s m args below meth c A Qx ls E hr hlk hnm hQ G hl => ?_)
  have hx := E.1.1
  have hb := E.1.2.1
  have hl : lv_has ls 4 [(0, .ref (q 2)), (1, .int (p1)), (2, .int (p2)), (3, .int (p3))] := hl
  refine lv_aload_n hx hb dX5_setWay_0 rfl (lv_at hl 0 rfl) ?_
  refine gC_2_1 E G m_69 dX5_setWay_1 ?_
  refine lv_iload_n hx hb dX5_setWay_4 rfl (lv_at hl 1 rfl) ?_
  refine lv_bipush (v := 6) hx hb dX5_setWay_5 (by decide) ?_
  refine lv_imul hx hb dX5_setWay_7 ?_
  refine lv_iload_n hx hb dX5_setWay_8 rfl (lv_at hl 2 rfl) ?_
  refine lv_iadd hx hb dX5_setWay_9 ?_
  refine lv_iload_n hx hb dX5_setWay_10 rfl (lv_at hl 3 rfl) ?_
  refine tC_11 E G (ix_wy hI h1 h2) dX5_setWay_11 (fun H locs G => ?_)
  refine lv_aload_n hx hb dX5_setWay_12 rfl (lv_at hl 0 rfl) ?_
  refine gC_2_1 E G m_69 dX5_setWay_13 ?_
  refine lv_iload_n hx hb dX5_setWay_16 rfl (lv_at hl 2 rfl) ?_
  refine lv_bipush (v := 6) hx hb dX5_setWay_17 (by decide) ?_
  refine lv_imul hx hb dX5_setWay_19 ?_
  refine lv_iload_n hx hb dX5_setWay_20 rfl (lv_at hl 1 rfl) ?_
  refine lv_iadd hx hb dX5_setWay_21 ?_
  refine lv_iload_n hx hb dX5_setWay_22 rfl (lv_at hl 3 rfl) ?_
  refine tC_11 E G (ix_wy hI h2 h1) dX5_setWay_23 (fun H locs G => ?_)
  have G := GW.cast (congrArg (fun f => CW Z q (u_wy (u_wy S (au (s_wy S) ((p1 * 6) + p2) p3)) (au f ((p2 * 6) + p1) p3)) (X)) (es_s_wy _ _)) G
  have G := GW.cast (congrArg (fun T => CW Z q T X) (uu_s_wy _ _ _)) G
  have hs : (u_wy S (au (au (s_wy S) (p1 * 6 + p2) p3) (p2 * 6 + p1) p3)) = u_wy S (au (au (s_wy S) ((p1 * 6) + p2) p3) ((p2 * 6) + p1) p3) := rfl
  exact r_retv E G hr hlk hQ (by rw [hs]) dX5_setWay_24
set_option maxHeartbeats 4000000 in
set_option maxRecDepth 100000 in
theorem c_X5_wishAt (l : Launch) (Z : ZT) (q : Nat → Nat) (S : St) (X : XC) (p1 p2 : Int32) (hI : Inv S) (h1 : isSt S p1 = true) (h2 : isHo p2 = true) : CT l Z yX5_wishAt cX5_wishAt 3 (some .int) 1 [.ref (q 2), .int (p1), .int (p2)] (CW Z q S X) (some (.int (ar (s_wi S) (p1 * 12 + p2)))) (CW Z q S X) := by
  refine CE.mk rfl (Nat.le_of_ble_eq_true rfl) (fun p e s m args below meth c A Qx ls E hr hlk hnm hQ G hl => ?_)
  have hx := E.1.1
  have hb := E.1.2.1
  have hl : lv_has ls 3 [(0, .ref (q 2)), (1, .int (p1)), (2, .int (p2))] := hl
  refine lv_aload_n hx hb dX5_wishAt_0 rfl (lv_at hl 0 rfl) ?_
  refine gC_2_2 E G m_70 dX5_wishAt_1 ?_
  refine lv_iload_n hx hb dX5_wishAt_4 rfl (lv_at hl 1 rfl) ?_
  refine lv_bipush (v := 12) hx hb dX5_wishAt_5 (by decide) ?_
  refine lv_imul hx hb dX5_wishAt_7 ?_
  refine lv_iload_n hx hb dX5_wishAt_8 rfl (lv_at hl 2 rfl) ?_
  refine lv_iadd hx hb dX5_wishAt_9 ?_
  refine aC_12 E G (ix_wi hI h1 h2) dX5_wishAt_10 ?_
  have hs : (ar (s_wi S) (p1 * 12 + p2)) = ar (s_wi S) ((p1 * 12) + p2) := rfl
  exact r_ret E G hr hlk hQ (congrArg (fun t => some (Value.int t)) hs) rfl dX5_wishAt_11
set_option maxHeartbeats 4000000 in
set_option maxRecDepth 100000 in
theorem c_X5_setWish (l : Launch) (Z : ZT) (q : Nat → Nat) (S : St) (X : XC) (p1 p2 p3 : Int32) (hI : Inv S) (h1 : isSt S p1 = true) (h2 : isHo p2 = true) : CT l Z yX5_setWish cX5_setWish 4 none 1 [.ref (q 2), .int (p1), .int (p2), .int (p3)] (CW Z q S X) none (CW Z q (u_wi S (au (s_wi S) (p1 * 12 + p2) p3)) (X)) := by
  refine CE.mk rfl (Nat.le_of_ble_eq_true rfl) (fun p e s m args below meth c A Qx ls E hr hlk hnm hQ G hl => ?_)
  have hx := E.1.1
  have hb := E.1.2.1
  have hl : lv_has ls 4 [(0, .ref (q 2)), (1, .int (p1)), (2, .int (p2)), (3, .int (p3))] := hl
  refine lv_aload_n hx hb dX5_setWish_0 rfl (lv_at hl 0 rfl) ?_
  refine gC_2_2 E G m_70 dX5_setWish_1 ?_
  refine lv_iload_n hx hb dX5_setWish_4 rfl (lv_at hl 1 rfl) ?_
  refine lv_bipush (v := 12) hx hb dX5_setWish_5 (by decide) ?_
  refine lv_imul hx hb dX5_setWish_7 ?_
  refine lv_iload_n hx hb dX5_setWish_8 rfl (lv_at hl 2 rfl) ?_
  refine lv_iadd hx hb dX5_setWish_9 ?_
  refine lv_iload_n hx hb dX5_setWish_10 rfl (lv_at hl 3 rfl) ?_
  refine tC_12 E G (ix_wi hI h1 h2) dX5_setWish_11 (fun H locs G => ?_)
  have hs : (u_wi S (au (s_wi S) (p1 * 12 + p2) p3)) = u_wi S (au (s_wi S) ((p1 * 12) + p2) p3) := rfl
  exact r_retv E G hr hlk hQ (by rw [hs]) dX5_setWish_12
set_option maxHeartbeats 4000000 in
set_option maxRecDepth 100000 in
theorem c_X5_worthAt (l : Launch) (Z : ZT) (q : Nat → Nat) (S : St) (X : XC) (p1 p2 : Int32) (hI : Inv S) (h1 : isSt S p1 = true) (h2 : isHo p2 = true) : CT l Z yX5_worthAt cX5_worthAt 3 (some .int) 2 [.ref (q 2), .int (p1), .int (p2)] (CW Z q S X) (some (.int (wor S p1 p2))) (CW Z q S X) := by
  refine CE.mk rfl (Nat.le_of_ble_eq_true rfl) (fun p e s m args below meth c A Qx ls E hr hlk hnm hQ G hl => ?_)
  have hx := E.1.1
  have hb := E.1.2.1
  have hl : lv_has ls 3 [(0, .ref (q 2)), (1, .int (p1)), (2, .int (p2))] := hl
  refine lv_aload_n hx hb dX5_worthAt_0 rfl (lv_at hl 0 rfl) ?_
  refine lv_iload_n hx hb dX5_worthAt_1 rfl (lv_at hl 1 rfl) ?_
  refine lv_iload_n hx hb dX5_worthAt_2 rfl (lv_at hl 2 rfl) ?_
  refine r_V [] E G (c_X5_wishAt l Z q S X p1 p2 hI h1 h2) kX5_wishAt m_376 2 rfl rfl ⟨Nat.le_of_ble_eq_true rfl, Nat.le_of_ble_eq_true rfl⟩ hl dX5_worthAt_3 rfl rfl (Nat.le_of_ble_eq_true rfl) ⟨Nat.zero_le _, Nat.zero_le _⟩ (fun H locs G => ?_)
  refine lv_aload_n hx hb dX5_worthAt_6 rfl (lv_at hl 0 rfl) ?_
  refine gC_2_4 E G m_73 dX5_worthAt_7 ?_
  refine lv_iconst (v := 2) hx hb dX5_worthAt_10 (by decide) ?_
  refine lv_iadd hx hb dX5_worthAt_11 ?_
  refine lv_imul hx hb dX5_worthAt_12 ?_
  refine lv_iconst (v := 4) hx hb dX5_worthAt_13 (by decide) ?_
  refine lv_idiv hx hb dX5_worthAt_14 (by decide) ?_
  have hs : (wor S p1 p2) = ((ar (s_wi S) (p1 * 12 + p2)) * ((s_he S) + 2)) / 4 := rfl
  exact r_ret E G hr hlk hQ (congrArg (fun t => some (Value.int t)) hs) rfl dX5_worthAt_15
set_option maxHeartbeats 4000000 in
set_option maxRecDepth 100000 in
theorem c_X5_add (l : Launch) (Z : ZT) (q : Nat → Nat) (S : St) (X : XC) (p1 : Int32) (hI : Inv S) (h1 : s_st S < 6) (h2 : vp_nar .boolean p1 = p1) : CT l Z yX5_add cX5_add 2 (some .int) 1 [.ref (q 2), .int (p1)] (CW Z q S X) (some (.int ((adT S p1).1))) (CW Z q ((adT S p1).2) (X)) := by
  refine CE.mk rfl (Nat.le_of_ble_eq_true rfl) (fun p e s m args below meth c A Qx ls E hr hlk hnm hQ G hl => ?_)
  have hx := E.1.1
  have hb := E.1.2.1
  have hl : lv_has ls 2 [(0, .ref (q 2)), (1, .int (p1))] := hl
  refine lv_aload_n hx hb dX5_add_0 rfl (lv_at hl 0 rfl) ?_
  refine gC_2_0 E G m_67 dX5_add_1 ?_
  refine lv_aload_n hx hb dX5_add_4 rfl (lv_at hl 0 rfl) ?_
  refine gC_2_3 E G m_71 dX5_add_5 ?_
  refine lv_iload_n hx hb dX5_add_8 rfl (lv_at hl 1 rfl) ?_
  refine tC_10 E G (ix_lim hI.st.1 h1 (by decide)) (h2) dX5_add_9 (fun H locs G => ?_)
  refine lv_aload_n hx hb dX5_add_10 rfl (lv_at hl 0 rfl) ?_
  refine lv_dup hx hb dX5_add_11 rfl ?_
  refine gC_2_3 E G m_71 dX5_add_12 ?_
  refine lv_topc (e_s_st_sc _ _) ?_
  refine lv_iconst (v := 1) hx hb dX5_add_15 (by decide) ?_
  refine lv_iadd hx hb dX5_add_16 ?_
  refine pC_2_3 E G m_71 dX5_add_17 (fun H locs G => ?_)
  refine lv_aload_n hx hb dX5_add_20 rfl (lv_at hl 0 rfl) ?_
  refine gC_2_3 E G m_71 dX5_add_21 ?_
  refine lv_topc (es_s_st _ _) ?_
  refine lv_iconst (v := 1) hx hb dX5_add_24 (by decide) ?_
  refine lv_isub hx hb dX5_add_25 ?_
  have hs : (adT S p1) = (((s_st S) + 1) - 1, u_st (u_sc S (au (s_sc S) (s_st S) p1)) ((s_st S) + 1)) := rfl
  exact r_ret E G hr hlk hQ (by rw [hs]) (by rw [hs]) dX5_add_26
set_option maxHeartbeats 4000000 in
set_option maxRecDepth 100000 in
theorem c_X3_barsSchoolsAt (l : Launch) (Z : ZT) (q : Nat → Nat) (S : St) (X : XC) (p1 : Int32) : CT l Z yX3_barsSchoolsAt cX3_barsSchoolsAt 2 (some .boolean) 1 [.ref (q 3), .int (p1)] (CW Z q S X) (some (.int (b01 (inr p1 (s_bf S) (s_bt S))))) (CW Z q S X) := by
  refine CE.mk rfl (Nat.le_of_ble_eq_true rfl) (fun p e s m args below meth c A Qx ls E hr hlk hnm hQ G hl => ?_)
  have hx := E.1.1
  have hb := E.1.2.1
  have hl : lv_has ls 2 [(0, .ref (q 3)), (1, .int (p1))] := hl
  refine lv_iload_n hx hb dX3_barsSchoolsAt_0 rfl (lv_at hl 1 rfl) ?_
  refine lv_aload_n hx hb dX3_barsSchoolsAt_1 rfl (lv_at hl 0 rfl) ?_
  refine gC_3_0 E G m_94 dX3_barsSchoolsAt_2 ?_
  refine lv_icmp_lt (tgt := 20) hx hb dX3_barsSchoolsAt_5 (by decide) (fun c_5 => ?_) (fun c_5 => ?_)
  · skip
    have c_5n := Int32.not_le.mpr c_5
    refine lv_iconst (v := 0) hx hb dX3_barsSchoolsAt_20 (by decide) ?_
    have hs : (inr p1 (s_bf S) (s_bt S)) = false := by first | rfl | (simp [inr, c_5, c_5n]; done) | (simp_all [inr]; done)
    exact r_retz E G hr hlk hQ (by decide) (congrArg (fun t => some (Value.int (b01 t))) hs) rfl dX3_barsSchoolsAt_21
  · skip
    have c_5n := Int32.not_lt.mp c_5
    refine lv_iload_n hx hb dX3_barsSchoolsAt_8 rfl (lv_at hl 1 rfl) ?_
    refine lv_aload_n hx hb dX3_barsSchoolsAt_9 rfl (lv_at hl 0 rfl) ?_
    refine gC_3_1 E G m_96 dX3_barsSchoolsAt_10 ?_
    refine lv_icmp_gt (tgt := 20) hx hb dX3_barsSchoolsAt_13 (by decide) (fun c_13 => ?_) (fun c_13 => ?_)
    · skip
      have c_13n := Int32.not_le.mpr c_13
      refine lv_iconst (v := 0) hx hb dX3_barsSchoolsAt_20 (by decide) ?_
      have hs : (inr p1 (s_bf S) (s_bt S)) = false := by first | rfl | (simp [inr, c_5, c_5n, c_13, c_13n]; done) | (simp_all [inr]; done)
      exact r_retz E G hr hlk hQ (by decide) (congrArg (fun t => some (Value.int (b01 t))) hs) rfl dX3_barsSchoolsAt_21
    · skip
      have c_13n := Int32.not_lt.mp c_13
      refine lv_iconst (v := 1) hx hb dX3_barsSchoolsAt_16 (by decide) ?_
      refine lv_goto (tgt := 21) hx hb dX3_barsSchoolsAt_17 (by decide) ?_
      have hs : (inr p1 (s_bf S) (s_bt S)) = true := by first | rfl | (simp [inr, c_5, c_5n, c_13, c_13n]; done) | (simp_all [inr]; done)
      exact r_retz E G hr hlk hQ (by decide) (congrArg (fun t => some (Value.int (b01 t))) hs) rfl dX3_barsSchoolsAt_21
set_option maxHeartbeats 4000000 in
set_option maxRecDepth 100000 in
theorem c_X4_has (l : Launch) (Z : ZT) (q : Nat → Nat) (S : St) (X : XC) (p1 : Int32) : CT l Z yX4_has cX4_has 2 (some .boolean) 1 [.ref (q 7), .int (p1)] (CW Z q S X) (some (.int (b01 (isSd S p1)))) (CW Z q S X) := by
  refine CE.mk rfl (Nat.le_of_ble_eq_true rfl) (fun p e s m args below meth c A Qx ls E hr hlk hnm hQ G hl => ?_)
  have hx := E.1.1
  have hb := E.1.2.1
  have hl : lv_has ls 2 [(0, .ref (q 7)), (1, .int (p1))] := hl
  refine lv_iload_n hx hb dX4_has_0 rfl (lv_at hl 1 rfl) ?_
  refine lv_if_lt (tgt := 16) hx hb dX4_has_1 (by decide) (fun c_1 => ?_) (fun c_1 => ?_)
  · skip
    have c_1n := Int32.not_le.mpr c_1
    refine lv_iconst (v := 0) hx hb dX4_has_16 (by decide) ?_
    have hs : (isSd S p1) = false := by first | rfl | (simp [isSd, c_1, c_1n]; done) | (simp_all [isSd]; done)
    exact r_retz E G hr hlk hQ (by decide) (congrArg (fun t => some (Value.int (b01 t))) hs) rfl dX4_has_17
  · skip
    have c_1n := Int32.not_lt.mp c_1
    refine lv_iload_n hx hb dX4_has_4 rfl (lv_at hl 1 rfl) ?_
    refine lv_aload_n hx hb dX4_has_5 rfl (lv_at hl 0 rfl) ?_
    refine gC_7_4 E G m_150 dX4_has_6 ?_
    refine lv_icmp_ge (tgt := 16) hx hb dX4_has_9 (by decide) (fun c_9 => ?_) (fun c_9 => ?_)
    · skip
      have c_9n := Int32.not_lt.mpr c_9
      refine lv_iconst (v := 0) hx hb dX4_has_16 (by decide) ?_
      have hs : (isSd S p1) = false := by first | rfl | (simp [isSd, c_1, c_1n, c_9, c_9n]; done) | (simp_all [isSd]; done)
      exact r_retz E G hr hlk hQ (by decide) (congrArg (fun t => some (Value.int (b01 t))) hs) rfl dX4_has_17
    · skip
      have c_9n := Int32.not_le.mp c_9
      refine lv_iconst (v := 1) hx hb dX4_has_12 (by decide) ?_
      refine lv_goto (tgt := 17) hx hb dX4_has_13 (by decide) ?_
      have hs : (isSd S p1) = true := by first | rfl | (simp [isSd, c_1, c_1n, c_9, c_9n]; done) | (simp_all [isSd]; done)
      exact r_retz E G hr hlk hQ (by decide) (congrArg (fun t => some (Value.int (b01 t))) hs) rfl dX4_has_17
set_option maxHeartbeats 4000000 in
set_option maxRecDepth 100000 in
theorem c_X4_isFull (l : Launch) (Z : ZT) (q : Nat → Nat) (S : St) (X : XC) (hI : Inv S) : CT l Z yX4_isFull cX4_isFull 1 (some .boolean) 1 [.ref (q 7)] (CW Z q S X) (some (.int (b01 (decide (s_sd S = 24))))) (CW Z q S X) := by
  refine CE.mk rfl (Nat.le_of_ble_eq_true rfl) (fun p e s m args below meth c A Qx ls E hr hlk hnm hQ G hl => ?_)
  have hx := E.1.1
  have hb := E.1.2.1
  have hl : lv_has ls 1 [(0, .ref (q 7))] := hl
  refine lv_aload_n hx hb dX4_isFull_0 rfl (lv_at hl 0 rfl) ?_
  refine gC_7_4 E G m_150 dX4_isFull_1 ?_
  refine lv_bipush (v := 24) hx hb dX4_isFull_4 (by decide) ?_
  refine lv_icmp_lt (tgt := 13) hx hb dX4_isFull_6 (by decide) (fun c_6 => ?_) (fun c_6 => ?_)
  · skip
    have c_6n := Int32.not_le.mpr c_6
    refine lv_iconst (v := 0) hx hb dX4_isFull_13 (by decide) ?_
    have hs : (decide (s_sd S = 24)) = false := by simp only [← ge_lim hI.sd.2]; simp [c_6, c_6n]
    exact r_retz E G hr hlk hQ (by decide) (congrArg (fun t => some (Value.int (b01 t))) hs) rfl dX4_isFull_14
  · skip
    have c_6n := Int32.not_lt.mp c_6
    refine lv_iconst (v := 1) hx hb dX4_isFull_9 (by decide) ?_
    refine lv_goto (tgt := 14) hx hb dX4_isFull_10 (by decide) ?_
    have hs : (decide (s_sd S = 24)) = true := by simp only [← ge_lim hI.sd.2]; simp [c_6, c_6n]
    exact r_retz E G hr hlk hQ (by decide) (congrArg (fun t => some (Value.int (b01 t))) hs) rfl dX4_isFull_14
set_option maxHeartbeats 4000000 in
set_option maxRecDepth 100000 in
theorem c_X1_has (l : Launch) (Z : ZT) (q : Nat → Nat) (S : St) (X : XC) (p1 : Int32) : CT l Z yX1_has cX1_has 2 (some .boolean) 1 [.ref (q 8), .int (p1)] (CW Z q S X) (some (.int (b01 (isBi S p1)))) (CW Z q S X) := by
  refine CE.mk rfl (Nat.le_of_ble_eq_true rfl) (fun p e s m args below meth c A Qx ls E hr hlk hnm hQ G hl => ?_)
  have hx := E.1.1
  have hb := E.1.2.1
  have hl : lv_has ls 2 [(0, .ref (q 8)), (1, .int (p1))] := hl
  refine lv_iload_n hx hb dX1_has_0 rfl (lv_at hl 1 rfl) ?_
  refine lv_if_lt (tgt := 16) hx hb dX1_has_1 (by decide) (fun c_1 => ?_) (fun c_1 => ?_)
  · skip
    have c_1n := Int32.not_le.mpr c_1
    refine lv_iconst (v := 0) hx hb dX1_has_16 (by decide) ?_
    have hs : (isBi S p1) = false := by first | rfl | (simp [isBi, c_1, c_1n]; done) | (simp_all [isBi]; done)
    exact r_retz E G hr hlk hQ (by decide) (congrArg (fun t => some (Value.int (b01 t))) hs) rfl dX1_has_17
  · skip
    have c_1n := Int32.not_lt.mp c_1
    refine lv_iload_n hx hb dX1_has_4 rfl (lv_at hl 1 rfl) ?_
    refine lv_aload_n hx hb dX1_has_5 rfl (lv_at hl 0 rfl) ?_
    refine gC_8_3 E G m_173 dX1_has_6 ?_
    refine lv_icmp_ge (tgt := 16) hx hb dX1_has_9 (by decide) (fun c_9 => ?_) (fun c_9 => ?_)
    · skip
      have c_9n := Int32.not_lt.mpr c_9
      refine lv_iconst (v := 0) hx hb dX1_has_16 (by decide) ?_
      have hs : (isBi S p1) = false := by first | rfl | (simp [isBi, c_1, c_1n, c_9, c_9n]; done) | (simp_all [isBi]; done)
      exact r_retz E G hr hlk hQ (by decide) (congrArg (fun t => some (Value.int (b01 t))) hs) rfl dX1_has_17
    · skip
      have c_9n := Int32.not_le.mp c_9
      refine lv_iconst (v := 1) hx hb dX1_has_12 (by decide) ?_
      refine lv_goto (tgt := 17) hx hb dX1_has_13 (by decide) ?_
      have hs : (isBi S p1) = true := by first | rfl | (simp [isBi, c_1, c_1n, c_9, c_9n]; done) | (simp_all [isBi]; done)
      exact r_retz E G hr hlk hQ (by decide) (congrArg (fun t => some (Value.int (b01 t))) hs) rfl dX1_has_17
set_option maxHeartbeats 4000000 in
set_option maxRecDepth 100000 in
theorem c_X1_isFull (l : Launch) (Z : ZT) (q : Nat → Nat) (S : St) (X : XC) (hI : Inv S) : CT l Z yX1_isFull cX1_isFull 1 (some .boolean) 1 [.ref (q 8)] (CW Z q S X) (some (.int (b01 (decide (s_bi S = 12))))) (CW Z q S X) := by
  refine CE.mk rfl (Nat.le_of_ble_eq_true rfl) (fun p e s m args below meth c A Qx ls E hr hlk hnm hQ G hl => ?_)
  have hx := E.1.1
  have hb := E.1.2.1
  have hl : lv_has ls 1 [(0, .ref (q 8))] := hl
  refine lv_aload_n hx hb dX1_isFull_0 rfl (lv_at hl 0 rfl) ?_
  refine gC_8_3 E G m_173 dX1_isFull_1 ?_
  refine lv_bipush (v := 12) hx hb dX1_isFull_4 (by decide) ?_
  refine lv_icmp_lt (tgt := 13) hx hb dX1_isFull_6 (by decide) (fun c_6 => ?_) (fun c_6 => ?_)
  · skip
    have c_6n := Int32.not_le.mpr c_6
    refine lv_iconst (v := 0) hx hb dX1_isFull_13 (by decide) ?_
    have hs : (decide (s_bi S = 12)) = false := by simp only [← ge_lim hI.bi.2]; simp [c_6, c_6n]
    exact r_retz E G hr hlk hQ (by decide) (congrArg (fun t => some (Value.int (b01 t))) hs) rfl dX1_isFull_14
  · skip
    have c_6n := Int32.not_lt.mp c_6
    refine lv_iconst (v := 1) hx hb dX1_isFull_9 (by decide) ?_
    refine lv_goto (tgt := 14) hx hb dX1_isFull_10 (by decide) ?_
    have hs : (decide (s_bi S = 12)) = true := by simp only [← ge_lim hI.bi.2]; simp [c_6, c_6n]
    exact r_retz E G hr hlk hQ (by decide) (congrArg (fun t => some (Value.int (b01 t))) hs) rfl dX1_isFull_14
set_option maxHeartbeats 4000000 in
set_option maxRecDepth 100000 in
theorem c_X8_finding (l : Launch) (Z : ZT) (q : Nat → Nat) (S : St) (X : XC) (p1 : Int32) (h1 : inr (-1000000 - p1) 1 5 = true) : CT l Z yX8_finding cX8_finding 3 (some .int) 1 [.ref (q 0), .int (p1)] (CW Z q S X) (some (.int ((fnd S p1).1))) (CW Z q ((fnd S p1).2) (X)) := by
  refine CE.mk rfl (Nat.le_of_ble_eq_true rfl) (fun p e s m args below meth c A Qx ls E hr hlk hnm hQ G hl => ?_)
  have hx := E.1.1
  have hb := E.1.2.1
  have hl : lv_has ls 3 [(0, .ref (q 0)), (1, .int (p1))] := hl
  refine lv_ldc hx hb E.1.2.2.2.1 (E.1.2.2.2.2 _ m_231) dX8_finding_0 ?_
  refine lv_iload_n hx hb dX8_finding_2 rfl (lv_at hl 1 rfl) ?_
  refine lv_isub hx hb dX8_finding_3 ?_
  refine lv_istore_n (lv' := [(2, .int ((-1000000) - p1)), (0, .ref (q 0)), (1, .int (p1))]) hx hb dX8_finding_4 rfl hl (by decide) rfl (fun ls hl => ?_)
  refine lv_iload_n hx hb dX8_finding_5 rfl (lv_at hl 0 rfl) ?_
  refine lv_iconst (v := 1) hx hb dX8_finding_6 (by decide) ?_
  refine lv_icmp_lt (tgt := 25) hx hb dX8_finding_7 (by decide) (fun c_7 => ?_) (fun c_7 => ?_)
  · skip
    have c_7n := Int32.not_le.mpr c_7
    exact absurd c_7 (fnd_in h1).1
  · skip
    have c_7n := Int32.not_lt.mp c_7
    refine lv_iload_n hx hb dX8_finding_10 rfl (lv_at hl 0 rfl) ?_
    refine lv_iconst (v := 5) hx hb dX8_finding_11 (by decide) ?_
    refine lv_icmp_gt (tgt := 25) hx hb dX8_finding_12 (by decide) (fun c_12 => ?_) (fun c_12 => ?_)
    · skip
      have c_12n := Int32.not_le.mpr c_12
      exact absurd c_12 (fnd_in h1).2
    · skip
      have c_12n := Int32.not_lt.mp c_12
      refine lv_aload_n hx hb dX8_finding_15 rfl (lv_at hl 1 rfl) ?_
      refine gC_0_0 E G m_188 dX8_finding_16 ?_
      refine lv_iload_n hx hb dX8_finding_19 rfl (lv_at hl 0 rfl) ?_
      refine lv_dup2_11 hx hb dX8_finding_20 rfl rfl ?_
      refine aC_1 E G (ix_fnd h1) dX8_finding_21 ?_
      refine lv_iconst (v := 1) hx hb dX8_finding_22 (by decide) ?_
      refine lv_iadd hx hb dX8_finding_23 ?_
      refine tC_1 E G (ix_fnd h1) dX8_finding_24 (fun H locs G => ?_)
      refine lv_iload_n hx hb dX8_finding_25 rfl (lv_at hl 2 rfl) ?_
      have hs : (fnd S p1) = (p1, u_co S (au (s_co S) ((-1000000) - p1) ((ar (s_co S) ((-1000000) - p1)) + 1))) := rfl
      exact r_ret E G hr hlk hQ (by rw [hs]) (by rw [hs]) dX8_finding_26
set_option maxHeartbeats 4000000 in
set_option maxRecDepth 100000 in
theorem c_X4_latestAhead (l : Launch) (Z : ZT) (q : Nat → Nat) (S : St) (X : XC) (p1 p2 : Int32) (h0 : 0 ≤ p2) (h1 : p2 ≤ 24) : CT l Z yX4_latestAhead cX4_latestAhead 5 (some .int) 1 [.ref (q 7), .int (p1), .int (p2)] (CW Z q S X) (some (.int (laS S p1 p2.toNatClampNeg))) (CW Z q S X) := by
  refine CE.mk rfl (Nat.le_of_ble_eq_true rfl) (fun p e s m args below meth c A Qx ls E hr hlk hnm hQ G hl => ?_)
  have hx := E.1.1
  have hb := E.1.2.1
  have hl : lv_has ls 5 [(0, .ref (q 7)), (1, .int (p1)), (2, .int (p2))] := hl
  have h24 : p2.toNatClampNeg ≤ 24 := cl_le h0 (by have := (i_le _ _).mp h1; have e := e_lit; omega)
  refine lv_iconst (v := -1) hx hb dX4_latestAhead_0 (by decide) ?_
  refine lv_istore_n (lv' := [(3, .int ((-1))), (0, .ref (q 7)), (1, .int (p1)), (2, .int (p2))]) hx hb dX4_latestAhead_1 rfl hl (by decide) rfl (fun ls hl => ?_)
  refine lv_iconst (v := 0) hx hb dX4_latestAhead_2 (by decide) ?_
  refine lv_istore (lv' := [(4, .int (0)), (3, .int ((-1))), (0, .ref (q 7)), (1, .int (p1)), (2, .int (p2))]) hx hb dX4_latestAhead_3 hl (by decide) rfl (fun ls hl => ?_)
  have L5 : ∀ k : Nat, k ≤ p2.toNatClampNeg → (∀ (H : Heap) (locs : List Loc) (ls : Array Slot), GW Z (CW Z q S X) A s.heap H locs → lv_has ls 5 [(0, .ref (q 7)), (1, .int (p1)), (2, .int (p2)), (3, .int (laS S p1 k)), (4, .int (nI k))] → W p l e (rmk 1 0 0) s m args below meth c H locs 0 0 Qx (F0 m 5 ls [])) := by
    refine up_in2 (P := fun k => (∀ (H : Heap) (locs : List Loc) (ls : Array Slot), GW Z (CW Z q S X) A s.heap H locs → lv_has ls 5 [(0, .ref (q 7)), (1, .int (p1)), (2, .int (p2)), (3, .int (laS S p1 k)), (4, .int (nI k))] → W p l e (rmk 1 0 0) s m args below meth c H locs 0 0 Qx (F0 m 5 ls []))) (p2.toNatClampNeg) ?_
    intro k hkk ih5 H locs ls G hl
    refine lv_iload hx hb dX4_latestAhead_5 (lv_at hl 4 rfl) ?_
    refine lv_iload_n hx hb dX4_latestAhead_7 rfl (lv_at hl 2 rfl) ?_
    refine lv_icmp_ge (tgt := 31) hx hb dX4_latestAhead_8 (by decide) (fun c_8 => ?_) (fun c_8 => ?_)
    · skip
      have c_8n := Int32.not_lt.mpr c_8
      refine lv_iload_n hx hb dX4_latestAhead_31 rfl (lv_at hl 3 rfl) ?_
      have hs : (laS S p1 p2.toNatClampNeg) = laS S p1 k := by rw [lp_eq h0 hkk c_8]
      exact r_ret E G hr hlk hQ (congrArg (fun t => some (Value.int t)) hs) rfl dX4_latestAhead_32
    · skip
      have c_8n := Int32.not_le.mp c_8
      refine lv_aload_n hx hb dX4_latestAhead_11 rfl (lv_at hl 0 rfl) ?_
      refine gC_7_0 E G m_142 dX4_latestAhead_12 ?_
      refine lv_iload hx hb dX4_latestAhead_15 (lv_at hl 4 rfl) ?_
      refine aC_17 E G (ix_k (lp_lt h0 hkk c_8) h24 (by decide)) dX4_latestAhead_17 ?_
      refine lv_iload_n hx hb dX4_latestAhead_18 rfl (lv_at hl 1 rfl) ?_
      refine lv_icmp_ne (tgt := 25) hx hb dX4_latestAhead_19 (by decide) (fun c_19 => ?_) (fun c_19 => ?_)
      · skip
        refine lv_iinc (v := (nI k) + 1) (lv' := [(4, .int ((nI k) + 1)), (0, .ref (q 7)), (1, .int (p1)), (2, .int (p2)), (3, .int (laS S p1 k))]) hx hb dX4_latestAhead_25 hl (k := 4) rfl rfl (by decide) rfl (fun ls hl => ?_)
        refine lv_goto (tgt := 5) hx hb dX4_latestAhead_28 (by decide) ?_
        exact ih5 (lp_lt h0 hkk c_8) _ _ _ (GW.cast (rfl) G) (lv_cast (lv_sub (l' := [(0, .ref (q 7)), (1, .int (p1)), (2, .int (p2)), (3, .int (laS S p1 k)), (4, .int ((nI k) + 1))]) hl [1, 2, 3, 4, 0] rfl) (by simp only [ar_nI (s_sv S) (show k < 2 ^ 31 by omega)] at c_19; simp [nI_1, laS, c_19]))
      · skip
        refine lv_iload hx hb dX4_latestAhead_22 (lv_at hl 4 rfl) ?_
        refine lv_istore_n (lv' := [(3, .int (nI k)), (0, .ref (q 7)), (1, .int (p1)), (2, .int (p2)), (4, .int (nI k))]) hx hb dX4_latestAhead_24 rfl hl (by decide) rfl (fun ls hl => ?_)
        refine lv_iinc (v := (nI k) + 1) (lv' := [(4, .int ((nI k) + 1)), (3, .int (nI k)), (0, .ref (q 7)), (1, .int (p1)), (2, .int (p2))]) hx hb dX4_latestAhead_25 hl (k := 4) rfl rfl (by decide) rfl (fun ls hl => ?_)
        refine lv_goto (tgt := 5) hx hb dX4_latestAhead_28 (by decide) ?_
        exact ih5 (lp_lt h0 hkk c_8) _ _ _ (GW.cast (rfl) G) (lv_cast (lv_sub (l' := [(0, .ref (q 7)), (1, .int (p1)), (2, .int (p2)), (3, .int (nI k)), (4, .int ((nI k) + 1))]) hl [2, 3, 4, 1, 0] rfl) (by simp only [ar_nI (s_sv S) (show k < 2 ^ 31 by omega)] at c_19; simp [nI_1, laS, c_19]))
  exact L5 0 (Nat.zero_le _) _ _ _ (GW.cast (rfl) G) (lv_cast (lv_sub (l' := [(0, .ref (q 7)), (1, .int (p1)), (2, .int (p2)), (3, .int ((-1))), (4, .int (0))]) hl [2, 3, 4, 1, 0] rfl) (by rw [nI_0]; rfl))
