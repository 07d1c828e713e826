theorem mj_min_st : Cond.static Lib.Math.min.name ∈ wU := wU_m 401 (by decide +kernel) (by decide +kernel)
theorem mj_min_co : Cond.code Lib.Math.min.name Lib.Math.min.code 2 (some .int) ∈ wU := wU_m 402 (by decide +kernel) (by decide +kernel)
theorem mj_min_X8_257 : Cond.methodLink "ConeRounds" 257 Lib.Math.min.name ∈ wU := wU_m 400 (by decide +kernel) (by decide +kernel)
theorem mj_min_X0_7 : Cond.methodLink "ConeRounds$Bike" 7 Lib.Math.min.name ∈ wU := wU_m 426 (by decide +kernel) (by decide +kernel)
theorem mj_min_X6_38 : Cond.methodLink "ConeRounds$Trail" 38 Lib.Math.min.name ∈ wU := wU_m 429 (by decide +kernel) (by decide +kernel)
theorem mj_max_st : Cond.static Lib.Math.max.name ∈ wU := wU_m 596 (by decide +kernel) (by decide +kernel)
theorem mj_max_co : Cond.code Lib.Math.max.name Lib.Math.max.code 2 (some .int) ∈ wU := wU_m 597 (by decide +kernel) (by decide +kernel)
theorem mj_max_X1_28 : Cond.methodLink "ConeRounds$Bills" 28 Lib.Math.max.name ∈ wU := wU_m 595 (by decide +kernel) (by decide +kernel)
def mso (S : St) (v w : Int32) : Int32 := if ar (s_ki S) v = 1 then (if 30 < w then 30 else w) else w
def mel (S : St) (v a : Int32) : Int32 := if ar (s_ki S) v = 1 then a / 5 else if ar (s_ki S) v = 2 then 0 else a / 10
def hac (S : St) (v w : Int32) : Int32 := if ar (s_ki S) v = 2 then 2 + w else 1 + w
theorem va_em (S : St) (v : Int32) : isVa S v = true ∨ isVa S v = false := by cases isVa S v; exact Or.inr rfl; exact Or.inl rfl
theorem va_n {S : St} {v : Int32} (h : isVa S v = true) : ¬ v < 0 ∧ ¬ s_va S ≤ v := by
  unfold isVa at h
  simp only [Bool.and_eq_true, decide_eq_true_eq] at h
  exact ⟨Int32.not_lt.mpr h.1, Int32.not_le.mpr h.2⟩
theorem va_p {S : St} {v : Int32} (h1 : ¬ v < 0) (h2 : ¬ s_va S ≤ v) : ¬ isVa S v = false := by
  unfold isVa
  simp [Int32.not_lt.mp h1, Int32.not_le.mp h2]
theorem lat_hac {S : St} {v a b : Int32} (h : ¬ a = b) : lat S v a b = hac S v (ar (s_wy S) (a * 6 + b)) := by
  unfold lat hac
  rw [if_neg h]
  by_cases k : ar (s_ki S) v = 2
  · rw [if_pos k, if_pos k, Int32.add_assoc, Int32.add_comm (ar (s_wy S) (a * 6 + b)) 1, ← Int32.add_assoc]; rfl
  · rw [if_neg k, if_neg k, Int32.add_zero]
theorem N24 {S : St} (hI : Inv S) : (s_sd S).toNatClampNeg ≤ 24 := cl_le hI.sd.1 (by have := (i_le _ _).mp hI.sd.2; have e := e_lit; omega)
theorem N4 {S : St} (hI : Inv S) : (s_va S).toNatClampNeg ≤ 4 := cl_le hI.va.1 (by have := (i_le _ _).mp hI.va.2; have e := e_lit; omega)
theorem N6 {S : St} (hI : Inv S) : (s_st S).toNatClampNeg ≤ 6 := cl_le hI.st.1 (by have := (i_le _ _).mp hI.st.2; have e := e_lit; omega)
theorem N12 {S : St} (hI : Inv S) : (s_bi S).toNatClampNeg ≤ 12 := cl_le hI.bi.1 (by have := (i_le _ _).mp hI.bi.2; have e := e_lit; omega)
theorem k_lt {x : Int32} {k : Nat} (hx : 0 ≤ x) (h : k < x.toNatClampNeg) : 0 ≤ nI k ∧ nI k < x := by
  obtain ⟨j, hj, e⟩ := nI_of (x := x) (Int32.not_lt.mpr hx)
  rw [e, nI_clamp hj] at h
  rw [e]
  exact ⟨nI_pos' (by omega), nI_lt h hj⟩
theorem bi_k {S : St} (hI : Inv S) {k : Nat} (h : k < (s_bi S).toNatClampNeg) : isBi S (nI k) = true := by
  have := k_lt hI.bi.1 h
  unfold isBi; simp [this.1, this.2]
theorem va_k {S : St} (hI : Inv S) {k : Nat} (h : k < (s_va S).toNatClampNeg) : isVa S (nI k) = true := by
  have := k_lt hI.va.1 h
  unfold isVa; simp [this.1, this.2]
theorem st_k {S : St} (hI : Inv S) {k : Nat} (h : k < (s_st S).toNatClampNeg) : isSt S (nI k) = true := by
  have := k_lt hI.st.1 h
  unfold isSt; simp [this.1, this.2]
theorem sd_k {S : St} (hI : Inv S) {k : Nat} (h : k < (s_sd S).toNatClampNeg) : isSd S (nI k) = true := by
  have := k_lt hI.sd.1 h
  unfold isSd; simp [this.1, this.2]
theorem sd_0 {S : St} {n : Int32} (h : isSd S n = true) : 0 ≤ n := by
  unfold isSd at h; simp only [Bool.and_eq_true, decide_eq_true_eq] at h; exact h.1
theorem sd_cl {S : St} (hI : Inv S) {n : Int32} (h : isSd S n = true) : n.toNatClampNeg < 24 := by
  have h1 := sd_of hI h
  obtain ⟨j, hj, e⟩ := nI_of (x := n) (Int32.not_lt.mpr (sd_0 h))
  rw [e, nI_toInt hj] at h1
  rw [e, nI_clamp hj]
  omega
set_option maxHeartbeats 4000000 in
set_option maxRecDepth 100000 in
theorem c_X7_isLicensed (l : Launch) (Z : ZT) (q : Nat → Nat) (S : St) (X : XC) (p1 : Int32) (v : Int32) (hv : isVa S v = true) : CT l Z yX7_isLicensed cX7_isLicensed 2 (some .boolean) 1 [.ref (q (24 + v.toNatClampNeg)), .int (p1)] (CW Z q S X) (some (.int (b01 (isLi S v p1)))) (CW Z q S X) := by
  refine CE.mk rfl (Nat.le_of_ble_eq_true rfl) (fun p e s m args below meth c A Qx ls E hr hlk hnm hQ G hl => ?_)
  have hx := E.1.1
  have hb := E.1.2.1
  have hl : lv_has ls 2 [(0, .ref (q (24 + v.toNatClampNeg))), (1, .int (p1))] := hl
  refine lv_aload_n hx hb dX7_isLicensed_0 rfl (lv_at hl 0 rfl) ?_
  refine hV_1 E G (hv) m_300 dX7_isLicensed_1 ?_
  refine lv_iload_n hx hb dX7_isLicensed_4 rfl (lv_at hl 1 rfl) ?_
  refine lv_ishr hx hb dX7_isLicensed_5 ?_
  refine lv_iconst (v := 1) hx hb dX7_isLicensed_6 (by decide) ?_
  refine lv_iand hx hb dX7_isLicensed_7 ?_
  refine lv_iconst (v := 1) hx hb dX7_isLicensed_8 (by decide) ?_
  refine lv_icmp_ne (tgt := 16) hx hb dX7_isLicensed_9 (by decide) (fun c_9 => ?_) (fun c_9 => ?_)
  · skip
    refine lv_iconst (v := 0) hx hb dX7_isLicensed_16 (by decide) ?_
    have hs : (isLi S v p1) = false := by first | rfl | (simp [isLi, c_9]; done) | (simp_all [isLi]; done)
    exact r_retz E G hr hlk hQ (by decide) (congrArg (fun t => some (Value.int (b01 t))) hs) rfl dX7_isLicensed_17
  · skip
    refine lv_iconst (v := 1) hx hb dX7_isLicensed_12 (by decide) ?_
    refine lv_goto (tgt := 17) hx hb dX7_isLicensed_13 (by decide) ?_
    have hs : (isLi S v p1) = true := by first | rfl | (simp [isLi, c_9]; done) | (simp_all [isLi]; done)
    exact r_retz E G hr hlk hQ (by decide) (congrArg (fun t => some (Value.int (b01 t))) hs) rfl dX7_isLicensed_17
set_option maxHeartbeats 4000000 in
set_option maxRecDepth 100000 in
theorem c_X7_mostSoldOf (l : Launch) (Z : ZT) (q : Nat → Nat) (S : St) (X : XC) (p1 : Int32) (v : Int32) (hv : isVa S v = true) : CT l Z yX7_mostSoldOf cX7_mostSoldOf 2 (some .int) 1 [.ref (q (24 + v.toNatClampNeg)), .int (p1)] (CW Z q S X) (some (.int (p1))) (CW Z q S X) := by
  refine CE.mk rfl (Nat.le_of_ble_eq_true rfl) (fun p e s m args below meth c A Qx ls E hr hlk hnm hQ G hl => ?_)
  have hx := E.1.1
  have hb := E.1.2.1
  have hl : lv_has ls 2 [(0, .ref (q (24 + v.toNatClampNeg))), (1, .int (p1))] := hl
  refine lv_iload_n hx hb dX7_mostSoldOf_0 rfl (lv_at hl 1 rfl) ?_
  have hs : (p1) = p1 := rfl
  exact r_ret E G hr hlk hQ (congrArg (fun t => some (Value.int t)) hs) rfl dX7_mostSoldOf_1
set_option maxHeartbeats 4000000 in
set_option maxRecDepth 100000 in
theorem c_X7_meltingOf (l : Launch) (Z : ZT) (q : Nat → Nat) (S : St) (X : XC) (p1 : Int32) (v : Int32) (hv : isVa S v = true) : CT l Z yX7_meltingOf cX7_meltingOf 2 (some .int) 1 [.ref (q (24 + v.toNatClampNeg)), .int (p1)] (CW Z q S X) (some (.int (p1 / 10))) (CW Z q S X) := by
  refine CE.mk rfl (Nat.le_of_ble_eq_true rfl) (fun p e s m args below meth c A Qx ls E hr hlk hnm hQ G hl => ?_)
  have hx := E.1.1
  have hb := E.1.2.1
  have hl : lv_has ls 2 [(0, .ref (q (24 + v.toNatClampNeg))), (1, .int (p1))] := hl
  refine lv_iload_n hx hb dX7_meltingOf_0 rfl (lv_at hl 1 rfl) ?_
  refine lv_bipush (v := 10) hx hb dX7_meltingOf_1 (by decide) ?_
  refine lv_idiv hx hb dX7_meltingOf_3 (by decide) ?_
  have hs : (p1 / 10) = p1 / 10 := rfl
  exact r_ret E G hr hlk hQ (congrArg (fun t => some (Value.int t)) hs) rfl dX7_meltingOf_4
set_option maxHeartbeats 4000000 in
set_option maxRecDepth 100000 in
theorem c_X7_hoursAcross (l : Launch) (Z : ZT) (q : Nat → Nat) (S : St) (X : XC) (p1 : Int32) (v : Int32) (hv : isVa S v = true) : CT l Z yX7_hoursAcross cX7_hoursAcross 2 (some .int) 1 [.ref (q (24 + v.toNatClampNeg)), .int (p1)] (CW Z q S X) (some (.int (1 + p1))) (CW Z q S X) := by
  refine CE.mk rfl (Nat.le_of_ble_eq_true rfl) (fun p e s m args below meth c A Qx ls E hr hlk hnm hQ G hl => ?_)
  have hx := E.1.1
  have hb := E.1.2.1
  have hl : lv_has ls 2 [(0, .ref (q (24 + v.toNatClampNeg))), (1, .int (p1))] := hl
  refine lv_iconst (v := 1) hx hb dX7_hoursAcross_0 (by decide) ?_
  refine lv_iload_n hx hb dX7_hoursAcross_1 rfl (lv_at hl 1 rfl) ?_
  refine lv_iadd hx hb dX7_hoursAcross_2 ?_
  have hs : (1 + p1) = 1 + p1 := rfl
  exact r_ret E G hr hlk hQ (congrArg (fun t => some (Value.int t)) hs) rfl dX7_hoursAcross_3
set_option maxHeartbeats 4000000 in
set_option maxRecDepth 100000 in
theorem c_X0_mostSoldOf (l : Launch) (Z : ZT) (q : Nat → Nat) (S : St) (X : XC) (p1 : Int32) (v : Int32) (hv : isVa S v = true) : CT l Z yX0_mostSoldOf cX0_mostSoldOf 2 (some .int) 1 [.ref (q (24 + v.toNatClampNeg)), .int (p1)] (CW Z q S X) (some (.int (if 30 < p1 then 30 else p1))) (CW Z q S X) := by
  refine CE.mk rfl (Nat.le_of_ble_eq_true rfl) (fun p e s m args below meth c A Qx ls E hr hlk hnm hQ G hl => ?_)
  have hx := E.1.1
  have hb := E.1.2.1
  have hl : lv_has ls 2 [(0, .ref (q (24 + v.toNatClampNeg))), (1, .int (p1))] := hl
  refine lv_iload_n hx hb dX0_mostSoldOf_0 rfl (lv_at hl 1 rfl) ?_
  refine lv_bipush (v := 30) hx hb dX0_mostSoldOf_1 (by decide) ?_
  refine va_mmin hx hb (E.1.2.2.1.trans hl.1.symm) E.1.2.2.2.1 (E.1.2.2.2.2 _ mj_min_X0_7) (E.1.2.2.2.2 _ mj_min_st) (E.1.2.2.2.2 _ m_52) (E.1.2.2.2.2 _ mj_min_co) (Nat.le_of_ble_eq_true rfl) (Nat.le_of_ble_eq_true rfl) (Nat.zero_le _) (Nat.zero_le _) dX0_mostSoldOf_3 ?_
  have hs : (if 30 < p1 then 30 else p1) = (if 30 < p1 then 30 else p1) := rfl
  exact r_ret E G hr hlk hQ (congrArg (fun t => some (Value.int t)) hs) rfl dX0_mostSoldOf_6
set_option maxHeartbeats 4000000 in
set_option maxRecDepth 100000 in
theorem c_X0_meltingOf (l : Launch) (Z : ZT) (q : Nat → Nat) (S : St) (X : XC) (p1 : Int32) (v : Int32) (hv : isVa S v = true) : CT l Z yX0_meltingOf cX0_meltingOf 2 (some .int) 1 [.ref (q (24 + v.toNatClampNeg)), .int (p1)] (CW Z q S X) (some (.int (p1 / 5))) (CW Z q S X) := by
  refine CE.mk rfl (Nat.le_of_ble_eq_true rfl) (fun p e s m args below meth c A Qx ls E hr hlk hnm hQ G hl => ?_)
  have hx := E.1.1
  have hb := E.1.2.1
  have hl : lv_has ls 2 [(0, .ref (q (24 + v.toNatClampNeg))), (1, .int (p1))] := hl
  refine lv_iload_n hx hb dX0_meltingOf_0 rfl (lv_at hl 1 rfl) ?_
  refine lv_iconst (v := 5) hx hb dX0_meltingOf_1 (by decide) ?_
  refine lv_idiv hx hb dX0_meltingOf_2 (by decide) ?_
  have hs : (p1 / 5) = p1 / 5 := rfl
  exact r_ret E G hr hlk hQ (congrArg (fun t => some (Value.int t)) hs) rfl dX0_meltingOf_3
set_option maxHeartbeats 4000000 in
set_option maxRecDepth 100000 in
theorem c_X2_meltingOf (l : Launch) (Z : ZT) (q : Nat → Nat) (S : St) (X : XC) (p1 : Int32) (v : Int32) (hv : isVa S v = true) : CT l Z yX2_meltingOf cX2_meltingOf 2 (some .int) 1 [.ref (q (24 + v.toNatClampNeg)), .int (p1)] (CW Z q S X) (some (.int ((0 : Int32)))) (CW Z q S X) := by
  refine CE.mk rfl (Nat.le_of_ble_eq_true rfl) (fun p e s m args below meth c A Qx ls E hr hlk hnm hQ G hl => ?_)
  have hx := E.1.1
  have hb := E.1.2.1
  have hl : lv_has ls 2 [(0, .ref (q (24 + v.toNatClampNeg))), (1, .int (p1))] := hl
  refine lv_iconst (v := 0) hx hb dX2_meltingOf_0 (by decide) ?_
  have hs : ((0 : Int32)) = 0 := rfl
  exact r_ret E G hr hlk hQ (congrArg (fun t => some (Value.int t)) hs) rfl dX2_meltingOf_1
set_option maxHeartbeats 4000000 in
set_option maxRecDepth 100000 in
theorem c_X2_hoursAcross (l : Launch) (Z : ZT) (q : Nat → Nat) (S : St) (X : XC) (p1 : Int32) (v : Int32) (hv : isVa S v = true) : CT l Z yX2_hoursAcross cX2_hoursAcross 2 (some .int) 1 [.ref (q (24 + v.toNatClampNeg)), .int (p1)] (CW Z q S X) (some (.int (2 + p1))) (CW Z q S X) := by
  refine CE.mk rfl (Nat.le_of_ble_eq_true rfl) (fun p e s m args below meth c A Qx ls E hr hlk hnm hQ G hl => ?_)
  have hx := E.1.1
  have hb := E.1.2.1
  have hl : lv_has ls 2 [(0, .ref (q (24 + v.toNatClampNeg))), (1, .int (p1))] := hl
  refine lv_iconst (v := 2) hx hb dX2_hoursAcross_0 (by decide) ?_
  refine lv_iload_n hx hb dX2_hoursAcross_1 rfl (lv_at hl 1 rfl) ?_
  refine lv_iadd hx hb dX2_hoursAcross_2 ?_
  have hs : (2 + p1) = 2 + p1 := rfl
  exact r_ret E G hr hlk hQ (congrArg (fun t => some (Value.int t)) hs) rfl dX2_hoursAcross_3
