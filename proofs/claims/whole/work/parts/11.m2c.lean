set_option maxHeartbeats 4000000 in
set_option maxRecDepth 100000 in
theorem c_X4_add (l : Launch) (Z : ZT) (q : Nat → Nat) (S : St) (X : XC) (p1 p2 p3 p4 : Int32) (hI : Inv S) (h1 : s_sd S < 24) : CT l Z yX4_add cX4_add 5 (some .int) 1 [.ref (q 7), .int (p1), .int (p2), .int (p3), .int (p4)] (CW Z q S X) (some (.int ((adS S p1 p2 p3 p4).1))) (CW Z q ((adS S p1 p2 p3 p4).2) (X)) := by
  refine CE.mk rfl (Nat.le_of_ble_eq_true rfl) (fun p e s m args below meth c A Qx ls E hr hlk hnm hQ G hl => ?_)
  have hx := E.1.1
  have hb := E.1.2.1
  have hl : lv_has ls 5 [(0, .ref (q 7)), (1, .int (p1)), (2, .int (p2)), (3, .int (p3)), (4, .int (p4))] := hl
  refine lv_aload_n hx hb dX4_add_0 rfl (lv_at hl 0 rfl) ?_
  refine gC_7_0 E G m_142 dX4_add_1 ?_
  refine lv_aload_n hx hb dX4_add_4 rfl (lv_at hl 0 rfl) ?_
  refine gC_7_4 E G m_150 dX4_add_5 ?_
  refine lv_iload_n hx hb dX4_add_8 rfl (lv_at hl 1 rfl) ?_
  refine tC_17 E G (ix_lim hI.sd.1 h1 (by decide)) dX4_add_9 (fun H locs G => ?_)
  refine lv_aload_n hx hb dX4_add_10 rfl (lv_at hl 0 rfl) ?_
  refine gC_7_1 E G m_144 dX4_add_11 ?_
  refine lv_aload_n hx hb dX4_add_14 rfl (lv_at hl 0 rfl) ?_
  refine gC_7_4 E G m_150 dX4_add_15 ?_
  refine lv_topc (e_s_sd_sv _ _) ?_
  refine lv_iload_n hx hb dX4_add_18 rfl (lv_at hl 2 rfl) ?_
  refine tC_18 E G (ix_lim hI.sd.1 h1 (by decide)) dX4_add_19 (fun H locs G => ?_)
  have G := GW.cast (congrArg (fun f => CW Z q (u_ss (u_sv S (au (s_sv S) (s_sd S) p1)) (au f (s_sd S) p2)) (X)) (e_s_ss_sv _ _)) G
  refine lv_aload_n hx hb dX4_add_20 rfl (lv_at hl 0 rfl) ?_
  refine gC_7_2 E G m_146 dX4_add_21 ?_
  refine lv_aload_n hx hb dX4_add_24 rfl (lv_at hl 0 rfl) ?_
  refine gC_7_4 E G m_150 dX4_add_25 ?_
  refine lv_topc ((e_s_sd_ss _ _).trans (e_s_sd_sv _ _)) ?_
  refine lv_iload_n hx hb dX4_add_28 rfl (lv_at hl 3 rfl) ?_
  refine tC_19 E G (ix_lim hI.sd.1 h1 (by decide)) dX4_add_29 (fun H locs G => ?_)
  have G := GW.cast (congrArg (fun f => CW Z q (u_sh (u_ss (u_sv S (au (s_sv S) (s_sd S) p1)) (au (s_ss S) (s_sd S) p2)) (au f (s_sd S) p3)) (X)) ((e_s_sh_ss _ _).trans (e_s_sh_sv _ _))) G
  refine lv_aload_n hx hb dX4_add_30 rfl (lv_at hl 0 rfl) ?_
  refine gC_7_3 E G m_148 dX4_add_31 ?_
  refine lv_aload_n hx hb dX4_add_34 rfl (lv_at hl 0 rfl) ?_
  refine gC_7_4 E G m_150 dX4_add_35 ?_
  refine lv_topc ((e_s_sd_sh _ _).trans ((e_s_sd_ss _ _).trans (e_s_sd_sv _ _))) ?_
  refine lv_iload hx hb dX4_add_38 (lv_at hl 4 rfl) ?_
  refine tC_20 E G (ix_lim hI.sd.1 h1 (by decide)) dX4_add_40 (fun H locs G => ?_)
  have G := GW.cast (congrArg (fun f => CW Z q (u_sm (u_sh (u_ss (u_sv S (au (s_sv S) (s_sd S) p1)) (au (s_ss S) (s_sd S) p2)) (au (s_sh S) (s_sd S) p3)) (au f (s_sd S) p4)) (X)) ((e_s_sm_sh _ _).trans ((e_s_sm_ss _ _).trans (e_s_sm_sv _ _)))) G
  refine lv_aload_n hx hb dX4_add_41 rfl (lv_at hl 0 rfl) ?_
  refine lv_dup hx hb dX4_add_42 rfl ?_
  refine gC_7_4 E G m_150 dX4_add_43 ?_
  refine lv_topc ((e_s_sd_sm _ _).trans ((e_s_sd_sh _ _).trans ((e_s_sd_ss _ _).trans (e_s_sd_sv _ _)))) ?_
  refine lv_iconst (v := 1) hx hb dX4_add_46 (by decide) ?_
  refine lv_iadd hx hb dX4_add_47 ?_
  refine pC_7_4 E G m_150 dX4_add_48 (fun H locs G => ?_)
  refine lv_aload_n hx hb dX4_add_51 rfl (lv_at hl 0 rfl) ?_
  refine gC_7_4 E G m_150 dX4_add_52 ?_
  refine lv_topc (es_s_sd _ _) ?_
  refine lv_iconst (v := 1) hx hb dX4_add_55 (by decide) ?_
  refine lv_isub hx hb dX4_add_56 ?_
  have hs : (adS S p1 p2 p3 p4) = (((s_sd S) + 1) - 1, u_sd (u_sm (u_sh (u_ss (u_sv S (au (s_sv S) (s_sd S) p1)) (au (s_ss S) (s_sd S) p2)) (au (s_sh S) (s_sd S) p3)) (au (s_sm S) (s_sd S) p4)) ((s_sd S) + 1)) := rfl
  exact r_ret E G hr hlk hQ (by rw [hs]) (by rw [hs]) dX4_add_57
set_option maxHeartbeats 4000000 in
set_option maxRecDepth 100000 in
theorem c_X1_add (l : Launch) (Z : ZT) (q : Nat → Nat) (S : St) (X : XC) (p1 p2 : Int32) (hI : Inv S) (h1 : s_bi S < 12) : CT l Z yX1_add cX1_add 3 (some .int) 1 [.ref (q 8), .int (p1), .int (p2)] (CW Z q S X) (some (.int ((adB S p1 p2).1))) (CW Z q ((adB S p1 p2).2) (X)) := by
  refine CE.mk rfl (Nat.le_of_ble_eq_true rfl) (fun p e s m args below meth c A Qx ls E hr hlk hnm hQ G hl => ?_)
  have hx := E.1.1
  have hb := E.1.2.1
  have hl : lv_has ls 3 [(0, .ref (q 8)), (1, .int (p1)), (2, .int (p2))] := hl
  refine lv_aload_n hx hb dX1_add_0 rfl (lv_at hl 0 rfl) ?_
  refine gC_8_0 E G m_169 dX1_add_1 ?_
  refine lv_aload_n hx hb dX1_add_4 rfl (lv_at hl 0 rfl) ?_
  refine gC_8_3 E G m_173 dX1_add_5 ?_
  refine lv_iload_n hx hb dX1_add_8 rfl (lv_at hl 1 rfl) ?_
  refine tC_21 E G (ix_lim hI.bi.1 h1 (by decide)) dX1_add_9 (fun H locs G => ?_)
  refine lv_aload_n hx hb dX1_add_10 rfl (lv_at hl 0 rfl) ?_
  refine gC_8_1 E G m_171 dX1_add_11 ?_
  refine lv_aload_n hx hb dX1_add_14 rfl (lv_at hl 0 rfl) ?_
  refine gC_8_3 E G m_173 dX1_add_15 ?_
  refine lv_topc (e_s_bi_le _ _) ?_
  refine lv_iload_n hx hb dX1_add_18 rfl (lv_at hl 2 rfl) ?_
  refine tC_22 E G (ix_lim hI.bi.1 h1 (by decide)) dX1_add_19 (fun H locs G => ?_)
  have G := GW.cast (congrArg (fun f => CW Z q (u_bd (u_le S (au (s_le S) (s_bi S) p1)) (au f (s_bi S) p2)) (X)) (e_s_bd_le _ _)) G
  refine lv_aload_n hx hb dX1_add_20 rfl (lv_at hl 0 rfl) ?_
  refine gC_8_2 E G m_172 dX1_add_21 ?_
  refine lv_aload_n hx hb dX1_add_24 rfl (lv_at hl 0 rfl) ?_
  refine gC_8_3 E G m_173 dX1_add_25 ?_
  refine lv_topc ((e_s_bi_bd _ _).trans (e_s_bi_le _ _)) ?_
  refine lv_iload_n hx hb dX1_add_28 rfl (lv_at hl 2 rfl) ?_
  refine lv_aload_n hx hb dX1_add_29 rfl (lv_at hl 0 rfl) ?_
  refine gC_8_4 E G m_175 dX1_add_30 ?_
  refine lv_topc ((e_s_cr_bd _ _).trans (e_s_cr_le _ _)) ?_
  refine lv_iadd hx hb dX1_add_33 ?_
  refine tC_23 E G (ix_lim hI.bi.1 h1 (by decide)) dX1_add_34 (fun H locs G => ?_)
  have G := GW.cast (congrArg (fun f => CW Z q (u_du (u_bd (u_le S (au (s_le S) (s_bi S) p1)) (au (s_bd S) (s_bi S) p2)) (au f (s_bi S) (p2 + (s_cr S)))) (X)) ((e_s_du_bd _ _).trans (e_s_du_le _ _))) G
  refine lv_aload_n hx hb dX1_add_35 rfl (lv_at hl 0 rfl) ?_
  refine lv_dup hx hb dX1_add_36 rfl ?_
  refine gC_8_3 E G m_173 dX1_add_37 ?_
  refine lv_topc ((e_s_bi_du _ _).trans ((e_s_bi_bd _ _).trans (e_s_bi_le _ _))) ?_
  refine lv_iconst (v := 1) hx hb dX1_add_40 (by decide) ?_
  refine lv_iadd hx hb dX1_add_41 ?_
  refine pC_8_3 E G m_173 dX1_add_42 (fun H locs G => ?_)
  refine lv_aload_n hx hb dX1_add_45 rfl (lv_at hl 0 rfl) ?_
  refine gC_8_3 E G m_173 dX1_add_46 ?_
  refine lv_topc (es_s_bi _ _) ?_
  refine lv_iconst (v := 1) hx hb dX1_add_49 (by decide) ?_
  refine lv_isub hx hb dX1_add_50 ?_
  have hs : (adB S p1 p2) = (((s_bi S) + 1) - 1, u_bi (u_du (u_bd (u_le S (au (s_le S) (s_bi S) p1)) (au (s_bd S) (s_bi S) p2)) (au (s_du S) (s_bi S) (p2 + (s_cr S)))) ((s_bi S) + 1)) := rfl
  exact r_ret E G hr hlk hQ (by rw [hs]) (by rw [hs]) dX1_add_51
set_option maxHeartbeats 4000000 in
set_option maxRecDepth 100000 in
theorem c_X4_isTaken (l : Launch) (Z : ZT) (q : Nat → Nat) (S : St) (X : XC) (p1 : Int32) (hI : Inv S) (h1 : isSd S p1 = true) : CT l Z yX4_isTaken cX4_isTaken 3 (some .boolean) 1 [.ref (q 7), .int (p1)] (CW Z q S X) (some (.int (b01 (taS S (ar (s_ss S) p1) (ar (s_sh S) p1) p1.toNatClampNeg)))) (CW Z q S X) := by
  refine CE.mk rfl (Nat.le_of_ble_eq_true rfl) (fun p e s m args below meth c A Qx ls E hr hlk hnm hQ G hl => ?_)
  have hx := E.1.1
  have hb := E.1.2.1
  have hl : lv_has ls 3 [(0, .ref (q 7)), (1, .int (p1))] := hl
  have h0 := sd_0 h1
  have h24 := sd_cl hI h1
  refine lv_iconst (v := 0) hx hb dX4_isTaken_0 (by decide) ?_
  refine lv_istore_n (lv' := [(2, .int (0)), (0, .ref (q 7)), (1, .int (p1))]) hx hb dX4_isTaken_1 rfl hl (by decide) rfl (fun ls hl => ?_)
  have L2 : ∀ k : Nat, k ≤ p1.toNatClampNeg → (∀ (H : Heap) (locs : List Loc) (ls : Array Slot), taS S (ar (s_ss S) p1) (ar (s_sh S) p1) k = false → GW Z (CW Z q S X) A s.heap H locs → lv_has ls 3 [(0, .ref (q 7)), (1, .int (p1)), (2, .int (nI k))] → W p l e (rmk 1 0 0) s m args below meth c H locs 0 0 Qx (F0 m 2 ls [])) := by
    refine up_in2 (P := fun k => (∀ (H : Heap) (locs : List Loc) (ls : Array Slot), taS S (ar (s_ss S) p1) (ar (s_sh S) p1) k = false → GW Z (CW Z q S X) A s.heap H locs → lv_has ls 3 [(0, .ref (q 7)), (1, .int (p1)), (2, .int (nI k))] → W p l e (rmk 1 0 0) s m args below meth c H locs 0 0 Qx (F0 m 2 ls []))) (p1.toNatClampNeg) ?_
    intro k hkk ih2 H locs ls hT G hl
    refine lv_iload_n hx hb dX4_isTaken_2 rfl (lv_at hl 2 rfl) ?_
    refine lv_iload_n hx hb dX4_isTaken_3 rfl (lv_at hl 1 rfl) ?_
    refine lv_icmp_ge (tgt := 45) hx hb dX4_isTaken_4 (by decide) (fun c_4 => ?_) (fun c_4 => ?_)
    · skip
      have c_4n := Int32.not_lt.mpr c_4
      refine lv_iconst (v := 0) hx hb dX4_isTaken_45 (by decide) ?_
      have hs : (taS S (ar (s_ss S) p1) (ar (s_sh S) p1) p1.toNatClampNeg) = false := by rw [← lp_eq h0 hkk c_4]; exact hT
      exact r_retz E G hr hlk hQ (by decide) (congrArg (fun t => some (Value.int (b01 t))) hs) rfl dX4_isTaken_46
    · skip
      have c_4n := Int32.not_le.mp c_4
      refine lv_aload_n hx hb dX4_isTaken_7 rfl (lv_at hl 0 rfl) ?_
      refine gC_7_1 E G m_144 dX4_isTaken_8 ?_
      refine lv_iload_n hx hb dX4_isTaken_11 rfl (lv_at hl 2 rfl) ?_
      refine aC_18 E G (ix_k (lp_lt h0 hkk c_4) (Nat.le_of_lt h24) (by decide)) dX4_isTaken_12 ?_
      refine lv_aload_n hx hb dX4_isTaken_13 rfl (lv_at hl 0 rfl) ?_
      refine gC_7_1 E G m_144 dX4_isTaken_14 ?_
      refine lv_iload_n hx hb dX4_isTaken_17 rfl (lv_at hl 1 rfl) ?_
      refine aC_18 E G (ix_sd hI h1) dX4_isTaken_18 ?_
      refine lv_icmp_ne (tgt := 39) hx hb dX4_isTaken_19 (by decide) (fun c_19 => ?_) (fun c_19 => ?_)
      · skip
        refine lv_iinc (v := (nI k) + 1) (lv' := [(2, .int ((nI k) + 1)), (0, .ref (q 7)), (1, .int (p1))]) hx hb dX4_isTaken_39 hl (k := 2) rfl rfl (by decide) rfl (fun ls hl => ?_)
        refine lv_goto (tgt := 2) hx hb dX4_isTaken_42 (by decide) ?_
        exact ih2 (lp_lt h0 hkk c_4) _ _ _ (by simp only [ar_nI _ (show k < 2 ^ 31 by omega)] at c_4 c_4n c_19; simp [taS, c_4, c_4n, c_19, hT]) (GW.cast (rfl) G) (lv_cast (lv_sub (l' := [(0, .ref (q 7)), (1, .int (p1)), (2, .int ((nI k) + 1))]) hl [1, 2, 0] rfl) (by rw [nI_1]))
      · skip
        refine lv_aload_n hx hb dX4_isTaken_22 rfl (lv_at hl 0 rfl) ?_
        refine gC_7_2 E G m_146 dX4_isTaken_23 ?_
        refine lv_iload_n hx hb dX4_isTaken_26 rfl (lv_at hl 2 rfl) ?_
        refine aC_19 E G (ix_k (lp_lt h0 hkk c_4) (Nat.le_of_lt h24) (by decide)) dX4_isTaken_27 ?_
        refine lv_aload_n hx hb dX4_isTaken_28 rfl (lv_at hl 0 rfl) ?_
        refine gC_7_2 E G m_146 dX4_isTaken_29 ?_
        refine lv_iload_n hx hb dX4_isTaken_32 rfl (lv_at hl 1 rfl) ?_
        refine aC_19 E G (ix_sd hI h1) dX4_isTaken_33 ?_
        refine lv_icmp_ne (tgt := 39) hx hb dX4_isTaken_34 (by decide) (fun c_34 => ?_) (fun c_34 => ?_)
        · skip
          refine lv_iinc (v := (nI k) + 1) (lv' := [(2, .int ((nI k) + 1)), (0, .ref (q 7)), (1, .int (p1))]) hx hb dX4_isTaken_39 hl (k := 2) rfl rfl (by decide) rfl (fun ls hl => ?_)
          refine lv_goto (tgt := 2) hx hb dX4_isTaken_42 (by decide) ?_
          exact ih2 (lp_lt h0 hkk c_4) _ _ _ (by simp only [ar_nI _ (show k < 2 ^ 31 by omega)] at c_4 c_4n c_19 c_34; simp [taS, c_4, c_4n, c_19, c_34, hT]) (GW.cast (rfl) G) (lv_cast (lv_sub (l' := [(0, .ref (q 7)), (1, .int (p1)), (2, .int ((nI k) + 1))]) hl [1, 2, 0] rfl) (by rw [nI_1]))
        · skip
          refine lv_iconst (v := 1) hx hb dX4_isTaken_37 (by decide) ?_
          have hs : (taS S (ar (s_ss S) p1) (ar (s_sh S) p1) p1.toNatClampNeg) = true := taS_mono (k := k + 1) (by simp only [ar_nI _ (show k < 2 ^ 31 by omega)] at c_4 c_4n c_19 c_34; simp [taS, c_4, c_4n, c_19, c_34]) _ (lp_lt h0 hkk c_4)
          exact r_retz E G hr hlk hQ (by decide) (congrArg (fun t => some (Value.int (b01 t))) hs) rfl dX4_isTaken_38
  exact L2 0 (Nat.zero_le _) _ _ _ (rfl) (GW.cast (rfl) G) (lv_cast (lv_sub (l' := [(0, .ref (q 7)), (1, .int (p1)), (2, .int (0))]) hl [1, 2, 0] rfl) (by rw [nI_0]))
set_option maxHeartbeats 4000000 in
set_option maxRecDepth 100000 in
theorem c_X4_countOf (l : Launch) (Z : ZT) (q : Nat → Nat) (S : St) (X : XC) (p1 p2 : Int32) (hI : Inv S) : CT l Z yX4_countOf cX4_countOf 5 (some .int) 1 [.ref (q 7), .int (p1), .int (p2)] (CW Z q S X) (some (.int (coS S p1 p2 (s_sd S).toNatClampNeg))) (CW Z q S X) := by
  refine CE.mk rfl (Nat.le_of_ble_eq_true rfl) (fun p e s m args below meth c A Qx ls E hr hlk hnm hQ G hl => ?_)
  have hx := E.1.1
  have hb := E.1.2.1
  have hl : lv_has ls 5 [(0, .ref (q 7)), (1, .int (p1)), (2, .int (p2))] := hl
  have h24 := N24 hI
  have h0 := hI.sd.1
  refine lv_iconst (v := 0) hx hb dX4_countOf_0 (by decide) ?_
  refine lv_istore_n (lv' := [(3, .int (0)), (0, .ref (q 7)), (1, .int (p1)), (2, .int (p2))]) hx hb dX4_countOf_1 rfl hl (by decide) rfl (fun ls hl => ?_)
  refine lv_iconst (v := 0) hx hb dX4_countOf_2 (by decide) ?_
  refine lv_istore (lv' := [(4, .int (0)), (3, .int (0)), (0, .ref (q 7)), (1, .int (p1)), (2, .int (p2))]) hx hb dX4_countOf_3 hl (by decide) rfl (fun ls hl => ?_)
  have L5 : ∀ k : Nat, k ≤ (s_sd S).toNatClampNeg → (∀ (H : Heap) (locs : List Loc) (ls : Array Slot), GW Z (CW Z q S X) A s.heap H locs → lv_has ls 5 [(0, .ref (q 7)), (1, .int (p1)), (2, .int (p2)), (3, .int (coS S p1 p2 k)), (4, .int (nI k))] → W p l e (rmk 1 0 0) s m args below meth c H locs 0 0 Qx (F0 m 5 ls [])) := by
    refine up_in2 (P := fun k => (∀ (H : Heap) (locs : List Loc) (ls : Array Slot), GW Z (CW Z q S X) A s.heap H locs → lv_has ls 5 [(0, .ref (q 7)), (1, .int (p1)), (2, .int (p2)), (3, .int (coS S p1 p2 k)), (4, .int (nI k))] → W p l e (rmk 1 0 0) s m args below meth c H locs 0 0 Qx (F0 m 5 ls []))) ((s_sd S).toNatClampNeg) ?_
    intro k hkk ih5 H locs ls G hl
    refine lv_iload hx hb dX4_countOf_5 (lv_at hl 4 rfl) ?_
    refine lv_aload_n hx hb dX4_countOf_7 rfl (lv_at hl 0 rfl) ?_
    refine gC_7_4 E G m_150 dX4_countOf_8 ?_
    refine lv_icmp_ge (tgt := 45) hx hb dX4_countOf_11 (by decide) (fun c_11 => ?_) (fun c_11 => ?_)
    · skip
      have c_11n := Int32.not_lt.mpr c_11
      refine lv_iload_n hx hb dX4_countOf_45 rfl (lv_at hl 3 rfl) ?_
      have hs : (coS S p1 p2 (s_sd S).toNatClampNeg) = coS S p1 p2 k := by rw [lp_eq h0 hkk c_11]
      exact r_ret E G hr hlk hQ (congrArg (fun t => some (Value.int t)) hs) rfl dX4_countOf_46
    · skip
      have c_11n := Int32.not_le.mp c_11
      refine lv_aload_n hx hb dX4_countOf_14 rfl (lv_at hl 0 rfl) ?_
      refine gC_7_0 E G m_142 dX4_countOf_15 ?_
      refine lv_iload hx hb dX4_countOf_18 (lv_at hl 4 rfl) ?_
      refine aC_17 E G (ix_k (lp_lt h0 hkk c_11) h24 (by decide)) dX4_countOf_20 ?_
      refine lv_iload_n hx hb dX4_countOf_21 rfl (lv_at hl 1 rfl) ?_
      refine lv_icmp_ne (tgt := 39) hx hb dX4_countOf_22 (by decide) (fun c_22 => ?_) (fun c_22 => ?_)
      · skip
        refine lv_iinc (v := (nI k) + 1) (lv' := [(4, .int ((nI k) + 1)), (0, .ref (q 7)), (1, .int (p1)), (2, .int (p2)), (3, .int (coS S p1 p2 k))]) hx hb dX4_countOf_39 hl (k := 4) rfl rfl (by decide) rfl (fun ls hl => ?_)
        refine lv_goto (tgt := 5) hx hb dX4_countOf_42 (by decide) ?_
        exact ih5 (lp_lt h0 hkk c_11) _ _ _ (GW.cast (rfl) G) (lv_cast (lv_sub (l' := [(0, .ref (q 7)), (1, .int (p1)), (2, .int (p2)), (3, .int (coS S p1 p2 k)), (4, .int ((nI k) + 1))]) hl [1, 2, 3, 4, 0] rfl) (by simp only [ar_nI _ (show k < 2 ^ 31 by omega)] at c_11 c_11n c_22; simp [nI_1, coS, c_11, c_11n, c_22]))
      · skip
        refine lv_aload_n hx hb dX4_countOf_25 rfl (lv_at hl 0 rfl) ?_
        refine gC_7_1 E G m_144 dX4_countOf_26 ?_
        refine lv_iload hx hb dX4_countOf_29 (lv_at hl 4 rfl) ?_
        refine aC_18 E G (ix_k (lp_lt h0 hkk c_11) h24 (by decide)) dX4_countOf_31 ?_
        refine lv_iload_n hx hb dX4_countOf_32 rfl (lv_at hl 2 rfl) ?_
        refine lv_icmp_ne (tgt := 39) hx hb dX4_countOf_33 (by decide) (fun c_33 => ?_) (fun c_33 => ?_)
        · skip
          refine lv_iinc (v := (nI k) + 1) (lv' := [(4, .int ((nI k) + 1)), (0, .ref (q 7)), (1, .int (p1)), (2, .int (p2)), (3, .int (coS S p1 p2 k))]) hx hb dX4_countOf_39 hl (k := 4) rfl rfl (by decide) rfl (fun ls hl => ?_)
          refine lv_goto (tgt := 5) hx hb dX4_countOf_42 (by decide) ?_
          exact ih5 (lp_lt h0 hkk c_11) _ _ _ (GW.cast (rfl) G) (lv_cast (lv_sub (l' := [(0, .ref (q 7)), (1, .int (p1)), (2, .int (p2)), (3, .int (coS S p1 p2 k)), (4, .int ((nI k) + 1))]) hl [1, 2, 3, 4, 0] rfl) (by simp only [ar_nI _ (show k < 2 ^ 31 by omega)] at c_11 c_11n c_22 c_33; simp [nI_1, coS, c_11, c_11n, c_22, c_33]))
        · skip
          refine lv_iinc (v := (coS S p1 p2 k) + 1) (lv' := [(3, .int ((coS S p1 p2 k) + 1)), (0, .ref (q 7)), (1, .int (p1)), (2, .int (p2)), (4, .int (nI k))]) hx hb dX4_countOf_36 hl (k := 3) rfl rfl (by decide) rfl (fun ls hl => ?_)
          refine lv_iinc (v := (nI k) + 1) (lv' := [(4, .int ((nI k) + 1)), (3, .int ((coS S p1 p2 k) + 1)), (0, .ref (q 7)), (1, .int (p1)), (2, .int (p2))]) hx hb dX4_countOf_39 hl (k := 4) rfl rfl (by decide) rfl (fun ls hl => ?_)
          refine lv_goto (tgt := 5) hx hb dX4_countOf_42 (by decide) ?_
          exact ih5 (lp_lt h0 hkk c_11) _ _ _ (GW.cast (rfl) G) (lv_cast (lv_sub (l' := [(0, .ref (q 7)), (1, .int (p1)), (2, .int (p2)), (3, .int ((coS S p1 p2 k) + 1)), (4, .int ((nI k) + 1))]) hl [2, 3, 4, 1, 0] rfl) (by simp only [ar_nI _ (show k < 2 ^ 31 by omega)] at c_11 c_11n c_22 c_33; simp [nI_1, coS, c_11, c_11n, c_22, c_33]))
  exact L5 0 (Nat.zero_le _) _ _ _ (GW.cast (rfl) G) (lv_cast (lv_sub (l' := [(0, .ref (q 7)), (1, .int (p1)), (2, .int (p2)), (3, .int (0)), (4, .int (0))]) hl [2, 3, 4, 1, 0] rfl) (by rw [nI_0]; rfl))
set_option maxHeartbeats 4000000 in
set_option maxRecDepth 100000 in
theorem c_X1_owedOf (l : Launch) (Z : ZT) (q : Nat → Nat) (S : St) (X : XC) (p1 p2 : Int32) (hI : Inv S) (h1 : isBi S p1 = true) : CT l Z yX1_owedOf cX1_owedOf 4 (some .int) 2 [.ref (q 8), .int (p1), .int (p2)] (CW Z q S X) (some (.int (owS S p1 p2))) (CW Z q S X) := by
  refine CE.mk rfl (Nat.le_of_ble_eq_true rfl) (fun p e s m args below meth c A Qx ls E hr hlk hnm hQ G hl => ?_)
  have hx := E.1.1
  have hb := E.1.2.1
  have hl : lv_has ls 4 [(0, .ref (q 8)), (1, .int (p1)), (2, .int (p2))] := hl
  refine lv_iload_n hx hb dX1_owedOf_0 rfl (lv_at hl 2 rfl) ?_
  refine lv_aload_n hx hb dX1_owedOf_1 rfl (lv_at hl 0 rfl) ?_
  refine gC_8_1 E G m_171 dX1_owedOf_2 ?_
  refine lv_iload_n hx hb dX1_owedOf_5 rfl (lv_at hl 1 rfl) ?_
  refine aC_22 E G (ix_bi hI h1) dX1_owedOf_6 ?_
  refine lv_icmp_ge (tgt := 12) hx hb dX1_owedOf_7 (by decide) (fun c_7 => ?_) (fun c_7 => ?_)
  · skip
    have c_7n := Int32.not_lt.mpr c_7
    refine lv_iload_n hx hb dX1_owedOf_12 rfl (lv_at hl 2 rfl) ?_
    refine lv_aload_n hx hb dX1_owedOf_13 rfl (lv_at hl 0 rfl) ?_
    refine gC_8_2 E G m_172 dX1_owedOf_14 ?_
    refine lv_iload_n hx hb dX1_owedOf_17 rfl (lv_at hl 1 rfl) ?_
    refine aC_23 E G (ix_bi hI h1) dX1_owedOf_18 ?_
    refine lv_isub hx hb dX1_owedOf_19 ?_
    refine lv_iconst (v := 0) hx hb dX1_owedOf_20 (by decide) ?_
    refine va_mmax hx hb (E.1.2.2.1.trans hl.1.symm) E.1.2.2.2.1 (E.1.2.2.2.2 _ mj_max_X1_28) (E.1.2.2.2.2 _ mj_max_st) (E.1.2.2.2.2 _ m_52) (E.1.2.2.2.2 _ mj_max_co) (Nat.le_of_ble_eq_true rfl) (Nat.le_of_ble_eq_true rfl) (Nat.zero_le _) (Nat.zero_le _) dX1_owedOf_21 ?_
    refine lv_bipush (v := 7) hx hb dX1_owedOf_24 (by decide) ?_
    refine lv_idiv hx hb dX1_owedOf_26 (by decide) ?_
    refine lv_istore_n (lv' := [(3, .int ((if (p2 - (ar (s_du S) p1)) < 0 then 0 else (p2 - (ar (s_du S) p1))) / 7)), (0, .ref (q 8)), (1, .int (p1)), (2, .int (p2))]) hx hb dX1_owedOf_27 rfl hl (by decide) rfl (fun ls hl => ?_)
    refine lv_aload_n hx hb dX1_owedOf_28 rfl (lv_at hl 1 rfl) ?_
    refine gC_8_0 E G m_169 dX1_owedOf_29 ?_
    refine lv_iload_n hx hb dX1_owedOf_32 rfl (lv_at hl 2 rfl) ?_
    refine aC_21 E G (ix_bi hI h1) dX1_owedOf_33 ?_
    refine lv_iload_n hx hb dX1_owedOf_34 rfl (lv_at hl 0 rfl) ?_
    refine lv_aload_n hx hb dX1_owedOf_35 rfl (lv_at hl 1 rfl) ?_
    refine gC_8_0 E G m_169 dX1_owedOf_36 ?_
    refine lv_iload_n hx hb dX1_owedOf_39 rfl (lv_at hl 2 rfl) ?_
    refine aC_21 E G (ix_bi hI h1) dX1_owedOf_40 ?_
    refine lv_bipush (v := 50) hx hb dX1_owedOf_41 (by decide) ?_
    refine lv_idiv hx hb dX1_owedOf_43 (by decide) ?_
    refine lv_imul hx hb dX1_owedOf_44 ?_
    refine lv_iadd hx hb dX1_owedOf_45 ?_
    have hs : (owS S p1 p2) = (ar (s_le S) p1) + (((if (p2 - (ar (s_du S) p1)) < 0 then 0 else (p2 - (ar (s_du S) p1))) / 7) * ((ar (s_le S) p1) / 50)) := by first | rfl | (simp [owS, c_7, c_7n]; done) | (simp_all [owS]; done)
    exact r_ret E G hr hlk hQ (congrArg (fun t => some (Value.int t)) hs) rfl dX1_owedOf_46
  · skip
    have c_7n := Int32.not_le.mp c_7
    refine lv_iconst (v := 0) hx hb dX1_owedOf_10 (by decide) ?_
    have hs : (owS S p1 p2) = 0 := by first | rfl | (simp [owS, c_7, c_7n]; done) | (simp_all [owS]; done)
    exact r_ret E G hr hlk hQ (congrArg (fun t => some (Value.int t)) hs) rfl dX1_owedOf_11
set_option maxHeartbeats 4000000 in
set_option maxRecDepth 100000 in
theorem c_X1_owedOfAll (l : Launch) (Z : ZT) (q : Nat → Nat) (S : St) (X : XC) (p1 : Int32) (hI : Inv S) : CT l Z yX1_owedOfAll cX1_owedOfAll 4 (some .int) 3 [.ref (q 8), .int (p1)] (CW Z q S X) (some (.int (owA S p1 (s_bi S).toNatClampNeg))) (CW Z q S X) := by
  refine CE.mk rfl (Nat.le_of_ble_eq_true rfl) (fun p e s m args below meth c A Qx ls E hr hlk hnm hQ G hl => ?_)
  have hx := E.1.1
  have hb := E.1.2.1
  have hl : lv_has ls 4 [(0, .ref (q 8)), (1, .int (p1))] := hl
  have h0 := hI.bi.1
  refine lv_iconst (v := 0) hx hb dX1_owedOfAll_0 (by decide) ?_
  refine lv_istore_n (lv' := [(2, .int (0)), (0, .ref (q 8)), (1, .int (p1))]) hx hb dX1_owedOfAll_1 rfl hl (by decide) rfl (fun ls hl => ?_)
  refine lv_iconst (v := 0) hx hb dX1_owedOfAll_2 (by decide) ?_
  refine lv_istore_n (lv' := [(3, .int (0)), (2, .int (0)), (0, .ref (q 8)), (1, .int (p1))]) hx hb dX1_owedOfAll_3 rfl hl (by decide) rfl (fun ls hl => ?_)
  have L4 : ∀ k : Nat, k ≤ (s_bi S).toNatClampNeg → (∀ (H : Heap) (locs : List Loc) (ls : Array Slot), GW Z (CW Z q S X) A s.heap H locs → lv_has ls 4 [(0, .ref (q 8)), (1, .int (p1)), (2, .int (owA S p1 k)), (3, .int (nI k))] → W p l e (rmk 3 0 0) s m args below meth c H locs 0 0 Qx (F0 m 4 ls [])) := by
    refine up_in2 (P := fun k => (∀ (H : Heap) (locs : List Loc) (ls : Array Slot), GW Z (CW Z q S X) A s.heap H locs → lv_has ls 4 [(0, .ref (q 8)), (1, .int (p1)), (2, .int (owA S p1 k)), (3, .int (nI k))] → W p l e (rmk 3 0 0) s m args below meth c H locs 0 0 Qx (F0 m 4 ls []))) ((s_bi S).toNatClampNeg) ?_
    intro k hkk ih4 H locs ls G hl
    refine lv_iload_n hx hb dX1_owedOfAll_4 rfl (lv_at hl 3 rfl) ?_
    refine lv_aload_n hx hb dX1_owedOfAll_5 rfl (lv_at hl 0 rfl) ?_
    refine gC_8_3 E G m_173 dX1_owedOfAll_6 ?_
    refine lv_icmp_ge (tgt := 27) hx hb dX1_owedOfAll_9 (by decide) (fun c_9 => ?_) (fun c_9 => ?_)
    · skip
      have c_9n := Int32.not_lt.mpr c_9
      refine lv_iload_n hx hb dX1_owedOfAll_27 rfl (lv_at hl 2 rfl) ?_
      have hs : (owA S p1 (s_bi S).toNatClampNeg) = owA S p1 k := by rw [lp_eq h0 hkk c_9]
      exact r_ret E G hr hlk hQ (congrArg (fun t => some (Value.int t)) hs) rfl dX1_owedOfAll_28
    · skip
      have c_9n := Int32.not_le.mp c_9
      refine lv_iload_n hx hb dX1_owedOfAll_12 rfl (lv_at hl 2 rfl) ?_
      refine lv_aload_n hx hb dX1_owedOfAll_13 rfl (lv_at hl 0 rfl) ?_
      refine lv_iload_n hx hb dX1_owedOfAll_14 rfl (lv_at hl 3 rfl) ?_
      refine lv_iload_n hx hb dX1_owedOfAll_15 rfl (lv_at hl 1 rfl) ?_
      refine r_V [.int (owA S p1 k)] E G (c_X1_owedOf l Z q S X (nI k) p1 hI (bi_k hI (lp_lt h0 hkk c_9))) kX1_owedOf m_591 8 rfl rfl ⟨Nat.le_of_ble_eq_true rfl, Nat.le_of_ble_eq_true rfl⟩ hl dX1_owedOfAll_16 rfl rfl (Nat.le_of_ble_eq_true rfl) ⟨Nat.zero_le _, Nat.zero_le _⟩ (fun H locs G => ?_)
      refine lv_iadd hx hb dX1_owedOfAll_19 ?_
      refine lv_istore_n (lv' := [(2, .int ((owA S p1 k) + (owS S (nI k) p1))), (0, .ref (q 8)), (1, .int (p1)), (3, .int (nI k))]) hx hb dX1_owedOfAll_20 rfl hl (by decide) rfl (fun ls hl => ?_)
      refine lv_iinc (v := (nI k) + 1) (lv' := [(3, .int ((nI k) + 1)), (2, .int ((owA S p1 k) + (owS S (nI k) p1))), (0, .ref (q 8)), (1, .int (p1))]) hx hb dX1_owedOfAll_21 hl (k := 3) rfl rfl (by decide) rfl (fun ls hl => ?_)
      refine lv_goto (tgt := 4) hx hb dX1_owedOfAll_24 (by decide) ?_
      exact ih4 (lp_lt h0 hkk c_9) _ _ _ (GW.cast (rfl) G) (lv_cast (lv_sub (l' := [(0, .ref (q 8)), (1, .int (p1)), (2, .int ((owA S p1 k) + (owS S (nI k) p1))), (3, .int ((nI k) + 1))]) hl [2, 3, 1, 0] rfl) (by rw [nI_1]; rfl))
  exact L4 0 (Nat.zero_le _) _ _ _ (GW.cast (rfl) G) (lv_cast (lv_sub (l' := [(0, .ref (q 8)), (1, .int (p1)), (2, .int (0)), (3, .int (0))]) hl [2, 3, 1, 0] rfl) (by rw [nI_0]; rfl))
set_option maxHeartbeats 4000000 in
set_option maxRecDepth 100000 in
theorem c_X8_vanNumber_t (l : Launch) (Z : ZT) (q : Nat → Nat) (S : St) (X : XC) (p1 : Int32) (hI : Inv S) (hv : isVa S p1 = true) : CT l Z yX8_vanNumber cX8_vanNumber 2 (some (.object "ConeRounds$Van")) 1 [.ref (q 0), .int (p1)] (CW Z q S X) (some (.ref (q (24 + p1.toNatClampNeg)))) (CW Z q S X) := by
  refine CE.mk rfl (Nat.le_of_ble_eq_true rfl) (fun p e s m args below meth c A Qx ls E hr hlk hnm hQ G hl => ?_)
  have hx := E.1.1
  have hb := E.1.2.1
  have hl : lv_has ls 2 [(0, .ref (q 0)), (1, .int (p1))] := hl
  refine lv_iload_n hx hb dX8_vanNumber_0 rfl (lv_at hl 1 rfl) ?_
  refine lv_if_lt (tgt := 21) hx hb dX8_vanNumber_1 (by decide) (fun c_1 => ?_) (fun c_1 => ?_)
  · skip
    have c_1n := Int32.not_le.mpr c_1
    exact absurd c_1 (va_n hv).1
  · skip
    have c_1n := Int32.not_lt.mp c_1
    refine lv_iload_n hx hb dX8_vanNumber_4 rfl (lv_at hl 1 rfl) ?_
    refine lv_aload_n hx hb dX8_vanNumber_5 rfl (lv_at hl 0 rfl) ?_
    refine gC_0_4 E G m_192 dX8_vanNumber_6 ?_
    refine lv_icmp_ge (tgt := 21) hx hb dX8_vanNumber_9 (by decide) (fun c_9 => ?_) (fun c_9 => ?_)
    · skip
      have c_9n := Int32.not_lt.mpr c_9
      exact absurd c_9 (va_n hv).2
    · skip
      have c_9n := Int32.not_le.mp c_9
      refine lv_aload_n hx hb dX8_vanNumber_12 rfl (lv_at hl 0 rfl) ?_
      refine gC_0_3 E G m_191 dX8_vanNumber_13 ?_
      refine lv_iload_n hx hb dX8_vanNumber_16 rfl (lv_at hl 1 rfl) ?_
      refine aC_4 E G (ix_va hI hv) dX8_vanNumber_17 ?_
      rw [vf_t (hv)]
      refine lv_goto (tgt := 22) hx hb dX8_vanNumber_18 (by decide) ?_
      exact r_reta E G hr hlk hQ (Or.inr ⟨_, rfl⟩) ⟨rfl, rfl⟩ dX8_vanNumber_22
set_option maxHeartbeats 4000000 in
set_option maxRecDepth 100000 in
theorem c_X8_vanNumber_f (l : Launch) (Z : ZT) (q : Nat → Nat) (S : St) (X : XC) (p1 : Int32) (hI : Inv S) (hv : isVa S p1 = false) : CT l Z yX8_vanNumber cX8_vanNumber 2 (some (.object "ConeRounds$Van")) 1 [.ref (q 0), .int (p1)] (CW Z q S X) (some (.null)) (CW Z q S X) := by
  refine CE.mk rfl (Nat.le_of_ble_eq_true rfl) (fun p e s m args below meth c A Qx ls E hr hlk hnm hQ G hl => ?_)
  have hx := E.1.1
  have hb := E.1.2.1
  have hl : lv_has ls 2 [(0, .ref (q 0)), (1, .int (p1))] := hl
  refine lv_iload_n hx hb dX8_vanNumber_0 rfl (lv_at hl 1 rfl) ?_
  refine lv_if_lt (tgt := 21) hx hb dX8_vanNumber_1 (by decide) (fun c_1 => ?_) (fun c_1 => ?_)
  · skip
    have c_1n := Int32.not_le.mpr c_1
    refine lv_null hx hb dX8_vanNumber_21 ?_
    exact r_reta E G hr hlk hQ (Or.inl rfl) ⟨rfl, rfl⟩ dX8_vanNumber_22
  · skip
    have c_1n := Int32.not_lt.mp c_1
    refine lv_iload_n hx hb dX8_vanNumber_4 rfl (lv_at hl 1 rfl) ?_
    refine lv_aload_n hx hb dX8_vanNumber_5 rfl (lv_at hl 0 rfl) ?_
    refine gC_0_4 E G m_192 dX8_vanNumber_6 ?_
    refine lv_icmp_ge (tgt := 21) hx hb dX8_vanNumber_9 (by decide) (fun c_9 => ?_) (fun c_9 => ?_)
    · skip
      have c_9n := Int32.not_lt.mpr c_9
      refine lv_null hx hb dX8_vanNumber_21 ?_
      exact r_reta E G hr hlk hQ (Or.inl rfl) ⟨rfl, rfl⟩ dX8_vanNumber_22
    · skip
      have c_9n := Int32.not_le.mp c_9
      exact absurd hv (va_p c_1 c_9)
set_option maxHeartbeats 4000000 in
set_option maxRecDepth 100000 in
theorem c_X8_isBarred (l : Launch) (Z : ZT) (q : Nat → Nat) (S : St) (X : XC) (p1 p2 : Int32) (hI : Inv S) (h1 : isSt S p1 = true) : CT l Z yX8_isBarred cX8_isBarred 3 (some .boolean) 2 [.ref (q 0), .int (p1), .int (p2)] (CW Z q S X) (some (.int (b01 (isBa S p1 p2)))) (CW Z q S X) := by
  refine CE.mk rfl (Nat.le_of_ble_eq_true rfl) (fun p e s m args below meth c A Qx ls E hr hlk hnm hQ G hl => ?_)
  have hx := E.1.1
  have hb := E.1.2.1
  have hl : lv_has ls 3 [(0, .ref (q 0)), (1, .int (p1)), (2, .int (p2))] := hl
  refine lv_aload_n hx hb dX8_isBarred_0 rfl (lv_at hl 0 rfl) ?_
  refine gC_0_1 E G m_189 dX8_isBarred_1 ?_
  refine gC_2_0 E G m_68 dX8_isBarred_4 ?_
  refine lv_iload_n hx hb dX8_isBarred_7 rfl (lv_at hl 1 rfl) ?_
  refine aC_10 E G (ix_st hI h1) dX8_isBarred_8 ?_
  refine lv_if_eq (tgt := 27) hx hb dX8_isBarred_9 (by decide) (fun c_9 => ?_) (fun c_9 => ?_)
  · skip
    refine lv_iconst (v := 0) hx hb dX8_isBarred_27 (by decide) ?_
    have hs : (isBa S p1 p2) = false := by rcases sc01 hI p1 with e1 | e1 <;> simp_all [isBa]
    exact r_retz E G hr hlk hQ (by decide) (congrArg (fun t => some (Value.int (b01 t))) hs) rfl dX8_isBarred_28
  · skip
    refine lv_aload_n hx hb dX8_isBarred_12 rfl (lv_at hl 0 rfl) ?_
    refine gC_0_2 E G m_190 dX8_isBarred_13 ?_
    refine lv_iload_n hx hb dX8_isBarred_16 rfl (lv_at hl 2 rfl) ?_
    refine r_V [] E G (c_X3_barsSchoolsAt l Z q S X p2) kX3_barsSchoolsAt m_364 3 rfl rfl ⟨Nat.le_of_ble_eq_true rfl, Nat.le_of_ble_eq_true rfl⟩ hl dX8_isBarred_17 rfl rfl (Nat.le_of_ble_eq_true rfl) ⟨Nat.zero_le _, Nat.zero_le _⟩ (fun H locs G => ?_)
    refine r_eqb (tgt := 27) hx hb dX8_isBarred_20 (by decide) (fun c_20 => ?_) (fun c_20 => ?_)
    · skip
      refine lv_iconst (v := 0) hx hb dX8_isBarred_27 (by decide) ?_
      have hs : (isBa S p1 p2) = false := by rcases sc01 hI p1 with e1 | e1 <;> simp_all [isBa]
      exact r_retz E G hr hlk hQ (by decide) (congrArg (fun t => some (Value.int (b01 t))) hs) rfl dX8_isBarred_28
    · skip
      refine lv_iconst (v := 1) hx hb dX8_isBarred_23 (by decide) ?_
      refine lv_goto (tgt := 28) hx hb dX8_isBarred_24 (by decide) ?_
      have hs : (isBa S p1 p2) = true := by rcases sc01 hI p1 with e1 | e1 <;> simp_all [isBa]
      exact r_retz E G hr hlk hQ (by decide) (congrArg (fun t => some (Value.int (b01 t))) hs) rfl dX8_isBarred_28
set_option maxHeartbeats 4000000 in
set_option maxRecDepth 100000 in
theorem c_X8_mayStand (l : Launch) (Z : ZT) (q : Nat → Nat) (S : St) (X : XC) (p1 p2 : Int32) (v : Int32) (hI : Inv S) (hv : isVa S v = true) (h1 : isSt S p1 = true) : CT l Z yX8_mayStand cX8_mayStand 4 (some .boolean) 3 [.ref (q 0), .ref (q (24 + v.toNatClampNeg)), .int (p1), .int (p2)] (CW Z q S X) (some (.int (b01 (may S v p1 p2)))) (CW Z q S X) := by
  refine CE.mk rfl (Nat.le_of_ble_eq_true rfl) (fun p e s m args below meth c A Qx ls E hr hlk hnm hQ G hl => ?_)
  have hx := E.1.1
  have hb := E.1.2.1
  have hl : lv_has ls 4 [(0, .ref (q 0)), (1, .ref (q (24 + v.toNatClampNeg))), (2, .int (p1)), (3, .int (p2))] := hl
  refine lv_aload_n hx hb dX8_mayStand_0 rfl (lv_at hl 1 rfl) ?_
  refine lv_iload_n hx hb dX8_mayStand_1 rfl (lv_at hl 2 rfl) ?_
  refine rV_isLicensed [] E G (hv) ⟨Nat.le_of_ble_eq_true rfl, Nat.le_of_ble_eq_true rfl⟩ hl dX8_mayStand_2 rfl (Nat.le_of_ble_eq_true rfl) ⟨Nat.zero_le _, Nat.zero_le _⟩ (fun H locs G => ?_)
  refine r_eqb (tgt := 21) hx hb dX8_mayStand_5 (by decide) (fun c_5 => ?_) (fun c_5 => ?_)
  · skip
    refine lv_iconst (v := 0) hx hb dX8_mayStand_21 (by decide) ?_
    have hs : (may S v p1 p2) = false := by first | rfl | (simp [may, c_5]; done) | (simp_all [may]; done)
    exact r_retz E G hr hlk hQ (by decide) (congrArg (fun t => some (Value.int (b01 t))) hs) rfl dX8_mayStand_22
  · skip
    refine lv_aload_n hx hb dX8_mayStand_8 rfl (lv_at hl 0 rfl) ?_
    refine lv_iload_n hx hb dX8_mayStand_9 rfl (lv_at hl 2 rfl) ?_
    refine lv_iload_n hx hb dX8_mayStand_10 rfl (lv_at hl 3 rfl) ?_
    refine r_V [] E G (c_X8_isBarred l Z q S X p1 p2 hI h1) kX8_isBarred m_360 0 rfl rfl ⟨Nat.le_of_ble_eq_true rfl, Nat.le_of_ble_eq_true rfl⟩ hl dX8_mayStand_11 rfl rfl (Nat.le_of_ble_eq_true rfl) ⟨Nat.zero_le _, Nat.zero_le _⟩ (fun H locs G => ?_)
    refine r_neb (tgt := 21) hx hb dX8_mayStand_14 (by decide) (fun c_14 => ?_) (fun c_14 => ?_)
    · skip
      refine lv_iconst (v := 0) hx hb dX8_mayStand_21 (by decide) ?_
      have hs : (may S v p1 p2) = false := by first | rfl | (simp [may, c_5, c_14]; done) | (simp_all [may]; done)
      exact r_retz E G hr hlk hQ (by decide) (congrArg (fun t => some (Value.int (b01 t))) hs) rfl dX8_mayStand_22
    · skip
      refine lv_iconst (v := 1) hx hb dX8_mayStand_17 (by decide) ?_
      refine lv_goto (tgt := 22) hx hb dX8_mayStand_18 (by decide) ?_
      have hs : (may S v p1 p2) = true := by first | rfl | (simp [may, c_5, c_14]; done) | (simp_all [may]; done)
      exact r_retz E G hr hlk hQ (by decide) (congrArg (fun t => some (Value.int (b01 t))) hs) rfl dX8_mayStand_22
set_option maxHeartbeats 4000000 in
set_option maxRecDepth 100000 in
theorem c_X8_hoursBetween (l : Launch) (Z : ZT) (q : Nat → Nat) (S : St) (X : XC) (p1 p2 : Int32) (v : Int32) (hI : Inv S) (hv : isVa S v = true) (h1 : isSt S p1 = true) (h2 : isSt S p2 = true) : CT l Z yX8_hoursBetween cX8_hoursBetween 4 (some .int) 3 [.ref (q 0), .ref (q (24 + v.toNatClampNeg)), .int (p1), .int (p2)] (CW Z q S X) (some (.int (lat S v p1 p2))) (CW Z q S X) := by
  refine CE.mk rfl (Nat.le_of_ble_eq_true rfl) (fun p e s m args below meth c A Qx ls E hr hlk hnm hQ G hl => ?_)
  have hx := E.1.1
  have hb := E.1.2.1
  have hl : lv_has ls 4 [(0, .ref (q 0)), (1, .ref (q (24 + v.toNatClampNeg))), (2, .int (p1)), (3, .int (p2))] := hl
  refine lv_iload_n hx hb dX8_hoursBetween_0 rfl (lv_at hl 2 rfl) ?_
  refine lv_iload_n hx hb dX8_hoursBetween_1 rfl (lv_at hl 3 rfl) ?_
  refine lv_icmp_ne (tgt := 9) hx hb dX8_hoursBetween_2 (by decide) (fun c_2 => ?_) (fun c_2 => ?_)
  · skip
    refine lv_aload_n hx hb dX8_hoursBetween_9 rfl (lv_at hl 1 rfl) ?_
    refine lv_aload_n hx hb dX8_hoursBetween_10 rfl (lv_at hl 0 rfl) ?_
    refine gC_0_1 E G m_189 dX8_hoursBetween_11 ?_
    refine lv_iload_n hx hb dX8_hoursBetween_14 rfl (lv_at hl 2 rfl) ?_
    refine lv_iload_n hx hb dX8_hoursBetween_15 rfl (lv_at hl 3 rfl) ?_
    refine r_V [.ref (q (24 + v.toNatClampNeg))] E G (c_X5_wayBetween l Z q S X p1 p2 hI h1 h2) kX5_wayBetween m_252 2 rfl rfl ⟨Nat.le_of_ble_eq_true rfl, Nat.le_of_ble_eq_true rfl⟩ hl dX8_hoursBetween_16 rfl rfl (Nat.le_of_ble_eq_true rfl) ⟨Nat.zero_le _, Nat.zero_le _⟩ (fun H locs G => ?_)
    refine rV_hoursAcross [] E G (hv) ⟨Nat.le_of_ble_eq_true rfl, Nat.le_of_ble_eq_true rfl⟩ hl dX8_hoursBetween_19 rfl (Nat.le_of_ble_eq_true rfl) ⟨Nat.zero_le _, Nat.zero_le _⟩ (fun H locs G => ?_)
    have hs : (lat S v p1 p2) = hac S v (ar (s_wy S) (p1 * 6 + p2)) := by first | exact lat_hac (by assumption) | simp [lat, c_2]
    exact r_ret E G hr hlk hQ (congrArg (fun t => some (Value.int t)) hs) rfl dX8_hoursBetween_22
  · skip
    refine lv_iconst (v := 1) hx hb dX8_hoursBetween_5 (by decide) ?_
    refine lv_goto (tgt := 22) hx hb dX8_hoursBetween_6 (by decide) ?_
    have hs : (lat S v p1 p2) = 1 := by first | exact lat_hac (by assumption) | simp [lat, c_2]
    exact r_ret E G hr hlk hQ (congrArg (fun t => some (Value.int t)) hs) rfl dX8_hoursBetween_22
set_option maxHeartbeats 4000000 in
set_option maxRecDepth 100000 in
theorem c_X8_isPlace (l : Launch) (Z : ZT) (q : Nat → Nat) (S : St) (X : XC) (p1 : Int32) : CT l Z yX8_isPlace cX8_isPlace 2 (some .boolean) 2 [.ref (q 0), .int (p1)] (CW Z q S X) (some (.int (b01 (isAt S p1)))) (CW Z q S X) := by
  refine CE.mk rfl (Nat.le_of_ble_eq_true rfl) (fun p e s m args below meth c A Qx ls E hr hlk hnm hQ G hl => ?_)
  have hx := E.1.1
  have hb := E.1.2.1
  have hl : lv_has ls 2 [(0, .ref (q 0)), (1, .int (p1))] := hl
  refine lv_iload_n hx hb dX8_isPlace_0 rfl (lv_at hl 1 rfl) ?_
  refine lv_if_lt (tgt := 32) hx hb dX8_isPlace_1 (by decide) (fun c_1 => ?_) (fun c_1 => ?_)
  · skip
    have c_1n := Int32.not_le.mpr c_1
    refine lv_iconst (v := 0) hx hb dX8_isPlace_32 (by decide) ?_
    have hs : (isAt S p1) = false := by first | rfl | (simp [isAt, c_1, c_1n]; done) | (simp_all [isAt]; done)
    exact r_retz E G hr hlk hQ (by decide) (congrArg (fun t => some (Value.int (b01 t))) hs) rfl dX8_isPlace_33
  · skip
    have c_1n := Int32.not_lt.mp c_1
    refine lv_aload_n hx hb dX8_isPlace_4 rfl (lv_at hl 0 rfl) ?_
    refine gC_0_1 E G m_189 dX8_isPlace_5 ?_
    refine lv_iload_n hx hb dX8_isPlace_8 rfl (lv_at hl 1 rfl) ?_
    refine r_S [.ref (q 2)] E G (c_X8_streetOf l Z q S X p1) kX8_streetOf m_389 ⟨Nat.le_of_ble_eq_true rfl, Nat.le_of_ble_eq_true rfl⟩ hl dX8_isPlace_9 rfl rfl (Nat.le_of_ble_eq_true rfl) ⟨Nat.zero_le _, Nat.zero_le _⟩ (fun H locs G => ?_)
    refine r_V [] E G (c_X5_has l Z q S X (p1 / 100)) kX5_has m_245 2 rfl rfl ⟨Nat.le_of_ble_eq_true rfl, Nat.le_of_ble_eq_true rfl⟩ hl dX8_isPlace_12 rfl rfl (Nat.le_of_ble_eq_true rfl) ⟨Nat.zero_le _, Nat.zero_le _⟩ (fun H locs G => ?_)
    refine r_eqb (tgt := 32) hx hb dX8_isPlace_15 (by decide) (fun c_15 => ?_) (fun c_15 => ?_)
    · skip
      refine lv_iconst (v := 0) hx hb dX8_isPlace_32 (by decide) ?_
      have hs : (isAt S p1) = false := by first | rfl | (simp [isAt, c_1, c_1n, c_15]; done) | (simp_all [isAt]; done)
      exact r_retz E G hr hlk hQ (by decide) (congrArg (fun t => some (Value.int (b01 t))) hs) rfl dX8_isPlace_33
    · skip
      refine lv_iload_n hx hb dX8_isPlace_18 rfl (lv_at hl 1 rfl) ?_
      refine r_S [] E G (c_X8_hourOf l Z q S X p1) kX8_hourOf m_392 ⟨Nat.le_of_ble_eq_true rfl, Nat.le_of_ble_eq_true rfl⟩ hl dX8_isPlace_19 rfl rfl (Nat.le_of_ble_eq_true rfl) ⟨Nat.zero_le _, Nat.zero_le _⟩ (fun H locs G => ?_)
      refine r_S [] E G (c_X8_isHour l Z q S X (ho p1)) kX8_isHour m_264 ⟨Nat.le_of_ble_eq_true rfl, Nat.le_of_ble_eq_true rfl⟩ hl dX8_isPlace_22 rfl rfl (Nat.le_of_ble_eq_true rfl) ⟨Nat.zero_le _, Nat.zero_le _⟩ (fun H locs G => ?_)
      refine r_eqb (tgt := 32) hx hb dX8_isPlace_25 (by decide) (fun c_25 => ?_) (fun c_25 => ?_)
      · skip
        refine lv_iconst (v := 0) hx hb dX8_isPlace_32 (by decide) ?_
        have hs : (isAt S p1) = false := by first | rfl | (simp [isAt, c_1, c_1n, c_15, c_25]; done) | (simp_all [isAt]; done)
        exact r_retz E G hr hlk hQ (by decide) (congrArg (fun t => some (Value.int (b01 t))) hs) rfl dX8_isPlace_33
      · skip
        refine lv_iconst (v := 1) hx hb dX8_isPlace_28 (by decide) ?_
        refine lv_goto (tgt := 33) hx hb dX8_isPlace_29 (by decide) ?_
        have hs : (isAt S p1) = true := by first | rfl | (simp [isAt, c_1, c_1n, c_15, c_25]; done) | (simp_all [isAt]; done)
        exact r_retz E G hr hlk hQ (by decide) (congrArg (fun t => some (Value.int (b01 t))) hs) rfl dX8_isPlace_33
set_option maxHeartbeats 4000000 in
set_option maxRecDepth 100000 in
theorem c_X8_isPair (l : Launch) (Z : ZT) (q : Nat → Nat) (S : St) (X : XC) (p1 : Int32) : CT l Z yX8_isPair cX8_isPair 2 (some .boolean) 2 [.ref (q 0), .int (p1)] (CW Z q S X) (some (.int (b01 (isPr S p1)))) (CW Z q S X) := by
  refine CE.mk rfl (Nat.le_of_ble_eq_true rfl) (fun p e s m args below meth c A Qx ls E hr hlk hnm hQ G hl => ?_)
  have hx := E.1.1
  have hb := E.1.2.1
  have hl : lv_has ls 2 [(0, .ref (q 0)), (1, .int (p1))] := hl
  refine lv_iload_n hx hb dX8_isPair_0 rfl (lv_at hl 1 rfl) ?_
  refine lv_if_lt (tgt := 36) hx hb dX8_isPair_1 (by decide) (fun c_1 => ?_) (fun c_1 => ?_)
  · skip
    have c_1n := Int32.not_le.mpr c_1
    refine lv_iconst (v := 0) hx hb dX8_isPair_36 (by decide) ?_
    have hs : (isPr S p1) = false := by first | rfl | (simp [isPr, re10, c_1, c_1n]; done) | (simp_all [isPr, re10]; done)
    exact r_retz E G hr hlk hQ (by decide) (congrArg (fun t => some (Value.int (b01 t))) hs) rfl dX8_isPair_37
  · skip
    have c_1n := Int32.not_lt.mp c_1
    refine lv_aload_n hx hb dX8_isPair_4 rfl (lv_at hl 0 rfl) ?_
    refine gC_0_1 E G m_189 dX8_isPair_5 ?_
    refine lv_iload_n hx hb dX8_isPair_8 rfl (lv_at hl 1 rfl) ?_
    refine lv_bipush (v := 10) hx hb dX8_isPair_9 (by decide) ?_
    refine lv_idiv hx hb dX8_isPair_11 (by decide) ?_
    refine r_V [] E G (c_X5_has l Z q S X (p1 / 10)) kX5_has m_245 2 rfl rfl ⟨Nat.le_of_ble_eq_true rfl, Nat.le_of_ble_eq_true rfl⟩ hl dX8_isPair_12 rfl rfl (Nat.le_of_ble_eq_true rfl) ⟨Nat.zero_le _, Nat.zero_le _⟩ (fun H locs G => ?_)
    refine r_eqb (tgt := 36) hx hb dX8_isPair_15 (by decide) (fun c_15 => ?_) (fun c_15 => ?_)
    · skip
      refine lv_iconst (v := 0) hx hb dX8_isPair_36 (by decide) ?_
      have hs : (isPr S p1) = false := by first | rfl | (simp [isPr, re10, c_1, c_1n, c_15]; done) | (simp_all [isPr, re10]; done)
      exact r_retz E G hr hlk hQ (by decide) (congrArg (fun t => some (Value.int (b01 t))) hs) rfl dX8_isPair_37
    · skip
      refine lv_aload_n hx hb dX8_isPair_18 rfl (lv_at hl 0 rfl) ?_
      refine gC_0_1 E G m_189 dX8_isPair_19 ?_
      refine lv_iload_n hx hb dX8_isPair_22 rfl (lv_at hl 1 rfl) ?_
      refine lv_bipush (v := 10) hx hb dX8_isPair_23 (by decide) ?_
      refine lv_irem hx hb dX8_isPair_25 (by decide) ?_
      refine r_V [] E G (c_X5_has l Z q S X (p1 - p1 / 10 * 10)) kX5_has m_245 2 rfl rfl ⟨Nat.le_of_ble_eq_true rfl, Nat.le_of_ble_eq_true rfl⟩ hl dX8_isPair_26 rfl rfl (Nat.le_of_ble_eq_true rfl) ⟨Nat.zero_le _, Nat.zero_le _⟩ (fun H locs G => ?_)
      refine r_eqb (tgt := 36) hx hb dX8_isPair_29 (by decide) (fun c_29 => ?_) (fun c_29 => ?_)
      · skip
        refine lv_iconst (v := 0) hx hb dX8_isPair_36 (by decide) ?_
        have hs : (isPr S p1) = false := by first | rfl | (simp [isPr, re10, c_1, c_1n, c_15, c_29]; done) | (simp_all [isPr, re10]; done)
        exact r_retz E G hr hlk hQ (by decide) (congrArg (fun t => some (Value.int (b01 t))) hs) rfl dX8_isPair_37
      · skip
        refine lv_iconst (v := 1) hx hb dX8_isPair_32 (by decide) ?_
        refine lv_goto (tgt := 37) hx hb dX8_isPair_33 (by decide) ?_
        have hs : (isPr S p1) = true := by first | rfl | (simp [isPr, re10, c_1, c_1n, c_15, c_29]; done) | (simp_all [isPr, re10]; done)
        exact r_retz E G hr hlk hQ (by decide) (congrArg (fun t => some (Value.int (b01 t))) hs) rfl dX8_isPair_37
