set_option maxHeartbeats 4000000 in
set_option maxRecDepth 100000 in
theorem c_X8_makePlan (l : Launch) (Z : ZT) (q : Nat → Nat) (S : St) (X : XC) (p1 p2 p3 : Int32) (hI : Inv S) : CT l Z yX8_makePlan cX8_makePlan 7 (some .int) 11 [.ref (q 0), .int (p1), .int (p2), .int (p3)] (CW Z q S X) (some (.int ((mpP S X p1 p2 p3).1))) (CW Z q (S) ((mpP S X p1 p2 p3).2)) := by
  refine CE.mk rfl (Nat.le_of_ble_eq_true rfl) (fun p e s m args below meth c A Qx ls E hr hlk hnm hQ G hl => ?_)
  have hx := E.1.1
  have hb := E.1.2.1
  have hl : lv_has ls 7 [(0, .ref (q 0)), (1, .int (p1)), (2, .int (p2)), (3, .int (p3))] := hl
  refine lv_aload_n hx hb dX8_makePlan_0 rfl (lv_at hl 0 rfl) ?_
  refine lv_iload_n hx hb dX8_makePlan_1 rfl (lv_at hl 1 rfl) ?_
  rcases va_em S p1 with hv_2 | hv_2
  · skip
    refine r_V [] E G (c_X8_vanNumber_t l Z q S X p1 hI hv_2) kX8_vanNumber m_325 0 rfl rfl ⟨Nat.le_of_ble_eq_true rfl, Nat.le_of_ble_eq_true rfl⟩ hl dX8_makePlan_2 rfl rfl (Nat.le_of_ble_eq_true rfl) ⟨Nat.zero_le _, Nat.zero_le _⟩ (fun H locs G => ?_)
    refine lv_astore (lv' := [(4, .ref (q (24 + p1.toNatClampNeg))), (0, .ref (q 0)), (1, .int (p1)), (2, .int (p2)), (3, .int (p3))]) hx hb dX8_makePlan_5 hl (by decide) rfl (fun ls hl => ?_)
    refine lv_aload hx hb dX8_makePlan_7 (lv_at hl 0 rfl) ?_
    refine lv_ifnull hx hb dX8_makePlan_9 ?_
    refine lv_aload_n hx hb dX8_makePlan_12 rfl (lv_at hl 1 rfl) ?_
    refine lv_iload_n hx hb dX8_makePlan_13 rfl (lv_at hl 3 rfl) ?_
    refine r_V [] E G (c_X8_isPlace l Z q S X p2) kX8_isPlace m_385 0 rfl rfl ⟨Nat.le_of_ble_eq_true rfl, Nat.le_of_ble_eq_true rfl⟩ hl dX8_makePlan_14 rfl rfl (Nat.le_of_ble_eq_true rfl) ⟨Nat.zero_le _, Nat.zero_le _⟩ (fun H locs G => ?_)
    refine r_eqb (tgt := 31) hx hb dX8_makePlan_17 (by decide) (fun c_17 => ?_) (fun c_17 => ?_)
    · skip
      refine lv_ldc hx hb E.1.2.2.2.1 (E.1.2.2.2.2 _ m_226) dX8_makePlan_31 ?_
      have hs : (mpP S X p1 p2 p3) = ((-1000001), X) := mpP_n (by simp [mpV, okP, inr, hv_2, c_17]) (by decide)
      exact r_ret E G hr hlk hQ (by rw [hs]) (by rw [hs]) dX8_makePlan_33
    · skip
      refine lv_iload_n hx hb dX8_makePlan_20 rfl (lv_at hl 4 rfl) ?_
      refine lv_iconst (v := 1) hx hb dX8_makePlan_21 (by decide) ?_
      refine lv_icmp_lt (tgt := 31) hx hb dX8_makePlan_22 (by decide) (fun c_22 => ?_) (fun c_22 => ?_)
      · skip
        have c_22n := Int32.not_le.mpr c_22
        refine lv_ldc hx hb E.1.2.2.2.1 (E.1.2.2.2.2 _ m_226) dX8_makePlan_31 ?_
        have hs : (mpP S X p1 p2 p3) = ((-1000001), X) := mpP_n (by simp [mpV, okP, inr, hv_2, c_17, c_22, c_22n]) (by decide)
        exact r_ret E G hr hlk hQ (by rw [hs]) (by rw [hs]) dX8_makePlan_33
      · skip
        have c_22n := Int32.not_lt.mp c_22
        refine lv_iload_n hx hb dX8_makePlan_25 rfl (lv_at hl 4 rfl) ?_
        refine lv_bipush (v := 6) hx hb dX8_makePlan_26 (by decide) ?_
        refine lv_icmp_le (tgt := 34) hx hb dX8_makePlan_28 (by decide) (fun c_28 => ?_) (fun c_28 => ?_)
        · skip
          have c_28n := Int32.not_lt.mpr c_28
          refine lv_iload_n hx hb dX8_makePlan_34 rfl (lv_at hl 3 rfl) ?_
          refine r_S [] E G (c_X8_streetOf l Z q S X p2) kX8_streetOf m_389 ⟨Nat.le_of_ble_eq_true rfl, Nat.le_of_ble_eq_true rfl⟩ hl dX8_makePlan_35 rfl rfl (Nat.le_of_ble_eq_true rfl) ⟨Nat.zero_le _, Nat.zero_le _⟩ (fun H locs G => ?_)
          refine lv_istore (lv' := [(5, .int (p2 / 100)), (4, .ref (q (24 + p1.toNatClampNeg))), (0, .ref (q 0)), (1, .int (p1)), (2, .int (p2)), (3, .int (p3))]) hx hb dX8_makePlan_38 hl (by decide) rfl (fun ls hl => ?_)
          refine lv_iload_n hx hb dX8_makePlan_40 rfl (lv_at hl 4 rfl) ?_
          refine r_S [] E G (c_X8_hourOf l Z q S X p2) kX8_hourOf m_392 ⟨Nat.le_of_ble_eq_true rfl, Nat.le_of_ble_eq_true rfl⟩ hl dX8_makePlan_41 rfl rfl (Nat.le_of_ble_eq_true rfl) ⟨Nat.zero_le _, Nat.zero_le _⟩ (fun H locs G => ?_)
          refine lv_istore (lv' := [(6, .int (ho p2)), (5, .int (p2 / 100)), (4, .ref (q (24 + p1.toNatClampNeg))), (0, .ref (q 0)), (1, .int (p1)), (2, .int (p2)), (3, .int (p3))]) hx hb dX8_makePlan_44 hl (by decide) rfl (fun ls hl => ?_)
          refine lv_aload_n hx hb dX8_makePlan_46 rfl (lv_at hl 3 rfl) ?_
          refine lv_aload hx hb dX8_makePlan_47 (lv_at hl 2 rfl) ?_
          refine lv_iload hx hb dX8_makePlan_49 (lv_at hl 1 rfl) ?_
          refine lv_iload hx hb dX8_makePlan_51 (lv_at hl 0 rfl) ?_
          refine r_V [] E G (c_X8_mayStand l Z q S X (p2 / 100) (ho p2) p1 hI (hv_2) (at_st c_17)) kX8_mayStand m_349 0 rfl rfl ⟨Nat.le_of_ble_eq_true rfl, Nat.le_of_ble_eq_true rfl⟩ hl dX8_makePlan_53 rfl rfl (Nat.le_of_ble_eq_true rfl) ⟨Nat.zero_le _, Nat.zero_le _⟩ (fun H locs G => ?_)
          refine r_neb (tgt := 62) hx hb dX8_makePlan_56 (by decide) (fun c_56 => ?_) (fun c_56 => ?_)
          · skip
            refine lv_aload_n hx hb dX8_makePlan_62 rfl (lv_at hl 3 rfl) ?_
            refine gC_0_6 E G m_194 dX8_makePlan_63 ?_
            refine lv_iconst (v := 0) hx hb dX8_makePlan_66 (by decide) ?_
            refine r_Vv [] E G (c_X6_begin6 l Z q S X 0) kX6_begin m_396 6 rfl rfl ⟨Nat.le_of_ble_eq_true rfl, Nat.le_of_ble_eq_true rfl⟩ hl dX8_makePlan_67 rfl rfl (Nat.le_of_ble_eq_true rfl) ⟨Nat.zero_le _, Nat.zero_le _⟩ (fun H locs G => ?_)
            refine lv_aload_n hx hb dX8_makePlan_70 rfl (lv_at hl 3 rfl) ?_
            refine gC_0_5 E G m_193 dX8_makePlan_71 ?_
            refine lv_aload hx hb dX8_makePlan_74 (lv_at hl 2 rfl) ?_
            refine hV_0 E G (hv_2) m_299 dX8_makePlan_76 ?_
            refine r_Vv [] E G (c_X6_begin5 l Z q S (b6X X 0) (ar (s_so S) p1)) kX6_begin m_396 5 rfl rfl ⟨Nat.le_of_ble_eq_true rfl, Nat.le_of_ble_eq_true rfl⟩ hl dX8_makePlan_79 rfl rfl (Nat.le_of_ble_eq_true rfl) ⟨Nat.zero_le _, Nat.zero_le _⟩ (fun H locs G => ?_)
            refine lv_aload_n hx hb dX8_makePlan_82 rfl (lv_at hl 3 rfl) ?_
            refine lv_aload hx hb dX8_makePlan_83 (lv_at hl 2 rfl) ?_
            refine lv_iload hx hb dX8_makePlan_85 (lv_at hl 1 rfl) ?_
            refine lv_iload hx hb dX8_makePlan_87 (lv_at hl 0 rfl) ?_
            refine lv_iload hx hb dX8_makePlan_89 (lv_at hl 0 rfl) ?_
            refine lv_iload_n hx hb dX8_makePlan_91 rfl (lv_at hl 6 rfl) ?_
            refine lv_iadd hx hb dX8_makePlan_92 ?_
            refine lv_bipush (v := 12) hx hb dX8_makePlan_93 (by decide) ?_
            refine va_mmin hx hb (E.1.2.2.1.trans hl.1.symm) E.1.2.2.2.1 (E.1.2.2.2.2 _ mj_min_X8_257) (E.1.2.2.2.2 _ mj_min_st) (E.1.2.2.2.2 _ m_52) (E.1.2.2.2.2 _ mj_min_co) (Nat.le_of_ble_eq_true rfl) (Nat.le_of_ble_eq_true rfl) (Nat.zero_le _) (Nat.zero_le _) dX8_makePlan_95 ?_
            refine lv_iconst (v := 1) hx hb dX8_makePlan_98 (by decide) ?_
            refine lv_isub hx hb dX8_makePlan_99 ?_
            have hla := laH_r (at_ho c_17) (show inr p3 1 6 = true by simp [inr, c_22n, c_28])
            refine r_Vv [] E G (c_X8_explore l Z q S p1 (laH (ho p2) p3) hI hv_2 hla.1 6 (b5X (b6X X 0) (ar (s_so S) p1)) (p2 / 100) (ho p2) (at_st c_17) (at_ho c_17) (show (0 : Int32) ≤ 0 by decide) hla.2.2 hla.2.1) kX8_explore m_403 0 rfl rfl ⟨Nat.le_of_ble_eq_true rfl, Nat.le_of_ble_eq_true rfl⟩ hl dX8_makePlan_100 rfl rfl (Nat.le_of_ble_eq_true rfl) ⟨Nat.zero_le _, Nat.zero_le _⟩ (fun H locs G => ?_)
            refine lv_iconst (v := 0) hx hb dX8_makePlan_103 (by decide) ?_
            have hs : (mpP S X p1 p2 p3) = (0, exX S p1 (laH (ho p2) p3) 6 (b5X (b6X X 0) (ar (s_so S) p1)) (p2 / 100) (ho p2)) := mpP_z (by simp [mpV, okP, inr, hv_2, c_17, c_22, c_22n, c_28, c_28n, c_56])
            exact r_ret E G hr hlk hQ (by rw [hs]) (by rw [hs]) dX8_makePlan_104
          · skip
            refine lv_ldc hx hb E.1.2.2.2.1 (E.1.2.2.2.2 _ m_395) dX8_makePlan_59 ?_
            have hs : (mpP S X p1 p2 p3) = ((-1000003), X) := mpP_n (by simp [mpV, okP, inr, hv_2, c_17, c_22, c_22n, c_28, c_28n, c_56]) (by decide)
            exact r_ret E G hr hlk hQ (by rw [hs]) (by rw [hs]) dX8_makePlan_61
        · skip
          have c_28n := Int32.not_le.mp c_28
          refine lv_ldc hx hb E.1.2.2.2.1 (E.1.2.2.2.2 _ m_226) dX8_makePlan_31 ?_
          have hs : (mpP S X p1 p2 p3) = ((-1000001), X) := mpP_n (by simp [mpV, okP, inr, hv_2, c_17, c_22, c_22n, c_28, c_28n]) (by decide)
          exact r_ret E G hr hlk hQ (by rw [hs]) (by rw [hs]) dX8_makePlan_33
  · skip
    refine r_V [] E G (c_X8_vanNumber_f l Z q S X p1 hI hv_2) kX8_vanNumber m_325 0 rfl rfl ⟨Nat.le_of_ble_eq_true rfl, Nat.le_of_ble_eq_true rfl⟩ hl dX8_makePlan_2 rfl rfl (Nat.le_of_ble_eq_true rfl) ⟨Nat.zero_le _, Nat.zero_le _⟩ (fun H locs G => ?_)
    refine lv_astoreN (lv' := [(4, .null), (0, .ref (q 0)), (1, .int (p1)), (2, .int (p2)), (3, .int (p3))]) hx hb dX8_makePlan_5 hl (by decide) rfl (fun ls hl => ?_)
    refine lv_aloadN hx hb dX8_makePlan_7 (lv_at hl 0 rfl) ?_
    refine lv_ifnullN (tgt := 31) hx hb dX8_makePlan_9 (by decide) ?_
    refine lv_ldc hx hb E.1.2.2.2.1 (E.1.2.2.2.2 _ m_226) dX8_makePlan_31 ?_
    have hs : (mpP S X p1 p2 p3) = ((-1000001), X) := mpP_n (by simp [mpV, okP, inr, hv_2]) (by decide)
    exact r_ret E G hr hlk hQ (by rw [hs]) (by rw [hs]) dX8_makePlan_33
set_option maxHeartbeats 4000000 in
set_option maxRecDepth 100000 in
theorem c_X8_plan (l : Launch) (Z : ZT) (q : Nat → Nat) (S : St) (X : XC) (p1 p2 p3 : Int32) (hI : Inv S) : CT l Z yX8_plan cX8_plan 5 (some .int) 12 [.ref (q 0), .int (p1), .int (p2), .int (p3)] (CW Z q S X) (some (.int ((sp_plan S p1 p2 p3).1))) (CW Z q ((sp_plan S p1 p2 p3).2) (mpX S X p1 p2 p3)) := by
  refine CE.mk rfl (Nat.le_of_ble_eq_true rfl) (fun p e s m args below meth c A Qx ls E hr hlk hnm hQ G hl => ?_)
  have hx := E.1.1
  have hb := E.1.2.1
  have hl : lv_has ls 5 [(0, .ref (q 0)), (1, .int (p1)), (2, .int (p2)), (3, .int (p3))] := hl
  refine lv_aload_n hx hb dX8_plan_0 rfl (lv_at hl 0 rfl) ?_
  refine lv_iload_n hx hb dX8_plan_1 rfl (lv_at hl 1 rfl) ?_
  refine lv_iload_n hx hb dX8_plan_2 rfl (lv_at hl 2 rfl) ?_
  refine lv_iload_n hx hb dX8_plan_3 rfl (lv_at hl 3 rfl) ?_
  refine r_V [] E G (c_X8_makePlan l Z q S X p1 p2 p3 hI) kX8_makePlan m_381 0 rfl rfl ⟨Nat.le_of_ble_eq_true rfl, Nat.le_of_ble_eq_true rfl⟩ hl dX8_plan_4 rfl rfl (Nat.le_of_ble_eq_true rfl) ⟨Nat.zero_le _, Nat.zero_le _⟩ (fun H locs G => ?_)
  refine lv_istore (lv' := [(4, .int ((mpP S X p1 p2 p3).1)), (0, .ref (q 0)), (1, .int (p1)), (2, .int (p2)), (3, .int (p3))]) hx hb dX8_plan_7 hl (by decide) rfl (fun ls hl => ?_)
  refine lv_iload hx hb dX8_plan_9 (lv_at hl 0 rfl) ?_
  refine lv_if_eq (tgt := 21) hx hb dX8_plan_11 (by decide) (fun c_11 => ?_) (fun c_11 => ?_)
  · skip
    refine lv_aload_n hx hb dX8_plan_21 rfl (lv_at hl 1 rfl) ?_
    refine gC_0_6 E G m_194 dX8_plan_22 ?_
    refine gC_6_4 E G m_124 dX8_plan_25 ?_
    have hs : (sp_plan S p1 p2 p3) = (x_bl ((mpP S X p1 p2 p3).2), S) := (pl_v (X := X) c_11).1
    have hsX : (mpX S X p1 p2 p3) = (mpP S X p1 p2 p3).2 := rfl
    exact r_ret E G hr hlk hQ (by rw [hs]) (by rw [hs, hsX]) dX8_plan_28
  · skip
    refine lv_aload_n hx hb dX8_plan_14 rfl (lv_at hl 1 rfl) ?_
    refine lv_iload hx hb dX8_plan_15 (lv_at hl 0 rfl) ?_
    refine r_V [] E G (c_X8_finding l Z q S ((mpP S X p1 p2 p3).2) ((mpP S X p1 p2 p3).1) (mpV_f c_11)) kX8_finding m_227 0 rfl rfl ⟨Nat.le_of_ble_eq_true rfl, Nat.le_of_ble_eq_true rfl⟩ hl dX8_plan_17 rfl rfl (Nat.le_of_ble_eq_true rfl) ⟨Nat.zero_le _, Nat.zero_le _⟩ (fun H locs G => ?_)
    have hs : (sp_plan S p1 p2 p3) = ((fnd S ((mpP S X p1 p2 p3).1)).1, (fnd S ((mpP S X p1 p2 p3).1)).2) := (pl_f c_11).1
    have hsX : (mpX S X p1 p2 p3) = (mpP S X p1 p2 p3).2 := rfl
    exact r_ret E G hr hlk hQ (by rw [hs]) (by rw [hs, hsX]) dX8_plan_20
set_option maxHeartbeats 4000000 in
set_option maxRecDepth 100000 in
theorem c_X8_left (l : Launch) (Z : ZT) (q : Nat → Nat) (S : St) (X : XC) (p1 p2 p3 : Int32) (hI : Inv S) : CT l Z yX8_left cX8_left 5 (some .int) 12 [.ref (q 0), .int (p1), .int (p2), .int (p3)] (CW Z q S X) (some (.int ((sp_left S p1 p2 p3).1))) (CW Z q ((sp_left S p1 p2 p3).2) (mpX S X p1 p2 p3)) := by
  refine CE.mk rfl (Nat.le_of_ble_eq_true rfl) (fun p e s m args below meth c A Qx ls E hr hlk hnm hQ G hl => ?_)
  have hx := E.1.1
  have hb := E.1.2.1
  have hl : lv_has ls 5 [(0, .ref (q 0)), (1, .int (p1)), (2, .int (p2)), (3, .int (p3))] := hl
  refine lv_aload_n hx hb dX8_left_0 rfl (lv_at hl 0 rfl) ?_
  refine lv_iload_n hx hb dX8_left_1 rfl (lv_at hl 1 rfl) ?_
  refine lv_iload_n hx hb dX8_left_2 rfl (lv_at hl 2 rfl) ?_
  refine lv_iload_n hx hb dX8_left_3 rfl (lv_at hl 3 rfl) ?_
  refine r_V [] E G (c_X8_makePlan l Z q S X p1 p2 p3 hI) kX8_makePlan m_381 0 rfl rfl ⟨Nat.le_of_ble_eq_true rfl, Nat.le_of_ble_eq_true rfl⟩ hl dX8_left_4 rfl rfl (Nat.le_of_ble_eq_true rfl) ⟨Nat.zero_le _, Nat.zero_le _⟩ (fun H locs G => ?_)
  refine lv_istore (lv' := [(4, .int ((mpP S X p1 p2 p3).1)), (0, .ref (q 0)), (1, .int (p1)), (2, .int (p2)), (3, .int (p3))]) hx hb dX8_left_7 hl (by decide) rfl (fun ls hl => ?_)
  refine lv_iload hx hb dX8_left_9 (lv_at hl 0 rfl) ?_
  refine lv_if_eq (tgt := 21) hx hb dX8_left_11 (by decide) (fun c_11 => ?_) (fun c_11 => ?_)
  · skip
    refine lv_aload_n hx hb dX8_left_21 rfl (lv_at hl 1 rfl) ?_
    refine gC_0_6 E G m_194 dX8_left_22 ?_
    refine gC_6_3 E G m_122 dX8_left_25 ?_
    have hs : (sp_left S p1 p2 p3) = (x_bk ((mpP S X p1 p2 p3).2), S) := (pl_v (X := X) c_11).2
    have hsX : (mpX S X p1 p2 p3) = (mpP S X p1 p2 p3).2 := rfl
    exact r_ret E G hr hlk hQ (by rw [hs]) (by rw [hs, hsX]) dX8_left_28
  · skip
    refine lv_aload_n hx hb dX8_left_14 rfl (lv_at hl 1 rfl) ?_
    refine lv_iload hx hb dX8_left_15 (lv_at hl 0 rfl) ?_
    refine r_V [] E G (c_X8_finding l Z q S ((mpP S X p1 p2 p3).2) ((mpP S X p1 p2 p3).1) (mpV_f c_11)) kX8_finding m_227 0 rfl rfl ⟨Nat.le_of_ble_eq_true rfl, Nat.le_of_ble_eq_true rfl⟩ hl dX8_left_17 rfl rfl (Nat.le_of_ble_eq_true rfl) ⟨Nat.zero_le _, Nat.zero_le _⟩ (fun H locs G => ?_)
    have hs : (sp_left S p1 p2 p3) = ((fnd S ((mpP S X p1 p2 p3).1)).1, (fnd S ((mpP S X p1 p2 p3).1)).2) := (pl_f c_11).2.1
    have hsX : (mpX S X p1 p2 p3) = (mpP S X p1 p2 p3).2 := rfl
    exact r_ret E G hr hlk hQ (by rw [hs]) (by rw [hs, hsX]) dX8_left_20
set_option maxHeartbeats 4000000 in
set_option maxRecDepth 100000 in
theorem c_X8_stop (l : Launch) (Z : ZT) (q : Nat → Nat) (S : St) (X : XC) (p1 p2 p3 p4 : Int32) (hI : Inv S) : CT l Z yX8_stop cX8_stop 6 (some .int) 12 [.ref (q 0), .int (p1), .int (p2), .int (p3), .int (p4)] (CW Z q S X) (some (.int ((sp_stop S p1 p2 p3 p4).1))) (CW Z q ((sp_stop S p1 p2 p3 p4).2) (mpX S X p1 p2 p3)) := by
  refine CE.mk rfl (Nat.le_of_ble_eq_true rfl) (fun p e s m args below meth c A Qx ls E hr hlk hnm hQ G hl => ?_)
  have hx := E.1.1
  have hb := E.1.2.1
  have hl : lv_has ls 6 [(0, .ref (q 0)), (1, .int (p1)), (2, .int (p2)), (3, .int (p3)), (4, .int (p4))] := hl
  refine lv_aload_n hx hb dX8_stop_0 rfl (lv_at hl 0 rfl) ?_
  refine lv_iload_n hx hb dX8_stop_1 rfl (lv_at hl 1 rfl) ?_
  refine lv_iload_n hx hb dX8_stop_2 rfl (lv_at hl 2 rfl) ?_
  refine lv_iload_n hx hb dX8_stop_3 rfl (lv_at hl 3 rfl) ?_
  refine r_V [] E G (c_X8_makePlan l Z q S X p1 p2 p3 hI) kX8_makePlan m_381 0 rfl rfl ⟨Nat.le_of_ble_eq_true rfl, Nat.le_of_ble_eq_true rfl⟩ hl dX8_stop_4 rfl rfl (Nat.le_of_ble_eq_true rfl) ⟨Nat.zero_le _, Nat.zero_le _⟩ (fun H locs G => ?_)
  refine lv_istore (lv' := [(5, .int ((mpP S X p1 p2 p3).1)), (0, .ref (q 0)), (1, .int (p1)), (2, .int (p2)), (3, .int (p3)), (4, .int (p4))]) hx hb dX8_stop_7 hl (by decide) rfl (fun ls hl => ?_)
  refine lv_iload hx hb dX8_stop_9 (lv_at hl 0 rfl) ?_
  refine lv_if_eq (tgt := 21) hx hb dX8_stop_11 (by decide) (fun c_11 => ?_) (fun c_11 => ?_)
  · skip
    refine lv_aload_n hx hb dX8_stop_21 rfl (lv_at hl 1 rfl) ?_
    refine gC_0_6 E G m_194 dX8_stop_22 ?_
    refine lv_iload hx hb dX8_stop_25 (lv_at hl 5 rfl) ?_
    refine r_V [] E G (c_X6_has l Z q S ((mpP S X p1 p2 p3).2) p4) kX6_has m_466 6 rfl rfl ⟨Nat.le_of_ble_eq_true rfl, Nat.le_of_ble_eq_true rfl⟩ hl dX8_stop_27 rfl rfl (Nat.le_of_ble_eq_true rfl) ⟨Nat.zero_le _, Nat.zero_le _⟩ (fun H locs G => ?_)
    refine r_neb (tgt := 40) hx hb dX8_stop_30 (by decide) (fun c_30 => ?_) (fun c_30 => ?_)
    · skip
      refine lv_bipush (v := 100) hx hb dX8_stop_40 (by decide) ?_
      refine lv_aload_n hx hb dX8_stop_42 rfl (lv_at hl 1 rfl) ?_
      refine gC_0_6 E G m_194 dX8_stop_43 ?_
      refine gC_6_0 E G m_116 dX8_stop_46 ?_
      refine lv_iload hx hb dX8_stop_49 (lv_at hl 5 rfl) ?_
      refine aC_15 E G (ix_mp (X := X) c_11 c_30) dX8_stop_51 ?_
      refine lv_imul hx hb dX8_stop_52 ?_
      refine lv_aload_n hx hb dX8_stop_53 rfl (lv_at hl 1 rfl) ?_
      refine gC_0_6 E G m_194 dX8_stop_54 ?_
      refine gC_6_1 E G m_118 dX8_stop_57 ?_
      refine lv_iload hx hb dX8_stop_60 (lv_at hl 5 rfl) ?_
      refine aC_16 E G (ix_mp (X := X) c_11 c_30) dX8_stop_62 ?_
      refine lv_iadd hx hb dX8_stop_63 ?_
      have hs : (sp_stop S p1 p2 p3 p4) = ((100 * (ar (x_bs ((mpP S X p1 p2 p3).2)) p4)) + (ar (x_bh ((mpP S X p1 p2 p3).2)) p4), S) := sp_t (X := X) c_11 c_30
      have hsX : (mpX S X p1 p2 p3) = (mpP S X p1 p2 p3).2 := rfl
      exact r_ret E G hr hlk hQ (by rw [hs]) (by rw [hs, hsX]) dX8_stop_64
    · skip
      refine lv_aload_n hx hb dX8_stop_33 rfl (lv_at hl 1 rfl) ?_
      refine lv_ldc hx hb E.1.2.2.2.1 (E.1.2.2.2.2 _ m_470) dX8_stop_34 ?_
      refine r_V [] E G (c_X8_finding l Z q S ((mpP S X p1 p2 p3).2) (-1000002) (by decide)) kX8_finding m_227 0 rfl rfl ⟨Nat.le_of_ble_eq_true rfl, Nat.le_of_ble_eq_true rfl⟩ hl dX8_stop_36 rfl rfl (Nat.le_of_ble_eq_true rfl) ⟨Nat.zero_le _, Nat.zero_le _⟩ (fun H locs G => ?_)
      have hs : (sp_stop S p1 p2 p3 p4) = ((fnd S (-1000002)).1, (fnd S (-1000002)).2) := sp_f (X := X) c_11 c_30
      have hsX : (mpX S X p1 p2 p3) = (mpP S X p1 p2 p3).2 := rfl
      exact r_ret E G hr hlk hQ (by rw [hs]) (by rw [hs, hsX]) dX8_stop_39
  · skip
    refine lv_aload_n hx hb dX8_stop_14 rfl (lv_at hl 1 rfl) ?_
    refine lv_iload hx hb dX8_stop_15 (lv_at hl 0 rfl) ?_
    refine r_V [] E G (c_X8_finding l Z q S ((mpP S X p1 p2 p3).2) ((mpP S X p1 p2 p3).1) (mpV_f c_11)) kX8_finding m_227 0 rfl rfl ⟨Nat.le_of_ble_eq_true rfl, Nat.le_of_ble_eq_true rfl⟩ hl dX8_stop_17 rfl rfl (Nat.le_of_ble_eq_true rfl) ⟨Nat.zero_le _, Nat.zero_le _⟩ (fun H locs G => ?_)
    have hs : (sp_stop S p1 p2 p3 p4) = ((fnd S ((mpP S X p1 p2 p3).1)).1, (fnd S ((mpP S X p1 p2 p3).1)).2) := (pl_f c_11).2.2 _
    have hsX : (mpX S X p1 p2 p3) = (mpP S X p1 p2 p3).2 := rfl
    exact r_ret E G hr hlk hQ (by rw [hs]) (by rw [hs, hsX]) dX8_stop_20
set_option maxHeartbeats 4000000 in
set_option maxRecDepth 100000 in
theorem c_X8_goesOn (l : Launch) (Z : ZT) (q : Nat → Nat) (S : St) (X : XC) (p1 p2 : Int32) (v : Int32) (t : RL) (so st : Int32) (hI : Inv S) (hv : isVa S v = true) (h1 : isSt S p1 = true) (hT : TR X t so st) (hO : okT S t) (h12 : t.length ≤ 12) : CT l Z yX8_goesOn cX8_goesOn 5 (some .boolean) 4 [.ref (q 0), .ref (q (24 + v.toNatClampNeg)), .int (p1), .int (p2)] (CW Z q S X) (some (.int (b01 (may S v p1 p2 && goL S v t p1 p2)))) (CW Z q S X) := by
  refine CE.mk rfl (Nat.le_of_ble_eq_true rfl) (fun p e s m args below meth c A Qx ls E hr hlk hnm hQ G hl => ?_)
  have hx := E.1.1
  have hb := E.1.2.1
  have hl : lv_has ls 5 [(0, .ref (q 0)), (1, .ref (q (24 + v.toNatClampNeg))), (2, .int (p1)), (3, .int (p2))] := hl
  refine lv_aload_n hx hb dX8_goesOn_0 rfl (lv_at hl 0 rfl) ?_
  refine lv_aload_n hx hb dX8_goesOn_1 rfl (lv_at hl 1 rfl) ?_
  refine lv_iload_n hx hb dX8_goesOn_2 rfl (lv_at hl 2 rfl) ?_
  refine lv_iload_n hx hb dX8_goesOn_3 rfl (lv_at hl 3 rfl) ?_
  refine r_V [] E G (c_X8_mayStand l Z q S X p1 p2 v hI (hv) h1) kX8_mayStand m_349 0 rfl rfl ⟨Nat.le_of_ble_eq_true rfl, Nat.le_of_ble_eq_true rfl⟩ hl dX8_goesOn_4 rfl rfl (Nat.le_of_ble_eq_true rfl) ⟨Nat.zero_le _, Nat.zero_le _⟩ (fun H locs G => ?_)
  refine r_neb (tgt := 12) hx hb dX8_goesOn_7 (by decide) (fun c_7 => ?_) (fun c_7 => ?_)
  · skip
    refine lv_aload_n hx hb dX8_goesOn_12 rfl (lv_at hl 0 rfl) ?_
    refine gC_0_5 E G m_193 dX8_goesOn_13 ?_
    refine gC_5_2 E G m_120 dX8_goesOn_16 ?_
    refine lv_iconst (v := 1) hx hb dX8_goesOn_19 (by decide) ?_
    refine lv_isub hx hb dX8_goesOn_20 ?_
    refine lv_istore (lv' := [(4, .int ((x_tn X) - 1)), (0, .ref (q 0)), (1, .ref (q (24 + v.toNatClampNeg))), (2, .int (p1)), (3, .int (p2))]) hx hb dX8_goesOn_21 hl (by decide) rfl (fun ls hl => ?_)
    refine lv_iload hx hb dX8_goesOn_23 (lv_at hl 0 rfl) ?_
    refine lv_if_lt (tgt := 59) hx hb dX8_goesOn_25 (by decide) (fun c_25 => ?_) (fun c_25 => ?_)
    · skip
      have c_25n := Int32.not_le.mpr c_25
      have ht := TR_nil hT h12 c_25
      refine lv_iconst (v := 1) hx hb dX8_goesOn_59 (by decide) ?_
      refine lv_goto (tgt := 64) hx hb dX8_goesOn_60 (by decide) ?_
      have hs : (may S v p1 p2 && goL S v t p1 p2) = true := by first | (rw [c_7, ht]; rfl) | (rw [c_7, ht]; rw [hs0, hh0] at c_56; simp [goL, c_56])
      exact r_retz E G hr hlk hQ (by decide) (congrArg (fun t => some (Value.int (b01 t))) hs) rfl dX8_goesOn_64
    · skip
      have c_25n := Int32.not_lt.mp c_25
      obtain ⟨p0, t0, ht, hix, hs0, hh0⟩ := TR_last hT h12 c_25
      have hst0 : isSt S (ar (x_ts X) (x_tn X - 1)) = true := by rw [hs0]; exact hO p0 (by rw [ht]; exact List.mem_cons_self)
      refine lv_iload_n hx hb dX8_goesOn_28 rfl (lv_at hl 4 rfl) ?_
      refine lv_aload_n hx hb dX8_goesOn_29 rfl (lv_at hl 1 rfl) ?_
      refine gC_0_5 E G m_193 dX8_goesOn_30 ?_
      refine gC_5_1 E G m_118 dX8_goesOn_33 ?_
      refine lv_iload hx hb dX8_goesOn_36 (lv_at hl 0 rfl) ?_
      refine aC_14 E G (hix) dX8_goesOn_38 ?_
      refine lv_aload_n hx hb dX8_goesOn_39 rfl (lv_at hl 1 rfl) ?_
      refine lv_aload_n hx hb dX8_goesOn_40 rfl (lv_at hl 2 rfl) ?_
      refine lv_aload_n hx hb dX8_goesOn_41 rfl (lv_at hl 1 rfl) ?_
      refine gC_0_5 E G m_193 dX8_goesOn_42 ?_
      refine gC_5_0 E G m_116 dX8_goesOn_45 ?_
      refine lv_iload hx hb dX8_goesOn_48 (lv_at hl 0 rfl) ?_
      refine aC_13 E G (hix) dX8_goesOn_50 ?_
      refine lv_iload_n hx hb dX8_goesOn_51 rfl (lv_at hl 3 rfl) ?_
      refine r_V [.int (ar (x_th X) ((x_tn X) - 1)), .int (p2)] E G (c_X8_hoursBetween l Z q S X (ar (x_ts X) ((x_tn X) - 1)) p1 v hI (hv) hst0 h1) kX8_hoursBetween m_445 0 rfl rfl ⟨Nat.le_of_ble_eq_true rfl, Nat.le_of_ble_eq_true rfl⟩ hl dX8_goesOn_52 rfl rfl (Nat.le_of_ble_eq_true rfl) ⟨Nat.zero_le _, Nat.zero_le _⟩ (fun H locs G => ?_)
      refine lv_iadd hx hb dX8_goesOn_55 ?_
      refine lv_icmp_ne (tgt := 63) hx hb dX8_goesOn_56 (by decide) (fun c_56 => ?_) (fun c_56 => ?_)
      · skip
        refine lv_iconst (v := 0) hx hb dX8_goesOn_63 (by decide) ?_
        have hs : (may S v p1 p2 && goL S v t p1 p2) = false := by first | (rw [c_7, ht]; rfl) | (rw [c_7, ht]; rw [hs0, hh0] at c_56; simp [goL, c_56])
        exact r_retz E G hr hlk hQ (by decide) (congrArg (fun t => some (Value.int (b01 t))) hs) rfl dX8_goesOn_64
      · skip
        refine lv_iconst (v := 1) hx hb dX8_goesOn_59 (by decide) ?_
        refine lv_goto (tgt := 64) hx hb dX8_goesOn_60 (by decide) ?_
        have hs : (may S v p1 p2 && goL S v t p1 p2) = true := by first | (rw [c_7, ht]; rfl) | (rw [c_7, ht]; rw [hs0, hh0] at c_56; simp [goL, c_56])
        exact r_retz E G hr hlk hQ (by decide) (congrArg (fun t => some (Value.int (b01 t))) hs) rfl dX8_goesOn_64
  · skip
    refine lv_iconst (v := 0) hx hb dX8_goesOn_10 (by decide) ?_
    have hs : (may S v p1 p2 && goL S v t p1 p2) = false := by rw [c_7]; rfl
    exact r_retz E G hr hlk hQ (by decide) (congrArg (fun t => some (Value.int (b01 t))) hs) rfl dX8_goesOn_11
set_option maxHeartbeats 4000000 in
set_option maxRecDepth 100000 in
theorem c_X8_walkTold (l : Launch) (Z : ZT) (q : Nat → Nat) (S : St) (X : XC) (p1 : Int32) (v : Int32) (hI : Inv S) (hv : isVa S v = true) (h0 : 0 ≤ p1) (h12 : p1 ≤ 12) : CT l Z yX8_walkTold cX8_walkTold 5 (some .boolean) 5 [.ref (q 0), .ref (q (24 + v.toNatClampNeg)), .int (p1)] (CW Z q S X) (some (.int (b01 ((wkP S v X p1.toNatClampNeg).1)))) (CW Z q (S) ((wkP S v X p1.toNatClampNeg).2)) := by
  refine CE.mk rfl (Nat.le_of_ble_eq_true rfl) (fun p e s m args below meth c A Qx ls E hr hlk hnm hQ G hl => ?_)
  have hx := E.1.1
  have hb := E.1.2.1
  have hl : lv_has ls 5 [(0, .ref (q 0)), (1, .ref (q (24 + v.toNatClampNeg))), (2, .int (p1))] := hl
  have hN : p1.toNatClampNeg ≤ 12 := cl_le h0 (by have := (i_le _ _).mp h12; have e := e_lit; omega)
  refine lv_aload_n hx hb dX8_walkTold_0 rfl (lv_at hl 0 rfl) ?_
  refine gC_0_5 E G m_193 dX8_walkTold_1 ?_
  refine lv_aload_n hx hb dX8_walkTold_4 rfl (lv_at hl 1 rfl) ?_
  refine hV_0 E G (hv) m_299 dX8_walkTold_5 ?_
  refine r_Vv [] E G (c_X6_begin5 l Z q S X (ar (s_so S) v)) kX6_begin m_396 5 rfl rfl ⟨Nat.le_of_ble_eq_true rfl, Nat.le_of_ble_eq_true rfl⟩ hl dX8_walkTold_8 rfl rfl (Nat.le_of_ble_eq_true rfl) ⟨Nat.zero_le _, Nat.zero_le _⟩ (fun H locs G => ?_)
  refine lv_iconst (v := 0) hx hb dX8_walkTold_11 (by decide) ?_
  refine lv_istore_n (lv' := [(3, .int (0)), (0, .ref (q 0)), (1, .ref (q (24 + v.toNatClampNeg))), (2, .int (p1))]) hx hb dX8_walkTold_12 rfl hl (by decide) rfl (fun ls hl => ?_)
  have L13 : ∀ k : Nat, k ≤ p1.toNatClampNeg → (∀ (H : Heap) (locs : List Loc) (ls : Array Slot), wkI S v X k → GW Z (CW Z q (S) (wkX S v X k)) A s.heap H locs → lv_has ls 5 [(0, .ref (q 0)), (1, .ref (q (24 + v.toNatClampNeg))), (2, .int (p1)), (3, .int (nI k))] → W p l e (rmk 5 0 0) s m args below meth c H locs 0 0 Qx (F0 m 13 ls [])) := by
    refine up_in2 (P := fun k => (∀ (H : Heap) (locs : List Loc) (ls : Array Slot), wkI S v X k → GW Z (CW Z q (S) (wkX S v X k)) A s.heap H locs → lv_has ls 5 [(0, .ref (q 0)), (1, .ref (q (24 + v.toNatClampNeg))), (2, .int (p1)), (3, .int (nI k))] → W p l e (rmk 5 0 0) s m args below meth c H locs 0 0 Qx (F0 m 13 ls []))) (p1.toNatClampNeg) ?_
    intro k hkk ih13 H locs ls hB G hl
    refine lv_iload_n hx hb dX8_walkTold_13 rfl (lv_at hl 3 rfl) ?_
    refine lv_iload_n hx hb dX8_walkTold_14 rfl (lv_at hl 2 rfl) ?_
    refine lv_icmp_ge (tgt := 106) hx hb dX8_walkTold_15 (by decide) (fun c_15 => ?_) (fun c_15 => ?_)
    · skip
      have c_15n := Int32.not_lt.mpr c_15
      refine lv_iconst (v := 1) hx hb dX8_walkTold_106 (by decide) ?_
      have hs : (wkP S v X p1.toNatClampNeg) = (true, wkX S v X k) := by obtain ⟨B, hB1, -⟩ := hB; unfold wkP; rw [← lp_eq h0 hkk c_15, hB1]; rfl
      exact r_retz E G hr hlk hQ (by decide) (by rw [hs]; rfl) (by rw [hs]) dX8_walkTold_107
    · skip
      have c_15n := Int32.not_le.mp c_15
      have hkN := lp_lt h0 hkk c_15
      obtain ⟨B, hB1, hB2, hB3⟩ := hB
      have hlen := wkL_len hB1
      have htn : x_tn (wkX S v X k) = nI k := by rw [hB2.1, hlen]
      refine lv_aload_n hx hb dX8_walkTold_18 rfl (lv_at hl 0 rfl) ?_
      refine gC_0_9 E G m_197 dX8_walkTold_19 ?_
      refine lv_iload_n hx hb dX8_walkTold_22 rfl (lv_at hl 3 rfl) ?_
      refine aC_9 E G (ix_k hkN hN (by decide)) dX8_walkTold_23 ?_
      refine lv_istore (lv' := [(4, .int (ar (s_wt S) (nI k))), (0, .ref (q 0)), (1, .ref (q (24 + v.toNatClampNeg))), (2, .int (p1)), (3, .int (nI k))]) hx hb dX8_walkTold_24 hl (by decide) rfl (fun ls hl => ?_)
      refine lv_aload_n hx hb dX8_walkTold_26 rfl (lv_at hl 1 rfl) ?_
      refine gC_0_5 E G m_193 dX8_walkTold_27 ?_
      refine r_V [] E G (c_X6_isFull l Z q S (wkX S v X k)) kX6_isFull m_407 5 rfl rfl ⟨Nat.le_of_ble_eq_true rfl, Nat.le_of_ble_eq_true rfl⟩ hl dX8_walkTold_30 rfl rfl (Nat.le_of_ble_eq_true rfl) ⟨Nat.zero_le _, Nat.zero_le _⟩ (fun H locs G => ?_)
      refine r_neb (tgt := 63) hx hb dX8_walkTold_33 (by decide) (fun c_33 => ?_) (fun c_33 => ?_)
      · skip
        have c_33d := of_decide_eq_true c_33
        exact absurd (of_decide_eq_true c_33) (by rw [htn]; exact nI_ge (a := k) (b := 12) (by omega) (by decide))
      · skip
        have c_33d := of_decide_eq_false c_33
        refine lv_aload_n hx hb dX8_walkTold_36 rfl (lv_at hl 1 rfl) ?_
        refine lv_iload hx hb dX8_walkTold_37 (lv_at hl 0 rfl) ?_
        refine r_V [] E G (c_X8_isPlace l Z q S (wkX S v X k) (ar (s_wt S) (nI k))) kX8_isPlace m_385 0 rfl rfl ⟨Nat.le_of_ble_eq_true rfl, Nat.le_of_ble_eq_true rfl⟩ hl dX8_walkTold_39 rfl rfl (Nat.le_of_ble_eq_true rfl) ⟨Nat.zero_le _, Nat.zero_le _⟩ (fun H locs G => ?_)
        refine r_eqb (tgt := 63) hx hb dX8_walkTold_42 (by decide) (fun c_42 => ?_) (fun c_42 => ?_)
        · skip
          refine lv_iconst (v := 0) hx hb dX8_walkTold_63 (by decide) ?_
          have hs : (wkP S v X p1.toNatClampNeg) = (false, wkX S v X k) := by first | exact wkP_f hB1 (wkS_1 c_42) hkN | exact wkP_f hB1 (wkS_2 c_60) hkN
          exact r_retz E G hr hlk hQ (by decide) (by rw [hs]; rfl) (by rw [hs]) dX8_walkTold_64
        · skip
          refine lv_aload_n hx hb dX8_walkTold_45 rfl (lv_at hl 1 rfl) ?_
          refine lv_aload_n hx hb dX8_walkTold_46 rfl (lv_at hl 2 rfl) ?_
          refine lv_iload hx hb dX8_walkTold_47 (lv_at hl 0 rfl) ?_
          refine r_S [.ref (q (24 + v.toNatClampNeg)), .ref (q 0)] E G (c_X8_streetOf l Z q S (wkX S v X k) (ar (s_wt S) (nI k))) kX8_streetOf m_389 ⟨Nat.le_of_ble_eq_true rfl, Nat.le_of_ble_eq_true rfl⟩ hl dX8_walkTold_49 rfl rfl (Nat.le_of_ble_eq_true rfl) ⟨Nat.zero_le _, Nat.zero_le _⟩ (fun H locs G => ?_)
          refine lv_iload hx hb dX8_walkTold_52 (lv_at hl 0 rfl) ?_
          refine r_S [.int ((ar (s_wt S) (nI k)) / 100), .ref (q (24 + v.toNatClampNeg)), .ref (q 0)] E G (c_X8_hourOf l Z q S (wkX S v X k) (ar (s_wt S) (nI k))) kX8_hourOf m_392 ⟨Nat.le_of_ble_eq_true rfl, Nat.le_of_ble_eq_true rfl⟩ hl dX8_walkTold_54 rfl rfl (Nat.le_of_ble_eq_true rfl) ⟨Nat.zero_le _, Nat.zero_le _⟩ (fun H locs G => ?_)
          refine r_V [] E G (c_X8_goesOn l Z q S (wkX S v X k) ((ar (s_wt S) (nI k)) / 100) (ho (ar (s_wt S) (nI k))) v B.1 B.2.1 B.2.2 hI (hv) (at_st c_42) (hB2) (hB3) (by rw [hlen]; omega)) kX8_goesOn m_611 0 rfl rfl ⟨Nat.le_of_ble_eq_true rfl, Nat.le_of_ble_eq_true rfl⟩ hl dX8_walkTold_57 rfl rfl (Nat.le_of_ble_eq_true rfl) ⟨Nat.zero_le _, Nat.zero_le _⟩ (fun H locs G => ?_)
          refine r_neb (tgt := 65) hx hb dX8_walkTold_60 (by decide) (fun c_60 => ?_) (fun c_60 => ?_)
          · skip
            refine lv_aload_n hx hb dX8_walkTold_65 rfl (lv_at hl 1 rfl) ?_
            refine gC_0_5 E G m_193 dX8_walkTold_66 ?_
            refine lv_aload_n hx hb dX8_walkTold_69 rfl (lv_at hl 2 rfl) ?_
            refine lv_iload hx hb dX8_walkTold_70 (lv_at hl 0 rfl) ?_
            refine r_S [.ref (q (24 + v.toNatClampNeg)), .ref (q 5)] E G (c_X8_streetOf l Z q S (wkX S v X k) (ar (s_wt S) (nI k))) kX8_streetOf m_389 ⟨Nat.le_of_ble_eq_true rfl, Nat.le_of_ble_eq_true rfl⟩ hl dX8_walkTold_72 rfl rfl (Nat.le_of_ble_eq_true rfl) ⟨Nat.zero_le _, Nat.zero_le _⟩ (fun H locs G => ?_)
            refine lv_iload hx hb dX8_walkTold_75 (lv_at hl 0 rfl) ?_
            refine r_S [.int ((ar (s_wt S) (nI k)) / 100), .ref (q (24 + v.toNatClampNeg)), .ref (q 5)] E G (c_X8_hourOf l Z q S (wkX S v X k) (ar (s_wt S) (nI k))) kX8_hourOf m_392 ⟨Nat.le_of_ble_eq_true rfl, Nat.le_of_ble_eq_true rfl⟩ hl dX8_walkTold_77 rfl rfl (Nat.le_of_ble_eq_true rfl) ⟨Nat.zero_le _, Nat.zero_le _⟩ (fun H locs G => ?_)
            refine lv_aload_n hx hb dX8_walkTold_80 rfl (lv_at hl 1 rfl) ?_
            refine gC_0_1 E G m_189 dX8_walkTold_81 ?_
            refine lv_iload hx hb dX8_walkTold_84 (lv_at hl 0 rfl) ?_
            refine r_S [.ref (q 2), .int (ho (ar (s_wt S) (nI k))), .int ((ar (s_wt S) (nI k)) / 100), .ref (q (24 + v.toNatClampNeg)), .ref (q 5)] E G (c_X8_streetOf l Z q S (wkX S v X k) (ar (s_wt S) (nI k))) kX8_streetOf m_389 ⟨Nat.le_of_ble_eq_true rfl, Nat.le_of_ble_eq_true rfl⟩ hl dX8_walkTold_86 rfl rfl (Nat.le_of_ble_eq_true rfl) ⟨Nat.zero_le _, Nat.zero_le _⟩ (fun H locs G => ?_)
            refine lv_iload hx hb dX8_walkTold_89 (lv_at hl 0 rfl) ?_
            refine r_S [.int ((ar (s_wt S) (nI k)) / 100), .ref (q 2), .int (ho (ar (s_wt S) (nI k))), .int ((ar (s_wt S) (nI k)) / 100), .ref (q (24 + v.toNatClampNeg)), .ref (q 5)] E G (c_X8_hourOf l Z q S (wkX S v X k) (ar (s_wt S) (nI k))) kX8_hourOf m_392 ⟨Nat.le_of_ble_eq_true rfl, Nat.le_of_ble_eq_true rfl⟩ hl dX8_walkTold_91 rfl rfl (Nat.le_of_ble_eq_true rfl) ⟨Nat.zero_le _, Nat.zero_le _⟩ (fun H locs G => ?_)
            refine r_V [.int (ho (ar (s_wt S) (nI k))), .int ((ar (s_wt S) (nI k)) / 100), .ref (q (24 + v.toNatClampNeg)), .ref (q 5)] E G (c_X5_worthAt l Z q S (wkX S v X k) ((ar (s_wt S) (nI k)) / 100) (ho (ar (s_wt S) (nI k))) hI (at_st c_42) (at_ho c_42)) kX5_worthAt m_372 2 rfl rfl ⟨Nat.le_of_ble_eq_true rfl, Nat.le_of_ble_eq_true rfl⟩ hl dX8_walkTold_94 rfl rfl (Nat.le_of_ble_eq_true rfl) ⟨Nat.zero_le _, Nat.zero_le _⟩ (fun H locs G => ?_)
            refine r_Vv [] E G (c_X6_standIn l Z q S (wkX S v X k) ((ar (s_wt S) (nI k)) / 100) (ho (ar (s_wt S) (nI k))) (wor S ((ar (s_wt S) (nI k)) / 100) (ho (ar (s_wt S) (nI k)))) v (hv) (by rw [htn]; exact nI_pos' (by omega)) (by rw [htn]; exact nI_lt (a := k) (b := 12) (by omega) (by decide))) kX6_standIn m_411 5 rfl rfl ⟨Nat.le_of_ble_eq_true rfl, Nat.le_of_ble_eq_true rfl⟩ hl dX8_walkTold_97 rfl rfl (Nat.le_of_ble_eq_true rfl) ⟨Nat.zero_le _, Nat.zero_le _⟩ (fun H locs G => ?_)
            refine lv_iinc (v := (nI k) + 1) (lv' := [(3, .int ((nI k) + 1)), (4, .int (ar (s_wt S) (nI k))), (0, .ref (q 0)), (1, .ref (q (24 + v.toNatClampNeg))), (2, .int (p1))]) hx hb dX8_walkTold_100 hl (k := 4) rfl rfl (by decide) rfl (fun ls hl => ?_)
            refine lv_goto (tgt := 13) hx hb dX8_walkTold_103 (by decide) ?_
            exact ih13 (lp_lt h0 hkk c_15) _ _ _ (wkI_s (by omega) hB1 hB2 hB3 c_42 c_60) (GW.cast (congrArg (fun T => CW Z q S T) (wkX_t hB1 (wkS_t c_42 c_60))) G) (lv_cast (lv_sub (l' := [(0, .ref (q 0)), (1, .ref (q (24 + v.toNatClampNeg))), (2, .int (p1)), (3, .int ((nI k) + 1))]) hl [2, 3, 4, 0] rfl) (by rw [nI_1]))
          · skip
            refine lv_iconst (v := 0) hx hb dX8_walkTold_63 (by decide) ?_
            have hs : (wkP S v X p1.toNatClampNeg) = (false, wkX S v X k) := by first | exact wkP_f hB1 (wkS_1 c_42) hkN | exact wkP_f hB1 (wkS_2 c_60) hkN
            exact r_retz E G hr hlk hQ (by decide) (by rw [hs]; rfl) (by rw [hs]) dX8_walkTold_64
  exact L13 0 (Nat.zero_le _) _ _ _ (wkI_0 S v X) (GW.cast (rfl) G) (lv_cast (lv_sub (l' := [(0, .ref (q 0)), (1, .ref (q (24 + v.toNatClampNeg))), (2, .int (p1)), (3, .int (0))]) hl [1, 2, 3, 0] rfl) (by rw [nI_0]))
set_option maxHeartbeats 4000000 in
set_option maxRecDepth 100000 in
theorem c_X8_check (l : Launch) (Z : ZT) (q : Nat → Nat) (S : St) (X : XC) (p1 : Int32) (hI : Inv S) : CT l Z yX8_check cX8_check 4 (some .int) 6 [.ref (q 0), .int (p1)] (CW Z q S X) (some (.int ((sp_check S p1).1))) (CW Z q ((sp_check S p1).2) (ckX S X p1)) := by
  refine CE.mk rfl (Nat.le_of_ble_eq_true rfl) (fun p e s m args below meth c A Qx ls E hr hlk hnm hQ G hl => ?_)
  have hx := E.1.1
  have hb := E.1.2.1
  have hl : lv_has ls 4 [(0, .ref (q 0)), (1, .int (p1))] := hl
  have hJ := hI.wa0
  refine lv_aload_n hx hb dX8_check_0 rfl (lv_at hl 0 rfl) ?_
  refine gC_0_10 E G m_198 dX8_check_1 ?_
  refine lv_istore_n (lv' := [(2, .int (s_wa S)), (0, .ref (q 0)), (1, .int (p1))]) hx hb dX8_check_4 rfl hl (by decide) rfl (fun ls hl => ?_)
  refine lv_iload_n hx hb dX8_check_5 rfl (lv_at hl 0 rfl) ?_
  refine lv_if_ne (tgt := 16) hx hb dX8_check_6 (by decide) (fun c_6 => ?_) (fun c_6 => ?_)
  · skip
    refine lv_aload_n hx hb dX8_check_16 rfl (lv_at hl 1 rfl) ?_
    refine lv_iconst (v := 0) hx hb dX8_check_17 (by decide) ?_
    refine pC_0_10 E G m_198 dX8_check_18 (fun H locs G => ?_)
    refine lv_aload_n hx hb dX8_check_21 rfl (lv_at hl 1 rfl) ?_
    refine lv_iload_n hx hb dX8_check_22 rfl (lv_at hl 2 rfl) ?_
    rcases va_em (u_wa S 0) p1 with hv_23 | hv_23
    · skip
      refine r_V [] E G (c_X8_vanNumber_t l Z q (u_wa S 0) X p1 hJ hv_23) kX8_vanNumber m_325 0 rfl rfl ⟨Nat.le_of_ble_eq_true rfl, Nat.le_of_ble_eq_true rfl⟩ hl dX8_check_23 rfl rfl (Nat.le_of_ble_eq_true rfl) ⟨Nat.zero_le _, Nat.zero_le _⟩ (fun H locs G => ?_)
      refine lv_astore_n (lv' := [(3, .ref (q (24 + p1.toNatClampNeg))), (2, .int (s_wa S)), (0, .ref (q 0)), (1, .int (p1))]) hx hb dX8_check_26 rfl hl (by decide) rfl (fun ls hl => ?_)
      refine lv_aload_n hx hb dX8_check_27 rfl (lv_at hl 0 rfl) ?_
      refine lv_ifnonnull (tgt := 38) hx hb dX8_check_28 (by decide) ?_
      refine lv_aload_n hx hb dX8_check_38 rfl (lv_at hl 2 rfl) ?_
      refine lv_aload_n hx hb dX8_check_39 rfl (lv_at hl 0 rfl) ?_
      refine lv_iload_n hx hb dX8_check_40 rfl (lv_at hl 1 rfl) ?_
      refine r_V [] E G (c_X8_walkTold l Z q (u_wa S 0) X (s_wa S) p1 hJ (hv_23) (hI.wa.1) (hI.wa.2)) kX8_walkTold m_607 0 rfl rfl ⟨Nat.le_of_ble_eq_true rfl, Nat.le_of_ble_eq_true rfl⟩ hl dX8_check_41 rfl rfl (Nat.le_of_ble_eq_true rfl) ⟨Nat.zero_le _, Nat.zero_le _⟩ (fun H locs G => ?_)
      refine r_eqb (tgt := 57) hx hb dX8_check_44 (by decide) (fun c_44 => ?_) (fun c_44 => ?_)
      · skip
        refine lv_aload_n hx hb dX8_check_57 rfl (lv_at hl 2 rfl) ?_
        refine lv_ldc hx hb E.1.2.2.2.1 (E.1.2.2.2.2 _ m_395) dX8_check_58 ?_
        refine r_V [] E G (c_X8_finding l Z q (u_wa S 0) ((wkP (u_wa S 0) p1 X (s_wa S).toNatClampNeg).2) (-1000003) (by decide)) kX8_finding m_227 0 rfl rfl ⟨Nat.le_of_ble_eq_true rfl, Nat.le_of_ble_eq_true rfl⟩ hl dX8_check_60 rfl rfl (Nat.le_of_ble_eq_true rfl) ⟨Nat.zero_le _, Nat.zero_le _⟩ (fun H locs G => ?_)
        have hs : (sp_check S p1) = ((fnd (u_wa S 0) (-1000003)).1, (fnd (u_wa S 0) (-1000003)).2) := by simp only [sp_check, if_neg c_6]; simp only [show isVa S p1 = true from hv_23]; exact ck_f c_44
        have hsX : (ckX S X p1) = (wkP (u_wa S 0) p1 X (s_wa S).toNatClampNeg).2 := by simp only [ckX, if_neg c_6]; simp [show isVa S p1 = true from hv_23, wkP]
        exact r_ret E G hr hlk hQ (by rw [hs]) (by rw [hs, hsX]) dX8_check_63
      · skip
        refine lv_aload_n hx hb dX8_check_47 rfl (lv_at hl 2 rfl) ?_
        refine gC_0_5 E G m_193 dX8_check_48 ?_
        refine gC_5_4 E G m_124 dX8_check_51 ?_
        refine lv_goto (tgt := 63) hx hb dX8_check_54 (by decide) ?_
        have hs : (sp_check S p1) = (x_tl ((wkP (u_wa S 0) p1 X (s_wa S).toNatClampNeg).2), u_wa S 0) := by simp only [sp_check, if_neg c_6]; simp only [show isVa S p1 = true from hv_23]; exact ck_t (NW hI) c_44
        have hsX : (ckX S X p1) = (wkP (u_wa S 0) p1 X (s_wa S).toNatClampNeg).2 := by simp only [ckX, if_neg c_6]; simp [show isVa S p1 = true from hv_23, wkP]
        exact r_ret E G hr hlk hQ (by rw [hs]) (by rw [hs, hsX]) dX8_check_63
    · skip
      refine r_V [] E G (c_X8_vanNumber_f l Z q (u_wa S 0) X p1 hJ hv_23) kX8_vanNumber m_325 0 rfl rfl ⟨Nat.le_of_ble_eq_true rfl, Nat.le_of_ble_eq_true rfl⟩ hl dX8_check_23 rfl rfl (Nat.le_of_ble_eq_true rfl) ⟨Nat.zero_le _, Nat.zero_le _⟩ (fun H locs G => ?_)
      refine lv_astore_nN (lv' := [(3, .null), (2, .int (s_wa S)), (0, .ref (q 0)), (1, .int (p1))]) hx hb dX8_check_26 rfl hl (by decide) rfl (fun ls hl => ?_)
      refine lv_aload_nN hx hb dX8_check_27 rfl (lv_at hl 0 rfl) ?_
      refine lv_ifnonnullN hx hb dX8_check_28 ?_
      refine lv_aload_n hx hb dX8_check_31 rfl (lv_at hl 2 rfl) ?_
      refine lv_ldc hx hb E.1.2.2.2.1 (E.1.2.2.2.2 _ m_226) dX8_check_32 ?_
      refine r_V [] E G (c_X8_finding l Z q (u_wa S 0) X (-1000001) (by decide)) kX8_finding m_227 0 rfl rfl ⟨Nat.le_of_ble_eq_true rfl, Nat.le_of_ble_eq_true rfl⟩ hl dX8_check_34 rfl rfl (Nat.le_of_ble_eq_true rfl) ⟨Nat.zero_le _, Nat.zero_le _⟩ (fun H locs G => ?_)
      have hs : (sp_check S p1) = ((fnd (u_wa S 0) (-1000001)).1, (fnd (u_wa S 0) (-1000001)).2) := by simp only [sp_check, if_neg c_6]; simp [show isVa S p1 = false from hv_23]
      have hsX : (ckX S X p1) = X := by simp only [ckX, if_neg c_6]; simp [show isVa S p1 = false from hv_23]
      exact r_ret E G hr hlk hQ (by rw [hs]) (by rw [hs, hsX]) dX8_check_37
  · skip
    refine lv_aload_n hx hb dX8_check_9 rfl (lv_at hl 1 rfl) ?_
    refine lv_ldc hx hb E.1.2.2.2.1 (E.1.2.2.2.2 _ m_470) dX8_check_10 ?_
    refine r_V [] E G (c_X8_finding l Z q S X (-1000002) (by decide)) kX8_finding m_227 0 rfl rfl ⟨Nat.le_of_ble_eq_true rfl, Nat.le_of_ble_eq_true rfl⟩ hl dX8_check_12 rfl rfl (Nat.le_of_ble_eq_true rfl) ⟨Nat.zero_le _, Nat.zero_le _⟩ (fun H locs G => ?_)
    have hs : (sp_check S p1) = ((fnd S (-1000002)).1, (fnd S (-1000002)).2) := by simp [sp_check, c_6]
    have hsX : (ckX S X p1) = X := by simp [ckX, c_6]
    exact r_ret E G hr hlk hQ (by rw [hs]) (by rw [hs, hsX]) dX8_check_15
