set_option maxHeartbeats 4000000 in
set_option maxRecDepth 100000 in
theorem c_X9_stand (l : Launch) (Z : ZT) (q : Nat → Nat) (S : St) (Y : YM) (p1 p2 p3 : Int32) (hI : Inv S) : CT l Z yX9_stand cX9_stand 5 (some .int) 4 [.ref (q 0), .int (p1), .int (p2), .int (p3)] (MW Z q S Y) (some (.int ((sp_stand S p1 p2 p3).1))) (MW Z q ((sp_stand S p1 p2 p3).2) (Y)) := by
  refine CE.mk rfl (Nat.le_of_ble_eq_true rfl) (fun p e s m args below meth c A Qx ls E hr hlk hnm hQ G hl => ?_)
  have hx := E.1.1
  have hb := E.1.2.1
  have hl : lv_has ls 5 [(0, .ref (q 0)), (1, .int (p1)), (2, .int (p2)), (3, .int (p3))] := hl
  refine lv_aload_n hx hb dX9_stand_0 rfl (lv_at hl 0 rfl) ?_
  refine lv_iload_n hx hb dX9_stand_1 rfl (lv_at hl 1 rfl) ?_
  refine r_V [] E G (c_X9_isVan l Z q S Y p1 hI) kX9_isVan m_778 0 rfl rfl ⟨Nat.le_of_ble_eq_true rfl, Nat.le_of_ble_eq_true rfl⟩ hl dX9_stand_2 rfl rfl (Nat.le_of_ble_eq_true rfl) ⟨Nat.zero_le _, Nat.zero_le _⟩ (fun H locs G => ?_)
  refine r_eqb (tgt := 26) hx hb dX9_stand_5 (by decide) (fun c_5 => ?_) (fun c_5 => ?_)
  · skip
    refine lv_aload_n hx hb dX9_stand_26 rfl (lv_at hl 0 rfl) ?_
    refine lv_iconst (v := 1) hx hb dX9_stand_27 (by decide) ?_
    refine r_V [] E G (c_X9_finds l Z q S Y 1 (by decide)) kX9_finds m_746 0 rfl rfl ⟨Nat.le_of_ble_eq_true rfl, Nat.le_of_ble_eq_true rfl⟩ hl dX9_stand_28 rfl rfl (Nat.le_of_ble_eq_true rfl) ⟨Nat.zero_le _, Nat.zero_le _⟩ (fun H locs G => ?_)
    have hs : (sp_stand S p1 p2 p3) = ((fnd S (-1000000 - 1)).1, (fnd S (-1000000 - 1)).2) := by first | rfl | (simp [sp_stand, adS, ho, fq1, fq2, fq3, fq4, fq5, c_5]; done) | (simp [sp_stand, adS, ho, fq1, fq2, fq3, fq4, fq5, hk6, c_5]; done) | (simp [sp_stand, adS, ho, fq1, fq2, fq3, fq4, fq5, hk7, c_5]; done)
    exact r_ret E G hr hlk hQ (by rw [hs]) (by rw [hs]) dX9_stand_31
  · skip
    refine lv_aload_n hx hb dX9_stand_8 rfl (lv_at hl 0 rfl) ?_
    refine lv_iload_n hx hb dX9_stand_9 rfl (lv_at hl 2 rfl) ?_
    refine r_V [] E G (c_X9_isAt l Z q S Y p2 hI) kX9_isAt m_826 0 rfl rfl ⟨Nat.le_of_ble_eq_true rfl, Nat.le_of_ble_eq_true rfl⟩ hl dX9_stand_10 rfl rfl (Nat.le_of_ble_eq_true rfl) ⟨Nat.zero_le _, Nat.zero_le _⟩ (fun H locs G => ?_)
    refine r_eqb (tgt := 26) hx hb dX9_stand_13 (by decide) (fun c_13 => ?_) (fun c_13 => ?_)
    · skip
      refine lv_aload_n hx hb dX9_stand_26 rfl (lv_at hl 0 rfl) ?_
      refine lv_iconst (v := 1) hx hb dX9_stand_27 (by decide) ?_
      refine r_V [] E G (c_X9_finds l Z q S Y 1 (by decide)) kX9_finds m_746 0 rfl rfl ⟨Nat.le_of_ble_eq_true rfl, Nat.le_of_ble_eq_true rfl⟩ hl dX9_stand_28 rfl rfl (Nat.le_of_ble_eq_true rfl) ⟨Nat.zero_le _, Nat.zero_le _⟩ (fun H locs G => ?_)
      have hs : (sp_stand S p1 p2 p3) = ((fnd S (-1000000 - 1)).1, (fnd S (-1000000 - 1)).2) := by first | rfl | (simp [sp_stand, adS, ho, fq1, fq2, fq3, fq4, fq5, c_5, c_13]; done) | (simp [sp_stand, adS, ho, fq1, fq2, fq3, fq4, fq5, hk6, c_5, c_13]; done) | (simp [sp_stand, adS, ho, fq1, fq2, fq3, fq4, fq5, hk7, c_5, c_13]; done)
      exact r_ret E G hr hlk hQ (by rw [hs]) (by rw [hs]) dX9_stand_31
    · skip
      refine lv_iload_n hx hb dX9_stand_16 rfl (lv_at hl 3 rfl) ?_
      refine lv_iconst (v := 0) hx hb dX9_stand_17 (by decide) ?_
      refine lv_bipush (v := 99) hx hb dX9_stand_18 (by decide) ?_
      refine r_S [] E G (c_X9_in l Z q S Y p3 0 99) kX9_in m_743 ⟨Nat.le_of_ble_eq_true rfl, Nat.le_of_ble_eq_true rfl⟩ hl dX9_stand_20 rfl rfl (Nat.le_of_ble_eq_true rfl) ⟨Nat.zero_le _, Nat.zero_le _⟩ (fun H locs G => ?_)
      refine r_neb (tgt := 32) hx hb dX9_stand_23 (by decide) (fun c_23 => ?_) (fun c_23 => ?_)
      · skip
        refine lv_aload_n hx hb dX9_stand_32 rfl (lv_at hl 0 rfl) ?_
        refine lv_iload_n hx hb dX9_stand_33 rfl (lv_at hl 1 rfl) ?_
        refine lv_aload_n hx hb dX9_stand_34 rfl (lv_at hl 0 rfl) ?_
        refine gM_0_2 E G m_635 dX9_stand_35 ?_
        refine r_V [] E G (c_X9_ahead l Z q S Y p1 (s_sd S) (hI.sd.1) (hI.sd.2)) kX9_ahead m_858 0 rfl rfl ⟨Nat.le_of_ble_eq_true rfl, Nat.le_of_ble_eq_true rfl⟩ hl dX9_stand_38 rfl rfl (Nat.le_of_ble_eq_true rfl) ⟨Nat.zero_le _, Nat.zero_le _⟩ (fun H locs G => ?_)
        refine lv_istore (lv' := [(4, .int (laS S p1 (s_sd S).toNatClampNeg)), (0, .ref (q 0)), (1, .int (p1)), (2, .int (p2)), (3, .int (p3))]) hx hb dX9_stand_41 hl (by decide) rfl (fun ls hl => ?_)
        refine lv_iload hx hb dX9_stand_43 (lv_at hl 0 rfl) ?_
        refine lv_if_lt (tgt := 68) hx hb dX9_stand_45 (by decide) (fun c_45 => ?_) (fun c_45 => ?_)
        · skip
          have c_45n := Int32.not_le.mpr c_45
          have hk7 : isSd S (laS S p1 (s_sd S).toNatClampNeg) = false := (la_sd hI _ (Nat.le_refl _)).trans (decide_eq_false (Int32.not_le.mpr c_45))
          refine lv_aload_n hx hb dX9_stand_68 rfl (lv_at hl 1 rfl) ?_
          refine gM_0_2 E G m_635 dX9_stand_69 ?_
          refine lv_bipush (v := 24) hx hb dX9_stand_72 (by decide) ?_
          refine lv_icmp_ne (tgt := 83) hx hb dX9_stand_74 (by decide) (fun c_74 => ?_) (fun c_74 => ?_)
          · skip
            refine lv_aload_n hx hb dX9_stand_83 rfl (lv_at hl 1 rfl) ?_
            refine gM_0_16 E G m_649 dX9_stand_84 ?_
            refine lv_aload_n hx hb dX9_stand_87 rfl (lv_at hl 1 rfl) ?_
            refine gM_0_2 E G m_635 dX9_stand_88 ?_
            refine lv_iload_n hx hb dX9_stand_91 rfl (lv_at hl 2 rfl) ?_
            refine tM_7 E G (ix_lim hI.sd.1 (ne_lim hI.sd.2 c_74) (by decide)) dX9_stand_92 (fun H locs G => ?_)
            refine lv_aload_n hx hb dX9_stand_93 rfl (lv_at hl 1 rfl) ?_
            refine gM_0_17 E G m_650 dX9_stand_94 ?_
            refine lv_aload_n hx hb dX9_stand_97 rfl (lv_at hl 1 rfl) ?_
            refine gM_0_2 E G m_635 dX9_stand_98 ?_
            refine lv_topc (e_s_sd_sv _ _) ?_
            refine lv_iload_n hx hb dX9_stand_101 rfl (lv_at hl 3 rfl) ?_
            refine lv_bipush (v := 100) hx hb dX9_stand_102 (by decide) ?_
            refine lv_idiv hx hb dX9_stand_104 (by decide) ?_
            refine tM_8 E G (ix_lim hI.sd.1 (ne_lim hI.sd.2 c_74) (by decide)) dX9_stand_105 (fun H locs G => ?_)
            have G := GW.cast (congrArg (fun f => MW Z q (u_ss (u_sv S (au (s_sv S) (s_sd S) p1)) (au f (s_sd S) (p2 / 100))) (Y)) (e_s_ss_sv _ _)) G
            refine lv_aload_n hx hb dX9_stand_106 rfl (lv_at hl 1 rfl) ?_
            refine gM_0_18 E G m_651 dX9_stand_107 ?_
            refine lv_aload_n hx hb dX9_stand_110 rfl (lv_at hl 1 rfl) ?_
            refine gM_0_2 E G m_635 dX9_stand_111 ?_
            refine lv_topc ((e_s_sd_ss _ _).trans (e_s_sd_sv _ _)) ?_
            refine lv_iload_n hx hb dX9_stand_114 rfl (lv_at hl 3 rfl) ?_
            refine lv_bipush (v := 100) hx hb dX9_stand_115 (by decide) ?_
            refine lv_irem hx hb dX9_stand_117 (by decide) ?_
            refine tM_9 E G (ix_lim hI.sd.1 (ne_lim hI.sd.2 c_74) (by decide)) dX9_stand_118 (fun H locs G => ?_)
            have G := GW.cast (congrArg (fun f => MW Z q (u_sh (u_ss (u_sv S (au (s_sv S) (s_sd S) p1)) (au (s_ss S) (s_sd S) (p2 / 100))) (au f (s_sd S) (p2 - p2 / 100 * 100))) (Y)) ((e_s_sh_ss _ _).trans (e_s_sh_sv _ _))) G
            refine lv_aload_n hx hb dX9_stand_119 rfl (lv_at hl 1 rfl) ?_
            refine gM_0_19 E G m_652 dX9_stand_120 ?_
            refine lv_aload_n hx hb dX9_stand_123 rfl (lv_at hl 1 rfl) ?_
            refine gM_0_2 E G m_635 dX9_stand_124 ?_
            refine lv_topc ((e_s_sd_sh _ _).trans ((e_s_sd_ss _ _).trans (e_s_sd_sv _ _))) ?_
            refine lv_iload_n hx hb dX9_stand_127 rfl (lv_at hl 4 rfl) ?_
            refine tM_10 E G (ix_lim hI.sd.1 (ne_lim hI.sd.2 c_74) (by decide)) dX9_stand_128 (fun H locs G => ?_)
            have G := GW.cast (congrArg (fun f => MW Z q (u_sm (u_sh (u_ss (u_sv S (au (s_sv S) (s_sd S) p1)) (au (s_ss S) (s_sd S) (p2 / 100))) (au (s_sh S) (s_sd S) (p2 - p2 / 100 * 100))) (au f (s_sd S) p3)) (Y)) ((e_s_sm_sh _ _).trans ((e_s_sm_ss _ _).trans (e_s_sm_sv _ _)))) G
            refine lv_aload_n hx hb dX9_stand_129 rfl (lv_at hl 1 rfl) ?_
            refine lv_dup hx hb dX9_stand_130 rfl ?_
            refine gM_0_2 E G m_635 dX9_stand_131 ?_
            refine lv_topc ((e_s_sd_sm _ _).trans ((e_s_sd_sh _ _).trans ((e_s_sd_ss _ _).trans (e_s_sd_sv _ _)))) ?_
            refine lv_iconst (v := 1) hx hb dX9_stand_134 (by decide) ?_
            refine lv_iadd hx hb dX9_stand_135 ?_
            refine pM_0_2 E G m_635 dX9_stand_136 (fun H locs G => ?_)
            refine lv_aload_n hx hb dX9_stand_139 rfl (lv_at hl 1 rfl) ?_
            refine gM_0_2 E G m_635 dX9_stand_140 ?_
            refine lv_topc (es_s_sd _ _) ?_
            refine lv_iconst (v := 1) hx hb dX9_stand_143 (by decide) ?_
            refine lv_isub hx hb dX9_stand_144 ?_
            have hs : (sp_stand S p1 p2 p3) = (((s_sd S) + 1) - 1, u_sd (u_sm (u_sh (u_ss (u_sv S (au (s_sv S) (s_sd S) p1)) (au (s_ss S) (s_sd S) (p2 / 100))) (au (s_sh S) (s_sd S) (p2 - p2 / 100 * 100))) (au (s_sm S) (s_sd S) p3)) ((s_sd S) + 1)) := by first | rfl | (simp [sp_stand, adS, ho, fq1, fq2, fq3, fq4, fq5, c_5, c_13, c_23, c_45, c_45n, c_74]; done) | (simp [sp_stand, adS, ho, fq1, fq2, fq3, fq4, fq5, hk6, c_5, c_13, c_23, c_45, c_45n, c_74]; done) | (simp [sp_stand, adS, ho, fq1, fq2, fq3, fq4, fq5, hk7, c_5, c_13, c_23, c_45, c_45n, c_74]; done)
            exact r_ret E G hr hlk hQ (by rw [hs]) (by rw [hs]) dX9_stand_145
          · skip
            refine lv_aload_n hx hb dX9_stand_77 rfl (lv_at hl 1 rfl) ?_
            refine lv_iconst (v := 4) hx hb dX9_stand_78 (by decide) ?_
            refine r_V [] E G (c_X9_finds l Z q S Y 4 (by decide)) kX9_finds m_746 0 rfl rfl ⟨Nat.le_of_ble_eq_true rfl, Nat.le_of_ble_eq_true rfl⟩ hl dX9_stand_79 rfl rfl (Nat.le_of_ble_eq_true rfl) ⟨Nat.zero_le _, Nat.zero_le _⟩ (fun H locs G => ?_)
            have hs : (sp_stand S p1 p2 p3) = ((fnd S (-1000000 - 4)).1, (fnd S (-1000000 - 4)).2) := by unfold sp_stand; rw [if_pos (by simp [c_5, c_13, c_23]), if_neg (by first | (simp [hk7]; done) | (simp [ho, c_59n]; done)), if_pos c_74]; rfl
            exact r_ret E G hr hlk hQ (by rw [hs]) (by rw [hs]) dX9_stand_82
        · skip
          have c_45n := Int32.not_lt.mp c_45
          have hk6 : isSd S (laS S p1 (s_sd S).toNatClampNeg) = true := (la_sd hI _ (Nat.le_refl _)).trans (decide_eq_true c_45n)
          refine lv_iload_n hx hb dX9_stand_48 rfl (lv_at hl 3 rfl) ?_
          refine lv_bipush (v := 100) hx hb dX9_stand_49 (by decide) ?_
          refine lv_irem hx hb dX9_stand_51 (by decide) ?_
          refine lv_aload_n hx hb dX9_stand_52 rfl (lv_at hl 1 rfl) ?_
          refine gM_0_18 E G m_651 dX9_stand_53 ?_
          refine lv_iload hx hb dX9_stand_56 (lv_at hl 0 rfl) ?_
          refine aM_9 E G (ix_sd hI hk6) dX9_stand_58 ?_
          refine lv_icmp_gt (tgt := 68) hx hb dX9_stand_59 (by decide) (fun c_59 => ?_) (fun c_59 => ?_)
          · skip
            have c_59n := Int32.not_le.mpr c_59
            refine lv_aload_n hx hb dX9_stand_68 rfl (lv_at hl 1 rfl) ?_
            refine gM_0_2 E G m_635 dX9_stand_69 ?_
            refine lv_bipush (v := 24) hx hb dX9_stand_72 (by decide) ?_
            refine lv_icmp_ne (tgt := 83) hx hb dX9_stand_74 (by decide) (fun c_74 => ?_) (fun c_74 => ?_)
            · skip
              refine lv_aload_n hx hb dX9_stand_83 rfl (lv_at hl 1 rfl) ?_
              refine gM_0_16 E G m_649 dX9_stand_84 ?_
              refine lv_aload_n hx hb dX9_stand_87 rfl (lv_at hl 1 rfl) ?_
              refine gM_0_2 E G m_635 dX9_stand_88 ?_
              refine lv_iload_n hx hb dX9_stand_91 rfl (lv_at hl 2 rfl) ?_
              refine tM_7 E G (ix_lim hI.sd.1 (ne_lim hI.sd.2 c_74) (by decide)) dX9_stand_92 (fun H locs G => ?_)
              refine lv_aload_n hx hb dX9_stand_93 rfl (lv_at hl 1 rfl) ?_
              refine gM_0_17 E G m_650 dX9_stand_94 ?_
              refine lv_aload_n hx hb dX9_stand_97 rfl (lv_at hl 1 rfl) ?_
              refine gM_0_2 E G m_635 dX9_stand_98 ?_
              refine lv_topc (e_s_sd_sv _ _) ?_
              refine lv_iload_n hx hb dX9_stand_101 rfl (lv_at hl 3 rfl) ?_
              refine lv_bipush (v := 100) hx hb dX9_stand_102 (by decide) ?_
              refine lv_idiv hx hb dX9_stand_104 (by decide) ?_
              refine tM_8 E G (ix_lim hI.sd.1 (ne_lim hI.sd.2 c_74) (by decide)) dX9_stand_105 (fun H locs G => ?_)
              have G := GW.cast (congrArg (fun f => MW Z q (u_ss (u_sv S (au (s_sv S) (s_sd S) p1)) (au f (s_sd S) (p2 / 100))) (Y)) (e_s_ss_sv _ _)) G
              refine lv_aload_n hx hb dX9_stand_106 rfl (lv_at hl 1 rfl) ?_
              refine gM_0_18 E G m_651 dX9_stand_107 ?_
              refine lv_aload_n hx hb dX9_stand_110 rfl (lv_at hl 1 rfl) ?_
              refine gM_0_2 E G m_635 dX9_stand_111 ?_
              refine lv_topc ((e_s_sd_ss _ _).trans (e_s_sd_sv _ _)) ?_
              refine lv_iload_n hx hb dX9_stand_114 rfl (lv_at hl 3 rfl) ?_
              refine lv_bipush (v := 100) hx hb dX9_stand_115 (by decide) ?_
              refine lv_irem hx hb dX9_stand_117 (by decide) ?_
              refine tM_9 E G (ix_lim hI.sd.1 (ne_lim hI.sd.2 c_74) (by decide)) dX9_stand_118 (fun H locs G => ?_)
              have G := GW.cast (congrArg (fun f => MW Z q (u_sh (u_ss (u_sv S (au (s_sv S) (s_sd S) p1)) (au (s_ss S) (s_sd S) (p2 / 100))) (au f (s_sd S) (p2 - p2 / 100 * 100))) (Y)) ((e_s_sh_ss _ _).trans (e_s_sh_sv _ _))) G
              refine lv_aload_n hx hb dX9_stand_119 rfl (lv_at hl 1 rfl) ?_
              refine gM_0_19 E G m_652 dX9_stand_120 ?_
              refine lv_aload_n hx hb dX9_stand_123 rfl (lv_at hl 1 rfl) ?_
              refine gM_0_2 E G m_635 dX9_stand_124 ?_
              refine lv_topc ((e_s_sd_sh _ _).trans ((e_s_sd_ss _ _).trans (e_s_sd_sv _ _))) ?_
              refine lv_iload_n hx hb dX9_stand_127 rfl (lv_at hl 4 rfl) ?_
              refine tM_10 E G (ix_lim hI.sd.1 (ne_lim hI.sd.2 c_74) (by decide)) dX9_stand_128 (fun H locs G => ?_)
              have G := GW.cast (congrArg (fun f => MW Z q (u_sm (u_sh (u_ss (u_sv S (au (s_sv S) (s_sd S) p1)) (au (s_ss S) (s_sd S) (p2 / 100))) (au (s_sh S) (s_sd S) (p2 - p2 / 100 * 100))) (au f (s_sd S) p3)) (Y)) ((e_s_sm_sh _ _).trans ((e_s_sm_ss _ _).trans (e_s_sm_sv _ _)))) G
              refine lv_aload_n hx hb dX9_stand_129 rfl (lv_at hl 1 rfl) ?_
              refine lv_dup hx hb dX9_stand_130 rfl ?_
              refine gM_0_2 E G m_635 dX9_stand_131 ?_
              refine lv_topc ((e_s_sd_sm _ _).trans ((e_s_sd_sh _ _).trans ((e_s_sd_ss _ _).trans (e_s_sd_sv _ _)))) ?_
              refine lv_iconst (v := 1) hx hb dX9_stand_134 (by decide) ?_
              refine lv_iadd hx hb dX9_stand_135 ?_
              refine pM_0_2 E G m_635 dX9_stand_136 (fun H locs G => ?_)
              refine lv_aload_n hx hb dX9_stand_139 rfl (lv_at hl 1 rfl) ?_
              refine gM_0_2 E G m_635 dX9_stand_140 ?_
              refine lv_topc (es_s_sd _ _) ?_
              refine lv_iconst (v := 1) hx hb dX9_stand_143 (by decide) ?_
              refine lv_isub hx hb dX9_stand_144 ?_
              have hs : (sp_stand S p1 p2 p3) = (((s_sd S) + 1) - 1, u_sd (u_sm (u_sh (u_ss (u_sv S (au (s_sv S) (s_sd S) p1)) (au (s_ss S) (s_sd S) (p2 / 100))) (au (s_sh S) (s_sd S) (p2 - p2 / 100 * 100))) (au (s_sm S) (s_sd S) p3)) ((s_sd S) + 1)) := by first | rfl | (simp [sp_stand, adS, ho, fq1, fq2, fq3, fq4, fq5, c_5, c_13, c_23, c_45, c_45n, c_59, c_59n, c_74]; done) | (simp [sp_stand, adS, ho, fq1, fq2, fq3, fq4, fq5, hk6, c_5, c_13, c_23, c_45, c_45n, c_59, c_59n, c_74]; done) | (simp [sp_stand, adS, ho, fq1, fq2, fq3, fq4, fq5, hk7, c_5, c_13, c_23, c_45, c_45n, c_59, c_59n, c_74]; done)
              exact r_ret E G hr hlk hQ (by rw [hs]) (by rw [hs]) dX9_stand_145
            · skip
              refine lv_aload_n hx hb dX9_stand_77 rfl (lv_at hl 1 rfl) ?_
              refine lv_iconst (v := 4) hx hb dX9_stand_78 (by decide) ?_
              refine r_V [] E G (c_X9_finds l Z q S Y 4 (by decide)) kX9_finds m_746 0 rfl rfl ⟨Nat.le_of_ble_eq_true rfl, Nat.le_of_ble_eq_true rfl⟩ hl dX9_stand_79 rfl rfl (Nat.le_of_ble_eq_true rfl) ⟨Nat.zero_le _, Nat.zero_le _⟩ (fun H locs G => ?_)
              have hs : (sp_stand S p1 p2 p3) = ((fnd S (-1000000 - 4)).1, (fnd S (-1000000 - 4)).2) := by unfold sp_stand; rw [if_pos (by simp [c_5, c_13, c_23]), if_neg (by first | (simp [hk7]; done) | (simp [ho, c_59n]; done)), if_pos c_74]; rfl
              exact r_ret E G hr hlk hQ (by rw [hs]) (by rw [hs]) dX9_stand_82
          · skip
            have c_59n := Int32.not_lt.mp c_59
            refine lv_aload_n hx hb dX9_stand_62 rfl (lv_at hl 1 rfl) ?_
            refine lv_iconst (v := 3) hx hb dX9_stand_63 (by decide) ?_
            refine r_V [] E G (c_X9_finds l Z q S Y 3 (by decide)) kX9_finds m_746 0 rfl rfl ⟨Nat.le_of_ble_eq_true rfl, Nat.le_of_ble_eq_true rfl⟩ hl dX9_stand_64 rfl rfl (Nat.le_of_ble_eq_true rfl) ⟨Nat.zero_le _, Nat.zero_le _⟩ (fun H locs G => ?_)
            have hs : (sp_stand S p1 p2 p3) = ((fnd S (-1000000 - 3)).1, (fnd S (-1000000 - 3)).2) := by first | rfl | (simp [sp_stand, adS, ho, fq1, fq2, fq3, fq4, fq5, c_5, c_13, c_23, c_45, c_45n, c_59, c_59n]; done) | (simp [sp_stand, adS, ho, fq1, fq2, fq3, fq4, fq5, hk6, c_5, c_13, c_23, c_45, c_45n, c_59, c_59n]; done) | (simp [sp_stand, adS, ho, fq1, fq2, fq3, fq4, fq5, hk7, c_5, c_13, c_23, c_45, c_45n, c_59, c_59n]; done)
            exact r_ret E G hr hlk hQ (by rw [hs]) (by rw [hs]) dX9_stand_67
      · skip
        refine lv_aload_n hx hb dX9_stand_26 rfl (lv_at hl 0 rfl) ?_
        refine lv_iconst (v := 1) hx hb dX9_stand_27 (by decide) ?_
        refine r_V [] E G (c_X9_finds l Z q S Y 1 (by decide)) kX9_finds m_746 0 rfl rfl ⟨Nat.le_of_ble_eq_true rfl, Nat.le_of_ble_eq_true rfl⟩ hl dX9_stand_28 rfl rfl (Nat.le_of_ble_eq_true rfl) ⟨Nat.zero_le _, Nat.zero_le _⟩ (fun H locs G => ?_)
        have hs : (sp_stand S p1 p2 p3) = ((fnd S (-1000000 - 1)).1, (fnd S (-1000000 - 1)).2) := by first | rfl | (simp [sp_stand, adS, ho, fq1, fq2, fq3, fq4, fq5, c_5, c_13, c_23]; done) | (simp [sp_stand, adS, ho, fq1, fq2, fq3, fq4, fq5, hk6, c_5, c_13, c_23]; done) | (simp [sp_stand, adS, ho, fq1, fq2, fq3, fq4, fq5, hk7, c_5, c_13, c_23]; done)
        exact r_ret E G hr hlk hQ (by rw [hs]) (by rw [hs]) dX9_stand_31
