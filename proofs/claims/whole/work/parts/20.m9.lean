set_option maxHeartbeats 4000000 in
set_option maxRecDepth 100000 in
theorem c_X9_findPlan (l : Launch) (Z : ZT) (q : Nat → Nat) (S : St) (Y : YM) (p1 p2 p3 : Int32) (hI : Inv S) (hv : isVa S p1 = true) (hA : isAt S p2 = true) (hn : inr p3 1 6 = true) : CE l Z yX9_findPlan cX9_findPlan 8 none 4 0 0 [.ref (q 0), .int p1, .int p2, .int p3] (MW Z q S Y) (fun r w => r = none ∧ ∃ Y' : YM, w = MW Z q S Y' ∧ BM Y' (plB S p1 p2 p3)) := by
  refine CE.mk rfl (Nat.le_of_ble_eq_true rfl) (fun p e s m args below meth c A Qx ls E hr hlk hnm hQ G hl => ?_)
  have hx := E.1.1
  have hb := E.1.2.1
  have hl : lv_has ls 8 [(0, .ref (q 0)), (1, .int (p1)), (2, .int (p2)), (3, .int (p3))] := hl
  refine lv_aload_n hx hb dX9_findPlan_0 rfl (lv_at hl 0 rfl) ?_
  refine lv_iconst (v := 0) hx hb dX9_findPlan_1 (by decide) ?_
  refine pM_0_32 E G m_665 dX9_findPlan_2 (fun H locs G => ?_)
  refine lv_aload_n hx hb dX9_findPlan_5 rfl (lv_at hl 0 rfl) ?_
  refine gM_0_25 E G m_658 dX9_findPlan_6 ?_
  refine lv_iconst (v := 0) hx hb dX9_findPlan_9 (by decide) ?_
  refine lv_iload_n hx hb dX9_findPlan_10 rfl (lv_at hl 2 rfl) ?_
  refine lv_bipush (v := 100) hx hb dX9_findPlan_11 (by decide) ?_
  refine lv_idiv hx hb dX9_findPlan_13 (by decide) ?_
  refine tM_16 E G (vp_of (by decide) (by decide)) dX9_findPlan_14 (fun H locs G => ?_)
  have G := GW.cast (congrArg (fun f => MW Z q (S) (z_rs (z_bm Y 0) (au f 0 (p2 / 100)))) (e_y_rs_bm _ _)) G
  refine lv_aload_n hx hb dX9_findPlan_15 rfl (lv_at hl 0 rfl) ?_
  refine gM_0_26 E G m_659 dX9_findPlan_16 ?_
  refine lv_iconst (v := 0) hx hb dX9_findPlan_19 (by decide) ?_
  refine lv_iload_n hx hb dX9_findPlan_20 rfl (lv_at hl 2 rfl) ?_
  refine lv_bipush (v := 100) hx hb dX9_findPlan_21 (by decide) ?_
  refine lv_irem hx hb dX9_findPlan_23 (by decide) ?_
  refine tM_17 E G (vp_of (by decide) (by decide)) dX9_findPlan_24 (fun H locs G => ?_)
  have G := GW.cast (congrArg (fun f => MW Z q (S) (z_rh (z_rs (z_bm Y 0) (au (y_rs Y) 0 (p2 / 100))) (au f 0 (p2 - p2 / 100 * 100)))) ((e_y_rh_rs _ _).trans (e_y_rh_bm _ _))) G
  have J55 : ∀ (H : Heap) (locs : List Loc) (ls : Array Slot), GW Z (MW Z q (S) (z_rh (z_rs (z_bm Y 0) (au (y_rs Y) 0 (p2 / 100))) (au (y_rh Y) 0 (p2 - p2 / 100 * 100)))) A s.heap H locs → lv_has ls 8 [(0, .ref (q 0)), (1, .int (p1)), (2, .int (p2)), (3, .int (p3))] → W p l e (rmk 4 0 0) s m args below meth c H locs 0 0 Qx (F0 m 55 ls [.int (laH (ho p2) p3)]) := by
    intro H locs ls G hl
    refine lv_istore (lv' := [(4, .int (laH (ho p2) p3)), (0, .ref (q 0)), (1, .int (p1)), (2, .int (p2)), (3, .int (p3))]) hx hb dX9_findPlan_55 hl (by decide) rfl (fun ls hl => ?_)
    refine lv_aload_n hx hb dX9_findPlan_57 rfl (lv_at hl 1 rfl) ?_
    refine lv_iload_n hx hb dX9_findPlan_58 rfl (lv_at hl 2 rfl) ?_
    refine lv_iconst (v := 0) hx hb dX9_findPlan_59 (by decide) ?_
    refine r_Vv [] E G (c_X9_sells l Z q S (z_rh (z_rs (z_bm Y 0) (au (y_rs Y) 0 (p2 / 100))) (au (y_rh Y) 0 (p2 - p2 / 100 * 100))) p1 0 hI hv (by decide) (by decide) (by show isSt S (ar (au (y_rs Y) 0 (p2 / 100)) 0) = true; rw [ar_au]; exact at_st hA) (by show isHo (ar (au (y_rh Y) 0 (p2 - p2 / 100 * 100)) 0) = true; rw [ar_au]; exact at_ho hA)) kX9_sells m_834 0 rfl rfl ⟨Nat.le_of_ble_eq_true rfl, Nat.le_of_ble_eq_true rfl⟩ hl dX9_findPlan_60 rfl rfl (Nat.le_of_ble_eq_true rfl) ⟨Nat.zero_le _, Nat.zero_le _⟩ (fun H locs G => ?_)
    refine lv_aload_n hx hb dX9_findPlan_63 rfl (lv_at hl 1 rfl) ?_
    refine lv_iconst (v := 1) hx hb dX9_findPlan_64 (by decide) ?_
    refine r_Vv [] E G (c_X9_note l Z q S (seY S p1 (z_rh (z_rs (z_bm Y 0) (au (y_rs Y) 0 (p2 / 100))) (au (y_rh Y) 0 (p2 - p2 / 100 * 100))) 0) 1 (by decide) (by decide)) kX9_note m_838 0 rfl rfl ⟨Nat.le_of_ble_eq_true rfl, Nat.le_of_ble_eq_true rfl⟩ hl dX9_findPlan_65 rfl rfl (Nat.le_of_ble_eq_true rfl) ⟨Nat.zero_le _, Nat.zero_le _⟩ (fun H locs G => ?_)
    refine lv_aload_n hx hb dX9_findPlan_68 rfl (lv_at hl 1 rfl) ?_
    refine gM_0_29 E G m_662 dX9_findPlan_69 ?_
    refine lv_iconst (v := 0) hx hb dX9_findPlan_72 (by decide) ?_
    refine lv_iconst (v := 0) hx hb dX9_findPlan_73 (by decide) ?_
    refine tM_20 E G (vp_of (by decide) (by decide)) dX9_findPlan_74 (fun H locs G => ?_)
    refine lv_iconst (v := 1) hx hb dX9_findPlan_75 (by decide) ?_
    refine lv_istore (lv' := [(5, .int (1)), (4, .int (laH (ho p2) p3)), (0, .ref (q 0)), (1, .int (p1)), (2, .int (p2)), (3, .int (p3))]) hx hb dX9_findPlan_76 hl (by decide) rfl (fun ls hl => ?_)
    have hlar := laH_r (at_ho hA) hn
    generalize hlast : laH (ho p2) p3 = last at hlar hl
    have LP : ∀ (d : Nat) (t : RL) (a0 h0 : Int32) (r k : Nat) (B : BT) (Y : YM) (H : Heap) (locs : List Loc) (ls : Array Slot), k + r = nS S → last.toInt - h0.toInt < (d : Int) + 1 → t.length + d + 1 ≤ 6 → MR S p1 Y ((a0, h0) :: t) → BM Y B → y_tr Y t.length = nI k → GW Z (MW Z q S Y) A s.heap H locs → lv_has ls 8 [(0, .ref (q 0)), (1, .int (p1)), (4, .int (last)), (5, .int (nI (t.length + 1)))] → (∀ (Y2 : YM) (H : Heap) (locs : List Loc) (ls : Array Slot), MR S p1 Y2 t → (∀ i, i < t.length → y_tr Y2 i = y_tr Y i) → BM Y2 (gof (exG S p1 last d t (cum S p1 t).1 (cum S p1 t).2 a0 h0) r k B) → GW Z (MW Z q S Y2) A s.heap H locs → lv_has ls 8 [(0, .ref (q 0)), (1, .int (p1)), (4, .int (last)), (5, .int (nI t.length))] → W p l e (rmk 4 0 0) s m args below meth c H locs 0 0 Qx (F0 m 78 ls [])) → W p l e (rmk 4 0 0) s m args below meth c H locs 0 0 Qx (F0 m 78 ls []) := by
      intro d
      induction d with
      | zero =>
        intro t a0 h0 r
        induction r with
        | zero =>
          intro k B Y H locs ls hkr hd hlen hMR hBM htr G hl K
          have hT12 : t.length + 1 ≤ 6 := by omega
          have hst0 : isSt S a0 = true := hMR.2.2.1 _ List.mem_cons_self
          have hho0 : isHo h0 = true := hMR.2.2.2 _ List.mem_cons_self
          have hn6 : nS S ≤ 6 := N6 hI
          refine lv_iload hx hb dX9_findPlan_78 (lv_at hl 3 rfl) ?_
          refine lv_if_le (tgt := 217) hx hb dX9_findPlan_80 (by decide) (fun c_80 => ?_) (fun c_80 => ?_)
          · skip
            have c_80n := Int32.not_lt.mpr c_80
            exact absurd c_80 (nI_nle (by omega) (by omega))
          · skip
            have c_80n := Int32.not_le.mp c_80
            refine lv_aload_n hx hb dX9_findPlan_83 rfl (lv_at hl 0 rfl) ?_
            refine gM_0_29 E G m_662 dX9_findPlan_84 ?_
            refine lv_iload hx hb dX9_findPlan_87 (lv_at hl 3 rfl) ?_
            refine lv_iconst (v := 1) hx hb dX9_findPlan_89 (by decide) ?_
            refine lv_isub hx hb dX9_findPlan_90 ?_
            refine aM_20 E G (by rw [nI_pred]; exact vp_in_nI (by omega) (by decide)) dX9_findPlan_91 ?_
            refine lv_topc (y := nI k) (by rw [nI_pred, ar_nI _ (show t.length < 2 ^ 31 by omega)]; exact htr) ?_
            refine lv_istore (lv' := [(6, .int (nI k)), (0, .ref (q 0)), (1, .int (p1)), (4, .int (last)), (5, .int (nI (t.length + 1)))]) hx hb dX9_findPlan_92 hl (by decide) rfl (fun ls hl => ?_)
            refine lv_iload hx hb dX9_findPlan_94 (lv_at hl 0 rfl) ?_
            refine lv_aload_n hx hb dX9_findPlan_96 rfl (lv_at hl 1 rfl) ?_
            refine gM_0_0 E G m_633 dX9_findPlan_97 ?_
            refine lv_icmp_ne (tgt := 109) hx hb dX9_findPlan_100 (by decide) (fun c_100 => ?_) (fun c_100 => ?_)
            · skip
              exact absurd (by rw [show k = nS S by omega]; exact cl_nI hI.st.1) c_100
            · skip
              refine lv_iinc (v := (nI (t.length + 1)) + (-1)) (lv' := [(5, .int ((nI (t.length + 1)) + (-1))), (6, .int (nI k)), (0, .ref (q 0)), (1, .int (p1)), (4, .int (last))]) hx hb dX9_findPlan_103 hl (k := 4) rfl rfl (by decide) rfl (fun ls hl => ?_)
              refine lv_goto (tgt := 78) hx hb dX9_findPlan_106 (by decide) ?_
              exact K Y _ _ _ hMR.tl (fun _ _ => rfl) hBM G (lv_cast (lv_sub (l' := [(0, .ref (q 0)), (1, .int (p1)), (4, .int (last)), (5, .int ((nI (t.length + 1)) + (-1)))]) hl [2, 3, 4, 0] rfl) (by rw [neg1, nI_pred]))
        | succ r ihr =>
          intro k B Y H locs ls hkr hd hlen hMR hBM htr G hl K
          have hT12 : t.length + 1 ≤ 6 := by omega
          have hst0 : isSt S a0 = true := hMR.2.2.1 _ List.mem_cons_self
          have hho0 : isHo h0 = true := hMR.2.2.2 _ List.mem_cons_self
          have hn6 : nS S ≤ 6 := N6 hI
          refine lv_iload hx hb dX9_findPlan_78 (lv_at hl 3 rfl) ?_
          refine lv_if_le (tgt := 217) hx hb dX9_findPlan_80 (by decide) (fun c_80 => ?_) (fun c_80 => ?_)
          · skip
            have c_80n := Int32.not_lt.mpr c_80
            exact absurd c_80 (nI_nle (by omega) (by omega))
          · skip
            have c_80n := Int32.not_le.mp c_80
            refine lv_aload_n hx hb dX9_findPlan_83 rfl (lv_at hl 0 rfl) ?_
            refine gM_0_29 E G m_662 dX9_findPlan_84 ?_
            refine lv_iload hx hb dX9_findPlan_87 (lv_at hl 3 rfl) ?_
            refine lv_iconst (v := 1) hx hb dX9_findPlan_89 (by decide) ?_
            refine lv_isub hx hb dX9_findPlan_90 ?_
            refine aM_20 E G (by rw [nI_pred]; exact vp_in_nI (by omega) (by decide)) dX9_findPlan_91 ?_
            refine lv_topc (y := nI k) (by rw [nI_pred, ar_nI _ (show t.length < 2 ^ 31 by omega)]; exact htr) ?_
            refine lv_istore (lv' := [(6, .int (nI k)), (0, .ref (q 0)), (1, .int (p1)), (4, .int (last)), (5, .int (nI (t.length + 1)))]) hx hb dX9_findPlan_92 hl (by decide) rfl (fun ls hl => ?_)
            refine lv_iload hx hb dX9_findPlan_94 (lv_at hl 0 rfl) ?_
            refine lv_aload_n hx hb dX9_findPlan_96 rfl (lv_at hl 1 rfl) ?_
            refine gM_0_0 E G m_633 dX9_findPlan_97 ?_
            refine lv_icmp_ne (tgt := 109) hx hb dX9_findPlan_100 (by decide) (fun c_100 => ?_) (fun c_100 => ?_)
            · skip
              have hkn : k < nS S := by omega
              have hstk := st_k hI hkn
              refine lv_aload_n hx hb dX9_findPlan_109 rfl (lv_at hl 1 rfl) ?_
              refine gM_0_29 E G m_662 dX9_findPlan_110 ?_
              refine lv_iload hx hb dX9_findPlan_113 (lv_at hl 4 rfl) ?_
              refine lv_iconst (v := 1) hx hb dX9_findPlan_115 (by decide) ?_
              refine lv_isub hx hb dX9_findPlan_116 ?_
              refine lv_dup2_11 hx hb dX9_findPlan_117 rfl rfl ?_
              refine aM_20 E G (by rw [nI_pred]; exact vp_in_nI (by omega) (by decide)) dX9_findPlan_118 ?_
              refine lv_topc (y := nI k) (by rw [nI_pred, ar_nI _ (show t.length < 2 ^ 31 by omega)]; exact htr) ?_
              refine lv_iconst (v := 1) hx hb dX9_findPlan_119 (by decide) ?_
              refine lv_iadd hx hb dX9_findPlan_120 ?_
              refine tM_20 E G (by rw [nI_pred]; exact vp_in_nI (by omega) (by decide)) dX9_findPlan_121 (fun H locs G => ?_)
              refine lv_aload_n hx hb dX9_findPlan_122 rfl (lv_at hl 1 rfl) ?_
              refine gM_0_26 E G m_659 dX9_findPlan_123 ?_
              refine lv_iload hx hb dX9_findPlan_126 (lv_at hl 4 rfl) ?_
              refine lv_iconst (v := 1) hx hb dX9_findPlan_128 (by decide) ?_
              refine lv_isub hx hb dX9_findPlan_129 ?_
              refine aM_17 E G (by rw [nI_pred]; exact vp_in_nI (by omega) (by decide)) dX9_findPlan_130 ?_
              refine lv_topc (congrArg (fun f => ar f ((nI (t.length + 1)) - 1)) (e_y_rh_tr _ _)) ?_
              refine lv_topc (y := h0) (by rw [nI_pred, ar_nI _ (show t.length < 2 ^ 31 by omega)]; exact hMR.1.2.1) ?_
              refine lv_aload_n hx hb dX9_findPlan_131 rfl (lv_at hl 1 rfl) ?_
              refine lv_iload_n hx hb dX9_findPlan_132 rfl (lv_at hl 2 rfl) ?_
              refine lv_aload_n hx hb dX9_findPlan_133 rfl (lv_at hl 1 rfl) ?_
              refine gM_0_25 E G m_658 dX9_findPlan_134 ?_
              refine lv_iload hx hb dX9_findPlan_137 (lv_at hl 4 rfl) ?_
              refine lv_iconst (v := 1) hx hb dX9_findPlan_139 (by decide) ?_
              refine lv_isub hx hb dX9_findPlan_140 ?_
              refine aM_16 E G (by rw [nI_pred]; exact vp_in_nI (by omega) (by decide)) dX9_findPlan_141 ?_
              refine lv_topc (congrArg (fun f => ar f ((nI (t.length + 1)) - 1)) (e_y_rs_tr _ _)) ?_
              refine lv_topc (y := a0) (by rw [nI_pred, ar_nI _ (show t.length < 2 ^ 31 by omega)]; exact hMR.1.1) ?_
              refine lv_iload hx hb dX9_findPlan_142 (lv_at hl 0 rfl) ?_
              refine r_V [.int (h0)] E G (c_X9_later l Z q S (z_tr Y (au (y_tr Y) ((nI (t.length + 1)) - 1) ((nI k) + 1))) p1 a0 (nI k) hI hv hst0 hstk) kX9_later m_842 0 rfl rfl ⟨Nat.le_of_ble_eq_true rfl, Nat.le_of_ble_eq_true rfl⟩ hl dX9_findPlan_144 rfl rfl (Nat.le_of_ble_eq_true rfl) ⟨Nat.zero_le _, Nat.zero_le _⟩ (fun H locs G => ?_)
              refine lv_iadd hx hb dX9_findPlan_147 ?_
              refine lv_istore (lv' := [(7, .int (h0 + (lat S p1 a0 (nI k)))), (6, .int (nI k)), (0, .ref (q 0)), (1, .int (p1)), (4, .int (last)), (5, .int (nI (t.length + 1)))]) hx hb dX9_findPlan_148 hl (by decide) rfl (fun ls hl => ?_)
              refine lv_iload hx hb dX9_findPlan_150 (lv_at hl 0 rfl) ?_
              refine lv_iload hx hb dX9_findPlan_152 (lv_at hl 4 rfl) ?_
              refine lv_icmp_gt (tgt := 78) hx hb dX9_findPlan_154 (by decide) (fun c_154 => ?_) (fun c_154 => ?_)
              · skip
                have c_154n := Int32.not_le.mpr c_154
                exact ihr (k + 1) (exG S p1 last 0 t (cum S p1 t).1 (cum S p1 t).2 a0 h0 k B) (z_tr Y (au (y_tr Y) ((nI (t.length + 1)) - 1) ((nI k) + 1))) _ _ _ (by omega) hd hlen (hMR.tr _) (by rw [exG_1 c_154n]; exact hBM.tr _) (by (try rw [es_y_tr]); rw [nI_pred, au_nI _ (show t.length < 2 ^ 31 by omega), pk_us, nI_1]) G (lv_cast (lv_sub (l' := [(0, .ref (q 0)), (1, .int (p1)), (4, .int (last)), (5, .int (nI (t.length + 1)))]) hl [2, 3, 4, 5] rfl) (rfl)) (fun Y2 H locs ls hM2 hT2 hB2 G hl => K Y2 H locs ls hM2 (fun i hi => (hT2 i hi).trans (by (try rw [es_y_tr]); rw [nI_pred, au_nI _ (show t.length < 2 ^ 31 by omega)]; exact pk_un (by omega))) hB2 G hl)
              · skip
                have c_154n := Int32.not_lt.mp c_154
                refine lv_aload_n hx hb dX9_findPlan_157 rfl (lv_at hl 2 rfl) ?_
                refine lv_iload_n hx hb dX9_findPlan_158 rfl (lv_at hl 3 rfl) ?_
                refine lv_iload hx hb dX9_findPlan_159 (lv_at hl 1 rfl) ?_
                refine lv_iload hx hb dX9_findPlan_161 (lv_at hl 0 rfl) ?_
                refine r_V [] E G (c_X9_mayStand l Z q S (z_tr Y (au (y_tr Y) ((nI (t.length + 1)) - 1) ((nI k) + 1))) p1 (nI k) (h0 + (lat S p1 a0 (nI k))) hI hv hstk) kX9_mayStand m_798 0 rfl rfl ⟨Nat.le_of_ble_eq_true rfl, Nat.le_of_ble_eq_true rfl⟩ hl dX9_findPlan_163 rfl rfl (Nat.le_of_ble_eq_true rfl) ⟨Nat.zero_le _, Nat.zero_le _⟩ (fun H locs G => ?_)
                refine r_neb (tgt := 172) hx hb dX9_findPlan_166 (by decide) (fun c_166 => ?_) (fun c_166 => ?_)
                · skip
                  exact (desc_z hI hho0 hlar.1 c_154n hd).elim
                · skip
                  refine lv_goto (tgt := 78) hx hb dX9_findPlan_169 (by decide) ?_
                  exact ihr (k + 1) (exG S p1 last 0 t (cum S p1 t).1 (cum S p1 t).2 a0 h0 k B) (z_tr Y (au (y_tr Y) ((nI (t.length + 1)) - 1) ((nI k) + 1))) _ _ _ (by omega) hd hlen (hMR.tr _) (by rw [exG_2 c_166]; exact hBM.tr _) (by (try rw [es_y_tr]); rw [nI_pred, au_nI _ (show t.length < 2 ^ 31 by omega), pk_us, nI_1]) G (lv_cast (lv_sub (l' := [(0, .ref (q 0)), (1, .int (p1)), (4, .int (last)), (5, .int (nI (t.length + 1)))]) hl [2, 3, 4, 5] rfl) (rfl)) (fun Y2 H locs ls hM2 hT2 hB2 G hl => K Y2 H locs ls hM2 (fun i hi => (hT2 i hi).trans (by (try rw [es_y_tr]); rw [nI_pred, au_nI _ (show t.length < 2 ^ 31 by omega)]; exact pk_un (by omega))) hB2 G hl)
            · skip
              exact absurd c_100 (k_ne hI.st.1 (show k < nS S by omega))
      | succ d ihd =>
        intro t a0 h0 r
        induction r with
        | zero =>
          intro k B Y H locs ls hkr hd hlen hMR hBM htr G hl K
          have hT12 : t.length + 1 ≤ 6 := by omega
          have hst0 : isSt S a0 = true := hMR.2.2.1 _ List.mem_cons_self
          have hho0 : isHo h0 = true := hMR.2.2.2 _ List.mem_cons_self
          have hn6 : nS S ≤ 6 := N6 hI
          refine lv_iload hx hb dX9_findPlan_78 (lv_at hl 3 rfl) ?_
          refine lv_if_le (tgt := 217) hx hb dX9_findPlan_80 (by decide) (fun c_80 => ?_) (fun c_80 => ?_)
          · skip
            have c_80n := Int32.not_lt.mpr c_80
            exact absurd c_80 (nI_nle (by omega) (by omega))
          · skip
            have c_80n := Int32.not_le.mp c_80
            refine lv_aload_n hx hb dX9_findPlan_83 rfl (lv_at hl 0 rfl) ?_
            refine gM_0_29 E G m_662 dX9_findPlan_84 ?_
            refine lv_iload hx hb dX9_findPlan_87 (lv_at hl 3 rfl) ?_
            refine lv_iconst (v := 1) hx hb dX9_findPlan_89 (by decide) ?_
            refine lv_isub hx hb dX9_findPlan_90 ?_
            refine aM_20 E G (by rw [nI_pred]; exact vp_in_nI (by omega) (by decide)) dX9_findPlan_91 ?_
            refine lv_topc (y := nI k) (by rw [nI_pred, ar_nI _ (show t.length < 2 ^ 31 by omega)]; exact htr) ?_
            refine lv_istore (lv' := [(6, .int (nI k)), (0, .ref (q 0)), (1, .int (p1)), (4, .int (last)), (5, .int (nI (t.length + 1)))]) hx hb dX9_findPlan_92 hl (by decide) rfl (fun ls hl => ?_)
            refine lv_iload hx hb dX9_findPlan_94 (lv_at hl 0 rfl) ?_
            refine lv_aload_n hx hb dX9_findPlan_96 rfl (lv_at hl 1 rfl) ?_
            refine gM_0_0 E G m_633 dX9_findPlan_97 ?_
            refine lv_icmp_ne (tgt := 109) hx hb dX9_findPlan_100 (by decide) (fun c_100 => ?_) (fun c_100 => ?_)
            · skip
              exact absurd (by rw [show k = nS S by omega]; exact cl_nI hI.st.1) c_100
            · skip
              refine lv_iinc (v := (nI (t.length + 1)) + (-1)) (lv' := [(5, .int ((nI (t.length + 1)) + (-1))), (6, .int (nI k)), (0, .ref (q 0)), (1, .int (p1)), (4, .int (last))]) hx hb dX9_findPlan_103 hl (k := 4) rfl rfl (by decide) rfl (fun ls hl => ?_)
              refine lv_goto (tgt := 78) hx hb dX9_findPlan_106 (by decide) ?_
              exact K Y _ _ _ hMR.tl (fun _ _ => rfl) hBM G (lv_cast (lv_sub (l' := [(0, .ref (q 0)), (1, .int (p1)), (4, .int (last)), (5, .int ((nI (t.length + 1)) + (-1)))]) hl [2, 3, 4, 0] rfl) (by rw [neg1, nI_pred]))
        | succ r ihr =>
          intro k B Y H locs ls hkr hd hlen hMR hBM htr G hl K
          have hT12 : t.length + 1 ≤ 6 := by omega
          have hst0 : isSt S a0 = true := hMR.2.2.1 _ List.mem_cons_self
          have hho0 : isHo h0 = true := hMR.2.2.2 _ List.mem_cons_self
          have hn6 : nS S ≤ 6 := N6 hI
          refine lv_iload hx hb dX9_findPlan_78 (lv_at hl 3 rfl) ?_
          refine lv_if_le (tgt := 217) hx hb dX9_findPlan_80 (by decide) (fun c_80 => ?_) (fun c_80 => ?_)
          · skip
            have c_80n := Int32.not_lt.mpr c_80
            exact absurd c_80 (nI_nle (by omega) (by omega))
          · skip
            have c_80n := Int32.not_le.mp c_80
            refine lv_aload_n hx hb dX9_findPlan_83 rfl (lv_at hl 0 rfl) ?_
            refine gM_0_29 E G m_662 dX9_findPlan_84 ?_
            refine lv_iload hx hb dX9_findPlan_87 (lv_at hl 3 rfl) ?_
            refine lv_iconst (v := 1) hx hb dX9_findPlan_89 (by decide) ?_
            refine lv_isub hx hb dX9_findPlan_90 ?_
            refine aM_20 E G (by rw [nI_pred]; exact vp_in_nI (by omega) (by decide)) dX9_findPlan_91 ?_
            refine lv_topc (y := nI k) (by rw [nI_pred, ar_nI _ (show t.length < 2 ^ 31 by omega)]; exact htr) ?_
            refine lv_istore (lv' := [(6, .int (nI k)), (0, .ref (q 0)), (1, .int (p1)), (4, .int (last)), (5, .int (nI (t.length + 1)))]) hx hb dX9_findPlan_92 hl (by decide) rfl (fun ls hl => ?_)
            refine lv_iload hx hb dX9_findPlan_94 (lv_at hl 0 rfl) ?_
            refine lv_aload_n hx hb dX9_findPlan_96 rfl (lv_at hl 1 rfl) ?_
            refine gM_0_0 E G m_633 dX9_findPlan_97 ?_
            refine lv_icmp_ne (tgt := 109) hx hb dX9_findPlan_100 (by decide) (fun c_100 => ?_) (fun c_100 => ?_)
            · skip
              have hkn : k < nS S := by omega
              have hstk := st_k hI hkn
              refine lv_aload_n hx hb dX9_findPlan_109 rfl (lv_at hl 1 rfl) ?_
              refine gM_0_29 E G m_662 dX9_findPlan_110 ?_
              refine lv_iload hx hb dX9_findPlan_113 (lv_at hl 4 rfl) ?_
              refine lv_iconst (v := 1) hx hb dX9_findPlan_115 (by decide) ?_
              refine lv_isub hx hb dX9_findPlan_116 ?_
              refine lv_dup2_11 hx hb dX9_findPlan_117 rfl rfl ?_
              refine aM_20 E G (by rw [nI_pred]; exact vp_in_nI (by omega) (by decide)) dX9_findPlan_118 ?_
              refine lv_topc (y := nI k) (by rw [nI_pred, ar_nI _ (show t.length < 2 ^ 31 by omega)]; exact htr) ?_
              refine lv_iconst (v := 1) hx hb dX9_findPlan_119 (by decide) ?_
              refine lv_iadd hx hb dX9_findPlan_120 ?_
              refine tM_20 E G (by rw [nI_pred]; exact vp_in_nI (by omega) (by decide)) dX9_findPlan_121 (fun H locs G => ?_)
              refine lv_aload_n hx hb dX9_findPlan_122 rfl (lv_at hl 1 rfl) ?_
              refine gM_0_26 E G m_659 dX9_findPlan_123 ?_
              refine lv_iload hx hb dX9_findPlan_126 (lv_at hl 4 rfl) ?_
              refine lv_iconst (v := 1) hx hb dX9_findPlan_128 (by decide) ?_
              refine lv_isub hx hb dX9_findPlan_129 ?_
              refine aM_17 E G (by rw [nI_pred]; exact vp_in_nI (by omega) (by decide)) dX9_findPlan_130 ?_
              refine lv_topc (congrArg (fun f => ar f ((nI (t.length + 1)) - 1)) (e_y_rh_tr _ _)) ?_
              refine lv_topc (y := h0) (by rw [nI_pred, ar_nI _ (show t.length < 2 ^ 31 by omega)]; exact hMR.1.2.1) ?_
              refine lv_aload_n hx hb dX9_findPlan_131 rfl (lv_at hl 1 rfl) ?_
              refine lv_iload_n hx hb dX9_findPlan_132 rfl (lv_at hl 2 rfl) ?_
              refine lv_aload_n hx hb dX9_findPlan_133 rfl (lv_at hl 1 rfl) ?_
              refine gM_0_25 E G m_658 dX9_findPlan_134 ?_
              refine lv_iload hx hb dX9_findPlan_137 (lv_at hl 4 rfl) ?_
              refine lv_iconst (v := 1) hx hb dX9_findPlan_139 (by decide) ?_
              refine lv_isub hx hb dX9_findPlan_140 ?_
              refine aM_16 E G (by rw [nI_pred]; exact vp_in_nI (by omega) (by decide)) dX9_findPlan_141 ?_
              refine lv_topc (congrArg (fun f => ar f ((nI (t.length + 1)) - 1)) (e_y_rs_tr _ _)) ?_
              refine lv_topc (y := a0) (by rw [nI_pred, ar_nI _ (show t.length < 2 ^ 31 by omega)]; exact hMR.1.1) ?_
              refine lv_iload hx hb dX9_findPlan_142 (lv_at hl 0 rfl) ?_
              refine r_V [.int (h0)] E G (c_X9_later l Z q S (z_tr Y (au (y_tr Y) ((nI (t.length + 1)) - 1) ((nI k) + 1))) p1 a0 (nI k) hI hv hst0 hstk) kX9_later m_842 0 rfl rfl ⟨Nat.le_of_ble_eq_true rfl, Nat.le_of_ble_eq_true rfl⟩ hl dX9_findPlan_144 rfl rfl (Nat.le_of_ble_eq_true rfl) ⟨Nat.zero_le _, Nat.zero_le _⟩ (fun H locs G => ?_)
              refine lv_iadd hx hb dX9_findPlan_147 ?_
              refine lv_istore (lv' := [(7, .int (h0 + (lat S p1 a0 (nI k)))), (6, .int (nI k)), (0, .ref (q 0)), (1, .int (p1)), (4, .int (last)), (5, .int (nI (t.length + 1)))]) hx hb dX9_findPlan_148 hl (by decide) rfl (fun ls hl => ?_)
              refine lv_iload hx hb dX9_findPlan_150 (lv_at hl 0 rfl) ?_
              refine lv_iload hx hb dX9_findPlan_152 (lv_at hl 4 rfl) ?_
              refine lv_icmp_gt (tgt := 78) hx hb dX9_findPlan_154 (by decide) (fun c_154 => ?_) (fun c_154 => ?_)
              · skip
                have c_154n := Int32.not_le.mpr c_154
                exact ihr (k + 1) (exG S p1 last (d + 1) t (cum S p1 t).1 (cum S p1 t).2 a0 h0 k B) (z_tr Y (au (y_tr Y) ((nI (t.length + 1)) - 1) ((nI k) + 1))) _ _ _ (by omega) hd hlen (hMR.tr _) (by rw [exG_1 c_154n]; exact hBM.tr _) (by (try rw [es_y_tr]); rw [nI_pred, au_nI _ (show t.length < 2 ^ 31 by omega), pk_us, nI_1]) G (lv_cast (lv_sub (l' := [(0, .ref (q 0)), (1, .int (p1)), (4, .int (last)), (5, .int (nI (t.length + 1)))]) hl [2, 3, 4, 5] rfl) (rfl)) (fun Y2 H locs ls hM2 hT2 hB2 G hl => K Y2 H locs ls hM2 (fun i hi => (hT2 i hi).trans (by (try rw [es_y_tr]); rw [nI_pred, au_nI _ (show t.length < 2 ^ 31 by omega)]; exact pk_un (by omega))) hB2 G hl)
              · skip
                have c_154n := Int32.not_lt.mp c_154
                refine lv_aload_n hx hb dX9_findPlan_157 rfl (lv_at hl 2 rfl) ?_
                refine lv_iload_n hx hb dX9_findPlan_158 rfl (lv_at hl 3 rfl) ?_
                refine lv_iload hx hb dX9_findPlan_159 (lv_at hl 1 rfl) ?_
                refine lv_iload hx hb dX9_findPlan_161 (lv_at hl 0 rfl) ?_
                refine r_V [] E G (c_X9_mayStand l Z q S (z_tr Y (au (y_tr Y) ((nI (t.length + 1)) - 1) ((nI k) + 1))) p1 (nI k) (h0 + (lat S p1 a0 (nI k))) hI hv hstk) kX9_mayStand m_798 0 rfl rfl ⟨Nat.le_of_ble_eq_true rfl, Nat.le_of_ble_eq_true rfl⟩ hl dX9_findPlan_163 rfl rfl (Nat.le_of_ble_eq_true rfl) ⟨Nat.zero_le _, Nat.zero_le _⟩ (fun H locs G => ?_)
                refine r_neb (tgt := 172) hx hb dX9_findPlan_166 (by decide) (fun c_166 => ?_) (fun c_166 => ?_)
                · skip
                  have hnx := nx_ho hI (v := p1) (s := a0) (t := nI k) hho0 hlar.1 c_154n
                  refine lv_aload_n hx hb dX9_findPlan_172 rfl (lv_at hl 2 rfl) ?_
                  refine gM_0_25 E G m_658 dX9_findPlan_173 ?_
                  refine lv_iload hx hb dX9_findPlan_176 (lv_at hl 5 rfl) ?_
                  refine lv_iload hx hb dX9_findPlan_178 (lv_at hl 1 rfl) ?_
                  refine tM_16 E G (vp_in_nI (by omega) (by decide)) dX9_findPlan_180 (fun H locs G => ?_)
                  have G := GW.cast (congrArg (fun f => MW Z q (S) (z_rs (z_tr Y (au (y_tr Y) ((nI (t.length + 1)) - 1) ((nI k) + 1))) (au f (nI (t.length + 1)) (nI k)))) (e_y_rs_tr _ _)) G
                  refine lv_aload_n hx hb dX9_findPlan_181 rfl (lv_at hl 2 rfl) ?_
                  refine gM_0_26 E G m_659 dX9_findPlan_182 ?_
                  refine lv_iload hx hb dX9_findPlan_185 (lv_at hl 5 rfl) ?_
                  refine lv_iload hx hb dX9_findPlan_187 (lv_at hl 0 rfl) ?_
                  refine tM_17 E G (vp_in_nI (by omega) (by decide)) dX9_findPlan_189 (fun H locs G => ?_)
                  have G := GW.cast (congrArg (fun f => MW Z q (S) (z_rh (z_rs (z_tr Y (au (y_tr Y) ((nI (t.length + 1)) - 1) ((nI k) + 1))) (au (y_rs Y) (nI (t.length + 1)) (nI k))) (au f (nI (t.length + 1)) (h0 + (lat S p1 a0 (nI k)))))) ((e_y_rh_rs _ _).trans (e_y_rh_tr _ _))) G
                  refine lv_aload_n hx hb dX9_findPlan_190 rfl (lv_at hl 2 rfl) ?_
                  refine lv_iload_n hx hb dX9_findPlan_191 rfl (lv_at hl 3 rfl) ?_
                  refine lv_iload hx hb dX9_findPlan_192 (lv_at hl 5 rfl) ?_
                  refine r_Vv [] E G (c_X9_sells l Z q S (z_rh (z_rs (z_tr Y (au (y_tr Y) ((nI (t.length + 1)) - 1) ((nI k) + 1))) (au (y_rs Y) (nI (t.length + 1)) (nI k))) (au (y_rh Y) (nI (t.length + 1)) (h0 + (lat S p1 a0 (nI k))))) p1 (nI (t.length + 1)) hI hv (nI_pos' (by omega)) (nI_lt (a := t.length + 1) (b := 12) (by omega) (by decide)) (by show isSt S (ar (au (y_rs Y) (nI (t.length + 1)) (nI k)) (nI (t.length + 1))) = true; rw [ar_au]; exact hstk) (by show isHo (ar (au (y_rh Y) (nI (t.length + 1)) (h0 + lat S p1 a0 (nI k))) (nI (t.length + 1))) = true; rw [ar_au]; exact hnx.1)) kX9_sells m_834 0 rfl rfl ⟨Nat.le_of_ble_eq_true rfl, Nat.le_of_ble_eq_true rfl⟩ hl dX9_findPlan_194 rfl rfl (Nat.le_of_ble_eq_true rfl) ⟨Nat.zero_le _, Nat.zero_le _⟩ (fun H locs G => ?_)
                  refine lv_aload_n hx hb dX9_findPlan_197 rfl (lv_at hl 2 rfl) ?_
                  refine gM_0_29 E G m_662 dX9_findPlan_198 ?_
                  refine lv_iload hx hb dX9_findPlan_201 (lv_at hl 5 rfl) ?_
                  refine lv_iconst (v := 0) hx hb dX9_findPlan_203 (by decide) ?_
                  refine tM_20 E G (vp_in_nI (by omega) (by decide)) dX9_findPlan_204 (fun H locs G => ?_)
                  refine lv_iinc (v := (nI (t.length + 1)) + 1) (lv' := [(5, .int ((nI (t.length + 1)) + 1)), (7, .int (h0 + (lat S p1 a0 (nI k)))), (6, .int (nI k)), (0, .ref (q 0)), (1, .int (p1)), (4, .int (last))]) hx hb dX9_findPlan_205 hl (k := 5) rfl rfl (by decide) rfl (fun ls hl => ?_)
                  refine lv_aload_n hx hb dX9_findPlan_208 rfl (lv_at hl 3 rfl) ?_
                  refine lv_iload hx hb dX9_findPlan_209 (lv_at hl 0 rfl) ?_
                  refine r_Vv [] E G (c_X9_note l Z q S (z_tr (seY S p1 (z_rh (z_rs (z_tr Y (au (y_tr Y) ((nI (t.length + 1)) - 1) ((nI k) + 1))) (au (y_rs Y) (nI (t.length + 1)) (nI k))) (au (y_rh Y) (nI (t.length + 1)) (h0 + (lat S p1 a0 (nI k))))) (nI (t.length + 1))) (au (y_tr (seY S p1 (z_rh (z_rs (z_tr Y (au (y_tr Y) ((nI (t.length + 1)) - 1) ((nI k) + 1))) (au (y_rs Y) (nI (t.length + 1)) (nI k))) (au (y_rh Y) (nI (t.length + 1)) (h0 + (lat S p1 a0 (nI k))))) (nI (t.length + 1)))) (nI (t.length + 1)) 0)) ((nI (t.length + 1)) + 1) (by rw [nI_1]; exact nI_le (a := 1) (b := t.length + 1 + 1) (by omega) (by omega)) (by rw [nI_1]; exact nI_le (a := t.length + 1 + 1) (b := 6) (by omega) (by decide))) kX9_note m_838 0 rfl rfl ⟨Nat.le_of_ble_eq_true rfl, Nat.le_of_ble_eq_true rfl⟩ hl dX9_findPlan_211 rfl rfl (Nat.le_of_ble_eq_true rfl) ⟨Nat.zero_le _, Nat.zero_le _⟩ (fun H locs G => ?_)
                  refine lv_goto (tgt := 78) hx hb dX9_findPlan_214 (by decide) ?_
                  rw [nI_1 (t.length + 1)] at G
                  have hM3 := MR.se (S := S) (v := p1) (Y := z_tr Y (au (y_tr Y) (nI (t.length + 1) - 1) (nI k + 1))) (t := (a0, h0) :: t) (a := nI k) (h := h0 + lat S p1 a0 (nI k)) (hMR.tr _) (by show t.length + 1 < 12; omega) hstk hnx.1
                  generalize hY3 : seY S p1 (z_rh (z_rs (z_tr Y (au (y_tr Y) (nI (t.length + 1) - 1) (nI k + 1))) (au (y_rs Y) (nI (t.length + 1)) (nI k))) (au (y_rh Y) (nI (t.length + 1)) (h0 + lat S p1 a0 (nI k)))) (nI (t.length + 1)) = Y3 at G
                  have hM3 : MR S p1 Y3 ((nI k, h0 + lat S p1 a0 (nI k)) :: (a0, h0) :: t) := by rw [← hY3]; exact hM3
                  have hB3 : BM Y3 B := by rw [← hY3]; exact (hBM.tr _).se _ _ _
                  have hT3 : y_tr Y3 = au (y_tr Y) (nI (t.length + 1) - 1) (nI k + 1) := by rw [← hY3, tr_se]; exact es_y_tr _ _
                  obtain ⟨hB5, hM5, hT5⟩ := BM.no (Y := z_tr Y3 (au (y_tr Y3) (nI (t.length + 1)) 0)) (B := B) (hM3.tr _) (hB3.tr _) (by show t.length + 1 + 1 ≤ 6; omega)
                  refine ihd ((a0, h0) :: t) (nI k) (h0 + lat S p1 a0 (nI k)) (nS S) 0 _ _ _ _ _ (Nat.zero_add _) (desc_s hI hho0 hlar.1 c_154n hd) (by show t.length + 1 + d + 1 ≤ 6; omega) hM5 hB5 ?_ G (lv_cast (lv_sub (l' := [(0, .ref (q 0)), (1, .int (p1)), (4, .int (last)), (5, .int ((nI (t.length + 1)) + 1))]) hl [3, 4, 5, 0] rfl) (by rw [nI_1]; rfl)) ?_
                  · rw [hT5, es_y_tr]; show au (y_tr Y3) (nI (t.length + 1)) 0 (t.length + 1) = _; rw [au_nI _ (show t.length + 1 < 2 ^ 31 by omega), pk_us, nI_0]
                  · intro Y2 H locs ls hM2 hT2 hB2 G hl
                    have hT6 : ∀ i, i < t.length + 1 → y_tr Y2 i = au (y_tr Y) (nI (t.length + 1) - 1) (nI k + 1) i := by
                      intro i hi
                      rw [hT2 i hi, hT5, es_y_tr]
                      rw [au_nI _ (show t.length + 1 < 2 ^ 31 by omega), pk_un (show i ≠ t.length + 1 by omega), hT3]
                    exact ihr (k + 1) (exG S p1 last (d + 1) t (cum S p1 t).1 (cum S p1 t).2 a0 h0 k B) Y2 _ _ _ (by omega) hd hlen hM2 (by rw [exG_d c_154n c_166]; exact hB2) ((hT6 t.length (by omega)).trans (by (try rw [es_y_tr]); rw [nI_pred, au_nI _ (show t.length < 2 ^ 31 by omega), pk_us, nI_1])) G hl (fun Y6 H locs ls hM7 hT7 hB7 G hl => K Y6 H locs ls hM7 (fun i hi => (hT7 i hi).trans ((hT6 i (by omega)).trans (by (try rw [es_y_tr]); rw [nI_pred, au_nI _ (show t.length < 2 ^ 31 by omega)]; exact pk_un (by omega)))) hB7 G hl)
                · skip
                  refine lv_goto (tgt := 78) hx hb dX9_findPlan_169 (by decide) ?_
                  exact ihr (k + 1) (exG S p1 last (d + 1) t (cum S p1 t).1 (cum S p1 t).2 a0 h0 k B) (z_tr Y (au (y_tr Y) ((nI (t.length + 1)) - 1) ((nI k) + 1))) _ _ _ (by omega) hd hlen (hMR.tr _) (by rw [exG_2 c_166]; exact hBM.tr _) (by (try rw [es_y_tr]); rw [nI_pred, au_nI _ (show t.length < 2 ^ 31 by omega), pk_us, nI_1]) G (lv_cast (lv_sub (l' := [(0, .ref (q 0)), (1, .int (p1)), (4, .int (last)), (5, .int (nI (t.length + 1)))]) hl [2, 3, 4, 5] rfl) (rfl)) (fun Y2 H locs ls hM2 hT2 hB2 G hl => K Y2 H locs ls hM2 (fun i hi => (hT2 i hi).trans (by (try rw [es_y_tr]); rw [nI_pred, au_nI _ (show t.length < 2 ^ 31 by omega)]; exact pk_un (by omega))) hB2 G hl)
            · skip
              exact absurd c_100 (k_ne hI.st.1 (show k < nS S by omega))
    have hM0 : MR S p1 (seY S p1 (z_rh (z_rs (z_bm Y 0) (au (y_rs Y) 0 (p2 / 100))) (au (y_rh Y) 0 (p2 - p2 / 100 * 100))) 0) [(p2 / 100, ho p2)] := MR.se (Y := z_bm Y 0) (t := []) ⟨trivial, trivial, (fun _ h => by cases h), (fun _ h => by cases h)⟩ (by decide) (at_st hA) (at_ho hA)
    have hB0 : BM (seY S p1 (z_rh (z_rs (z_bm Y 0) (au (y_rs Y) 0 (p2 / 100))) (au (y_rh Y) 0 (p2 - p2 / 100 * 100))) 0) ([], 0, 0) := BM.se (Y := z_bm Y 0) (B := ([], 0, 0)) ⟨rfl, trivial, (fun h => absurd rfl h), by decide⟩ _ _ _
    obtain ⟨hB1, hM1, hT1⟩ := BM.no hM0 hB0 (by decide)
    refine LP 5 [] (p2 / 100) (ho p2) (nS S) 0 _ (z_tr (noY (seY S p1 (z_rh (z_rs (z_bm Y 0) (au (y_rs Y) 0 (p2 / 100))) (au (y_rh Y) 0 (p2 - p2 / 100 * 100))) 0) 1) (au (y_tr (noY (seY S p1 (z_rh (z_rs (z_bm Y 0) (au (y_rs Y) 0 (p2 / 100))) (au (y_rh Y) 0 (p2 - p2 / 100 * 100))) 0) 1)) 0 0)) _ _ _ (Nat.zero_add _) (by have := hlar.2.2; omega) (by decide) (hM1.tr _) (hB1.tr _) ?_ G (lv_cast (lv_sub (l' := [(0, .ref (q 0)), (1, .int (p1)), (4, .int (last)), (5, .int (1))]) hl [2, 3, 1, 0] rfl) (rfl)) ?_
    · rw [es_y_tr]; exact pk_us
    · intro Y2 H locs ls hM2 hT2 hB2 G hl
      have hB3 : BM Y2 (plB S p1 p2 p3) := by unfold plB; rw [exL_s, hlast, ← gof_0]; exact hB2
      have hl : lv_has ls 8 [(0, .ref (q 0)), (1, .int (p1)), (4, .int (last)), (5, .int (0))] := hl
      refine lv_iload hx hb dX9_findPlan_78 (lv_at hl 3 rfl) ?_
      refine lv_if_le (tgt := 217) hx hb dX9_findPlan_80 (by decide) (fun c_80 => ?_) (fun c_80 => ?_)
      · skip
        have c_80n := Int32.not_lt.mpr c_80
        exact r_retvE E G hr hlk hQ ⟨rfl, Y2, rfl, hB3⟩ dX9_findPlan_217
      · skip
        have c_80n := Int32.not_le.mp c_80
        exact absurd (by decide) c_80
  refine lv_aload_n hx hb dX9_findPlan_25 rfl (lv_at hl 0 rfl) ?_
  refine gM_0_26 E G m_659 dX9_findPlan_26 ?_
  refine lv_iconst (v := 0) hx hb dX9_findPlan_29 (by decide) ?_
  refine aM_17 E G (vp_of (by decide) (by decide)) dX9_findPlan_30 ?_
  refine lv_topc (congrArg (fun f => ar f 0) (es_y_rh _ _)) ?_
  refine lv_topc (y := ho p2) (ar_au) ?_
  refine lv_iload_n hx hb dX9_findPlan_31 rfl (lv_at hl 3 rfl) ?_
  refine lv_iadd hx hb dX9_findPlan_32 ?_
  refine lv_iconst (v := 1) hx hb dX9_findPlan_33 (by decide) ?_
  refine lv_isub hx hb dX9_findPlan_34 ?_
  refine lv_bipush (v := 11) hx hb dX9_findPlan_35 (by decide) ?_
  refine lv_icmp_ge (tgt := 53) hx hb dX9_findPlan_37 (by decide) (fun c_37 => ?_) (fun c_37 => ?_)
  · skip
    have c_37n := Int32.not_lt.mpr c_37
    refine lv_bipush (v := 11) hx hb dX9_findPlan_53 (by decide) ?_
    refine lv_topc (y := laH (ho p2) p3) (la_t (at_ho hA) hn c_37) ?_
    exact J55 _ _ _ (GW.cast (rfl) G) (lv_cast (lv_sub (l' := [(0, .ref (q 0)), (1, .int (p1)), (2, .int (p2)), (3, .int (p3))]) hl [0, 1, 2, 3] rfl) (rfl))
  · skip
    have c_37n := Int32.not_le.mp c_37
    refine lv_aload_n hx hb dX9_findPlan_40 rfl (lv_at hl 0 rfl) ?_
    refine gM_0_26 E G m_659 dX9_findPlan_41 ?_
    refine lv_iconst (v := 0) hx hb dX9_findPlan_44 (by decide) ?_
    refine aM_17 E G (vp_of (by decide) (by decide)) dX9_findPlan_45 ?_
    refine lv_topc (congrArg (fun f => ar f 0) (es_y_rh _ _)) ?_
    refine lv_topc (y := ho p2) (ar_au) ?_
    refine lv_iload_n hx hb dX9_findPlan_46 rfl (lv_at hl 3 rfl) ?_
    refine lv_iadd hx hb dX9_findPlan_47 ?_
    refine lv_iconst (v := 1) hx hb dX9_findPlan_48 (by decide) ?_
    refine lv_isub hx hb dX9_findPlan_49 ?_
    refine lv_goto (tgt := 55) hx hb dX9_findPlan_50 (by decide) ?_
    refine lv_topc (y := laH (ho p2) p3) (la_f (at_ho hA) hn c_37) ?_
    exact J55 _ _ _ (GW.cast (rfl) G) (lv_cast (lv_sub (l' := [(0, .ref (q 0)), (1, .int (p1)), (2, .int (p2)), (3, .int (p3))]) hl [0, 1, 2, 3] rfl) (rfl))
