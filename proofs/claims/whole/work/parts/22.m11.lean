theorem wkL_cum {S : St} {v : Int32} : ∀ {k : Nat} {B : BT}, wkL S v k = some B → B.2 = cum S v B.1
  | 0, B, h => by cases h; rfl
  | k + 1, B, h => by
    unfold wkL at h
    cases e : wkL S v k with
    | none => rw [e] at h; cases h
    | some C =>
      rw [e] at h
      have h : wkS S v k C = some B := h
      have ih := wkL_cum e
      unfold wkS at h
      split at h
      · cases h
        show (C.2.1 + _, _) = ((cum S v C.1).1 + _, _)
        rw [← ih]
      · cases h
def mkI (S : St) (v : Int32) (Y : YM) (k : Nat) : Prop := ∃ B, wkL S v k = some B ∧ MR S v Y B.1
theorem mkI_0 (S : St) (v : Int32) (Y : YM) : mkI S v Y 0 := ⟨_, rfl, trivial, trivial, (fun _ h => by cases h), (fun _ h => by cases h)⟩
theorem wkS_3 {S : St} {v : Int32} {k : Nat} {B : BT} (h : may S v (wtk S k / 100) (ho (wtk S k)) = false) : wkS S v k B = none := wkS_2 (by rw [h]; rfl)
theorem wkS_4 {S : St} {v : Int32} {k : Nat} {B : BT} (h : goL S v B.1 (wtk S k / 100) (ho (wtk S k)) = false) : wkS S v k B = none := wkS_2 (by rw [h, Bool.and_false])
theorem mkI_s {S : St} {v : Int32} {Y : YM} {k : Nat} {B : BT} (hk : k < 12) (h1 : wkL S v k = some B) (c : MR S v Y B.1) (g1 : isAt S (wtk S k) = true) (g2 : may S v (wtk S k / 100) (ho (wtk S k)) = true) (g3 : goL S v B.1 (wtk S k / 100) (ho (wtk S k)) = true) : mkI S v (seY S v (z_rh (z_rs Y (au (y_rs Y) (nI k) (wtk S k / 100))) (au (y_rh Y) (nI k) (ho (wtk S k)))) (nI k)) (k + 1) := by
  have hl := wkL_len h1
  have h2 := wkS_t (B := B) g1 (by rw [g2, g3]; rfl)
  refine ⟨_, by unfold wkL; rw [h1]; exact h2, ?_⟩
  have h3 := MR.se (S := S) (v := v) c (by omega) (at_st g1) (at_ho g1)
  rw [hl] at h3
  exact h3
theorem go_nil {S : St} {v : Int32} {t : RL} {s h : Int32} (e : t.length = 0) : goL S v t s h = true := by
  cases t with
  | nil => rfl
  | cons p t => cases e
theorem go_cons {S : St} {v : Int32} {p : Int32 × Int32} {t0 t : RL} {s h : Int32} (e : t = p :: t0) : goL S v t s h = decide (h = p.2 + lat S v p.1 s) := by rw [e]; rfl
theorem ckM_f {S : St} {v : Int32} {k : Nat} {B : BT} (hz : ¬ s_wa S = 0) (hv : isVa S v = true) (h1 : wkL (u_wa S 0) v k = some B) (h2 : wkS (u_wa S 0) v k B = none) (hk : k < (s_wa S).toNatClampNeg) : sp_check S v = fnd (u_wa S 0) (-1000003) := by
  have h3 : wkL (u_wa S 0) v (k + 1) = none := by unfold wkL; rw [h1]; exact h2
  unfold sp_check
  rw [if_neg hz, if_pos hv, wkL_n h3 _ (by omega)]
theorem ckM_t {S : St} {v : Int32} {Y : YM} (hI : Inv S) (hz : ¬ s_wa S = 0) (hv : isVa S v = true) (hB : mkI (u_wa S 0) v Y (s_wa S).toNatClampNeg) : sp_check S v = (ar (y_so Y) (s_wa S - 1), u_wa S 0) := by
  obtain ⟨B, h1, c⟩ := hB
  have hl := wkL_len h1
  have h12 := NW hI
  unfold sp_check
  rw [if_neg hz, if_pos hv, h1]
  have e : s_wa S = nI B.1.length := by rw [hl]; exact (cl_nI hI.wa.1).symm
  obtain ⟨t, b1, b2⟩ := B
  cases t with
  | nil => exact absurd e hz
  | cons p t =>
    have hl2 : t.length + 1 ≤ 12 := by have hl : t.length + 1 = _ := hl; omega
    have e2 : s_wa S - 1 = nI t.length := by rw [e]; show nI (t.length + 1) - 1 = _; rw [nI_pred]
    rw [e2, ar_nI _ (by omega), c.2.1.1]
    have := wkL_cum h1
    show (b1, _) = _
    rw [← this]
theorem ix_w {S : St} (hI : Inv S) (hz : ¬ s_wa S = 0) : vp_in (s_wa S - 1) 12 := by
  have h := hI.wa
  have e := e_lit
  rw [i_le, i_le] at h
  have h1 : ¬ (s_wa S).toInt = 0 := fun z => hz (by rw [← Int32.toInt_inj, z]; rfl)
  refine vp_of ?_ ?_ <;> rw [i_sub (by omega) (by omega)] <;> omega
theorem cons_of {t : RL} {k : Nat} (h : t.length = k) (hk : 0 < k) : ∃ p t0, t = p :: t0 ∧ t0.length + 1 = k := by
  cases t with
  | nil => subst h; exact absurd hk (Nat.lt_irrefl _)
  | cons p t => exact ⟨p, t, rfl, h⟩
set_option maxHeartbeats 4000000 in
set_option maxRecDepth 100000 in
theorem c_X9_check (l : Launch) (Z : ZT) (q : Nat → Nat) (S : St) (Y : YM) (p1 : Int32) (hI : Inv S) : CE l Z yX9_check cX9_check 4 (some .int) 5 0 0 [.ref (q 0), .int (p1)] (MW Z q S Y) (fun r w => r = some (.int (sp_check S p1).1) ∧ ∃ Y2 : YM, w = MW Z q ((sp_check S p1).2) (Y2)) := by
  refine CE.mk rfl (Nat.le_of_ble_eq_true rfl) (fun p e s m args below meth c A Qx ls E hr hlk hnm hQ G hl => ?_)
  have hx := E.1.1
  have hb := E.1.2.1
  have hl : lv_has ls 4 [(0, .ref (q 0)), (1, .int (p1))] := hl
  have hJ := hI.wa0
  have hN := NW hI
  refine lv_aload_n hx hb dX9_check_0 rfl (lv_at hl 0 rfl) ?_
  refine gM_0_4 E G m_637 dX9_check_1 ?_
  refine lv_istore_n (lv' := [(2, .int (s_wa S)), (0, .ref (q 0)), (1, .int (p1))]) hx hb dX9_check_4 rfl hl (by decide) rfl (fun ls hl => ?_)
  refine lv_aload_n hx hb dX9_check_5 rfl (lv_at hl 1 rfl) ?_
  refine lv_iconst (v := 0) hx hb dX9_check_6 (by decide) ?_
  refine pM_0_4 E G m_637 dX9_check_7 (fun H locs G => ?_)
  refine lv_iload_n hx hb dX9_check_10 rfl (lv_at hl 0 rfl) ?_
  refine lv_if_ne (tgt := 20) hx hb dX9_check_11 (by decide) (fun c_11 => ?_) (fun c_11 => ?_)
  · skip
    refine lv_aload_n hx hb dX9_check_20 rfl (lv_at hl 1 rfl) ?_
    refine lv_iload_n hx hb dX9_check_21 rfl (lv_at hl 2 rfl) ?_
    refine r_V [] E G (c_X9_isVan l Z q (u_wa S 0) Y p1 hJ) kX9_isVan m_778 0 rfl rfl ⟨Nat.le_of_ble_eq_true rfl, Nat.le_of_ble_eq_true rfl⟩ hl dX9_check_22 rfl rfl (Nat.le_of_ble_eq_true rfl) ⟨Nat.zero_le _, Nat.zero_le _⟩ (fun H locs G => ?_)
    refine r_neb (tgt := 34) hx hb dX9_check_25 (by decide) (fun c_25 => ?_) (fun c_25 => ?_)
    · skip
      refine lv_iconst (v := 0) hx hb dX9_check_34 (by decide) ?_
      refine lv_istore_n (lv' := [(3, .int (0)), (2, .int (s_wa S)), (0, .ref (q 0)), (1, .int (p1))]) hx hb dX9_check_35 rfl hl (by decide) rfl (fun ls hl => ?_)
      have L36 : ∀ k : Nat, k ≤ (s_wa S).toNatClampNeg → (∀ (Y : YM) (H : Heap) (locs : List Loc) (ls : Array Slot), mkI (u_wa S 0) p1 Y k → GW Z (MW Z q (u_wa S 0) (Y)) A s.heap H locs → lv_has ls 4 [(0, .ref (q 0)), (1, .int (p1)), (2, .int (s_wa S)), (3, .int (nI k))] → W p l e (rmk 5 0 0) s m args below meth c H locs 0 0 Qx (F0 m 36 ls [])) := by
        refine up_in2 (P := fun k => (∀ (Y : YM) (H : Heap) (locs : List Loc) (ls : Array Slot), mkI (u_wa S 0) p1 Y k → GW Z (MW Z q (u_wa S 0) (Y)) A s.heap H locs → lv_has ls 4 [(0, .ref (q 0)), (1, .int (p1)), (2, .int (s_wa S)), (3, .int (nI k))] → W p l e (rmk 5 0 0) s m args below meth c H locs 0 0 Qx (F0 m 36 ls []))) ((s_wa S).toNatClampNeg) ?_
        intro k hkk ih36 Y H locs ls hB G hl
        refine lv_iload_n hx hb dX9_check_36 rfl (lv_at hl 3 rfl) ?_
        refine lv_iload_n hx hb dX9_check_37 rfl (lv_at hl 2 rfl) ?_
        refine lv_icmp_ge (tgt := 175) hx hb dX9_check_38 (by decide) (fun c_38 => ?_) (fun c_38 => ?_)
        · skip
          have c_38n := Int32.not_lt.mpr c_38
          refine lv_aload_n hx hb dX9_check_175 rfl (lv_at hl 0 rfl) ?_
          refine gM_0_27 E G m_660 dX9_check_176 ?_
          refine lv_iload_n hx hb dX9_check_179 rfl (lv_at hl 2 rfl) ?_
          refine lv_iconst (v := 1) hx hb dX9_check_180 (by decide) ?_
          refine lv_isub hx hb dX9_check_181 ?_
          refine aM_18 E G (ix_w hI c_11) dX9_check_182 ?_
          have hs : (sp_check S p1) = (ar (y_so Y) ((s_wa S) - 1), u_wa S 0) := ckM_t hI c_11 c_25 (by rw [← lp_eq hI.wa.1 hkk c_38]; exact hB)
          exact r_retE E G hr hlk hQ ⟨by rw [hs], Y, by rw [hs]⟩ dX9_check_183
        · skip
          have c_38n := Int32.not_le.mp c_38
          have hkN := lp_lt hI.wa.1 hkk c_38
          obtain ⟨B, hB1, hB2⟩ := hB
          have hlen := wkL_len hB1
          refine lv_aload_n hx hb dX9_check_41 rfl (lv_at hl 0 rfl) ?_
          refine lv_aload_n hx hb dX9_check_42 rfl (lv_at hl 0 rfl) ?_
          refine gM_0_23 E G m_656 dX9_check_43 ?_
          refine lv_iload_n hx hb dX9_check_46 rfl (lv_at hl 3 rfl) ?_
          refine aM_14 E G (ix_k hkN hN (by decide)) dX9_check_47 ?_
          refine lv_topc (congrArg (fun f => ar f (nI k)) (e_s_wt_wa _ _)) ?_
          refine r_V [] E G (c_X9_isAt l Z q (u_wa S 0) Y (ar (s_wt S) (nI k)) hJ) kX9_isAt m_826 0 rfl rfl ⟨Nat.le_of_ble_eq_true rfl, Nat.le_of_ble_eq_true rfl⟩ hl dX9_check_48 rfl rfl (Nat.le_of_ble_eq_true rfl) ⟨Nat.zero_le _, Nat.zero_le _⟩ (fun H locs G => ?_)
          refine r_eqb (tgt := 80) hx hb dX9_check_51 (by decide) (fun c_51 => ?_) (fun c_51 => ?_)
          · skip
            refine lv_aload_n hx hb dX9_check_80 rfl (lv_at hl 0 rfl) ?_
            refine lv_iconst (v := 3) hx hb dX9_check_81 (by decide) ?_
            refine r_V [] E G (c_X9_finds l Z q (u_wa S 0) Y 3 (by decide)) kX9_finds m_746 0 rfl rfl ⟨Nat.le_of_ble_eq_true rfl, Nat.le_of_ble_eq_true rfl⟩ hl dX9_check_82 rfl rfl (Nat.le_of_ble_eq_true rfl) ⟨Nat.zero_le _, Nat.zero_le _⟩ (fun H locs G => ?_)
            have hs : (sp_check S p1) = ((fnd (u_wa S 0) (-1000000 - 3)).1, (fnd (u_wa S 0) (-1000000 - 3)).2) := (ckM_f c_11 c_25 hB1 (wkS_1 c_51) hkN).trans (fq3 _).symm
            exact r_retE E G hr hlk hQ ⟨by rw [hs], Y, by rw [hs]⟩ dX9_check_85
          · skip
            skip
            refine lv_aload_n hx hb dX9_check_54 rfl (lv_at hl 0 rfl) ?_
            refine lv_iload_n hx hb dX9_check_55 rfl (lv_at hl 1 rfl) ?_
            refine lv_aload_n hx hb dX9_check_56 rfl (lv_at hl 0 rfl) ?_
            refine gM_0_23 E G m_656 dX9_check_57 ?_
            refine lv_iload_n hx hb dX9_check_60 rfl (lv_at hl 3 rfl) ?_
            refine aM_14 E G (ix_k hkN hN (by decide)) dX9_check_61 ?_
            refine lv_topc (congrArg (fun f => ar f (nI k)) (e_s_wt_wa _ _)) ?_
            refine lv_bipush (v := 100) hx hb dX9_check_62 (by decide) ?_
            refine lv_idiv hx hb dX9_check_64 (by decide) ?_
            refine lv_aload_n hx hb dX9_check_65 rfl (lv_at hl 0 rfl) ?_
            refine gM_0_23 E G m_656 dX9_check_66 ?_
            refine lv_iload_n hx hb dX9_check_69 rfl (lv_at hl 3 rfl) ?_
            refine aM_14 E G (ix_k hkN hN (by decide)) dX9_check_70 ?_
            refine lv_topc (congrArg (fun f => ar f (nI k)) (e_s_wt_wa _ _)) ?_
            refine lv_bipush (v := 100) hx hb dX9_check_71 (by decide) ?_
            refine lv_irem hx hb dX9_check_73 (by decide) ?_
            refine r_V [] E G (c_X9_mayStand l Z q (u_wa S 0) Y p1 ((ar (s_wt S) (nI k)) / 100) ((ar (s_wt S) (nI k)) - (ar (s_wt S) (nI k)) / 100 * 100) hJ (c_25) (at_st c_51)) kX9_mayStand m_798 0 rfl rfl ⟨Nat.le_of_ble_eq_true rfl, Nat.le_of_ble_eq_true rfl⟩ hl dX9_check_74 rfl rfl (Nat.le_of_ble_eq_true rfl) ⟨Nat.zero_le _, Nat.zero_le _⟩ (fun H locs G => ?_)
            refine r_neb (tgt := 86) hx hb dX9_check_77 (by decide) (fun c_77 => ?_) (fun c_77 => ?_)
            · skip
              refine lv_aload_n hx hb dX9_check_86 rfl (lv_at hl 0 rfl) ?_
              refine gM_0_25 E G m_658 dX9_check_87 ?_
              refine lv_iload_n hx hb dX9_check_90 rfl (lv_at hl 3 rfl) ?_
              refine lv_aload_n hx hb dX9_check_91 rfl (lv_at hl 0 rfl) ?_
              refine gM_0_23 E G m_656 dX9_check_92 ?_
              refine lv_iload_n hx hb dX9_check_95 rfl (lv_at hl 3 rfl) ?_
              refine aM_14 E G (ix_k hkN hN (by decide)) dX9_check_96 ?_
              refine lv_topc (congrArg (fun f => ar f (nI k)) (e_s_wt_wa _ _)) ?_
              refine lv_bipush (v := 100) hx hb dX9_check_97 (by decide) ?_
              refine lv_idiv hx hb dX9_check_99 (by decide) ?_
              refine tM_16 E G (ix_k hkN hN (by decide)) dX9_check_100 (fun H locs G => ?_)
              refine lv_aload_n hx hb dX9_check_101 rfl (lv_at hl 0 rfl) ?_
              refine gM_0_26 E G m_659 dX9_check_102 ?_
              refine lv_iload_n hx hb dX9_check_105 rfl (lv_at hl 3 rfl) ?_
              refine lv_aload_n hx hb dX9_check_106 rfl (lv_at hl 0 rfl) ?_
              refine gM_0_23 E G m_656 dX9_check_107 ?_
              refine lv_iload_n hx hb dX9_check_110 rfl (lv_at hl 3 rfl) ?_
              refine aM_14 E G (ix_k hkN hN (by decide)) dX9_check_111 ?_
              refine lv_topc (congrArg (fun f => ar f (nI k)) (e_s_wt_wa _ _)) ?_
              refine lv_bipush (v := 100) hx hb dX9_check_112 (by decide) ?_
              refine lv_irem hx hb dX9_check_114 (by decide) ?_
              refine tM_17 E G (ix_k hkN hN (by decide)) dX9_check_115 (fun H locs G => ?_)
              have G := GW.cast (congrArg (fun f => MW Z q (u_wa S 0) (z_rh (z_rs Y (au (y_rs Y) (nI k) ((ar (s_wt S) (nI k)) / 100))) (au f (nI k) ((ar (s_wt S) (nI k)) - (ar (s_wt S) (nI k)) / 100 * 100)))) (e_y_rh_rs _ _)) G
              refine lv_iload_n hx hb dX9_check_116 rfl (lv_at hl 3 rfl) ?_
              refine lv_if_le (tgt := 163) hx hb dX9_check_117 (by decide) (fun c_117 => ?_) (fun c_117 => ?_)
              · skip
                have c_117n := Int32.not_lt.mpr c_117
                have hk0 : k = 0 := by rcases Nat.eq_zero_or_pos k with z | z; exact z; exact absurd c_117 (nI_nle z (by omega))
                refine lv_aload_n hx hb dX9_check_163 rfl (lv_at hl 0 rfl) ?_
                refine lv_iload_n hx hb dX9_check_164 rfl (lv_at hl 1 rfl) ?_
                refine lv_iload_n hx hb dX9_check_165 rfl (lv_at hl 3 rfl) ?_
                refine r_Vv [] E G (c_X9_sells l Z q (u_wa S 0) (z_rh (z_rs Y (au (y_rs Y) (nI k) ((ar (s_wt S) (nI k)) / 100))) (au (y_rh Y) (nI k) ((ar (s_wt S) (nI k)) - (ar (s_wt S) (nI k)) / 100 * 100))) p1 (nI k) hJ (c_25) (nI_pos' (by omega)) (nI_lt (a := k) (b := 12) (by omega) (by decide)) (by show isSt _ (ar (au (y_rs Y) (nI k) ((ar (s_wt S) (nI k)) / 100)) (nI k)) = true; rw [ar_au]; exact at_st c_51) (by show isHo (ar (au (y_rh Y) (nI k) ((ar (s_wt S) (nI k)) - (ar (s_wt S) (nI k)) / 100 * 100)) (nI k)) = true; rw [ar_au]; exact at_ho c_51)) kX9_sells m_834 0 rfl rfl ⟨Nat.le_of_ble_eq_true rfl, Nat.le_of_ble_eq_true rfl⟩ hl dX9_check_166 rfl rfl (Nat.le_of_ble_eq_true rfl) ⟨Nat.zero_le _, Nat.zero_le _⟩ (fun H locs G => ?_)
                refine lv_iinc (v := (nI k) + 1) (lv' := [(3, .int ((nI k) + 1)), (0, .ref (q 0)), (1, .int (p1)), (2, .int (s_wa S))]) hx hb dX9_check_169 hl (k := 3) rfl rfl (by decide) rfl (fun ls hl => ?_)
                refine lv_goto (tgt := 36) hx hb dX9_check_172 (by decide) ?_
                exact ih36 (hkN) _ _ _ _ (mkI_s (by omega) hB1 hB2 c_51 c_77 (go_nil (by omega))) (GW.cast (rfl) G) (lv_cast (lv_sub (l' := [(0, .ref (q 0)), (1, .int (p1)), (2, .int (s_wa S)), (3, .int ((nI k) + 1))]) hl [1, 2, 3, 0] rfl) (by rw [nI_1]))
              · skip
                have c_117n := Int32.not_le.mp c_117
                have hk0 : 0 < k := by rcases Nat.eq_zero_or_pos k with z | z; exact absurd (by rw [z]; decide) c_117; exact z
                obtain ⟨p0, t0, hB0, hk1⟩ := cons_of hlen hk0
                have hsp : isSt (u_wa S 0) p0.1 = true := hB2.2.2.1 p0 (by rw [hB0]; exact List.mem_cons_self)
                have hB3 := hB2.1
                rw [hB0] at hB3
                have hix : nI k - 1 = nI t0.length := by rw [← hk1, nI_pred]
                refine lv_aload_n hx hb dX9_check_120 rfl (lv_at hl 0 rfl) ?_
                refine gM_0_26 E G m_659 dX9_check_121 ?_
                refine lv_iload_n hx hb dX9_check_124 rfl (lv_at hl 3 rfl) ?_
                refine aM_17 E G (ix_k hkN hN (by decide)) dX9_check_125 ?_
                refine lv_topc (congrArg (fun f => ar f (nI k)) (es_y_rh _ _)) ?_
                refine lv_topc (y := (ar (s_wt S) (nI k)) - (ar (s_wt S) (nI k)) / 100 * 100) (ar_au) ?_
                refine lv_aload_n hx hb dX9_check_126 rfl (lv_at hl 0 rfl) ?_
                refine gM_0_26 E G m_659 dX9_check_127 ?_
                refine lv_iload_n hx hb dX9_check_130 rfl (lv_at hl 3 rfl) ?_
                refine lv_iconst (v := 1) hx hb dX9_check_131 (by decide) ?_
                refine lv_isub hx hb dX9_check_132 ?_
                refine aM_17 E G (by rw [hix]; exact vp_in_nI (by omega) (by decide)) dX9_check_133 ?_
                refine lv_topc (congrArg (fun f => ar f ((nI k) - 1)) (es_y_rh _ _)) ?_
                refine lv_topc (y := p0.2) (by rw [hix, ar_nI _ (show t0.length < 2 ^ 31 by omega), au_nI _ (show k < 2 ^ 31 by omega), pk_un (show t0.length ≠ k by omega)]; exact hB3.2.1) ?_
                refine lv_aload_n hx hb dX9_check_134 rfl (lv_at hl 0 rfl) ?_
                refine lv_iload_n hx hb dX9_check_135 rfl (lv_at hl 1 rfl) ?_
                refine lv_aload_n hx hb dX9_check_136 rfl (lv_at hl 0 rfl) ?_
                refine gM_0_25 E G m_658 dX9_check_137 ?_
                refine lv_iload_n hx hb dX9_check_140 rfl (lv_at hl 3 rfl) ?_
                refine lv_iconst (v := 1) hx hb dX9_check_141 (by decide) ?_
                refine lv_isub hx hb dX9_check_142 ?_
                refine aM_16 E G (by rw [hix]; exact vp_in_nI (by omega) (by decide)) dX9_check_143 ?_
                refine lv_topc (congrArg (fun f => ar f ((nI k) - 1)) ((e_y_rs_rh _ _).trans (es_y_rs _ _))) ?_
                refine lv_topc (y := p0.1) (by rw [hix, ar_nI _ (show t0.length < 2 ^ 31 by omega), au_nI _ (show k < 2 ^ 31 by omega), pk_un (show t0.length ≠ k by omega)]; exact hB3.1) ?_
                refine lv_aload_n hx hb dX9_check_144 rfl (lv_at hl 0 rfl) ?_
                refine gM_0_25 E G m_658 dX9_check_145 ?_
                refine lv_iload_n hx hb dX9_check_148 rfl (lv_at hl 3 rfl) ?_
                refine aM_16 E G (ix_k hkN hN (by decide)) dX9_check_149 ?_
                refine lv_topc (congrArg (fun f => ar f (nI k)) ((e_y_rs_rh _ _).trans (es_y_rs _ _))) ?_
                refine lv_topc (y := (ar (s_wt S) (nI k)) / 100) (ar_au) ?_
                refine r_V [.int (p0.2), .int ((ar (s_wt S) (nI k)) - (ar (s_wt S) (nI k)) / 100 * 100)] E G (c_X9_later l Z q (u_wa S 0) (z_rh (z_rs Y (au (y_rs Y) (nI k) ((ar (s_wt S) (nI k)) / 100))) (au (y_rh Y) (nI k) ((ar (s_wt S) (nI k)) - (ar (s_wt S) (nI k)) / 100 * 100))) p1 p0.1 ((ar (s_wt S) (nI k)) / 100) hJ (c_25) (hsp) (at_st c_51)) kX9_later m_842 0 rfl rfl ⟨Nat.le_of_ble_eq_true rfl, Nat.le_of_ble_eq_true rfl⟩ hl dX9_check_150 rfl rfl (Nat.le_of_ble_eq_true rfl) ⟨Nat.zero_le _, Nat.zero_le _⟩ (fun H locs G => ?_)
                refine lv_iadd hx hb dX9_check_153 ?_
                refine lv_icmp_eq (tgt := 163) hx hb dX9_check_154 (by decide) (fun c_154 => ?_) (fun c_154 => ?_)
                · skip
                  refine lv_aload_n hx hb dX9_check_163 rfl (lv_at hl 0 rfl) ?_
                  refine lv_iload_n hx hb dX9_check_164 rfl (lv_at hl 1 rfl) ?_
                  refine lv_iload_n hx hb dX9_check_165 rfl (lv_at hl 3 rfl) ?_
                  refine r_Vv [] E G (c_X9_sells l Z q (u_wa S 0) (z_rh (z_rs Y (au (y_rs Y) (nI k) ((ar (s_wt S) (nI k)) / 100))) (au (y_rh Y) (nI k) ((ar (s_wt S) (nI k)) - (ar (s_wt S) (nI k)) / 100 * 100))) p1 (nI k) hJ (c_25) (nI_pos' (by omega)) (nI_lt (a := k) (b := 12) (by omega) (by decide)) (by show isSt _ (ar (au (y_rs Y) (nI k) ((ar (s_wt S) (nI k)) / 100)) (nI k)) = true; rw [ar_au]; exact at_st c_51) (by show isHo (ar (au (y_rh Y) (nI k) ((ar (s_wt S) (nI k)) - (ar (s_wt S) (nI k)) / 100 * 100)) (nI k)) = true; rw [ar_au]; exact at_ho c_51)) kX9_sells m_834 0 rfl rfl ⟨Nat.le_of_ble_eq_true rfl, Nat.le_of_ble_eq_true rfl⟩ hl dX9_check_166 rfl rfl (Nat.le_of_ble_eq_true rfl) ⟨Nat.zero_le _, Nat.zero_le _⟩ (fun H locs G => ?_)
                  refine lv_iinc (v := (nI k) + 1) (lv' := [(3, .int ((nI k) + 1)), (0, .ref (q 0)), (1, .int (p1)), (2, .int (s_wa S))]) hx hb dX9_check_169 hl (k := 3) rfl rfl (by decide) rfl (fun ls hl => ?_)
                  refine lv_goto (tgt := 36) hx hb dX9_check_172 (by decide) ?_
                  exact ih36 (hkN) _ _ _ _ (mkI_s (by omega) hB1 hB2 c_51 c_77 ((go_cons hB0).trans (decide_eq_true c_154))) (GW.cast (rfl) G) (lv_cast (lv_sub (l' := [(0, .ref (q 0)), (1, .int (p1)), (2, .int (s_wa S)), (3, .int ((nI k) + 1))]) hl [1, 2, 3, 0] rfl) (by rw [nI_1]))
                · skip
                  refine lv_aload_n hx hb dX9_check_157 rfl (lv_at hl 0 rfl) ?_
                  refine lv_iconst (v := 3) hx hb dX9_check_158 (by decide) ?_
                  refine r_V [] E G (c_X9_finds l Z q (u_wa S 0) (z_rh (z_rs Y (au (y_rs Y) (nI k) ((ar (s_wt S) (nI k)) / 100))) (au (y_rh Y) (nI k) ((ar (s_wt S) (nI k)) - (ar (s_wt S) (nI k)) / 100 * 100))) 3 (by decide)) kX9_finds m_746 0 rfl rfl ⟨Nat.le_of_ble_eq_true rfl, Nat.le_of_ble_eq_true rfl⟩ hl dX9_check_159 rfl rfl (Nat.le_of_ble_eq_true rfl) ⟨Nat.zero_le _, Nat.zero_le _⟩ (fun H locs G => ?_)
                  have hs : (sp_check S p1) = ((fnd (u_wa S 0) (-1000000 - 3)).1, (fnd (u_wa S 0) (-1000000 - 3)).2) := (ckM_f c_11 c_25 hB1 (wkS_4 ((go_cons hB0).trans (decide_eq_false c_154))) hkN).trans (fq3 _).symm
                  exact r_retE E G hr hlk hQ ⟨by rw [hs], z_rh (z_rs Y (au (y_rs Y) (nI k) ((ar (s_wt S) (nI k)) / 100))) (au (y_rh Y) (nI k) ((ar (s_wt S) (nI k)) - (ar (s_wt S) (nI k)) / 100 * 100)), by rw [hs]⟩ dX9_check_162
            · skip
              refine lv_aload_n hx hb dX9_check_80 rfl (lv_at hl 0 rfl) ?_
              refine lv_iconst (v := 3) hx hb dX9_check_81 (by decide) ?_
              refine r_V [] E G (c_X9_finds l Z q (u_wa S 0) Y 3 (by decide)) kX9_finds m_746 0 rfl rfl ⟨Nat.le_of_ble_eq_true rfl, Nat.le_of_ble_eq_true rfl⟩ hl dX9_check_82 rfl rfl (Nat.le_of_ble_eq_true rfl) ⟨Nat.zero_le _, Nat.zero_le _⟩ (fun H locs G => ?_)
              have hs : (sp_check S p1) = ((fnd (u_wa S 0) (-1000000 - 3)).1, (fnd (u_wa S 0) (-1000000 - 3)).2) := (ckM_f c_11 c_25 hB1 (wkS_3 c_77) hkN).trans (fq3 _).symm
              exact r_retE E G hr hlk hQ ⟨by rw [hs], Y, by rw [hs]⟩ dX9_check_85
      exact L36 0 (Nat.zero_le _) _ _ _ _ (mkI_0 _ _ _) (GW.cast (rfl) G) (lv_cast (lv_sub (l' := [(0, .ref (q 0)), (1, .int (p1)), (2, .int (s_wa S)), (3, .int (0))]) hl [2, 3, 1, 0] rfl) (by rw [nI_0]))
    · skip
      refine lv_aload_n hx hb dX9_check_28 rfl (lv_at hl 1 rfl) ?_
      refine lv_iconst (v := 1) hx hb dX9_check_29 (by decide) ?_
      refine r_V [] E G (c_X9_finds l Z q (u_wa S 0) Y 1 (by decide)) kX9_finds m_746 0 rfl rfl ⟨Nat.le_of_ble_eq_true rfl, Nat.le_of_ble_eq_true rfl⟩ hl dX9_check_30 rfl rfl (Nat.le_of_ble_eq_true rfl) ⟨Nat.zero_le _, Nat.zero_le _⟩ (fun H locs G => ?_)
      have hs : (sp_check S p1) = ((fnd (u_wa S 0) (-1000000 - 1)).1, (fnd (u_wa S 0) (-1000000 - 1)).2) := by simp only [sp_check, if_neg c_11]; simp [show isVa S p1 = false from c_25, fq1]
      exact r_retE E G hr hlk hQ ⟨by rw [hs], Y, by rw [hs]⟩ dX9_check_33
  · skip
    refine lv_aload_n hx hb dX9_check_14 rfl (lv_at hl 1 rfl) ?_
    refine lv_iconst (v := 2) hx hb dX9_check_15 (by decide) ?_
    refine r_V [] E G (c_X9_finds l Z q (u_wa S 0) Y 2 (by decide)) kX9_finds m_746 0 rfl rfl ⟨Nat.le_of_ble_eq_true rfl, Nat.le_of_ble_eq_true rfl⟩ hl dX9_check_16 rfl rfl (Nat.le_of_ble_eq_true rfl) ⟨Nat.zero_le _, Nat.zero_le _⟩ (fun H locs G => ?_)
    have hs : (sp_check S p1) = ((fnd (u_wa S 0) (-1000000 - 2)).1, (fnd (u_wa S 0) (-1000000 - 2)).2) := by simp [sp_check, c_11, wa0_eq c_11, fq2]
    exact r_retE E G hr hlk hQ ⟨by rw [hs], Y, by rw [hs]⟩ dX9_check_19
