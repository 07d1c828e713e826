theorem noL_ne {B : BT} {p : Int32 × Int32} {t : RL} {so st : Int32} : ¬ (noL B (p :: t) so st).1.length = 0 := by
  unfold noL
  split
  · exact Nat.succ_ne_zero _
  · rename_i h; exact fun z => h (Or.inl z)
theorem exL_ne (S : St) (v last : Int32) : ∀ (d : Nat) (t : RL) (so st : Int32) (B : BT) (s h : Int32), (¬ B.1.length = 0 ∨ 0 < d) → ¬ (exL S v last d t so st B s h).1.length = 0 := by
  intro d
  induction d with
  | zero => intro t so st B s h c; rcases c with c | c; exact c; exact absurd c (Nat.lt_irrefl _)
  | succ d ih =>
    intro t so st B s h _
    rw [exL_s]
    have key : ∀ k, ¬ (fup (exG S v last d t so st s h) (noL B ((s, h) :: t) (so + slL S v t st s h) (kpL S v t st s h)) k).1.length = 0 := by
      intro k
      induction k with
      | zero => exact noL_ne
      | succ k ik =>
        show ¬ (exG S v last d t so st s h k _).1.length = 0
        unfold exG
        split
        · exact ih _ _ _ _ _ _ (Or.inl ik)
        · exact ik
    exact key _
theorem plB_ne (S : St) (v a n : Int32) : ¬ (plB S v a n).1.length = 0 := exL_ne S v _ 6 _ _ _ _ _ _ (Or.inr (by decide))
theorem wn_c (S : St) (v a n : Int32) : (wnV S v a n = 0 ∧ okP S v a n = true ∧ may S v (a / 100) (ho a) = true) ∨ (wnV S v a n = 3 ∧ okP S v a n = true ∧ may S v (a / 100) (ho a) = false) ∨ (wnV S v a n = 1 ∧ okP S v a n = false) := by
  unfold wnV
  cases h1 : okP S v a n
  · exact Or.inr (Or.inr ⟨rfl, rfl⟩)
  · cases h2 : may S v (a / 100) (ho a)
    · exact Or.inr (Or.inl ⟨rfl, rfl, rfl⟩)
    · exact Or.inl ⟨rfl, rfl, rfl⟩
theorem wn_i {S : St} {v a n : Int32} (h : ¬ wnV S v a n = 0) : inr (wnV S v a n) 1 5 = true := by
  rcases wn_c S v a n with ⟨e, -⟩ | ⟨e, -⟩ | ⟨e, -⟩
  · exact absurd e h
  · rw [e]; decide
  · rw [e]; decide
theorem wn_f {S : St} {v a n : Int32} (h : ¬ wnV S v a n = 0) : sp_plan S v a n = fnd S (-1000000 - wnV S v a n) ∧ sp_left S v a n = fnd S (-1000000 - wnV S v a n) ∧ ∀ i, sp_stop S v a n i = fnd S (-1000000 - wnV S v a n) := by
  rcases wn_c S v a n with ⟨e, -⟩ | ⟨e, h1, h2⟩ | ⟨e, h1⟩
  · exact absurd e h
  · rw [e]; unfold sp_plan sp_left sp_stop; rw [h1, h2]; exact ⟨rfl, rfl, fun _ => rfl⟩
  · rw [e]; unfold sp_plan sp_left sp_stop; rw [h1]; exact ⟨rfl, rfl, fun _ => rfl⟩
theorem wn_t {S : St} {v a n : Int32} (h : wnV S v a n = 0) : (isVa S v = true ∧ isAt S a = true ∧ inr n 1 6 = true) ∧ may S v (a / 100) (ho a) = true ∧ okP S v a n = true := by
  rcases wn_c S v a n with ⟨-, h1, h2⟩ | ⟨e, -⟩ | ⟨e, -⟩
  · refine ⟨?_, h2, h1⟩
    unfold okP at h1
    simp only [Bool.and_eq_true] at h1
    exact h1
  · rw [e] at h; exact absurd h (by decide)
  · rw [e] at h; exact absurd h (by decide)
theorem wn_v {S : St} {v a n : Int32} {Y : YM} (h : wnV S v a n = 0) (b : BM Y (plB S v a n)) : sp_plan S v a n = (y_bl Y, S) ∧ sp_left S v a n = (y_bk Y, S) := by
  obtain ⟨-, h2, h1⟩ := wn_t h
  have g := b.2.2.1 (plB_ne S v a n)
  unfold sp_plan sp_left
  rw [if_pos h1, if_pos h2, if_pos h1, if_pos h2, g.1, g.2]
  exact ⟨rfl, rfl⟩
theorem bm_in {Y : YM} {B : BT} (b : BM Y B) (i : Int32) : inr i 0 (y_bm Y - 1) = (decide (0 ≤ i) && decide (i < nI B.1.length)) := by
  have h := b.2.2.2
  rw [b.1]
  exact inr_pred (nI_pos' (by omega))
theorem bm_ix {Y : YM} {B : BT} (b : BM Y B) {i : Int32} (c : inr i 0 (y_bm Y - 1) = true) : vp_in i 6 := by
  rw [bm_in b] at c
  have h := b.2.2.2
  simp only [Bool.and_eq_true, decide_eq_true_eq, i_le, i_lt] at c
  rw [nI_toInt (by omega)] at c
  have e0 : (0 : Int32).toInt = 0 := by decide
  exact vp_of (by omega) (by omega)
theorem ws_t {S : St} {v a n i : Int32} {Y : YM} (h : wnV S v a n = 0) (b : BM Y (plB S v a n)) (c : inr i 0 (y_bm Y - 1) = true) : sp_stop S v a n i = (100 * ar (y_bs Y) i + ar (y_bh Y) i, S) := by
  obtain ⟨-, h2, h1⟩ := wn_t h
  rw [bm_in b] at c
  have hl := b.2.2.2
  unfold sp_stop
  rw [if_pos h1, if_pos h2, if_pos c]
  simp only [Bool.and_eq_true, decide_eq_true_eq] at c
  obtain ⟨j, hj, e⟩ := nI_of (x := i) (Int32.not_lt.mpr c.1)
  have h3 := c.2
  rw [e] at h3
  have h4 := (nI_ltI hj (by omega)).mp h3
  unfold ar
  rw [e, nI_clamp hj]
  have g := trA_get b.2.1 j h4
  rw [g.1, g.2]
theorem ws_f {S : St} {v a n i : Int32} {Y : YM} (h : wnV S v a n = 0) (b : BM Y (plB S v a n)) (c : inr i 0 (y_bm Y - 1) = false) : sp_stop S v a n i = fnd S (-1000002) := by
  obtain ⟨-, h2, h1⟩ := wn_t h
  rw [bm_in b] at c
  unfold sp_stop
  rw [if_pos h1, if_pos h2, if_neg (by rw [c]; decide)]
set_option maxHeartbeats 4000000 in
set_option maxRecDepth 100000 in
theorem c_X9_plan (l : Launch) (Z : ZT) (q : Nat → Nat) (S : St) (Y : YM) (p1 p2 p3 : Int32) (hI : Inv S) : CE l Z yX9_plan cX9_plan 5 (some .int) 5 0 0 [.ref (q 0), .int (p1), .int (p2), .int (p3)] (MW Z q S Y) (fun r w => r = some (.int (sp_plan S p1 p2 p3).1) ∧ ∃ Y2 : YM, w = MW Z q ((sp_plan S p1 p2 p3).2) (Y2)) := by
  refine CE.mk rfl (Nat.le_of_ble_eq_true rfl) (fun p e s m args below meth c A Qx ls E hr hlk hnm hQ G hl => ?_)
  have hx := E.1.1
  have hb := E.1.2.1
  have hl : lv_has ls 5 [(0, .ref (q 0)), (1, .int (p1)), (2, .int (p2)), (3, .int (p3))] := hl
  refine lv_aload_n hx hb dX9_plan_0 rfl (lv_at hl 0 rfl) ?_
  refine lv_iload_n hx hb dX9_plan_1 rfl (lv_at hl 1 rfl) ?_
  refine lv_iload_n hx hb dX9_plan_2 rfl (lv_at hl 2 rfl) ?_
  refine lv_iload_n hx hb dX9_plan_3 rfl (lv_at hl 3 rfl) ?_
  refine r_V [] E G (c_X9_whyNot l Z q S Y p1 p2 p3 hI) kX9_whyNot m_822 0 rfl rfl ⟨Nat.le_of_ble_eq_true rfl, Nat.le_of_ble_eq_true rfl⟩ hl dX9_plan_4 rfl rfl (Nat.le_of_ble_eq_true rfl) ⟨Nat.zero_le _, Nat.zero_le _⟩ (fun H locs G => ?_)
  refine lv_istore (lv' := [(4, .int (wnV S p1 p2 p3)), (0, .ref (q 0)), (1, .int (p1)), (2, .int (p2)), (3, .int (p3))]) hx hb dX9_plan_7 hl (by decide) rfl (fun ls hl => ?_)
  refine lv_iload hx hb dX9_plan_9 (lv_at hl 0 rfl) ?_
  refine lv_if_eq (tgt := 21) hx hb dX9_plan_11 (by decide) (fun c_11 => ?_) (fun c_11 => ?_)
  · skip
    refine lv_aload_n hx hb dX9_plan_21 rfl (lv_at hl 1 rfl) ?_
    refine lv_iload_n hx hb dX9_plan_22 rfl (lv_at hl 2 rfl) ?_
    refine lv_iload_n hx hb dX9_plan_23 rfl (lv_at hl 3 rfl) ?_
    refine lv_iload_n hx hb dX9_plan_24 rfl (lv_at hl 4 rfl) ?_
    obtain ⟨⟨hva, hat, hin⟩, -, -⟩ := wn_t c_11
    refine r_VE [] E G (c_X9_findPlan l Z q S Y p1 p2 p3 hI hva hat hin) kX9_findPlan m_830 0 rfl rfl ⟨Nat.le_of_ble_eq_true rfl, Nat.le_of_ble_eq_true rfl⟩ hl dX9_plan_25 rfl rfl (Nat.le_of_ble_eq_true rfl) ⟨Nat.zero_le _, Nat.zero_le _⟩ (fun rv w2 H locs hp G => ?_)
    obtain ⟨rfl, Y2, rfl, hB⟩ := hp
    refine lv_aload_n hx hb dX9_plan_28 rfl (lv_at hl 1 rfl) ?_
    refine gM_0_33 E G m_666 dX9_plan_29 ?_
    have hs : (sp_plan S p1 p2 p3) = (y_bl Y2, S) := (wn_v c_11 hB).1
    exact r_retE E G hr hlk hQ ⟨by rw [hs], Y2, by rw [hs]⟩ dX9_plan_32
  · skip
    refine lv_aload_n hx hb dX9_plan_14 rfl (lv_at hl 1 rfl) ?_
    refine lv_iload hx hb dX9_plan_15 (lv_at hl 0 rfl) ?_
    refine r_V [] E G (c_X9_finds l Z q S Y (wnV S p1 p2 p3) (wn_i c_11)) kX9_finds m_746 0 rfl rfl ⟨Nat.le_of_ble_eq_true rfl, Nat.le_of_ble_eq_true rfl⟩ hl dX9_plan_17 rfl rfl (Nat.le_of_ble_eq_true rfl) ⟨Nat.zero_le _, Nat.zero_le _⟩ (fun H locs G => ?_)
    have hs : (sp_plan S p1 p2 p3) = ((fnd S (-1000000 - (wnV S p1 p2 p3))).1, (fnd S (-1000000 - (wnV S p1 p2 p3))).2) := (wn_f c_11).1
    exact r_retE E G hr hlk hQ ⟨by rw [hs], Y, by rw [hs]⟩ dX9_plan_20
set_option maxHeartbeats 4000000 in
set_option maxRecDepth 100000 in
theorem c_X9_left (l : Launch) (Z : ZT) (q : Nat → Nat) (S : St) (Y : YM) (p1 p2 p3 : Int32) (hI : Inv S) : CE l Z yX9_left cX9_left 5 (some .int) 5 0 0 [.ref (q 0), .int (p1), .int (p2), .int (p3)] (MW Z q S Y) (fun r w => r = some (.int (sp_left S p1 p2 p3).1) ∧ ∃ Y2 : YM, w = MW Z q ((sp_left S p1 p2 p3).2) (Y2)) := by
  refine CE.mk rfl (Nat.le_of_ble_eq_true rfl) (fun p e s m args below meth c A Qx ls E hr hlk hnm hQ G hl => ?_)
  have hx := E.1.1
  have hb := E.1.2.1
  have hl : lv_has ls 5 [(0, .ref (q 0)), (1, .int (p1)), (2, .int (p2)), (3, .int (p3))] := hl
  refine lv_aload_n hx hb dX9_left_0 rfl (lv_at hl 0 rfl) ?_
  refine lv_iload_n hx hb dX9_left_1 rfl (lv_at hl 1 rfl) ?_
  refine lv_iload_n hx hb dX9_left_2 rfl (lv_at hl 2 rfl) ?_
  refine lv_iload_n hx hb dX9_left_3 rfl (lv_at hl 3 rfl) ?_
  refine r_V [] E G (c_X9_whyNot l Z q S Y p1 p2 p3 hI) kX9_whyNot m_822 0 rfl rfl ⟨Nat.le_of_ble_eq_true rfl, Nat.le_of_ble_eq_true rfl⟩ hl dX9_left_4 rfl rfl (Nat.le_of_ble_eq_true rfl) ⟨Nat.zero_le _, Nat.zero_le _⟩ (fun H locs G => ?_)
  refine lv_istore (lv' := [(4, .int (wnV S p1 p2 p3)), (0, .ref (q 0)), (1, .int (p1)), (2, .int (p2)), (3, .int (p3))]) hx hb dX9_left_7 hl (by decide) rfl (fun ls hl => ?_)
  refine lv_iload hx hb dX9_left_9 (lv_at hl 0 rfl) ?_
  refine lv_if_eq (tgt := 21) hx hb dX9_left_11 (by decide) (fun c_11 => ?_) (fun c_11 => ?_)
  · skip
    refine lv_aload_n hx hb dX9_left_21 rfl (lv_at hl 1 rfl) ?_
    refine lv_iload_n hx hb dX9_left_22 rfl (lv_at hl 2 rfl) ?_
    refine lv_iload_n hx hb dX9_left_23 rfl (lv_at hl 3 rfl) ?_
    refine lv_iload_n hx hb dX9_left_24 rfl (lv_at hl 4 rfl) ?_
    obtain ⟨⟨hva, hat, hin⟩, -, -⟩ := wn_t c_11
    refine r_VE [] E G (c_X9_findPlan l Z q S Y p1 p2 p3 hI hva hat hin) kX9_findPlan m_830 0 rfl rfl ⟨Nat.le_of_ble_eq_true rfl, Nat.le_of_ble_eq_true rfl⟩ hl dX9_left_25 rfl rfl (Nat.le_of_ble_eq_true rfl) ⟨Nat.zero_le _, Nat.zero_le _⟩ (fun rv w2 H locs hp G => ?_)
    obtain ⟨rfl, Y2, rfl, hB⟩ := hp
    refine lv_aload_n hx hb dX9_left_28 rfl (lv_at hl 1 rfl) ?_
    refine gM_0_34 E G m_667 dX9_left_29 ?_
    have hs : (sp_left S p1 p2 p3) = (y_bk Y2, S) := (wn_v c_11 hB).2
    exact r_retE E G hr hlk hQ ⟨by rw [hs], Y2, by rw [hs]⟩ dX9_left_32
  · skip
    refine lv_aload_n hx hb dX9_left_14 rfl (lv_at hl 1 rfl) ?_
    refine lv_iload hx hb dX9_left_15 (lv_at hl 0 rfl) ?_
    refine r_V [] E G (c_X9_finds l Z q S Y (wnV S p1 p2 p3) (wn_i c_11)) kX9_finds m_746 0 rfl rfl ⟨Nat.le_of_ble_eq_true rfl, Nat.le_of_ble_eq_true rfl⟩ hl dX9_left_17 rfl rfl (Nat.le_of_ble_eq_true rfl) ⟨Nat.zero_le _, Nat.zero_le _⟩ (fun H locs G => ?_)
    have hs : (sp_left S p1 p2 p3) = ((fnd S (-1000000 - (wnV S p1 p2 p3))).1, (fnd S (-1000000 - (wnV S p1 p2 p3))).2) := (wn_f c_11).2.1
    exact r_retE E G hr hlk hQ ⟨by rw [hs], Y, by rw [hs]⟩ dX9_left_20
set_option maxHeartbeats 4000000 in
set_option maxRecDepth 100000 in
theorem c_X9_stop (l : Launch) (Z : ZT) (q : Nat → Nat) (S : St) (Y : YM) (p1 p2 p3 p4 : Int32) (hI : Inv S) : CE l Z yX9_stop cX9_stop 6 (some .int) 5 0 0 [.ref (q 0), .int (p1), .int (p2), .int (p3), .int (p4)] (MW Z q S Y) (fun r w => r = some (.int (sp_stop S p1 p2 p3 p4).1) ∧ ∃ Y2 : YM, w = MW Z q ((sp_stop S p1 p2 p3 p4).2) (Y2)) := by
  refine CE.mk rfl (Nat.le_of_ble_eq_true rfl) (fun p e s m args below meth c A Qx ls E hr hlk hnm hQ G hl => ?_)
  have hx := E.1.1
  have hb := E.1.2.1
  have hl : lv_has ls 6 [(0, .ref (q 0)), (1, .int (p1)), (2, .int (p2)), (3, .int (p3)), (4, .int (p4))] := hl
  refine lv_aload_n hx hb dX9_stop_0 rfl (lv_at hl 0 rfl) ?_
  refine lv_iload_n hx hb dX9_stop_1 rfl (lv_at hl 1 rfl) ?_
  refine lv_iload_n hx hb dX9_stop_2 rfl (lv_at hl 2 rfl) ?_
  refine lv_iload_n hx hb dX9_stop_3 rfl (lv_at hl 3 rfl) ?_
  refine r_V [] E G (c_X9_whyNot l Z q S Y p1 p2 p3 hI) kX9_whyNot m_822 0 rfl rfl ⟨Nat.le_of_ble_eq_true rfl, Nat.le_of_ble_eq_true rfl⟩ hl dX9_stop_4 rfl rfl (Nat.le_of_ble_eq_true rfl) ⟨Nat.zero_le _, Nat.zero_le _⟩ (fun H locs G => ?_)
  refine lv_istore (lv' := [(5, .int (wnV S p1 p2 p3)), (0, .ref (q 0)), (1, .int (p1)), (2, .int (p2)), (3, .int (p3)), (4, .int (p4))]) hx hb dX9_stop_7 hl (by decide) rfl (fun ls hl => ?_)
  refine lv_iload hx hb dX9_stop_9 (lv_at hl 0 rfl) ?_
  refine lv_if_eq (tgt := 21) hx hb dX9_stop_11 (by decide) (fun c_11 => ?_) (fun c_11 => ?_)
  · skip
    refine lv_aload_n hx hb dX9_stop_21 rfl (lv_at hl 1 rfl) ?_
    refine lv_iload_n hx hb dX9_stop_22 rfl (lv_at hl 2 rfl) ?_
    refine lv_iload_n hx hb dX9_stop_23 rfl (lv_at hl 3 rfl) ?_
    refine lv_iload_n hx hb dX9_stop_24 rfl (lv_at hl 4 rfl) ?_
    obtain ⟨⟨hva, hat, hin⟩, -, -⟩ := wn_t c_11
    refine r_VE [] E G (c_X9_findPlan l Z q S Y p1 p2 p3 hI hva hat hin) kX9_findPlan m_830 0 rfl rfl ⟨Nat.le_of_ble_eq_true rfl, Nat.le_of_ble_eq_true rfl⟩ hl dX9_stop_25 rfl rfl (Nat.le_of_ble_eq_true rfl) ⟨Nat.zero_le _, Nat.zero_le _⟩ (fun rv w2 H locs hp G => ?_)
    obtain ⟨rfl, Y2, rfl, hB⟩ := hp
    refine lv_iload hx hb dX9_stop_28 (lv_at hl 5 rfl) ?_
    refine lv_iconst (v := 0) hx hb dX9_stop_30 (by decide) ?_
    refine lv_aload_n hx hb dX9_stop_31 rfl (lv_at hl 1 rfl) ?_
    refine gM_0_32 E G m_665 dX9_stop_32 ?_
    refine lv_iconst (v := 1) hx hb dX9_stop_35 (by decide) ?_
    refine lv_isub hx hb dX9_stop_36 ?_
    refine r_S [] E G (c_X9_in l Z q S Y2 p4 0 ((y_bm Y2) - 1)) kX9_in m_743 ⟨Nat.le_of_ble_eq_true rfl, Nat.le_of_ble_eq_true rfl⟩ hl dX9_stop_37 rfl rfl (Nat.le_of_ble_eq_true rfl) ⟨Nat.zero_le _, Nat.zero_le _⟩ (fun H locs G => ?_)
    refine r_eqb (tgt := 64) hx hb dX9_stop_40 (by decide) (fun c_40 => ?_) (fun c_40 => ?_)
    · skip
      refine lv_aload_n hx hb dX9_stop_64 rfl (lv_at hl 1 rfl) ?_
      refine lv_iconst (v := 2) hx hb dX9_stop_65 (by decide) ?_
      refine r_V [] E G (c_X9_finds l Z q S Y2 2 (by decide)) kX9_finds m_746 0 rfl rfl ⟨Nat.le_of_ble_eq_true rfl, Nat.le_of_ble_eq_true rfl⟩ hl dX9_stop_66 rfl rfl (Nat.le_of_ble_eq_true rfl) ⟨Nat.zero_le _, Nat.zero_le _⟩ (fun H locs G => ?_)
      have hs : (sp_stop S p1 p2 p3 p4) = ((fnd S (-1000000 - 2)).1, (fnd S (-1000000 - 2)).2) := (ws_f c_11 hB c_40).trans (fq2 S).symm
      exact r_retE E G hr hlk hQ ⟨by rw [hs], Y2, by rw [hs]⟩ dX9_stop_69
    · skip
      refine lv_bipush (v := 100) hx hb dX9_stop_43 (by decide) ?_
      refine lv_aload_n hx hb dX9_stop_45 rfl (lv_at hl 1 rfl) ?_
      refine gM_0_30 E G m_663 dX9_stop_46 ?_
      refine lv_iload hx hb dX9_stop_49 (lv_at hl 5 rfl) ?_
      refine aM_21 E G (bm_ix hB c_40) dX9_stop_51 ?_
      refine lv_imul hx hb dX9_stop_52 ?_
      refine lv_aload_n hx hb dX9_stop_53 rfl (lv_at hl 1 rfl) ?_
      refine gM_0_31 E G m_664 dX9_stop_54 ?_
      refine lv_iload hx hb dX9_stop_57 (lv_at hl 5 rfl) ?_
      refine aM_22 E G (bm_ix hB c_40) dX9_stop_59 ?_
      refine lv_iadd hx hb dX9_stop_60 ?_
      refine lv_goto (tgt := 69) hx hb dX9_stop_61 (by decide) ?_
      have hs : (sp_stop S p1 p2 p3 p4) = ((100 * (ar (y_bs Y2) p4)) + (ar (y_bh Y2) p4), S) := ws_t c_11 hB c_40
      exact r_retE E G hr hlk hQ ⟨by rw [hs], Y2, by rw [hs]⟩ dX9_stop_69
  · skip
    refine lv_aload_n hx hb dX9_stop_14 rfl (lv_at hl 1 rfl) ?_
    refine lv_iload hx hb dX9_stop_15 (lv_at hl 0 rfl) ?_
    refine r_V [] E G (c_X9_finds l Z q S Y (wnV S p1 p2 p3) (wn_i c_11)) kX9_finds m_746 0 rfl rfl ⟨Nat.le_of_ble_eq_true rfl, Nat.le_of_ble_eq_true rfl⟩ hl dX9_stop_17 rfl rfl (Nat.le_of_ble_eq_true rfl) ⟨Nat.zero_le _, Nat.zero_le _⟩ (fun H locs G => ?_)
    have hs : (sp_stop S p1 p2 p3 p4) = ((fnd S (-1000000 - (wnV S p1 p2 p3))).1, (fnd S (-1000000 - (wnV S p1 p2 p3))).2) := (wn_f c_11).2.2 _
    exact r_retE E G hr hlk hQ ⟨by rw [hs], Y, by rw [hs]⟩ dX9_stop_20
