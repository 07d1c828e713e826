theorem kX0_init : KI yX0_init cX0_init := ⟨⟨m_292, m_50, m_293⟩, by decide +kernel, rfl⟩
theorem dfX0 : ∀ j, j < 2 → defaultValue (tyX0 j) = vp_V [.int 0, .int 0] j := by
  intro j hj
  match j, hj with
  | 0, _ => rfl
  | 1, _ => rfl
  | j + 2, hj => exact absurd hj (by omega)
theorem kX1_init : KI yX1_init cX1_init := ⟨⟨m_166, m_47, m_167⟩, by decide +kernel, rfl⟩
theorem dfX1 : ∀ j, j < 5 → defaultValue (tyX1 j) = vp_V [.null, .null, .null, .int 0, .int 0] j := by
  intro j hj
  match j, hj with
  | 0, _ => rfl
  | 1, _ => rfl
  | 2, _ => rfl
  | 3, _ => rfl
  | 4, _ => rfl
  | j + 5, hj => exact absurd hj (by omega)
theorem kX2_init : KI yX2_init cX2_init := ⟨⟨m_310, m_51, m_311⟩, by decide +kernel, rfl⟩
theorem dfX2 : ∀ j, j < 2 → defaultValue (tyX2 j) = vp_V [.int 0, .int 0] j := by
  intro j hj
  match j, hj with
  | 0, _ => rfl
  | 1, _ => rfl
  | j + 2, hj => exact absurd hj (by omega)
theorem kX3_init : KI yX3_init cX3_init := ⟨⟨m_91, m_44, m_92⟩, by decide +kernel, rfl⟩
theorem dfX3 : ∀ j, j < 3 → defaultValue (tyX3 j) = vp_V [.int 0, .int 0, .int 0] j := by
  intro j hj
  match j, hj with
  | 0, _ => rfl
  | 1, _ => rfl
  | 2, _ => rfl
  | j + 3, hj => exact absurd hj (by omega)
theorem kX4_init : KI yX4_init cX4_init := ⟨⟨m_139, m_46, m_140⟩, by decide +kernel, rfl⟩
theorem dfX4 : ∀ j, j < 5 → defaultValue (tyX4 j) = vp_V [.null, .null, .null, .null, .int 0] j := by
  intro j hj
  match j, hj with
  | 0, _ => rfl
  | 1, _ => rfl
  | 2, _ => rfl
  | 3, _ => rfl
  | 4, _ => rfl
  | j + 5, hj => exact absurd hj (by omega)
theorem kX5_init : KI yX5_init cX5_init := ⟨⟨m_64, m_43, m_65⟩, by decide +kernel, rfl⟩
theorem dfX5 : ∀ j, j < 5 → defaultValue (tyX5 j) = vp_V [.null, .null, .null, .int 0, .int 0] j := by
  intro j hj
  match j, hj with
  | 0, _ => rfl
  | 1, _ => rfl
  | 2, _ => rfl
  | 3, _ => rfl
  | 4, _ => rfl
  | j + 5, hj => exact absurd hj (by omega)
theorem kX6_init : KI yX6_init cX6_init := ⟨⟨m_112, m_45, m_113⟩, by decide +kernel, rfl⟩
theorem dfX6 : ∀ j, j < 5 → defaultValue (tyX6 j) = vp_V [.null, .null, .int 0, .int 0, .int 0] j := by
  intro j hj
  match j, hj with
  | 0, _ => rfl
  | 1, _ => rfl
  | 2, _ => rfl
  | 3, _ => rfl
  | 4, _ => rfl
  | j + 5, hj => exact absurd hj (by omega)
theorem kX7_init : KI yX7_init cX7_init := ⟨⟨m_295, m_49, m_296⟩, by decide +kernel, rfl⟩
theorem dfX7 : ∀ j, j < 2 → defaultValue (tyX7 j) = vp_V [.int 0, .int 0] j := by
  intro j hj
  match j, hj with
  | 0, _ => rfl
  | 1, _ => rfl
  | j + 2, hj => exact absurd hj (by omega)
theorem kX8_init : KI yX8_init cX8_init := ⟨⟨m_56, m_42, m_57⟩, by decide +kernel, rfl⟩
theorem dfX8 : ∀ j, j < 11 → defaultValue (tyX8 j) = vp_V [.null, .null, .null, .null, .int 0, .null, .null, .null, .null, .null, .int 0] j := by
  intro j hj
  match j, hj with
  | 0, _ => rfl
  | 1, _ => rfl
  | 2, _ => rfl
  | 3, _ => rfl
  | 4, _ => rfl
  | 5, _ => rfl
  | 6, _ => rfl
  | 7, _ => rfl
  | 8, _ => rfl
  | 9, _ => rfl
  | 10, _ => rfl
  | j + 11, hj => exact absurd hj (by omega)
theorem kX9_init : KI yX9_init cX9_init := ⟨⟨m_630, m_48, m_631⟩, by decide +kernel, rfl⟩
theorem dfX9 : ∀ j, j < 35 → defaultValue (tyX9 j) = vp_V [.int 0, .int 0, .int 0, .int 0, .int 0, .int 0, .int 0, .int 0, .int 0, .int 0, .null, .null, .null, .null, .null, .null, .null, .null, .null, .null, .null, .null, .null, .null, .null, .null, .null, .null, .null, .null, .null, .null, .int 0, .int 0, .int 0] j := by
  intro j hj
  match j, hj with
  | 0, _ => rfl
  | 1, _ => rfl
  | 2, _ => rfl
  | 3, _ => rfl
  | 4, _ => rfl
  | 5, _ => rfl
  | 6, _ => rfl
  | 7, _ => rfl
  | 8, _ => rfl
  | 9, _ => rfl
  | 10, _ => rfl
  | 11, _ => rfl
  | 12, _ => rfl
  | 13, _ => rfl
  | 14, _ => rfl
  | 15, _ => rfl
  | 16, _ => rfl
  | 17, _ => rfl
  | 18, _ => rfl
  | 19, _ => rfl
  | 20, _ => rfl
  | 21, _ => rfl
  | 22, _ => rfl
  | 23, _ => rfl
  | 24, _ => rfl
  | 25, _ => rfl
  | 26, _ => rfl
  | 27, _ => rfl
  | 28, _ => rfl
  | 29, _ => rfl
  | 30, _ => rfl
  | 31, _ => rfl
  | 32, _ => rfl
  | 33, _ => rfl
  | 34, _ => rfl
  | j + 35, hj => exact absurd hj (by omega)
theorem c_X7_init0 (l : Launch) (Z : ZT) (a : Nat) (ci : Nat) (hci : ci = 0 ∨ ci = 2 ∨ ci = 7) : CEn l Z yX7_init cX7_init 1 none 1 0 0 [.ref a] [(a, .inr (ci, [.int 0, .int 0]))] (fun r x => r = none ∧ x = [(a, .inr (ci, [.int 0, .int 63]))]) := by
  refine CEn.mk rfl (Nat.le_of_ble_eq_true rfl) (fun p e s m args below meth c A Qx ls E hN hr hlk hnm hQ G hl => ?_)
  have hx := E.1.1
  have hb := E.1.2.1
  have hl : lv_has ls 1 [(0, .ref a)] := hl
  refine lv_aload_n hx hb dX7_init_0 rfl (lv_at hl 0 rfl) ?_
  refine r_obj E hl m_297 dX7_init_1 (Nat.le_of_ble_eq_true rfl) (Nat.le_of_ble_eq_true rfl) ?_
  rcases hci with rfl | rfl | rfl
  · refine lv_aload_n hx hb dX7_init_4 rfl (lv_at hl 0 rfl) ?_
    refine lv_iconst (v := 0) hx hb dX7_init_5 (by decide) ?_
    refine r_put E G 0 rfl rfl inU0 tyX0_ok nmX0 0 (by decide) m_298 rfl rfl rfl (Nat.le_of_ble_eq_true rfl) rfl dX7_init_6 (fun H locs G => ?_)
    refine lv_aload_n hx hb dX7_init_9 rfl (lv_at hl 0 rfl) ?_
    refine lv_bipush (v := 63) hx hb dX7_init_10 (by decide) ?_
    refine r_put E G 0 rfl rfl inU0 tyX0_ok nmX0 1 (by decide) m_300 rfl rfl rfl (Nat.le_of_ble_eq_true rfl) rfl dX7_init_12 (fun H locs G => ?_)
    exact r_retvP E G hr hlk hQ ⟨rfl, rfl⟩ dX7_init_15
  · refine lv_aload_n hx hb dX7_init_4 rfl (lv_at hl 0 rfl) ?_
    refine lv_iconst (v := 0) hx hb dX7_init_5 (by decide) ?_
    refine r_put E G 0 rfl rfl inU2 tyX2_ok nmX2 0 (by decide) m_298 rfl rfl rfl (Nat.le_of_ble_eq_true rfl) rfl dX7_init_6 (fun H locs G => ?_)
    refine lv_aload_n hx hb dX7_init_9 rfl (lv_at hl 0 rfl) ?_
    refine lv_bipush (v := 63) hx hb dX7_init_10 (by decide) ?_
    refine r_put E G 0 rfl rfl inU2 tyX2_ok nmX2 1 (by decide) m_300 rfl rfl rfl (Nat.le_of_ble_eq_true rfl) rfl dX7_init_12 (fun H locs G => ?_)
    exact r_retvP E G hr hlk hQ ⟨rfl, rfl⟩ dX7_init_15
  · refine lv_aload_n hx hb dX7_init_4 rfl (lv_at hl 0 rfl) ?_
    refine lv_iconst (v := 0) hx hb dX7_init_5 (by decide) ?_
    refine r_put E G 0 rfl rfl inU7 tyX7_ok nmX7 0 (by decide) m_298 rfl rfl rfl (Nat.le_of_ble_eq_true rfl) rfl dX7_init_6 (fun H locs G => ?_)
    refine lv_aload_n hx hb dX7_init_9 rfl (lv_at hl 0 rfl) ?_
    refine lv_bipush (v := 63) hx hb dX7_init_10 (by decide) ?_
    refine r_put E G 0 rfl rfl inU7 tyX7_ok nmX7 1 (by decide) m_300 rfl rfl rfl (Nat.le_of_ble_eq_true rfl) rfl dX7_init_12 (fun H locs G => ?_)
    exact r_retvP E G hr hlk hQ ⟨rfl, rfl⟩ dX7_init_15
theorem c_X0_init (l : Launch) (Z : ZT) (a : Nat) : CEn l Z yX0_init cX0_init 1 none 2 0 0 [.ref a] [(a, .inr (0, [.int 0, .int 0]))] (fun r x => r = none ∧ x = [(a, .inr (0, [.int 0, .int 63]))]) := by
  refine CEn.mk rfl (Nat.le_of_ble_eq_true rfl) (fun p e s m args below meth c A Qx ls E hN hr hlk hnm hQ G hl => ?_)
  have hx := E.1.1
  have hb := E.1.2.1
  have hl : lv_has ls 1 [(0, .ref a)] := hl
  refine lv_aload_n hx hb dX0_init_0 rfl (lv_at hl 0 rfl) ?_
  refine r_INR (w := []) [] E hN G (c_X7_init0 l Z a 0 (by decide)) kX7_init hN.1.2.1 ⟨Nat.le_of_ble_eq_true rfl, Nat.le_of_ble_eq_true rfl⟩ hl dX0_init_1 (Nat.le_of_ble_eq_true rfl) ⟨Nat.le_of_ble_eq_true rfl, Nat.le_of_ble_eq_true rfl⟩ (fun rv w1 H locs hp G => ?_)
  obtain ⟨rfl, rfl⟩ := hp
  exact r_retvP E G hr hlk hQ ⟨rfl, rfl⟩ dX0_init_4
theorem c_X2_init (l : Launch) (Z : ZT) (a : Nat) : CEn l Z yX2_init cX2_init 1 none 2 0 0 [.ref a] [(a, .inr (2, [.int 0, .int 0]))] (fun r x => r = none ∧ x = [(a, .inr (2, [.int 0, .int 63]))]) := by
  refine CEn.mk rfl (Nat.le_of_ble_eq_true rfl) (fun p e s m args below meth c A Qx ls E hN hr hlk hnm hQ G hl => ?_)
  have hx := E.1.1
  have hb := E.1.2.1
  have hl : lv_has ls 1 [(0, .ref a)] := hl
  refine lv_aload_n hx hb dX2_init_0 rfl (lv_at hl 0 rfl) ?_
  refine r_INR (w := []) [] E hN G (c_X7_init0 l Z a 2 (by decide)) kX7_init hN.1.2.2.2.1 ⟨Nat.le_of_ble_eq_true rfl, Nat.le_of_ble_eq_true rfl⟩ hl dX2_init_1 (Nat.le_of_ble_eq_true rfl) ⟨Nat.le_of_ble_eq_true rfl, Nat.le_of_ble_eq_true rfl⟩ (fun rv w1 H locs hp G => ?_)
  obtain ⟨rfl, rfl⟩ := hp
  exact r_retvP E G hr hlk hQ ⟨rfl, rfl⟩ dX2_init_4
set_option maxRecDepth 100000 in
theorem c_X5_init (l : Launch) (Z : ZT) (a : Nat) : CEn l Z yX5_init cX5_init 1 none 1 3 114 [.ref a] [(a, .inr (5, [.null, .null, .null, .int 0, .int 0]))] (fun r x => r = none ∧ ∃ q1 q2 q3 : Nat, x = [(a, .inr (5, [.ref q1, .ref q2, .ref q3, .int 0, .int 2])), (q1, .inl (Z.2.2.1, 6, .inl (fun _ => 0))), (q2, .inl (Z.2.1, 36, .inl (fun _ => 0))), (q3, .inl (Z.2.1, 72, .inl (fun _ => 0)))]) := by
  refine CEn.mk rfl (Nat.le_of_ble_eq_true rfl) (fun p e s m args below meth c A Qx ls E hN hr hlk hnm hQ G hl => ?_)
  have hx := E.1.1
  have hb := E.1.2.1
  have hl : lv_has ls 1 [(0, .ref a)] := hl
  obtain ⟨H, hH⟩ : ∃ H : Heap, H = s.heap := ⟨_, rfl⟩
  obtain ⟨locs, hlocs⟩ : ∃ x : List Loc, x = [] := ⟨_, rfl⟩
  have G : GW Z [(a, .inr (5, [.null, .null, .null, .int 0, .int 0]))] A s.heap H locs := by rw [hH, hlocs]; exact G
  suffices hW : W p l e _ s m args below meth c H locs 0 0 Qx (F0 m 0 ls []) by rw [hH, hlocs] at hW; exact hW
  clear hH hlocs
  refine lv_aload_n hx hb dX5_init_0 rfl (lv_at hl 0 rfl) ?_
  refine r_obj E hl m_66 dX5_init_1 (Nat.le_of_ble_eq_true rfl) (Nat.le_of_ble_eq_true rfl) ?_
  refine lv_aload_n hx hb dX5_init_4 rfl (lv_at hl 0 rfl) ?_
  refine lv_bipush (v := 6) hx hb dX5_init_5 (by decide) ?_
  refine r_newZ E G (n := 6) (N := 6) (by decide) (by decide) (by decide) (Nat.le_of_ble_eq_true rfl) (Nat.le_of_ble_eq_true rfl) dX5_init_7 (fun q1 H G => ?_)
  have G : GW Z [(a, .inr (5, [.null, .null, .null, .int 0, .int 0])), (q1, .inl (Z.2.2.1, 6, .inl (fun _ => 0)))] A s.heap H locs := G
  refine W.widen (k := 1) (n := 6) (Nat.le_refl _) (Nat.le_refl _) ?_
  refine r_putF (ty := .array .boolean) E G hnm 0 rfl rfl inU5 tyX5_ok nmX5 0 (by decide) m_67 rfl rfl rfl (by decide +kernel) rfl rfl (Nat.le_of_ble_eq_true rfl) rfl dX5_init_9 (fun H locs G => ?_)
  have G : GW Z [(a, .inr (5, [.ref q1, .null, .null, .int 0, .int 0])), (q1, .inl (Z.2.2.1, 6, .inl (fun _ => 0)))] A s.heap H locs := G
  refine lv_aload_n hx hb dX5_init_12 rfl (lv_at hl 0 rfl) ?_
  refine lv_bipush (v := 36) hx hb dX5_init_13 (by decide) ?_
  refine r_newI E G (n := 36) (N := 36) (by decide) (by decide) (by decide) (Nat.le_of_ble_eq_true rfl) (Nat.le_of_ble_eq_true rfl) dX5_init_15 (fun q2 H G => ?_)
  have G : GW Z [(a, .inr (5, [.ref q1, .null, .null, .int 0, .int 0])), (q1, .inl (Z.2.2.1, 6, .inl (fun _ => 0))), (q2, .inl (Z.2.1, 36, .inl (fun _ => 0)))] A s.heap H locs := G
  refine W.widen (k := 2) (n := 42) (Nat.le_refl _) (Nat.le_refl _) ?_
  refine r_putF (ty := .array .int) E G hnm 0 rfl rfl inU5 tyX5_ok nmX5 1 (by decide) m_69 rfl rfl rfl (by decide +kernel) rfl rfl (Nat.le_of_ble_eq_true rfl) rfl dX5_init_17 (fun H locs G => ?_)
  have G : GW Z [(a, .inr (5, [.ref q1, .ref q2, .null, .int 0, .int 0])), (q1, .inl (Z.2.2.1, 6, .inl (fun _ => 0))), (q2, .inl (Z.2.1, 36, .inl (fun _ => 0)))] A s.heap H locs := G
  refine lv_aload_n hx hb dX5_init_20 rfl (lv_at hl 0 rfl) ?_
  refine lv_bipush (v := 72) hx hb dX5_init_21 (by decide) ?_
  refine r_newI E G (n := 72) (N := 72) (by decide) (by decide) (by decide) (Nat.le_of_ble_eq_true rfl) (Nat.le_of_ble_eq_true rfl) dX5_init_23 (fun q3 H G => ?_)
  have G : GW Z [(a, .inr (5, [.ref q1, .ref q2, .null, .int 0, .int 0])), (q1, .inl (Z.2.2.1, 6, .inl (fun _ => 0))), (q2, .inl (Z.2.1, 36, .inl (fun _ => 0))), (q3, .inl (Z.2.1, 72, .inl (fun _ => 0)))] A s.heap H locs := G
  refine W.widen (k := 3) (n := 114) (Nat.le_refl _) (Nat.le_refl _) ?_
  refine r_putF (ty := .array .int) E G hnm 0 rfl rfl inU5 tyX5_ok nmX5 2 (by decide) m_70 rfl rfl rfl (by decide +kernel) rfl rfl (Nat.le_of_ble_eq_true rfl) rfl dX5_init_25 (fun H locs G => ?_)
  have G : GW Z [(a, .inr (5, [.ref q1, .ref q2, .ref q3, .int 0, .int 0])), (q1, .inl (Z.2.2.1, 6, .inl (fun _ => 0))), (q2, .inl (Z.2.1, 36, .inl (fun _ => 0))), (q3, .inl (Z.2.1, 72, .inl (fun _ => 0)))] A s.heap H locs := G
  refine lv_aload_n hx hb dX5_init_28 rfl (lv_at hl 0 rfl) ?_
  refine lv_iconst (v := 0) hx hb dX5_init_29 (by decide) ?_
  refine r_put E G 0 rfl rfl inU5 tyX5_ok nmX5 3 (by decide) m_71 rfl rfl rfl (Nat.le_of_ble_eq_true rfl) rfl dX5_init_30 (fun H locs G => ?_)
  have G : GW Z [(a, .inr (5, [.ref q1, .ref q2, .ref q3, .int 0, .int 0])), (q1, .inl (Z.2.2.1, 6, .inl (fun _ => 0))), (q2, .inl (Z.2.1, 36, .inl (fun _ => 0))), (q3, .inl (Z.2.1, 72, .inl (fun _ => 0)))] A s.heap H locs := G
  refine lv_aload_n hx hb dX5_init_33 rfl (lv_at hl 0 rfl) ?_
  refine lv_iconst (v := 2) hx hb dX5_init_34 (by decide) ?_
  refine r_put E G 0 rfl rfl inU5 tyX5_ok nmX5 4 (by decide) m_73 rfl rfl rfl (Nat.le_of_ble_eq_true rfl) rfl dX5_init_35 (fun H locs G => ?_)
  have G : GW Z [(a, .inr (5, [.ref q1, .ref q2, .ref q3, .int 0, .int 2])), (q1, .inl (Z.2.2.1, 6, .inl (fun _ => 0))), (q2, .inl (Z.2.1, 36, .inl (fun _ => 0))), (q3, .inl (Z.2.1, 72, .inl (fun _ => 0)))] A s.heap H locs := G
  exact r_retvP E G hr hlk hQ ⟨rfl, q1, q2, q3, rfl⟩ dX5_init_38
set_option maxRecDepth 100000 in
theorem c_X3_init (l : Launch) (Z : ZT) (a : Nat) : CEn l Z yX3_init cX3_init 1 none 1 0 0 [.ref a] [(a, .inr (3, [.int 0, .int 0, .int 0]))] (fun r x => r = none ∧ x = [(a, .inr (3, [.int 1, .int 0, .int 12]))]) := by
  refine CEn.mk rfl (Nat.le_of_ble_eq_true rfl) (fun p e s m args below meth c A Qx ls E hN hr hlk hnm hQ G hl => ?_)
  have hx := E.1.1
  have hb := E.1.2.1
  have hl : lv_has ls 1 [(0, .ref a)] := hl
  obtain ⟨H, hH⟩ : ∃ H : Heap, H = s.heap := ⟨_, rfl⟩
  obtain ⟨locs, hlocs⟩ : ∃ x : List Loc, x = [] := ⟨_, rfl⟩
  have G : GW Z [(a, .inr (3, [.int 0, .int 0, .int 0]))] A s.heap H locs := by rw [hH, hlocs]; exact G
  suffices hW : W p l e _ s m args below meth c H locs 0 0 Qx (F0 m 0 ls []) by rw [hH, hlocs] at hW; exact hW
  clear hH hlocs
  refine lv_aload_n hx hb dX3_init_0 rfl (lv_at hl 0 rfl) ?_
  refine r_obj E hl m_93 dX3_init_1 (Nat.le_of_ble_eq_true rfl) (Nat.le_of_ble_eq_true rfl) ?_
  refine lv_aload_n hx hb dX3_init_4 rfl (lv_at hl 0 rfl) ?_
  refine lv_iconst (v := 1) hx hb dX3_init_5 (by decide) ?_
  refine r_put E G 0 rfl rfl inU3 tyX3_ok nmX3 0 (by decide) m_94 rfl rfl rfl (Nat.le_of_ble_eq_true rfl) rfl dX3_init_6 (fun H locs G => ?_)
  have G : GW Z [(a, .inr (3, [.int 1, .int 0, .int 0]))] A s.heap H locs := G
  refine lv_aload_n hx hb dX3_init_9 rfl (lv_at hl 0 rfl) ?_
  refine lv_iconst (v := 0) hx hb dX3_init_10 (by decide) ?_
  refine r_put E G 0 rfl rfl inU3 tyX3_ok nmX3 1 (by decide) m_96 rfl rfl rfl (Nat.le_of_ble_eq_true rfl) rfl dX3_init_11 (fun H locs G => ?_)
  have G : GW Z [(a, .inr (3, [.int 1, .int 0, .int 0]))] A s.heap H locs := G
  refine lv_aload_n hx hb dX3_init_14 rfl (lv_at hl 0 rfl) ?_
  refine lv_bipush (v := 12) hx hb dX3_init_15 (by decide) ?_
  refine r_put E G 0 rfl rfl inU3 tyX3_ok nmX3 2 (by decide) m_98 rfl rfl rfl (Nat.le_of_ble_eq_true rfl) rfl dX3_init_17 (fun H locs G => ?_)
  have G : GW Z [(a, .inr (3, [.int 1, .int 0, .int 12]))] A s.heap H locs := G
  exact r_retvP E G hr hlk hQ ⟨rfl, rfl⟩ dX3_init_20
set_option maxRecDepth 100000 in
theorem c_X6_init (l : Launch) (Z : ZT) (a : Nat) : CEn l Z yX6_init cX6_init 1 none 1 2 24 [.ref a] [(a, .inr (6, [.null, .null, .int 0, .int 0, .int 0]))] (fun r x => r = none ∧ ∃ q1 q2 : Nat, x = [(a, .inr (6, [.ref q1, .ref q2, .int 0, .int 0, .int 0])), (q1, .inl (Z.2.1, 12, .inl (fun _ => 0))), (q2, .inl (Z.2.1, 12, .inl (fun _ => 0)))]) := by
  refine CEn.mk rfl (Nat.le_of_ble_eq_true rfl) (fun p e s m args below meth c A Qx ls E hN hr hlk hnm hQ G hl => ?_)
  have hx := E.1.1
  have hb := E.1.2.1
  have hl : lv_has ls 1 [(0, .ref a)] := hl
  obtain ⟨H, hH⟩ : ∃ H : Heap, H = s.heap := ⟨_, rfl⟩
  obtain ⟨locs, hlocs⟩ : ∃ x : List Loc, x = [] := ⟨_, rfl⟩
  have G : GW Z [(a, .inr (6, [.null, .null, .int 0, .int 0, .int 0]))] A s.heap H locs := by rw [hH, hlocs]; exact G
  suffices hW : W p l e _ s m args below meth c H locs 0 0 Qx (F0 m 0 ls []) by rw [hH, hlocs] at hW; exact hW
  clear hH hlocs
  refine lv_aload_n hx hb dX6_init_0 rfl (lv_at hl 0 rfl) ?_
  refine r_obj E hl m_114 dX6_init_1 (Nat.le_of_ble_eq_true rfl) (Nat.le_of_ble_eq_true rfl) ?_
  refine lv_aload_n hx hb dX6_init_4 rfl (lv_at hl 0 rfl) ?_
  refine lv_bipush (v := 12) hx hb dX6_init_5 (by decide) ?_
  refine r_newI E G (n := 12) (N := 12) (by decide) (by decide) (by decide) (Nat.le_of_ble_eq_true rfl) (Nat.le_of_ble_eq_true rfl) dX6_init_7 (fun q1 H G => ?_)
  have G : GW Z [(a, .inr (6, [.null, .null, .int 0, .int 0, .int 0])), (q1, .inl (Z.2.1, 12, .inl (fun _ => 0)))] A s.heap H locs := G
  refine W.widen (k := 1) (n := 12) (Nat.le_refl _) (Nat.le_refl _) ?_
  refine r_putF (ty := .array .int) E G hnm 0 rfl rfl inU6 tyX6_ok nmX6 0 (by decide) m_115 rfl rfl rfl (by decide +kernel) rfl rfl (Nat.le_of_ble_eq_true rfl) rfl dX6_init_9 (fun H locs G => ?_)
  have G : GW Z [(a, .inr (6, [.ref q1, .null, .int 0, .int 0, .int 0])), (q1, .inl (Z.2.1, 12, .inl (fun _ => 0)))] A s.heap H locs := G
  refine lv_aload_n hx hb dX6_init_12 rfl (lv_at hl 0 rfl) ?_
  refine lv_bipush (v := 12) hx hb dX6_init_13 (by decide) ?_
  refine r_newI E G (n := 12) (N := 12) (by decide) (by decide) (by decide) (Nat.le_of_ble_eq_true rfl) (Nat.le_of_ble_eq_true rfl) dX6_init_15 (fun q2 H G => ?_)
  have G : GW Z [(a, .inr (6, [.ref q1, .null, .int 0, .int 0, .int 0])), (q1, .inl (Z.2.1, 12, .inl (fun _ => 0))), (q2, .inl (Z.2.1, 12, .inl (fun _ => 0)))] A s.heap H locs := G
  refine W.widen (k := 2) (n := 24) (Nat.le_refl _) (Nat.le_refl _) ?_
  refine r_putF (ty := .array .int) E G hnm 0 rfl rfl inU6 tyX6_ok nmX6 1 (by decide) m_117 rfl rfl rfl (by decide +kernel) rfl rfl (Nat.le_of_ble_eq_true rfl) rfl dX6_init_17 (fun H locs G => ?_)
  have G : GW Z [(a, .inr (6, [.ref q1, .ref q2, .int 0, .int 0, .int 0])), (q1, .inl (Z.2.1, 12, .inl (fun _ => 0))), (q2, .inl (Z.2.1, 12, .inl (fun _ => 0)))] A s.heap H locs := G
  refine lv_aload_n hx hb dX6_init_20 rfl (lv_at hl 0 rfl) ?_
  refine lv_iconst (v := 0) hx hb dX6_init_21 (by decide) ?_
  refine r_put E G 0 rfl rfl inU6 tyX6_ok nmX6 2 (by decide) m_119 rfl rfl rfl (Nat.le_of_ble_eq_true rfl) rfl dX6_init_22 (fun H locs G => ?_)
  have G : GW Z [(a, .inr (6, [.ref q1, .ref q2, .int 0, .int 0, .int 0])), (q1, .inl (Z.2.1, 12, .inl (fun _ => 0))), (q2, .inl (Z.2.1, 12, .inl (fun _ => 0)))] A s.heap H locs := G
  refine lv_aload_n hx hb dX6_init_25 rfl (lv_at hl 0 rfl) ?_
  refine lv_iconst (v := 0) hx hb dX6_init_26 (by decide) ?_
  refine r_put E G 0 rfl rfl inU6 tyX6_ok nmX6 3 (by decide) m_121 rfl rfl rfl (Nat.le_of_ble_eq_true rfl) rfl dX6_init_27 (fun H locs G => ?_)
  have G : GW Z [(a, .inr (6, [.ref q1, .ref q2, .int 0, .int 0, .int 0])), (q1, .inl (Z.2.1, 12, .inl (fun _ => 0))), (q2, .inl (Z.2.1, 12, .inl (fun _ => 0)))] A s.heap H locs := G
  refine lv_aload_n hx hb dX6_init_30 rfl (lv_at hl 0 rfl) ?_
  refine lv_iconst (v := 0) hx hb dX6_init_31 (by decide) ?_
  refine r_put E G 0 rfl rfl inU6 tyX6_ok nmX6 4 (by decide) m_123 rfl rfl rfl (Nat.le_of_ble_eq_true rfl) rfl dX6_init_32 (fun H locs G => ?_)
  have G : GW Z [(a, .inr (6, [.ref q1, .ref q2, .int 0, .int 0, .int 0])), (q1, .inl (Z.2.1, 12, .inl (fun _ => 0))), (q2, .inl (Z.2.1, 12, .inl (fun _ => 0)))] A s.heap H locs := G
  exact r_retvP E G hr hlk hQ ⟨rfl, q1, q2, rfl⟩ dX6_init_35
set_option maxRecDepth 100000 in
theorem c_X4_init (l : Launch) (Z : ZT) (a : Nat) : CEn l Z yX4_init cX4_init 1 none 1 4 96 [.ref a] [(a, .inr (4, [.null, .null, .null, .null, .int 0]))] (fun r x => r = none ∧ ∃ q1 q2 q3 q4 : Nat, x = [(a, .inr (4, [.ref q1, .ref q2, .ref q3, .ref q4, .int 0])), (q1, .inl (Z.2.1, 24, .inl (fun _ => 0))), (q2, .inl (Z.2.1, 24, .inl (fun _ => 0))), (q3, .inl (Z.2.1, 24, .inl (fun _ => 0))), (q4, .inl (Z.2.1, 24, .inl (fun _ => 0)))]) := by
  refine CEn.mk rfl (Nat.le_of_ble_eq_true rfl) (fun p e s m args below meth c A Qx ls E hN hr hlk hnm hQ G hl => ?_)
  have hx := E.1.1
  have hb := E.1.2.1
  have hl : lv_has ls 1 [(0, .ref a)] := hl
  obtain ⟨H, hH⟩ : ∃ H : Heap, H = s.heap := ⟨_, rfl⟩
  obtain ⟨locs, hlocs⟩ : ∃ x : List Loc, x = [] := ⟨_, rfl⟩
  have G : GW Z [(a, .inr (4, [.null, .null, .null, .null, .int 0]))] A s.heap H locs := by rw [hH, hlocs]; exact G
  suffices hW : W p l e _ s m args below meth c H locs 0 0 Qx (F0 m 0 ls []) by rw [hH, hlocs] at hW; exact hW
  clear hH hlocs
  refine lv_aload_n hx hb dX4_init_0 rfl (lv_at hl 0 rfl) ?_
  refine r_obj E hl m_141 dX4_init_1 (Nat.le_of_ble_eq_true rfl) (Nat.le_of_ble_eq_true rfl) ?_
  refine lv_aload_n hx hb dX4_init_4 rfl (lv_at hl 0 rfl) ?_
  refine lv_bipush (v := 24) hx hb dX4_init_5 (by decide) ?_
  refine r_newI E G (n := 24) (N := 24) (by decide) (by decide) (by decide) (Nat.le_of_ble_eq_true rfl) (Nat.le_of_ble_eq_true rfl) dX4_init_7 (fun q1 H G => ?_)
  have G : GW Z [(a, .inr (4, [.null, .null, .null, .null, .int 0])), (q1, .inl (Z.2.1, 24, .inl (fun _ => 0)))] A s.heap H locs := G
  refine W.widen (k := 1) (n := 24) (Nat.le_refl _) (Nat.le_refl _) ?_
  refine r_putF (ty := .array .int) E G hnm 0 rfl rfl inU4 tyX4_ok nmX4 0 (by decide) m_142 rfl rfl rfl (by decide +kernel) rfl rfl (Nat.le_of_ble_eq_true rfl) rfl dX4_init_9 (fun H locs G => ?_)
  have G : GW Z [(a, .inr (4, [.ref q1, .null, .null, .null, .int 0])), (q1, .inl (Z.2.1, 24, .inl (fun _ => 0)))] A s.heap H locs := G
  refine lv_aload_n hx hb dX4_init_12 rfl (lv_at hl 0 rfl) ?_
  refine lv_bipush (v := 24) hx hb dX4_init_13 (by decide) ?_
  refine r_newI E G (n := 24) (N := 24) (by decide) (by decide) (by decide) (Nat.le_of_ble_eq_true rfl) (Nat.le_of_ble_eq_true rfl) dX4_init_15 (fun q2 H G => ?_)
  have G : GW Z [(a, .inr (4, [.ref q1, .null, .null, .null, .int 0])), (q1, .inl (Z.2.1, 24, .inl (fun _ => 0))), (q2, .inl (Z.2.1, 24, .inl (fun _ => 0)))] A s.heap H locs := G
  refine W.widen (k := 2) (n := 48) (Nat.le_refl _) (Nat.le_refl _) ?_
  refine r_putF (ty := .array .int) E G hnm 0 rfl rfl inU4 tyX4_ok nmX4 1 (by decide) m_144 rfl rfl rfl (by decide +kernel) rfl rfl (Nat.le_of_ble_eq_true rfl) rfl dX4_init_17 (fun H locs G => ?_)
  have G : GW Z [(a, .inr (4, [.ref q1, .ref q2, .null, .null, .int 0])), (q1, .inl (Z.2.1, 24, .inl (fun _ => 0))), (q2, .inl (Z.2.1, 24, .inl (fun _ => 0)))] A s.heap H locs := G
  refine lv_aload_n hx hb dX4_init_20 rfl (lv_at hl 0 rfl) ?_
  refine lv_bipush (v := 24) hx hb dX4_init_21 (by decide) ?_
  refine r_newI E G (n := 24) (N := 24) (by decide) (by decide) (by decide) (Nat.le_of_ble_eq_true rfl) (Nat.le_of_ble_eq_true rfl) dX4_init_23 (fun q3 H G => ?_)
  have G : GW Z [(a, .inr (4, [.ref q1, .ref q2, .null, .null, .int 0])), (q1, .inl (Z.2.1, 24, .inl (fun _ => 0))), (q2, .inl (Z.2.1, 24, .inl (fun _ => 0))), (q3, .inl (Z.2.1, 24, .inl (fun _ => 0)))] A s.heap H locs := G
  refine W.widen (k := 3) (n := 72) (Nat.le_refl _) (Nat.le_refl _) ?_
  refine r_putF (ty := .array .int) E G hnm 0 rfl rfl inU4 tyX4_ok nmX4 2 (by decide) m_146 rfl rfl rfl (by decide +kernel) rfl rfl (Nat.le_of_ble_eq_true rfl) rfl dX4_init_25 (fun H locs G => ?_)
  have G : GW Z [(a, .inr (4, [.ref q1, .ref q2, .ref q3, .null, .int 0])), (q1, .inl (Z.2.1, 24, .inl (fun _ => 0))), (q2, .inl (Z.2.1, 24, .inl (fun _ => 0))), (q3, .inl (Z.2.1, 24, .inl (fun _ => 0)))] A s.heap H locs := G
  refine lv_aload_n hx hb dX4_init_28 rfl (lv_at hl 0 rfl) ?_
  refine lv_bipush (v := 24) hx hb dX4_init_29 (by decide) ?_
  refine r_newI E G (n := 24) (N := 24) (by decide) (by decide) (by decide) (Nat.le_of_ble_eq_true rfl) (Nat.le_of_ble_eq_true rfl) dX4_init_31 (fun q4 H G => ?_)
  have G : GW Z [(a, .inr (4, [.ref q1, .ref q2, .ref q3, .null, .int 0])), (q1, .inl (Z.2.1, 24, .inl (fun _ => 0))), (q2, .inl (Z.2.1, 24, .inl (fun _ => 0))), (q3, .inl (Z.2.1, 24, .inl (fun _ => 0))), (q4, .inl (Z.2.1, 24, .inl (fun _ => 0)))] A s.heap H locs := G
  refine W.widen (k := 4) (n := 96) (Nat.le_refl _) (Nat.le_refl _) ?_
  refine r_putF (ty := .array .int) E G hnm 0 rfl rfl inU4 tyX4_ok nmX4 3 (by decide) m_148 rfl rfl rfl (by decide +kernel) rfl rfl (Nat.le_of_ble_eq_true rfl) rfl dX4_init_33 (fun H locs G => ?_)
  have G : GW Z [(a, .inr (4, [.ref q1, .ref q2, .ref q3, .ref q4, .int 0])), (q1, .inl (Z.2.1, 24, .inl (fun _ => 0))), (q2, .inl (Z.2.1, 24, .inl (fun _ => 0))), (q3, .inl (Z.2.1, 24, .inl (fun _ => 0))), (q4, .inl (Z.2.1, 24, .inl (fun _ => 0)))] A s.heap H locs := G
  refine lv_aload_n hx hb dX4_init_36 rfl (lv_at hl 0 rfl) ?_
  refine lv_iconst (v := 0) hx hb dX4_init_37 (by decide) ?_
  refine r_put E G 0 rfl rfl inU4 tyX4_ok nmX4 4 (by decide) m_150 rfl rfl rfl (Nat.le_of_ble_eq_true rfl) rfl dX4_init_38 (fun H locs G => ?_)
  have G : GW Z [(a, .inr (4, [.ref q1, .ref q2, .ref q3, .ref q4, .int 0])), (q1, .inl (Z.2.1, 24, .inl (fun _ => 0))), (q2, .inl (Z.2.1, 24, .inl (fun _ => 0))), (q3, .inl (Z.2.1, 24, .inl (fun _ => 0))), (q4, .inl (Z.2.1, 24, .inl (fun _ => 0)))] A s.heap H locs := G
  exact r_retvP E G hr hlk hQ ⟨rfl, q1, q2, q3, q4, rfl⟩ dX4_init_41
set_option maxRecDepth 100000 in
theorem c_X1_init (l : Launch) (Z : ZT) (a : Nat) : CEn l Z yX1_init cX1_init 1 none 1 3 36 [.ref a] [(a, .inr (1, [.null, .null, .null, .int 0, .int 0]))] (fun r x => r = none ∧ ∃ q1 q2 q3 : Nat, x = [(a, .inr (1, [.ref q1, .ref q2, .ref q3, .int 0, .int 14])), (q1, .inl (Z.2.1, 12, .inl (fun _ => 0))), (q2, .inl (Z.2.1, 12, .inl (fun _ => 0))), (q3, .inl (Z.2.1, 12, .inl (fun _ => 0)))]) := by
  refine CEn.mk rfl (Nat.le_of_ble_eq_true rfl) (fun p e s m args below meth c A Qx ls E hN hr hlk hnm hQ G hl => ?_)
  have hx := E.1.1
  have hb := E.1.2.1
  have hl : lv_has ls 1 [(0, .ref a)] := hl
  obtain ⟨H, hH⟩ : ∃ H : Heap, H = s.heap := ⟨_, rfl⟩
  obtain ⟨locs, hlocs⟩ : ∃ x : List Loc, x = [] := ⟨_, rfl⟩
  have G : GW Z [(a, .inr (1, [.null, .null, .null, .int 0, .int 0]))] A s.heap H locs := by rw [hH, hlocs]; exact G
  suffices hW : W p l e _ s m args below meth c H locs 0 0 Qx (F0 m 0 ls []) by rw [hH, hlocs] at hW; exact hW
  clear hH hlocs
  refine lv_aload_n hx hb dX1_init_0 rfl (lv_at hl 0 rfl) ?_
  refine r_obj E hl m_168 dX1_init_1 (Nat.le_of_ble_eq_true rfl) (Nat.le_of_ble_eq_true rfl) ?_
  refine lv_aload_n hx hb dX1_init_4 rfl (lv_at hl 0 rfl) ?_
  refine lv_bipush (v := 12) hx hb dX1_init_5 (by decide) ?_
  refine r_newI E G (n := 12) (N := 12) (by decide) (by decide) (by decide) (Nat.le_of_ble_eq_true rfl) (Nat.le_of_ble_eq_true rfl) dX1_init_7 (fun q1 H G => ?_)
  have G : GW Z [(a, .inr (1, [.null, .null, .null, .int 0, .int 0])), (q1, .inl (Z.2.1, 12, .inl (fun _ => 0)))] A s.heap H locs := G
  refine W.widen (k := 1) (n := 12) (Nat.le_refl _) (Nat.le_refl _) ?_
  refine r_putF (ty := .array .int) E G hnm 0 rfl rfl inU1 tyX1_ok nmX1 0 (by decide) m_169 rfl rfl rfl (by decide +kernel) rfl rfl (Nat.le_of_ble_eq_true rfl) rfl dX1_init_9 (fun H locs G => ?_)
  have G : GW Z [(a, .inr (1, [.ref q1, .null, .null, .int 0, .int 0])), (q1, .inl (Z.2.1, 12, .inl (fun _ => 0)))] A s.heap H locs := G
  refine lv_aload_n hx hb dX1_init_12 rfl (lv_at hl 0 rfl) ?_
  refine lv_bipush (v := 12) hx hb dX1_init_13 (by decide) ?_
  refine r_newI E G (n := 12) (N := 12) (by decide) (by decide) (by decide) (Nat.le_of_ble_eq_true rfl) (Nat.le_of_ble_eq_true rfl) dX1_init_15 (fun q2 H G => ?_)
  have G : GW Z [(a, .inr (1, [.ref q1, .null, .null, .int 0, .int 0])), (q1, .inl (Z.2.1, 12, .inl (fun _ => 0))), (q2, .inl (Z.2.1, 12, .inl (fun _ => 0)))] A s.heap H locs := G
  refine W.widen (k := 2) (n := 24) (Nat.le_refl _) (Nat.le_refl _) ?_
  refine r_putF (ty := .array .int) E G hnm 0 rfl rfl inU1 tyX1_ok nmX1 1 (by decide) m_171 rfl rfl rfl (by decide +kernel) rfl rfl (Nat.le_of_ble_eq_true rfl) rfl dX1_init_17 (fun H locs G => ?_)
  have G : GW Z [(a, .inr (1, [.ref q1, .ref q2, .null, .int 0, .int 0])), (q1, .inl (Z.2.1, 12, .inl (fun _ => 0))), (q2, .inl (Z.2.1, 12, .inl (fun _ => 0)))] A s.heap H locs := G
  refine lv_aload_n hx hb dX1_init_20 rfl (lv_at hl 0 rfl) ?_
  refine lv_bipush (v := 12) hx hb dX1_init_21 (by decide) ?_
  refine r_newI E G (n := 12) (N := 12) (by decide) (by decide) (by decide) (Nat.le_of_ble_eq_true rfl) (Nat.le_of_ble_eq_true rfl) dX1_init_23 (fun q3 H G => ?_)
  have G : GW Z [(a, .inr (1, [.ref q1, .ref q2, .null, .int 0, .int 0])), (q1, .inl (Z.2.1, 12, .inl (fun _ => 0))), (q2, .inl (Z.2.1, 12, .inl (fun _ => 0))), (q3, .inl (Z.2.1, 12, .inl (fun _ => 0)))] A s.heap H locs := G
  refine W.widen (k := 3) (n := 36) (Nat.le_refl _) (Nat.le_refl _) ?_
  refine r_putF (ty := .array .int) E G hnm 0 rfl rfl inU1 tyX1_ok nmX1 2 (by decide) m_172 rfl rfl rfl (by decide +kernel) rfl rfl (Nat.le_of_ble_eq_true rfl) rfl dX1_init_25 (fun H locs G => ?_)
  have G : GW Z [(a, .inr (1, [.ref q1, .ref q2, .ref q3, .int 0, .int 0])), (q1, .inl (Z.2.1, 12, .inl (fun _ => 0))), (q2, .inl (Z.2.1, 12, .inl (fun _ => 0))), (q3, .inl (Z.2.1, 12, .inl (fun _ => 0)))] A s.heap H locs := G
  refine lv_aload_n hx hb dX1_init_28 rfl (lv_at hl 0 rfl) ?_
  refine lv_iconst (v := 0) hx hb dX1_init_29 (by decide) ?_
  refine r_put E G 0 rfl rfl inU1 tyX1_ok nmX1 3 (by decide) m_173 rfl rfl rfl (Nat.le_of_ble_eq_true rfl) rfl dX1_init_30 (fun H locs G => ?_)
  have G : GW Z [(a, .inr (1, [.ref q1, .ref q2, .ref q3, .int 0, .int 0])), (q1, .inl (Z.2.1, 12, .inl (fun _ => 0))), (q2, .inl (Z.2.1, 12, .inl (fun _ => 0))), (q3, .inl (Z.2.1, 12, .inl (fun _ => 0)))] A s.heap H locs := G
  refine lv_aload_n hx hb dX1_init_33 rfl (lv_at hl 0 rfl) ?_
  refine lv_bipush (v := 14) hx hb dX1_init_34 (by decide) ?_
  refine r_put E G 0 rfl rfl inU1 tyX1_ok nmX1 4 (by decide) m_175 rfl rfl rfl (Nat.le_of_ble_eq_true rfl) rfl dX1_init_36 (fun H locs G => ?_)
  have G : GW Z [(a, .inr (1, [.ref q1, .ref q2, .ref q3, .int 0, .int 14])), (q1, .inl (Z.2.1, 12, .inl (fun _ => 0))), (q2, .inl (Z.2.1, 12, .inl (fun _ => 0))), (q3, .inl (Z.2.1, 12, .inl (fun _ => 0)))] A s.heap H locs := G
  exact r_retvP E G hr hlk hQ ⟨rfl, q1, q2, q3, rfl⟩ dX1_init_39
def S0 : St := (0, 0, 0, 0, 0, 2, 1, 0, 12, 14, fun _ => 0, fun _ => 0, fun _ => 0, fun _ => 0, fun _ => 0, fun _ => 0, fun _ => 0, fun _ => 0, fun _ => 0, fun _ => 0, fun _ => 0, fun _ => 0, fun _ => 0, fun _ => 0, fun _ => 0)
def X0 : XC := (0, 0, 0, 0, 0, 0, fun _ => 0, fun _ => 0, fun _ => 0, fun _ => 0)
def Y0 : YM := (0, 0, 0, fun _ => 0, fun _ => 0, fun _ => 0, fun _ => 0, fun _ => 0, fun _ => 0, fun _ => 0)
def qL (L : List Nat) : Nat → Nat := fun i => L.getD i 0
theorem vanL0 (q : Nat → Nat) : vanL q S0 = [] := by
  have h : vn S0 = 0 := by show (0 : Int32).toNatClampNeg = 0; decide
  unfold vanL
  rw [h]
  rfl
theorem vf0 (q : Nat → Nat) : vf q S0 = fun _ => none := by
  have h : vn S0 = 0 := by show (0 : Int32).toNatClampNeg = 0; decide
  funext i
  unfold vf
  rw [h, if_neg (Nat.not_lt_zero i)]
theorem GW.perm {Z : ZT} {w w1 : va_W} {A : Nat → Prop} {H0 H : Heap} {locs : List Loc} (G : GW Z w A H0 H locs) (is : List Nat) (h1 : is.filterMap (fun i => w[i]?) = w1) (h2 : va_nd is = true) (h3 : is.map (fun i => w[i]?) = w1.map some) : GW Z w1 A H0 H locs := ⟨G.1.sub is h1, G.2.1.sub is h2 h3, G.2.2⟩
set_option maxRecDepth 100000 in
theorem c_X8_init (l : Launch) (Z : ZT) (a : Nat) : CEn l Z yX8_init cX8_init 1 none 2 23 344 [.ref a] [(a, .inr (8, [.null, .null, .null, .null, .int 0, .null, .null, .null, .null, .null, .int 0]))] (fun r x => r = none ∧ ∃ q : Nat → Nat, q 0 = a ∧ x = CW Z q S0 X0) := by
  refine CEn.mk rfl (Nat.le_of_ble_eq_true rfl) (fun p e s m args below meth c A Qx ls E hN hr hlk hnm hQ G hl => ?_)
  have hx := E.1.1
  have hb := E.1.2.1
  have hl : lv_has ls 1 [(0, .ref a)] := hl
  obtain ⟨H, hH⟩ : ∃ H : Heap, H = s.heap := ⟨_, rfl⟩
  obtain ⟨locs, hlocs⟩ : ∃ x : List Loc, x = [] := ⟨_, rfl⟩
  have G : GW Z [(a, .inr (8, [.null, .null, .null, .null, .int 0, .null, .null, .null, .null, .null, .int 0]))] A s.heap H locs := by rw [hH, hlocs]; exact G
  suffices hW : W p l e _ s m args below meth c H locs 0 0 Qx (F0 m 0 ls []) by rw [hH, hlocs] at hW; exact hW
  clear hH hlocs
  refine lv_aload_n hx hb dX8_init_0 rfl (lv_at hl 0 rfl) ?_
  refine r_obj E hl m_58 dX8_init_1 (Nat.le_of_ble_eq_true rfl) (Nat.le_of_ble_eq_true rfl) ?_
  refine lv_aload_n hx hb dX8_init_4 rfl (lv_at hl 0 rfl) ?_
  refine lv_bipush (v := 6) hx hb dX8_init_5 (by decide) ?_
  refine r_newI E G (n := 6) (N := 6) (by decide) (by decide) (by decide) (Nat.le_of_ble_eq_true rfl) (Nat.le_of_ble_eq_true rfl) dX8_init_7 (fun q1 H G => ?_)
  have G : GW Z [(a, .inr (8, [.null, .null, .null, .null, .int 0, .null, .null, .null, .null, .null, .int 0])), (q1, .inl (Z.2.1, 6, .inl (fun _ => 0)))] A s.heap H locs := G
  refine W.widen (k := 1) (n := 6) (Nat.le_refl _) (Nat.le_refl _) ?_
  refine r_putF (ty := .array .int) E G hnm 0 rfl rfl inU8 tyX8_ok nmX8 0 (by decide) m_188 rfl rfl rfl (by decide +kernel) rfl rfl (Nat.le_of_ble_eq_true rfl) rfl dX8_init_9 (fun H locs G => ?_)
  have G : GW Z [(a, .inr (8, [.ref q1, .null, .null, .null, .int 0, .null, .null, .null, .null, .null, .int 0])), (q1, .inl (Z.2.1, 6, .inl (fun _ => 0)))] A s.heap H locs := G
  refine lv_aload_n hx hb dX8_init_12 rfl (lv_at hl 0 rfl) ?_
  refine r_new E G (ci := 5) (fs := [.null, .null, .null, .int 0, .int 0]) rfl inU5 tyX5_ok m_61 m_62 m_43 (dfX5) (Nat.le_of_ble_eq_true rfl) (Nat.le_of_ble_eq_true rfl) dX8_init_13 (fun q2 H G => ?_)
  refine W.widen (k := 2) (n := 11) (Nat.le_refl _) (Nat.le_refl _) ?_
  refine lv_dup hx hb dX8_init_16 rfl ?_
  refine r_INR [.ref q2, .ref a] E hN G (c_X5_init l Z q2) kX5_init hN.2.1.1 ⟨Nat.le_of_ble_eq_true rfl, Nat.le_of_ble_eq_true rfl⟩ hl dX8_init_17 (Nat.le_of_ble_eq_true rfl) ⟨Nat.le_of_ble_eq_true rfl, Nat.le_of_ble_eq_true rfl⟩ (fun rv w1 H locs hp G => ?_)
  obtain ⟨rfl, q3, q4, q5, rfl⟩ := hp
  have G : GW Z [(a, .inr (8, [.ref q1, .null, .null, .null, .int 0, .null, .null, .null, .null, .null, .int 0])), (q1, .inl (Z.2.1, 6, .inl (fun _ => 0))), (q2, .inr (5, [.ref q3, .ref q4, .ref q5, .int 0, .int 2])), (q3, .inl (Z.2.2.1, 6, .inl (fun _ => 0))), (q4, .inl (Z.2.1, 36, .inl (fun _ => 0))), (q5, .inl (Z.2.1, 72, .inl (fun _ => 0)))] A s.heap H locs := G
  refine W.widen (k := 5) (n := 125) (Nat.le_refl _) (Nat.le_refl _) ?_
  show W p l e _ s m args below meth c H locs 5 125 Qx (F0 m 20 ls [.ref q2, .ref a])
  refine r_putF (ty := .object "ConeRounds$Town") E G hnm 0 rfl rfl inU8 tyX8_ok nmX8 1 (by decide) m_189 rfl rfl rfl (by decide +kernel) rfl rfl (Nat.le_of_ble_eq_true rfl) rfl dX8_init_20 (fun H locs G => ?_)
  have G : GW Z [(a, .inr (8, [.ref q1, .ref q2, .null, .null, .int 0, .null, .null, .null, .null, .null, .int 0])), (q1, .inl (Z.2.1, 6, .inl (fun _ => 0))), (q2, .inr (5, [.ref q3, .ref q4, .ref q5, .int 0, .int 2])), (q3, .inl (Z.2.2.1, 6, .inl (fun _ => 0))), (q4, .inl (Z.2.1, 36, .inl (fun _ => 0))), (q5, .inl (Z.2.1, 72, .inl (fun _ => 0)))] A s.heap H locs := G
  refine lv_aload_n hx hb dX8_init_23 rfl (lv_at hl 0 rfl) ?_
  refine r_new E G (ci := 3) (fs := [.int 0, .int 0, .int 0]) rfl inU3 tyX3_ok m_88 m_89 m_44 (dfX3) (Nat.le_of_ble_eq_true rfl) (Nat.le_of_ble_eq_true rfl) dX8_init_24 (fun q6 H G => ?_)
  refine W.widen (k := 6) (n := 128) (Nat.le_refl _) (Nat.le_refl _) ?_
  refine lv_dup hx hb dX8_init_27 rfl ?_
  refine r_INR [.ref q6, .ref a] E hN G (c_X3_init l Z q6) kX3_init hN.2.1.2.1 ⟨Nat.le_of_ble_eq_true rfl, Nat.le_of_ble_eq_true rfl⟩ hl dX8_init_28 (Nat.le_of_ble_eq_true rfl) ⟨Nat.le_of_ble_eq_true rfl, Nat.le_of_ble_eq_true rfl⟩ (fun rv w1 H locs hp G => ?_)
  obtain ⟨rfl, rfl⟩ := hp
  have G : GW Z [(a, .inr (8, [.ref q1, .ref q2, .null, .null, .int 0, .null, .null, .null, .null, .null, .int 0])), (q1, .inl (Z.2.1, 6, .inl (fun _ => 0))), (q2, .inr (5, [.ref q3, .ref q4, .ref q5, .int 0, .int 2])), (q3, .inl (Z.2.2.1, 6, .inl (fun _ => 0))), (q4, .inl (Z.2.1, 36, .inl (fun _ => 0))), (q5, .inl (Z.2.1, 72, .inl (fun _ => 0))), (q6, .inr (3, [.int 1, .int 0, .int 12]))] A s.heap H locs := G
  refine W.widen (k := 6) (n := 128) (Nat.le_refl _) (Nat.le_refl _) ?_
  show W p l e _ s m args below meth c H locs 6 128 Qx (F0 m 31 ls [.ref q6, .ref a])
  refine r_putF (ty := .object "ConeRounds$Law") E G hnm 0 rfl rfl inU8 tyX8_ok nmX8 2 (by decide) m_190 rfl rfl rfl (by decide +kernel) rfl rfl (Nat.le_of_ble_eq_true rfl) rfl dX8_init_31 (fun H locs G => ?_)
  have G : GW Z [(a, .inr (8, [.ref q1, .ref q2, .ref q6, .null, .int 0, .null, .null, .null, .null, .null, .int 0])), (q1, .inl (Z.2.1, 6, .inl (fun _ => 0))), (q2, .inr (5, [.ref q3, .ref q4, .ref q5, .int 0, .int 2])), (q3, .inl (Z.2.2.1, 6, .inl (fun _ => 0))), (q4, .inl (Z.2.1, 36, .inl (fun _ => 0))), (q5, .inl (Z.2.1, 72, .inl (fun _ => 0))), (q6, .inr (3, [.int 1, .int 0, .int 12]))] A s.heap H locs := G
  refine lv_aload_n hx hb dX8_init_34 rfl (lv_at hl 0 rfl) ?_
  refine lv_iconst (v := 4) hx hb dX8_init_35 (by decide) ?_
  refine r_newV E hN G (n := 4) (N := 4) (by decide) (by decide) (by decide) (Nat.le_of_ble_eq_true rfl) (Nat.le_of_ble_eq_true rfl) m_107 dX8_init_36 (fun q7 H G => ?_)
  have G : GW Z [(a, .inr (8, [.ref q1, .ref q2, .ref q6, .null, .int 0, .null, .null, .null, .null, .null, .int 0])), (q1, .inl (Z.2.1, 6, .inl (fun _ => 0))), (q2, .inr (5, [.ref q3, .ref q4, .ref q5, .int 0, .int 2])), (q3, .inl (Z.2.2.1, 6, .inl (fun _ => 0))), (q4, .inl (Z.2.1, 36, .inl (fun _ => 0))), (q5, .inl (Z.2.1, 72, .inl (fun _ => 0))), (q6, .inr (3, [.int 1, .int 0, .int 12])), (q7, .inl (Z.2.2.2, 4, .inr (.inr (.inr (.inr (fun _ => none))))))] A s.heap H locs := G
  refine W.widen (k := 7) (n := 132) (Nat.le_refl _) (Nat.le_refl _) ?_
  refine r_putF (ty := .array (.object "ConeRounds$Van")) E G hnm 0 rfl rfl inU8 tyX8_ok nmX8 3 (by decide) m_191 rfl rfl rfl (by decide +kernel) rfl rfl (Nat.le_of_ble_eq_true rfl) rfl dX8_init_39 (fun H locs G => ?_)
  have G : GW Z [(a, .inr (8, [.ref q1, .ref q2, .ref q6, .ref q7, .int 0, .null, .null, .null, .null, .null, .int 0])), (q1, .inl (Z.2.1, 6, .inl (fun _ => 0))), (q2, .inr (5, [.ref q3, .ref q4, .ref q5, .int 0, .int 2])), (q3, .inl (Z.2.2.1, 6, .inl (fun _ => 0))), (q4, .inl (Z.2.1, 36, .inl (fun _ => 0))), (q5, .inl (Z.2.1, 72, .inl (fun _ => 0))), (q6, .inr (3, [.int 1, .int 0, .int 12])), (q7, .inl (Z.2.2.2, 4, .inr (.inr (.inr (.inr (fun _ => none))))))] A s.heap H locs := G
  refine lv_aload_n hx hb dX8_init_42 rfl (lv_at hl 0 rfl) ?_
  refine lv_iconst (v := 0) hx hb dX8_init_43 (by decide) ?_
  refine r_put E G 0 rfl rfl inU8 tyX8_ok nmX8 4 (by decide) m_192 rfl rfl rfl (Nat.le_of_ble_eq_true rfl) rfl dX8_init_44 (fun H locs G => ?_)
  have G : GW Z [(a, .inr (8, [.ref q1, .ref q2, .ref q6, .ref q7, .int 0, .null, .null, .null, .null, .null, .int 0])), (q1, .inl (Z.2.1, 6, .inl (fun _ => 0))), (q2, .inr (5, [.ref q3, .ref q4, .ref q5, .int 0, .int 2])), (q3, .inl (Z.2.2.1, 6, .inl (fun _ => 0))), (q4, .inl (Z.2.1, 36, .inl (fun _ => 0))), (q5, .inl (Z.2.1, 72, .inl (fun _ => 0))), (q6, .inr (3, [.int 1, .int 0, .int 12])), (q7, .inl (Z.2.2.2, 4, .inr (.inr (.inr (.inr (fun _ => none))))))] A s.heap H locs := G
  refine lv_aload_n hx hb dX8_init_47 rfl (lv_at hl 0 rfl) ?_
  refine r_new E G (ci := 6) (fs := [.null, .null, .int 0, .int 0, .int 0]) rfl inU6 tyX6_ok m_109 m_110 m_45 (dfX6) (Nat.le_of_ble_eq_true rfl) (Nat.le_of_ble_eq_true rfl) dX8_init_48 (fun q8 H G => ?_)
  refine W.widen (k := 8) (n := 137) (Nat.le_refl _) (Nat.le_refl _) ?_
  refine lv_dup hx hb dX8_init_51 rfl ?_
  refine r_INR [.ref q8, .ref a] E hN G (c_X6_init l Z q8) kX6_init hN.2.1.2.2.1 ⟨Nat.le_of_ble_eq_true rfl, Nat.le_of_ble_eq_true rfl⟩ hl dX8_init_52 (Nat.le_of_ble_eq_true rfl) ⟨Nat.le_of_ble_eq_true rfl, Nat.le_of_ble_eq_true rfl⟩ (fun rv w1 H locs hp G => ?_)
  obtain ⟨rfl, q9, q10, rfl⟩ := hp
  have G : GW Z [(a, .inr (8, [.ref q1, .ref q2, .ref q6, .ref q7, .int 0, .null, .null, .null, .null, .null, .int 0])), (q1, .inl (Z.2.1, 6, .inl (fun _ => 0))), (q2, .inr (5, [.ref q3, .ref q4, .ref q5, .int 0, .int 2])), (q3, .inl (Z.2.2.1, 6, .inl (fun _ => 0))), (q4, .inl (Z.2.1, 36, .inl (fun _ => 0))), (q5, .inl (Z.2.1, 72, .inl (fun _ => 0))), (q6, .inr (3, [.int 1, .int 0, .int 12])), (q7, .inl (Z.2.2.2, 4, .inr (.inr (.inr (.inr (fun _ => none)))))), (q8, .inr (6, [.ref q9, .ref q10, .int 0, .int 0, .int 0])), (q9, .inl (Z.2.1, 12, .inl (fun _ => 0))), (q10, .inl (Z.2.1, 12, .inl (fun _ => 0)))] A s.heap H locs := G
  refine W.widen (k := 10) (n := 161) (Nat.le_refl _) (Nat.le_refl _) ?_
  show W p l e _ s m args below meth c H locs 10 161 Qx (F0 m 55 ls [.ref q8, .ref a])
  refine r_putF (ty := .object "ConeRounds$Trail") E G hnm 0 rfl rfl inU8 tyX8_ok nmX8 5 (by decide) m_193 rfl rfl rfl (by decide +kernel) rfl rfl (Nat.le_of_ble_eq_true rfl) rfl dX8_init_55 (fun H locs G => ?_)
  have G : GW Z [(a, .inr (8, [.ref q1, .ref q2, .ref q6, .ref q7, .int 0, .ref q8, .null, .null, .null, .null, .int 0])), (q1, .inl (Z.2.1, 6, .inl (fun _ => 0))), (q2, .inr (5, [.ref q3, .ref q4, .ref q5, .int 0, .int 2])), (q3, .inl (Z.2.2.1, 6, .inl (fun _ => 0))), (q4, .inl (Z.2.1, 36, .inl (fun _ => 0))), (q5, .inl (Z.2.1, 72, .inl (fun _ => 0))), (q6, .inr (3, [.int 1, .int 0, .int 12])), (q7, .inl (Z.2.2.2, 4, .inr (.inr (.inr (.inr (fun _ => none)))))), (q8, .inr (6, [.ref q9, .ref q10, .int 0, .int 0, .int 0])), (q9, .inl (Z.2.1, 12, .inl (fun _ => 0))), (q10, .inl (Z.2.1, 12, .inl (fun _ => 0)))] A s.heap H locs := G
  refine lv_aload_n hx hb dX8_init_58 rfl (lv_at hl 0 rfl) ?_
  refine r_new E G (ci := 6) (fs := [.null, .null, .int 0, .int 0, .int 0]) rfl inU6 tyX6_ok m_109 m_110 m_45 (dfX6) (Nat.le_of_ble_eq_true rfl) (Nat.le_of_ble_eq_true rfl) dX8_init_59 (fun q11 H G => ?_)
  refine W.widen (k := 11) (n := 166) (Nat.le_refl _) (Nat.le_refl _) ?_
  refine lv_dup hx hb dX8_init_62 rfl ?_
  refine r_INR [.ref q11, .ref a] E hN G (c_X6_init l Z q11) kX6_init hN.2.1.2.2.1 ⟨Nat.le_of_ble_eq_true rfl, Nat.le_of_ble_eq_true rfl⟩ hl dX8_init_63 (Nat.le_of_ble_eq_true rfl) ⟨Nat.le_of_ble_eq_true rfl, Nat.le_of_ble_eq_true rfl⟩ (fun rv w1 H locs hp G => ?_)
  obtain ⟨rfl, q12, q13, rfl⟩ := hp
  have G : GW Z [(a, .inr (8, [.ref q1, .ref q2, .ref q6, .ref q7, .int 0, .ref q8, .null, .null, .null, .null, .int 0])), (q1, .inl (Z.2.1, 6, .inl (fun _ => 0))), (q2, .inr (5, [.ref q3, .ref q4, .ref q5, .int 0, .int 2])), (q3, .inl (Z.2.2.1, 6, .inl (fun _ => 0))), (q4, .inl (Z.2.1, 36, .inl (fun _ => 0))), (q5, .inl (Z.2.1, 72, .inl (fun _ => 0))), (q6, .inr (3, [.int 1, .int 0, .int 12])), (q7, .inl (Z.2.2.2, 4, .inr (.inr (.inr (.inr (fun _ => none)))))), (q8, .inr (6, [.ref q9, .ref q10, .int 0, .int 0, .int 0])), (q9, .inl (Z.2.1, 12, .inl (fun _ => 0))), (q10, .inl (Z.2.1, 12, .inl (fun _ => 0))), (q11, .inr (6, [.ref q12, .ref q13, .int 0, .int 0, .int 0])), (q12, .inl (Z.2.1, 12, .inl (fun _ => 0))), (q13, .inl (Z.2.1, 12, .inl (fun _ => 0)))] A s.heap H locs := G
  refine W.widen (k := 13) (n := 190) (Nat.le_refl _) (Nat.le_refl _) ?_
  show W p l e _ s m args below meth c H locs 13 190 Qx (F0 m 66 ls [.ref q11, .ref a])
  refine r_putF (ty := .object "ConeRounds$Trail") E G hnm 0 rfl rfl inU8 tyX8_ok nmX8 6 (by decide) m_194 rfl rfl rfl (by decide +kernel) rfl rfl (Nat.le_of_ble_eq_true rfl) rfl dX8_init_66 (fun H locs G => ?_)
  have G : GW Z [(a, .inr (8, [.ref q1, .ref q2, .ref q6, .ref q7, .int 0, .ref q8, .ref q11, .null, .null, .null, .int 0])), (q1, .inl (Z.2.1, 6, .inl (fun _ => 0))), (q2, .inr (5, [.ref q3, .ref q4, .ref q5, .int 0, .int 2])), (q3, .inl (Z.2.2.1, 6, .inl (fun _ => 0))), (q4, .inl (Z.2.1, 36, .inl (fun _ => 0))), (q5, .inl (Z.2.1, 72, .inl (fun _ => 0))), (q6, .inr (3, [.int 1, .int 0, .int 12])), (q7, .inl (Z.2.2.2, 4, .inr (.inr (.inr (.inr (fun _ => none)))))), (q8, .inr (6, [.ref q9, .ref q10, .int 0, .int 0, .int 0])), (q9, .inl (Z.2.1, 12, .inl (fun _ => 0))), (q10, .inl (Z.2.1, 12, .inl (fun _ => 0))), (q11, .inr (6, [.ref q12, .ref q13, .int 0, .int 0, .int 0])), (q12, .inl (Z.2.1, 12, .inl (fun _ => 0))), (q13, .inl (Z.2.1, 12, .inl (fun _ => 0)))] A s.heap H locs := G
  refine lv_aload_n hx hb dX8_init_69 rfl (lv_at hl 0 rfl) ?_
  refine r_new E G (ci := 4) (fs := [.null, .null, .null, .null, .int 0]) rfl inU4 tyX4_ok m_136 m_137 m_46 (dfX4) (Nat.le_of_ble_eq_true rfl) (Nat.le_of_ble_eq_true rfl) dX8_init_70 (fun q14 H G => ?_)
  refine W.widen (k := 14) (n := 195) (Nat.le_refl _) (Nat.le_refl _) ?_
  refine lv_dup hx hb dX8_init_73 rfl ?_
  refine r_INR [.ref q14, .ref a] E hN G (c_X4_init l Z q14) kX4_init hN.2.1.2.2.2.1 ⟨Nat.le_of_ble_eq_true rfl, Nat.le_of_ble_eq_true rfl⟩ hl dX8_init_74 (Nat.le_of_ble_eq_true rfl) ⟨Nat.le_of_ble_eq_true rfl, Nat.le_of_ble_eq_true rfl⟩ (fun rv w1 H locs hp G => ?_)
  obtain ⟨rfl, q15, q16, q17, q18, rfl⟩ := hp
  have G : GW Z [(a, .inr (8, [.ref q1, .ref q2, .ref q6, .ref q7, .int 0, .ref q8, .ref q11, .null, .null, .null, .int 0])), (q1, .inl (Z.2.1, 6, .inl (fun _ => 0))), (q2, .inr (5, [.ref q3, .ref q4, .ref q5, .int 0, .int 2])), (q3, .inl (Z.2.2.1, 6, .inl (fun _ => 0))), (q4, .inl (Z.2.1, 36, .inl (fun _ => 0))), (q5, .inl (Z.2.1, 72, .inl (fun _ => 0))), (q6, .inr (3, [.int 1, .int 0, .int 12])), (q7, .inl (Z.2.2.2, 4, .inr (.inr (.inr (.inr (fun _ => none)))))), (q8, .inr (6, [.ref q9, .ref q10, .int 0, .int 0, .int 0])), (q9, .inl (Z.2.1, 12, .inl (fun _ => 0))), (q10, .inl (Z.2.1, 12, .inl (fun _ => 0))), (q11, .inr (6, [.ref q12, .ref q13, .int 0, .int 0, .int 0])), (q12, .inl (Z.2.1, 12, .inl (fun _ => 0))), (q13, .inl (Z.2.1, 12, .inl (fun _ => 0))), (q14, .inr (4, [.ref q15, .ref q16, .ref q17, .ref q18, .int 0])), (q15, .inl (Z.2.1, 24, .inl (fun _ => 0))), (q16, .inl (Z.2.1, 24, .inl (fun _ => 0))), (q17, .inl (Z.2.1, 24, .inl (fun _ => 0))), (q18, .inl (Z.2.1, 24, .inl (fun _ => 0)))] A s.heap H locs := G
  refine W.widen (k := 18) (n := 291) (Nat.le_refl _) (Nat.le_refl _) ?_
  show W p l e _ s m args below meth c H locs 18 291 Qx (F0 m 77 ls [.ref q14, .ref a])
  refine r_putF (ty := .object "ConeRounds$Stands") E G hnm 0 rfl rfl inU8 tyX8_ok nmX8 7 (by decide) m_195 rfl rfl rfl (by decide +kernel) rfl rfl (Nat.le_of_ble_eq_true rfl) rfl dX8_init_77 (fun H locs G => ?_)
  have G : GW Z [(a, .inr (8, [.ref q1, .ref q2, .ref q6, .ref q7, .int 0, .ref q8, .ref q11, .ref q14, .null, .null, .int 0])), (q1, .inl (Z.2.1, 6, .inl (fun _ => 0))), (q2, .inr (5, [.ref q3, .ref q4, .ref q5, .int 0, .int 2])), (q3, .inl (Z.2.2.1, 6, .inl (fun _ => 0))), (q4, .inl (Z.2.1, 36, .inl (fun _ => 0))), (q5, .inl (Z.2.1, 72, .inl (fun _ => 0))), (q6, .inr (3, [.int 1, .int 0, .int 12])), (q7, .inl (Z.2.2.2, 4, .inr (.inr (.inr (.inr (fun _ => none)))))), (q8, .inr (6, [.ref q9, .ref q10, .int 0, .int 0, .int 0])), (q9, .inl (Z.2.1, 12, .inl (fun _ => 0))), (q10, .inl (Z.2.1, 12, .inl (fun _ => 0))), (q11, .inr (6, [.ref q12, .ref q13, .int 0, .int 0, .int 0])), (q12, .inl (Z.2.1, 12, .inl (fun _ => 0))), (q13, .inl (Z.2.1, 12, .inl (fun _ => 0))), (q14, .inr (4, [.ref q15, .ref q16, .ref q17, .ref q18, .int 0])), (q15, .inl (Z.2.1, 24, .inl (fun _ => 0))), (q16, .inl (Z.2.1, 24, .inl (fun _ => 0))), (q17, .inl (Z.2.1, 24, .inl (fun _ => 0))), (q18, .inl (Z.2.1, 24, .inl (fun _ => 0)))] A s.heap H locs := G
  refine lv_aload_n hx hb dX8_init_80 rfl (lv_at hl 0 rfl) ?_
  refine r_new E G (ci := 1) (fs := [.null, .null, .null, .int 0, .int 0]) rfl inU1 tyX1_ok m_163 m_164 m_47 (dfX1) (Nat.le_of_ble_eq_true rfl) (Nat.le_of_ble_eq_true rfl) dX8_init_81 (fun q19 H G => ?_)
  refine W.widen (k := 19) (n := 296) (Nat.le_refl _) (Nat.le_refl _) ?_
  refine lv_dup hx hb dX8_init_84 rfl ?_
  refine r_INR [.ref q19, .ref a] E hN G (c_X1_init l Z q19) kX1_init hN.2.1.2.2.2.2 ⟨Nat.le_of_ble_eq_true rfl, Nat.le_of_ble_eq_true rfl⟩ hl dX8_init_85 (Nat.le_of_ble_eq_true rfl) ⟨Nat.le_of_ble_eq_true rfl, Nat.le_of_ble_eq_true rfl⟩ (fun rv w1 H locs hp G => ?_)
  obtain ⟨rfl, q20, q21, q22, rfl⟩ := hp
  have G : GW Z [(a, .inr (8, [.ref q1, .ref q2, .ref q6, .ref q7, .int 0, .ref q8, .ref q11, .ref q14, .null, .null, .int 0])), (q1, .inl (Z.2.1, 6, .inl (fun _ => 0))), (q2, .inr (5, [.ref q3, .ref q4, .ref q5, .int 0, .int 2])), (q3, .inl (Z.2.2.1, 6, .inl (fun _ => 0))), (q4, .inl (Z.2.1, 36, .inl (fun _ => 0))), (q5, .inl (Z.2.1, 72, .inl (fun _ => 0))), (q6, .inr (3, [.int 1, .int 0, .int 12])), (q7, .inl (Z.2.2.2, 4, .inr (.inr (.inr (.inr (fun _ => none)))))), (q8, .inr (6, [.ref q9, .ref q10, .int 0, .int 0, .int 0])), (q9, .inl (Z.2.1, 12, .inl (fun _ => 0))), (q10, .inl (Z.2.1, 12, .inl (fun _ => 0))), (q11, .inr (6, [.ref q12, .ref q13, .int 0, .int 0, .int 0])), (q12, .inl (Z.2.1, 12, .inl (fun _ => 0))), (q13, .inl (Z.2.1, 12, .inl (fun _ => 0))), (q14, .inr (4, [.ref q15, .ref q16, .ref q17, .ref q18, .int 0])), (q15, .inl (Z.2.1, 24, .inl (fun _ => 0))), (q16, .inl (Z.2.1, 24, .inl (fun _ => 0))), (q17, .inl (Z.2.1, 24, .inl (fun _ => 0))), (q18, .inl (Z.2.1, 24, .inl (fun _ => 0))), (q19, .inr (1, [.ref q20, .ref q21, .ref q22, .int 0, .int 14])), (q20, .inl (Z.2.1, 12, .inl (fun _ => 0))), (q21, .inl (Z.2.1, 12, .inl (fun _ => 0))), (q22, .inl (Z.2.1, 12, .inl (fun _ => 0)))] A s.heap H locs := G
  refine W.widen (k := 22) (n := 332) (Nat.le_refl _) (Nat.le_refl _) ?_
  show W p l e _ s m args below meth c H locs 22 332 Qx (F0 m 88 ls [.ref q19, .ref a])
  refine r_putF (ty := .object "ConeRounds$Bills") E G hnm 0 rfl rfl inU8 tyX8_ok nmX8 8 (by decide) m_196 rfl rfl rfl (by decide +kernel) rfl rfl (Nat.le_of_ble_eq_true rfl) rfl dX8_init_88 (fun H locs G => ?_)
  have G : GW Z [(a, .inr (8, [.ref q1, .ref q2, .ref q6, .ref q7, .int 0, .ref q8, .ref q11, .ref q14, .ref q19, .null, .int 0])), (q1, .inl (Z.2.1, 6, .inl (fun _ => 0))), (q2, .inr (5, [.ref q3, .ref q4, .ref q5, .int 0, .int 2])), (q3, .inl (Z.2.2.1, 6, .inl (fun _ => 0))), (q4, .inl (Z.2.1, 36, .inl (fun _ => 0))), (q5, .inl (Z.2.1, 72, .inl (fun _ => 0))), (q6, .inr (3, [.int 1, .int 0, .int 12])), (q7, .inl (Z.2.2.2, 4, .inr (.inr (.inr (.inr (fun _ => none)))))), (q8, .inr (6, [.ref q9, .ref q10, .int 0, .int 0, .int 0])), (q9, .inl (Z.2.1, 12, .inl (fun _ => 0))), (q10, .inl (Z.2.1, 12, .inl (fun _ => 0))), (q11, .inr (6, [.ref q12, .ref q13, .int 0, .int 0, .int 0])), (q12, .inl (Z.2.1, 12, .inl (fun _ => 0))), (q13, .inl (Z.2.1, 12, .inl (fun _ => 0))), (q14, .inr (4, [.ref q15, .ref q16, .ref q17, .ref q18, .int 0])), (q15, .inl (Z.2.1, 24, .inl (fun _ => 0))), (q16, .inl (Z.2.1, 24, .inl (fun _ => 0))), (q17, .inl (Z.2.1, 24, .inl (fun _ => 0))), (q18, .inl (Z.2.1, 24, .inl (fun _ => 0))), (q19, .inr (1, [.ref q20, .ref q21, .ref q22, .int 0, .int 14])), (q20, .inl (Z.2.1, 12, .inl (fun _ => 0))), (q21, .inl (Z.2.1, 12, .inl (fun _ => 0))), (q22, .inl (Z.2.1, 12, .inl (fun _ => 0)))] A s.heap H locs := G
  refine lv_aload_n hx hb dX8_init_91 rfl (lv_at hl 0 rfl) ?_
  refine lv_bipush (v := 12) hx hb dX8_init_92 (by decide) ?_
  refine r_newI E G (n := 12) (N := 12) (by decide) (by decide) (by decide) (Nat.le_of_ble_eq_true rfl) (Nat.le_of_ble_eq_true rfl) dX8_init_94 (fun q23 H G => ?_)
  have G : GW Z [(a, .inr (8, [.ref q1, .ref q2, .ref q6, .ref q7, .int 0, .ref q8, .ref q11, .ref q14, .ref q19, .null, .int 0])), (q1, .inl (Z.2.1, 6, .inl (fun _ => 0))), (q2, .inr (5, [.ref q3, .ref q4, .ref q5, .int 0, .int 2])), (q3, .inl (Z.2.2.1, 6, .inl (fun _ => 0))), (q4, .inl (Z.2.1, 36, .inl (fun _ => 0))), (q5, .inl (Z.2.1, 72, .inl (fun _ => 0))), (q6, .inr (3, [.int 1, .int 0, .int 12])), (q7, .inl (Z.2.2.2, 4, .inr (.inr (.inr (.inr (fun _ => none)))))), (q8, .inr (6, [.ref q9, .ref q10, .int 0, .int 0, .int 0])), (q9, .inl (Z.2.1, 12, .inl (fun _ => 0))), (q10, .inl (Z.2.1, 12, .inl (fun _ => 0))), (q11, .inr (6, [.ref q12, .ref q13, .int 0, .int 0, .int 0])), (q12, .inl (Z.2.1, 12, .inl (fun _ => 0))), (q13, .inl (Z.2.1, 12, .inl (fun _ => 0))), (q14, .inr (4, [.ref q15, .ref q16, .ref q17, .ref q18, .int 0])), (q15, .inl (Z.2.1, 24, .inl (fun _ => 0))), (q16, .inl (Z.2.1, 24, .inl (fun _ => 0))), (q17, .inl (Z.2.1, 24, .inl (fun _ => 0))), (q18, .inl (Z.2.1, 24, .inl (fun _ => 0))), (q19, .inr (1, [.ref q20, .ref q21, .ref q22, .int 0, .int 14])), (q20, .inl (Z.2.1, 12, .inl (fun _ => 0))), (q21, .inl (Z.2.1, 12, .inl (fun _ => 0))), (q22, .inl (Z.2.1, 12, .inl (fun _ => 0))), (q23, .inl (Z.2.1, 12, .inl (fun _ => 0)))] A s.heap H locs := G
  refine W.widen (k := 23) (n := 344) (Nat.le_refl _) (Nat.le_refl _) ?_
  refine r_putF (ty := .array .int) E G hnm 0 rfl rfl inU8 tyX8_ok nmX8 9 (by decide) m_197 rfl rfl rfl (by decide +kernel) rfl rfl (Nat.le_of_ble_eq_true rfl) rfl dX8_init_96 (fun H locs G => ?_)
  have G : GW Z [(a, .inr (8, [.ref q1, .ref q2, .ref q6, .ref q7, .int 0, .ref q8, .ref q11, .ref q14, .ref q19, .ref q23, .int 0])), (q1, .inl (Z.2.1, 6, .inl (fun _ => 0))), (q2, .inr (5, [.ref q3, .ref q4, .ref q5, .int 0, .int 2])), (q3, .inl (Z.2.2.1, 6, .inl (fun _ => 0))), (q4, .inl (Z.2.1, 36, .inl (fun _ => 0))), (q5, .inl (Z.2.1, 72, .inl (fun _ => 0))), (q6, .inr (3, [.int 1, .int 0, .int 12])), (q7, .inl (Z.2.2.2, 4, .inr (.inr (.inr (.inr (fun _ => none)))))), (q8, .inr (6, [.ref q9, .ref q10, .int 0, .int 0, .int 0])), (q9, .inl (Z.2.1, 12, .inl (fun _ => 0))), (q10, .inl (Z.2.1, 12, .inl (fun _ => 0))), (q11, .inr (6, [.ref q12, .ref q13, .int 0, .int 0, .int 0])), (q12, .inl (Z.2.1, 12, .inl (fun _ => 0))), (q13, .inl (Z.2.1, 12, .inl (fun _ => 0))), (q14, .inr (4, [.ref q15, .ref q16, .ref q17, .ref q18, .int 0])), (q15, .inl (Z.2.1, 24, .inl (fun _ => 0))), (q16, .inl (Z.2.1, 24, .inl (fun _ => 0))), (q17, .inl (Z.2.1, 24, .inl (fun _ => 0))), (q18, .inl (Z.2.1, 24, .inl (fun _ => 0))), (q19, .inr (1, [.ref q20, .ref q21, .ref q22, .int 0, .int 14])), (q20, .inl (Z.2.1, 12, .inl (fun _ => 0))), (q21, .inl (Z.2.1, 12, .inl (fun _ => 0))), (q22, .inl (Z.2.1, 12, .inl (fun _ => 0))), (q23, .inl (Z.2.1, 12, .inl (fun _ => 0)))] A s.heap H locs := G
  refine lv_aload_n hx hb dX8_init_99 rfl (lv_at hl 0 rfl) ?_
  refine lv_iconst (v := 0) hx hb dX8_init_100 (by decide) ?_
  refine r_put E G 0 rfl rfl inU8 tyX8_ok nmX8 10 (by decide) m_198 rfl rfl rfl (Nat.le_of_ble_eq_true rfl) rfl dX8_init_101 (fun H locs G => ?_)
  have G : GW Z [(a, .inr (8, [.ref q1, .ref q2, .ref q6, .ref q7, .int 0, .ref q8, .ref q11, .ref q14, .ref q19, .ref q23, .int 0])), (q1, .inl (Z.2.1, 6, .inl (fun _ => 0))), (q2, .inr (5, [.ref q3, .ref q4, .ref q5, .int 0, .int 2])), (q3, .inl (Z.2.2.1, 6, .inl (fun _ => 0))), (q4, .inl (Z.2.1, 36, .inl (fun _ => 0))), (q5, .inl (Z.2.1, 72, .inl (fun _ => 0))), (q6, .inr (3, [.int 1, .int 0, .int 12])), (q7, .inl (Z.2.2.2, 4, .inr (.inr (.inr (.inr (fun _ => none)))))), (q8, .inr (6, [.ref q9, .ref q10, .int 0, .int 0, .int 0])), (q9, .inl (Z.2.1, 12, .inl (fun _ => 0))), (q10, .inl (Z.2.1, 12, .inl (fun _ => 0))), (q11, .inr (6, [.ref q12, .ref q13, .int 0, .int 0, .int 0])), (q12, .inl (Z.2.1, 12, .inl (fun _ => 0))), (q13, .inl (Z.2.1, 12, .inl (fun _ => 0))), (q14, .inr (4, [.ref q15, .ref q16, .ref q17, .ref q18, .int 0])), (q15, .inl (Z.2.1, 24, .inl (fun _ => 0))), (q16, .inl (Z.2.1, 24, .inl (fun _ => 0))), (q17, .inl (Z.2.1, 24, .inl (fun _ => 0))), (q18, .inl (Z.2.1, 24, .inl (fun _ => 0))), (q19, .inr (1, [.ref q20, .ref q21, .ref q22, .int 0, .int 14])), (q20, .inl (Z.2.1, 12, .inl (fun _ => 0))), (q21, .inl (Z.2.1, 12, .inl (fun _ => 0))), (q22, .inl (Z.2.1, 12, .inl (fun _ => 0))), (q23, .inl (Z.2.1, 12, .inl (fun _ => 0)))] A s.heap H locs := G
  have G : GW Z [(a, .inr (8, [.ref q1, .ref q2, .ref q6, .ref q7, .int 0, .ref q8, .ref q11, .ref q14, .ref q19, .ref q23, .int 0])), (q1, .inl (Z.2.1, 6, .inl (fun _ => 0))), (q2, .inr (5, [.ref q3, .ref q4, .ref q5, .int 0, .int 2])), (q6, .inr (3, [.int 1, .int 0, .int 12])), (q7, .inl (Z.2.2.2, 4, .inr (.inr (.inr (.inr (fun _ => none)))))), (q8, .inr (6, [.ref q9, .ref q10, .int 0, .int 0, .int 0])), (q11, .inr (6, [.ref q12, .ref q13, .int 0, .int 0, .int 0])), (q14, .inr (4, [.ref q15, .ref q16, .ref q17, .ref q18, .int 0])), (q19, .inr (1, [.ref q20, .ref q21, .ref q22, .int 0, .int 14])), (q23, .inl (Z.2.1, 12, .inl (fun _ => 0))), (q3, .inl (Z.2.2.1, 6, .inl (fun _ => 0))), (q4, .inl (Z.2.1, 36, .inl (fun _ => 0))), (q5, .inl (Z.2.1, 72, .inl (fun _ => 0))), (q9, .inl (Z.2.1, 12, .inl (fun _ => 0))), (q10, .inl (Z.2.1, 12, .inl (fun _ => 0))), (q12, .inl (Z.2.1, 12, .inl (fun _ => 0))), (q13, .inl (Z.2.1, 12, .inl (fun _ => 0))), (q15, .inl (Z.2.1, 24, .inl (fun _ => 0))), (q16, .inl (Z.2.1, 24, .inl (fun _ => 0))), (q17, .inl (Z.2.1, 24, .inl (fun _ => 0))), (q18, .inl (Z.2.1, 24, .inl (fun _ => 0))), (q20, .inl (Z.2.1, 12, .inl (fun _ => 0))), (q21, .inl (Z.2.1, 12, .inl (fun _ => 0))), (q22, .inl (Z.2.1, 12, .inl (fun _ => 0)))] A s.heap H locs := G.perm [0, 1, 2, 6, 7, 8, 11, 14, 19, 23, 3, 4, 5, 9, 10, 12, 13, 15, 16, 17, 18, 20, 21, 22] rfl (by decide) rfl
  refine r_retvP E G hr hlk hQ ⟨rfl, qL [a, q1, q2, q6, q7, q8, q11, q14, q19, q23, q3, q4, q5, q9, q10, q12, q13, q15, q16, q17, q18, q20, q21, q22], rfl, ?_⟩ dX8_init_104
  unfold CW
  rw [vanL0, List.append_nil]
  unfold CF
  rw [vf0]
  rfl
set_option maxRecDepth 100000 in
theorem c_X9_init (l : Launch) (Z : ZT) (a : Nat) : CEn l Z yX9_init cX9_init 1 none 1 22 348 [.ref a] [(a, .inr (9, [.int 0, .int 0, .int 0, .int 0, .int 0, .int 0, .int 0, .int 0, .int 0, .int 0, .null, .null, .null, .null, .null, .null, .null, .null, .null, .null, .null, .null, .null, .null, .null, .null, .null, .null, .null, .null, .null, .null, .int 0, .int 0, .int 0]))] (fun r x => r = none ∧ ∃ q : Nat → Nat, q 0 = a ∧ x = MW Z q S0 Y0) := by
  refine CEn.mk rfl (Nat.le_of_ble_eq_true rfl) (fun p e s m args below meth c A Qx ls E hN hr hlk hnm hQ G hl => ?_)
  have hx := E.1.1
  have hb := E.1.2.1
  have hl : lv_has ls 1 [(0, .ref a)] := hl
  obtain ⟨H, hH⟩ : ∃ H : Heap, H = s.heap := ⟨_, rfl⟩
  obtain ⟨locs, hlocs⟩ : ∃ x : List Loc, x = [] := ⟨_, rfl⟩
  have G : GW Z [(a, .inr (9, [.int 0, .int 0, .int 0, .int 0, .int 0, .int 0, .int 0, .int 0, .int 0, .int 0, .null, .null, .null, .null, .null, .null, .null, .null, .null, .null, .null, .null, .null, .null, .null, .null, .null, .null, .null, .null, .null, .null, .int 0, .int 0, .int 0]))] A s.heap H locs := by rw [hH, hlocs]; exact G
  suffices hW : W p l e _ s m args below meth c H locs 0 0 Qx (F0 m 0 ls []) by rw [hH, hlocs] at hW; exact hW
  clear hH hlocs
  refine lv_aload_n hx hb dX9_init_0 rfl (lv_at hl 0 rfl) ?_
  refine r_obj E hl m_632 dX9_init_1 (Nat.le_of_ble_eq_true rfl) (Nat.le_of_ble_eq_true rfl) ?_
  refine lv_aload_n hx hb dX9_init_4 rfl (lv_at hl 0 rfl) ?_
  refine lv_iconst (v := 2) hx hb dX9_init_5 (by decide) ?_
  refine r_put E G 0 rfl rfl inU9 tyX9_ok nmX9 5 (by decide) m_638 rfl rfl rfl (Nat.le_of_ble_eq_true rfl) rfl dX9_init_6 (fun H locs G => ?_)
  have G : GW Z [(a, .inr (9, [.int 0, .int 0, .int 0, .int 0, .int 0, .int 2, .int 0, .int 0, .int 0, .int 0, .null, .null, .null, .null, .null, .null, .null, .null, .null, .null, .null, .null, .null, .null, .null, .null, .null, .null, .null, .null, .null, .null, .int 0, .int 0, .int 0]))] A s.heap H locs := G
  refine lv_aload_n hx hb dX9_init_9 rfl (lv_at hl 0 rfl) ?_
  refine lv_iconst (v := 1) hx hb dX9_init_10 (by decide) ?_
  refine r_put E G 0 rfl rfl inU9 tyX9_ok nmX9 6 (by decide) m_639 rfl rfl rfl (Nat.le_of_ble_eq_true rfl) rfl dX9_init_11 (fun H locs G => ?_)
  have G : GW Z [(a, .inr (9, [.int 0, .int 0, .int 0, .int 0, .int 0, .int 2, .int 1, .int 0, .int 0, .int 0, .null, .null, .null, .null, .null, .null, .null, .null, .null, .null, .null, .null, .null, .null, .null, .null, .null, .null, .null, .null, .null, .null, .int 0, .int 0, .int 0]))] A s.heap H locs := G
  refine lv_aload_n hx hb dX9_init_14 rfl (lv_at hl 0 rfl) ?_
  refine lv_bipush (v := 12) hx hb dX9_init_15 (by decide) ?_
  refine r_put E G 0 rfl rfl inU9 tyX9_ok nmX9 8 (by decide) m_641 rfl rfl rfl (Nat.le_of_ble_eq_true rfl) rfl dX9_init_17 (fun H locs G => ?_)
  have G : GW Z [(a, .inr (9, [.int 0, .int 0, .int 0, .int 0, .int 0, .int 2, .int 1, .int 0, .int 12, .int 0, .null, .null, .null, .null, .null, .null, .null, .null, .null, .null, .null, .null, .null, .null, .null, .null, .null, .null, .null, .null, .null, .null, .int 0, .int 0, .int 0]))] A s.heap H locs := G
  refine lv_aload_n hx hb dX9_init_20 rfl (lv_at hl 0 rfl) ?_
  refine lv_bipush (v := 14) hx hb dX9_init_21 (by decide) ?_
  refine r_put E G 0 rfl rfl inU9 tyX9_ok nmX9 9 (by decide) m_642 rfl rfl rfl (Nat.le_of_ble_eq_true rfl) rfl dX9_init_23 (fun H locs G => ?_)
  have G : GW Z [(a, .inr (9, [.int 0, .int 0, .int 0, .int 0, .int 0, .int 2, .int 1, .int 0, .int 12, .int 14, .null, .null, .null, .null, .null, .null, .null, .null, .null, .null, .null, .null, .null, .null, .null, .null, .null, .null, .null, .null, .null, .null, .int 0, .int 0, .int 0]))] A s.heap H locs := G
  refine lv_aload_n hx hb dX9_init_26 rfl (lv_at hl 0 rfl) ?_
  refine lv_bipush (v := 6) hx hb dX9_init_27 (by decide) ?_
  refine r_newI E G (n := 6) (N := 6) (by decide) (by decide) (by decide) (Nat.le_of_ble_eq_true rfl) (Nat.le_of_ble_eq_true rfl) dX9_init_29 (fun q1 H G => ?_)
  have G : GW Z [(a, .inr (9, [.int 0, .int 0, .int 0, .int 0, .int 0, .int 2, .int 1, .int 0, .int 12, .int 14, .null, .null, .null, .null, .null, .null, .null, .null, .null, .null, .null, .null, .null, .null, .null, .null, .null, .null, .null, .null, .null, .null, .int 0, .int 0, .int 0])), (q1, .inl (Z.2.1, 6, .inl (fun _ => 0)))] A s.heap H locs := G
  refine W.widen (k := 1) (n := 6) (Nat.le_refl _) (Nat.le_refl _) ?_
  refine r_putF (ty := .array .int) E G hnm 0 rfl rfl inU9 tyX9_ok nmX9 10 (by decide) m_643 rfl rfl rfl (by decide +kernel) rfl rfl (Nat.le_of_ble_eq_true rfl) rfl dX9_init_31 (fun H locs G => ?_)
  have G : GW Z [(a, .inr (9, [.int 0, .int 0, .int 0, .int 0, .int 0, .int 2, .int 1, .int 0, .int 12, .int 14, .ref q1, .null, .null, .null, .null, .null, .null, .null, .null, .null, .null, .null, .null, .null, .null, .null, .null, .null, .null, .null, .null, .null, .int 0, .int 0, .int 0])), (q1, .inl (Z.2.1, 6, .inl (fun _ => 0)))] A s.heap H locs := G
  refine lv_aload_n hx hb dX9_init_34 rfl (lv_at hl 0 rfl) ?_
  refine lv_bipush (v := 36) hx hb dX9_init_35 (by decide) ?_
  refine r_newI E G (n := 36) (N := 36) (by decide) (by decide) (by decide) (Nat.le_of_ble_eq_true rfl) (Nat.le_of_ble_eq_true rfl) dX9_init_37 (fun q2 H G => ?_)
  have G : GW Z [(a, .inr (9, [.int 0, .int 0, .int 0, .int 0, .int 0, .int 2, .int 1, .int 0, .int 12, .int 14, .ref q1, .null, .null, .null, .null, .null, .null, .null, .null, .null, .null, .null, .null, .null, .null, .null, .null, .null, .null, .null, .null, .null, .int 0, .int 0, .int 0])), (q1, .inl (Z.2.1, 6, .inl (fun _ => 0))), (q2, .inl (Z.2.1, 36, .inl (fun _ => 0)))] A s.heap H locs := G
  refine W.widen (k := 2) (n := 42) (Nat.le_refl _) (Nat.le_refl _) ?_
  refine r_putF (ty := .array .int) E G hnm 0 rfl rfl inU9 tyX9_ok nmX9 11 (by decide) m_644 rfl rfl rfl (by decide +kernel) rfl rfl (Nat.le_of_ble_eq_true rfl) rfl dX9_init_39 (fun H locs G => ?_)
  have G : GW Z [(a, .inr (9, [.int 0, .int 0, .int 0, .int 0, .int 0, .int 2, .int 1, .int 0, .int 12, .int 14, .ref q1, .ref q2, .null, .null, .null, .null, .null, .null, .null, .null, .null, .null, .null, .null, .null, .null, .null, .null, .null, .null, .null, .null, .int 0, .int 0, .int 0])), (q1, .inl (Z.2.1, 6, .inl (fun _ => 0))), (q2, .inl (Z.2.1, 36, .inl (fun _ => 0)))] A s.heap H locs := G
  refine lv_aload_n hx hb dX9_init_42 rfl (lv_at hl 0 rfl) ?_
  refine lv_bipush (v := 72) hx hb dX9_init_43 (by decide) ?_
  refine r_newI E G (n := 72) (N := 72) (by decide) (by decide) (by decide) (Nat.le_of_ble_eq_true rfl) (Nat.le_of_ble_eq_true rfl) dX9_init_45 (fun q3 H G => ?_)
  have G : GW Z [(a, .inr (9, [.int 0, .int 0, .int 0, .int 0, .int 0, .int 2, .int 1, .int 0, .int 12, .int 14, .ref q1, .ref q2, .null, .null, .null, .null, .null, .null, .null, .null, .null, .null, .null, .null, .null, .null, .null, .null, .null, .null, .null, .null, .int 0, .int 0, .int 0])), (q1, .inl (Z.2.1, 6, .inl (fun _ => 0))), (q2, .inl (Z.2.1, 36, .inl (fun _ => 0))), (q3, .inl (Z.2.1, 72, .inl (fun _ => 0)))] A s.heap H locs := G
  refine W.widen (k := 3) (n := 114) (Nat.le_refl _) (Nat.le_refl _) ?_
  refine r_putF (ty := .array .int) E G hnm 0 rfl rfl inU9 tyX9_ok nmX9 12 (by decide) m_645 rfl rfl rfl (by decide +kernel) rfl rfl (Nat.le_of_ble_eq_true rfl) rfl dX9_init_47 (fun H locs G => ?_)
  have G : GW Z [(a, .inr (9, [.int 0, .int 0, .int 0, .int 0, .int 0, .int 2, .int 1, .int 0, .int 12, .int 14, .ref q1, .ref q2, .ref q3, .null, .null, .null, .null, .null, .null, .null, .null, .null, .null, .null, .null, .null, .null, .null, .null, .null, .null, .null, .int 0, .int 0, .int 0])), (q1, .inl (Z.2.1, 6, .inl (fun _ => 0))), (q2, .inl (Z.2.1, 36, .inl (fun _ => 0))), (q3, .inl (Z.2.1, 72, .inl (fun _ => 0)))] A s.heap H locs := G
  refine lv_aload_n hx hb dX9_init_50 rfl (lv_at hl 0 rfl) ?_
  refine lv_iconst (v := 4) hx hb dX9_init_51 (by decide) ?_
  refine r_newI E G (n := 4) (N := 4) (by decide) (by decide) (by decide) (Nat.le_of_ble_eq_true rfl) (Nat.le_of_ble_eq_true rfl) dX9_init_52 (fun q4 H G => ?_)
  have G : GW Z [(a, .inr (9, [.int 0, .int 0, .int 0, .int 0, .int 0, .int 2, .int 1, .int 0, .int 12, .int 14, .ref q1, .ref q2, .ref q3, .null, .null, .null, .null, .null, .null, .null, .null, .null, .null, .null, .null, .null, .null, .null, .null, .null, .null, .null, .int 0, .int 0, .int 0])), (q1, .inl (Z.2.1, 6, .inl (fun _ => 0))), (q2, .inl (Z.2.1, 36, .inl (fun _ => 0))), (q3, .inl (Z.2.1, 72, .inl (fun _ => 0))), (q4, .inl (Z.2.1, 4, .inl (fun _ => 0)))] A s.heap H locs := G
  refine W.widen (k := 4) (n := 118) (Nat.le_refl _) (Nat.le_refl _) ?_
  refine r_putF (ty := .array .int) E G hnm 0 rfl rfl inU9 tyX9_ok nmX9 13 (by decide) m_646 rfl rfl rfl (by decide +kernel) rfl rfl (Nat.le_of_ble_eq_true rfl) rfl dX9_init_54 (fun H locs G => ?_)
  have G : GW Z [(a, .inr (9, [.int 0, .int 0, .int 0, .int 0, .int 0, .int 2, .int 1, .int 0, .int 12, .int 14, .ref q1, .ref q2, .ref q3, .ref q4, .null, .null, .null, .null, .null, .null, .null, .null, .null, .null, .null, .null, .null, .null, .null, .null, .null, .null, .int 0, .int 0, .int 0])), (q1, .inl (Z.2.1, 6, .inl (fun _ => 0))), (q2, .inl (Z.2.1, 36, .inl (fun _ => 0))), (q3, .inl (Z.2.1, 72, .inl (fun _ => 0))), (q4, .inl (Z.2.1, 4, .inl (fun _ => 0)))] A s.heap H locs := G
  refine lv_aload_n hx hb dX9_init_57 rfl (lv_at hl 0 rfl) ?_
  refine lv_iconst (v := 4) hx hb dX9_init_58 (by decide) ?_
  refine r_newI E G (n := 4) (N := 4) (by decide) (by decide) (by decide) (Nat.le_of_ble_eq_true rfl) (Nat.le_of_ble_eq_true rfl) dX9_init_59 (fun q5 H G => ?_)
  have G : GW Z [(a, .inr (9, [.int 0, .int 0, .int 0, .int 0, .int 0, .int 2, .int 1, .int 0, .int 12, .int 14, .ref q1, .ref q2, .ref q3, .ref q4, .null, .null, .null, .null, .null, .null, .null, .null, .null, .null, .null, .null, .null, .null, .null, .null, .null, .null, .int 0, .int 0, .int 0])), (q1, .inl (Z.2.1, 6, .inl (fun _ => 0))), (q2, .inl (Z.2.1, 36, .inl (fun _ => 0))), (q3, .inl (Z.2.1, 72, .inl (fun _ => 0))), (q4, .inl (Z.2.1, 4, .inl (fun _ => 0))), (q5, .inl (Z.2.1, 4, .inl (fun _ => 0)))] A s.heap H locs := G
  refine W.widen (k := 5) (n := 122) (Nat.le_refl _) (Nat.le_refl _) ?_
  refine r_putF (ty := .array .int) E G hnm 0 rfl rfl inU9 tyX9_ok nmX9 14 (by decide) m_647 rfl rfl rfl (by decide +kernel) rfl rfl (Nat.le_of_ble_eq_true rfl) rfl dX9_init_61 (fun H locs G => ?_)
  have G : GW Z [(a, .inr (9, [.int 0, .int 0, .int 0, .int 0, .int 0, .int 2, .int 1, .int 0, .int 12, .int 14, .ref q1, .ref q2, .ref q3, .ref q4, .ref q5, .null, .null, .null, .null, .null, .null, .null, .null, .null, .null, .null, .null, .null, .null, .null, .null, .null, .int 0, .int 0, .int 0])), (q1, .inl (Z.2.1, 6, .inl (fun _ => 0))), (q2, .inl (Z.2.1, 36, .inl (fun _ => 0))), (q3, .inl (Z.2.1, 72, .inl (fun _ => 0))), (q4, .inl (Z.2.1, 4, .inl (fun _ => 0))), (q5, .inl (Z.2.1, 4, .inl (fun _ => 0)))] A s.heap H locs := G
  refine lv_aload_n hx hb dX9_init_64 rfl (lv_at hl 0 rfl) ?_
  refine lv_iconst (v := 4) hx hb dX9_init_65 (by decide) ?_
  refine r_newI E G (n := 4) (N := 4) (by decide) (by decide) (by decide) (Nat.le_of_ble_eq_true rfl) (Nat.le_of_ble_eq_true rfl) dX9_init_66 (fun q6 H G => ?_)
  have G : GW Z [(a, .inr (9, [.int 0, .int 0, .int 0, .int 0, .int 0, .int 2, .int 1, .int 0, .int 12, .int 14, .ref q1, .ref q2, .ref q3, .ref q4, .ref q5, .null, .null, .null, .null, .null, .null, .null, .null, .null, .null, .null, .null, .null, .null, .null, .null, .null, .int 0, .int 0, .int 0])), (q1, .inl (Z.2.1, 6, .inl (fun _ => 0))), (q2, .inl (Z.2.1, 36, .inl (fun _ => 0))), (q3, .inl (Z.2.1, 72, .inl (fun _ => 0))), (q4, .inl (Z.2.1, 4, .inl (fun _ => 0))), (q5, .inl (Z.2.1, 4, .inl (fun _ => 0))), (q6, .inl (Z.2.1, 4, .inl (fun _ => 0)))] A s.heap H locs := G
  refine W.widen (k := 6) (n := 126) (Nat.le_refl _) (Nat.le_refl _) ?_
  refine r_putF (ty := .array .int) E G hnm 0 rfl rfl inU9 tyX9_ok nmX9 15 (by decide) m_648 rfl rfl rfl (by decide +kernel) rfl rfl (Nat.le_of_ble_eq_true rfl) rfl dX9_init_68 (fun H locs G => ?_)
  have G : GW Z [(a, .inr (9, [.int 0, .int 0, .int 0, .int 0, .int 0, .int 2, .int 1, .int 0, .int 12, .int 14, .ref q1, .ref q2, .ref q3, .ref q4, .ref q5, .ref q6, .null, .null, .null, .null, .null, .null, .null, .null, .null, .null, .null, .null, .null, .null, .null, .null, .int 0, .int 0, .int 0])), (q1, .inl (Z.2.1, 6, .inl (fun _ => 0))), (q2, .inl (Z.2.1, 36, .inl (fun _ => 0))), (q3, .inl (Z.2.1, 72, .inl (fun _ => 0))), (q4, .inl (Z.2.1, 4, .inl (fun _ => 0))), (q5, .inl (Z.2.1, 4, .inl (fun _ => 0))), (q6, .inl (Z.2.1, 4, .inl (fun _ => 0)))] A s.heap H locs := G
  refine lv_aload_n hx hb dX9_init_71 rfl (lv_at hl 0 rfl) ?_
  refine lv_bipush (v := 24) hx hb dX9_init_72 (by decide) ?_
  refine r_newI E G (n := 24) (N := 24) (by decide) (by decide) (by decide) (Nat.le_of_ble_eq_true rfl) (Nat.le_of_ble_eq_true rfl) dX9_init_74 (fun q7 H G => ?_)
  have G : GW Z [(a, .inr (9, [.int 0, .int 0, .int 0, .int 0, .int 0, .int 2, .int 1, .int 0, .int 12, .int 14, .ref q1, .ref q2, .ref q3, .ref q4, .ref q5, .ref q6, .null, .null, .null, .null, .null, .null, .null, .null, .null, .null, .null, .null, .null, .null, .null, .null, .int 0, .int 0, .int 0])), (q1, .inl (Z.2.1, 6, .inl (fun _ => 0))), (q2, .inl (Z.2.1, 36, .inl (fun _ => 0))), (q3, .inl (Z.2.1, 72, .inl (fun _ => 0))), (q4, .inl (Z.2.1, 4, .inl (fun _ => 0))), (q5, .inl (Z.2.1, 4, .inl (fun _ => 0))), (q6, .inl (Z.2.1, 4, .inl (fun _ => 0))), (q7, .inl (Z.2.1, 24, .inl (fun _ => 0)))] A s.heap H locs := G
  refine W.widen (k := 7) (n := 150) (Nat.le_refl _) (Nat.le_refl _) ?_
  refine r_putF (ty := .array .int) E G hnm 0 rfl rfl inU9 tyX9_ok nmX9 16 (by decide) m_649 rfl rfl rfl (by decide +kernel) rfl rfl (Nat.le_of_ble_eq_true rfl) rfl dX9_init_76 (fun H locs G => ?_)
  have G : GW Z [(a, .inr (9, [.int 0, .int 0, .int 0, .int 0, .int 0, .int 2, .int 1, .int 0, .int 12, .int 14, .ref q1, .ref q2, .ref q3, .ref q4, .ref q5, .ref q6, .ref q7, .null, .null, .null, .null, .null, .null, .null, .null, .null, .null, .null, .null, .null, .null, .null, .int 0, .int 0, .int 0])), (q1, .inl (Z.2.1, 6, .inl (fun _ => 0))), (q2, .inl (Z.2.1, 36, .inl (fun _ => 0))), (q3, .inl (Z.2.1, 72, .inl (fun _ => 0))), (q4, .inl (Z.2.1, 4, .inl (fun _ => 0))), (q5, .inl (Z.2.1, 4, .inl (fun _ => 0))), (q6, .inl (Z.2.1, 4, .inl (fun _ => 0))), (q7, .inl (Z.2.1, 24, .inl (fun _ => 0)))] A s.heap H locs := G
  refine lv_aload_n hx hb dX9_init_79 rfl (lv_at hl 0 rfl) ?_
  refine lv_bipush (v := 24) hx hb dX9_init_80 (by decide) ?_
  refine r_newI E G (n := 24) (N := 24) (by decide) (by decide) (by decide) (Nat.le_of_ble_eq_true rfl) (Nat.le_of_ble_eq_true rfl) dX9_init_82 (fun q8 H G => ?_)
  have G : GW Z [(a, .inr (9, [.int 0, .int 0, .int 0, .int 0, .int 0, .int 2, .int 1, .int 0, .int 12, .int 14, .ref q1, .ref q2, .ref q3, .ref q4, .ref q5, .ref q6, .ref q7, .null, .null, .null, .null, .null, .null, .null, .null, .null, .null, .null, .null, .null, .null, .null, .int 0, .int 0, .int 0])), (q1, .inl (Z.2.1, 6, .inl (fun _ => 0))), (q2, .inl (Z.2.1, 36, .inl (fun _ => 0))), (q3, .inl (Z.2.1, 72, .inl (fun _ => 0))), (q4, .inl (Z.2.1, 4, .inl (fun _ => 0))), (q5, .inl (Z.2.1, 4, .inl (fun _ => 0))), (q6, .inl (Z.2.1, 4, .inl (fun _ => 0))), (q7, .inl (Z.2.1, 24, .inl (fun _ => 0))), (q8, .inl (Z.2.1, 24, .inl (fun _ => 0)))] A s.heap H locs := G
  refine W.widen (k := 8) (n := 174) (Nat.le_refl _) (Nat.le_refl _) ?_
  refine r_putF (ty := .array .int) E G hnm 0 rfl rfl inU9 tyX9_ok nmX9 17 (by decide) m_650 rfl rfl rfl (by decide +kernel) rfl rfl (Nat.le_of_ble_eq_true rfl) rfl dX9_init_84 (fun H locs G => ?_)
  have G : GW Z [(a, .inr (9, [.int 0, .int 0, .int 0, .int 0, .int 0, .int 2, .int 1, .int 0, .int 12, .int 14, .ref q1, .ref q2, .ref q3, .ref q4, .ref q5, .ref q6, .ref q7, .ref q8, .null, .null, .null, .null, .null, .null, .null, .null, .null, .null, .null, .null, .null, .null, .int 0, .int 0, .int 0])), (q1, .inl (Z.2.1, 6, .inl (fun _ => 0))), (q2, .inl (Z.2.1, 36, .inl (fun _ => 0))), (q3, .inl (Z.2.1, 72, .inl (fun _ => 0))), (q4, .inl (Z.2.1, 4, .inl (fun _ => 0))), (q5, .inl (Z.2.1, 4, .inl (fun _ => 0))), (q6, .inl (Z.2.1, 4, .inl (fun _ => 0))), (q7, .inl (Z.2.1, 24, .inl (fun _ => 0))), (q8, .inl (Z.2.1, 24, .inl (fun _ => 0)))] A s.heap H locs := G
  refine lv_aload_n hx hb dX9_init_87 rfl (lv_at hl 0 rfl) ?_
  refine lv_bipush (v := 24) hx hb dX9_init_88 (by decide) ?_
  refine r_newI E G (n := 24) (N := 24) (by decide) (by decide) (by decide) (Nat.le_of_ble_eq_true rfl) (Nat.le_of_ble_eq_true rfl) dX9_init_90 (fun q9 H G => ?_)
  have G : GW Z [(a, .inr (9, [.int 0, .int 0, .int 0, .int 0, .int 0, .int 2, .int 1, .int 0, .int 12, .int 14, .ref q1, .ref q2, .ref q3, .ref q4, .ref q5, .ref q6, .ref q7, .ref q8, .null, .null, .null, .null, .null, .null, .null, .null, .null, .null, .null, .null, .null, .null, .int 0, .int 0, .int 0])), (q1, .inl (Z.2.1, 6, .inl (fun _ => 0))), (q2, .inl (Z.2.1, 36, .inl (fun _ => 0))), (q3, .inl (Z.2.1, 72, .inl (fun _ => 0))), (q4, .inl (Z.2.1, 4, .inl (fun _ => 0))), (q5, .inl (Z.2.1, 4, .inl (fun _ => 0))), (q6, .inl (Z.2.1, 4, .inl (fun _ => 0))), (q7, .inl (Z.2.1, 24, .inl (fun _ => 0))), (q8, .inl (Z.2.1, 24, .inl (fun _ => 0))), (q9, .inl (Z.2.1, 24, .inl (fun _ => 0)))] A s.heap H locs := G
  refine W.widen (k := 9) (n := 198) (Nat.le_refl _) (Nat.le_refl _) ?_
  refine r_putF (ty := .array .int) E G hnm 0 rfl rfl inU9 tyX9_ok nmX9 18 (by decide) m_651 rfl rfl rfl (by decide +kernel) rfl rfl (Nat.le_of_ble_eq_true rfl) rfl dX9_init_92 (fun H locs G => ?_)
  have G : GW Z [(a, .inr (9, [.int 0, .int 0, .int 0, .int 0, .int 0, .int 2, .int 1, .int 0, .int 12, .int 14, .ref q1, .ref q2, .ref q3, .ref q4, .ref q5, .ref q6, .ref q7, .ref q8, .ref q9, .null, .null, .null, .null, .null, .null, .null, .null, .null, .null, .null, .null, .null, .int 0, .int 0, .int 0])), (q1, .inl (Z.2.1, 6, .inl (fun _ => 0))), (q2, .inl (Z.2.1, 36, .inl (fun _ => 0))), (q3, .inl (Z.2.1, 72, .inl (fun _ => 0))), (q4, .inl (Z.2.1, 4, .inl (fun _ => 0))), (q5, .inl (Z.2.1, 4, .inl (fun _ => 0))), (q6, .inl (Z.2.1, 4, .inl (fun _ => 0))), (q7, .inl (Z.2.1, 24, .inl (fun _ => 0))), (q8, .inl (Z.2.1, 24, .inl (fun _ => 0))), (q9, .inl (Z.2.1, 24, .inl (fun _ => 0)))] A s.heap H locs := G
  refine lv_aload_n hx hb dX9_init_95 rfl (lv_at hl 0 rfl) ?_
  refine lv_bipush (v := 24) hx hb dX9_init_96 (by decide) ?_
  refine r_newI E G (n := 24) (N := 24) (by decide) (by decide) (by decide) (Nat.le_of_ble_eq_true rfl) (Nat.le_of_ble_eq_true rfl) dX9_init_98 (fun q10 H G => ?_)
  have G : GW Z [(a, .inr (9, [.int 0, .int 0, .int 0, .int 0, .int 0, .int 2, .int 1, .int 0, .int 12, .int 14, .ref q1, .ref q2, .ref q3, .ref q4, .ref q5, .ref q6, .ref q7, .ref q8, .ref q9, .null, .null, .null, .null, .null, .null, .null, .null, .null, .null, .null, .null, .null, .int 0, .int 0, .int 0])), (q1, .inl (Z.2.1, 6, .inl (fun _ => 0))), (q2, .inl (Z.2.1, 36, .inl (fun _ => 0))), (q3, .inl (Z.2.1, 72, .inl (fun _ => 0))), (q4, .inl (Z.2.1, 4, .inl (fun _ => 0))), (q5, .inl (Z.2.1, 4, .inl (fun _ => 0))), (q6, .inl (Z.2.1, 4, .inl (fun _ => 0))), (q7, .inl (Z.2.1, 24, .inl (fun _ => 0))), (q8, .inl (Z.2.1, 24, .inl (fun _ => 0))), (q9, .inl (Z.2.1, 24, .inl (fun _ => 0))), (q10, .inl (Z.2.1, 24, .inl (fun _ => 0)))] A s.heap H locs := G
  refine W.widen (k := 10) (n := 222) (Nat.le_refl _) (Nat.le_refl _) ?_
  refine r_putF (ty := .array .int) E G hnm 0 rfl rfl inU9 tyX9_ok nmX9 19 (by decide) m_652 rfl rfl rfl (by decide +kernel) rfl rfl (Nat.le_of_ble_eq_true rfl) rfl dX9_init_100 (fun H locs G => ?_)
  have G : GW Z [(a, .inr (9, [.int 0, .int 0, .int 0, .int 0, .int 0, .int 2, .int 1, .int 0, .int 12, .int 14, .ref q1, .ref q2, .ref q3, .ref q4, .ref q5, .ref q6, .ref q7, .ref q8, .ref q9, .ref q10, .null, .null, .null, .null, .null, .null, .null, .null, .null, .null, .null, .null, .int 0, .int 0, .int 0])), (q1, .inl (Z.2.1, 6, .inl (fun _ => 0))), (q2, .inl (Z.2.1, 36, .inl (fun _ => 0))), (q3, .inl (Z.2.1, 72, .inl (fun _ => 0))), (q4, .inl (Z.2.1, 4, .inl (fun _ => 0))), (q5, .inl (Z.2.1, 4, .inl (fun _ => 0))), (q6, .inl (Z.2.1, 4, .inl (fun _ => 0))), (q7, .inl (Z.2.1, 24, .inl (fun _ => 0))), (q8, .inl (Z.2.1, 24, .inl (fun _ => 0))), (q9, .inl (Z.2.1, 24, .inl (fun _ => 0))), (q10, .inl (Z.2.1, 24, .inl (fun _ => 0)))] A s.heap H locs := G
  refine lv_aload_n hx hb dX9_init_103 rfl (lv_at hl 0 rfl) ?_
  refine lv_bipush (v := 12) hx hb dX9_init_104 (by decide) ?_
  refine r_newI E G (n := 12) (N := 12) (by decide) (by decide) (by decide) (Nat.le_of_ble_eq_true rfl) (Nat.le_of_ble_eq_true rfl) dX9_init_106 (fun q11 H G => ?_)
  have G : GW Z [(a, .inr (9, [.int 0, .int 0, .int 0, .int 0, .int 0, .int 2, .int 1, .int 0, .int 12, .int 14, .ref q1, .ref q2, .ref q3, .ref q4, .ref q5, .ref q6, .ref q7, .ref q8, .ref q9, .ref q10, .null, .null, .null, .null, .null, .null, .null, .null, .null, .null, .null, .null, .int 0, .int 0, .int 0])), (q1, .inl (Z.2.1, 6, .inl (fun _ => 0))), (q2, .inl (Z.2.1, 36, .inl (fun _ => 0))), (q3, .inl (Z.2.1, 72, .inl (fun _ => 0))), (q4, .inl (Z.2.1, 4, .inl (fun _ => 0))), (q5, .inl (Z.2.1, 4, .inl (fun _ => 0))), (q6, .inl (Z.2.1, 4, .inl (fun _ => 0))), (q7, .inl (Z.2.1, 24, .inl (fun _ => 0))), (q8, .inl (Z.2.1, 24, .inl (fun _ => 0))), (q9, .inl (Z.2.1, 24, .inl (fun _ => 0))), (q10, .inl (Z.2.1, 24, .inl (fun _ => 0))), (q11, .inl (Z.2.1, 12, .inl (fun _ => 0)))] A s.heap H locs := G
  refine W.widen (k := 11) (n := 234) (Nat.le_refl _) (Nat.le_refl _) ?_
  refine r_putF (ty := .array .int) E G hnm 0 rfl rfl inU9 tyX9_ok nmX9 20 (by decide) m_653 rfl rfl rfl (by decide +kernel) rfl rfl (Nat.le_of_ble_eq_true rfl) rfl dX9_init_108 (fun H locs G => ?_)
  have G : GW Z [(a, .inr (9, [.int 0, .int 0, .int 0, .int 0, .int 0, .int 2, .int 1, .int 0, .int 12, .int 14, .ref q1, .ref q2, .ref q3, .ref q4, .ref q5, .ref q6, .ref q7, .ref q8, .ref q9, .ref q10, .ref q11, .null, .null, .null, .null, .null, .null, .null, .null, .null, .null, .null, .int 0, .int 0, .int 0])), (q1, .inl (Z.2.1, 6, .inl (fun _ => 0))), (q2, .inl (Z.2.1, 36, .inl (fun _ => 0))), (q3, .inl (Z.2.1, 72, .inl (fun _ => 0))), (q4, .inl (Z.2.1, 4, .inl (fun _ => 0))), (q5, .inl (Z.2.1, 4, .inl (fun _ => 0))), (q6, .inl (Z.2.1, 4, .inl (fun _ => 0))), (q7, .inl (Z.2.1, 24, .inl (fun _ => 0))), (q8, .inl (Z.2.1, 24, .inl (fun _ => 0))), (q9, .inl (Z.2.1, 24, .inl (fun _ => 0))), (q10, .inl (Z.2.1, 24, .inl (fun _ => 0))), (q11, .inl (Z.2.1, 12, .inl (fun _ => 0)))] A s.heap H locs := G
  refine lv_aload_n hx hb dX9_init_111 rfl (lv_at hl 0 rfl) ?_
  refine lv_bipush (v := 12) hx hb dX9_init_112 (by decide) ?_
  refine r_newI E G (n := 12) (N := 12) (by decide) (by decide) (by decide) (Nat.le_of_ble_eq_true rfl) (Nat.le_of_ble_eq_true rfl) dX9_init_114 (fun q12 H G => ?_)
  have G : GW Z [(a, .inr (9, [.int 0, .int 0, .int 0, .int 0, .int 0, .int 2, .int 1, .int 0, .int 12, .int 14, .ref q1, .ref q2, .ref q3, .ref q4, .ref q5, .ref q6, .ref q7, .ref q8, .ref q9, .ref q10, .ref q11, .null, .null, .null, .null, .null, .null, .null, .null, .null, .null, .null, .int 0, .int 0, .int 0])), (q1, .inl (Z.2.1, 6, .inl (fun _ => 0))), (q2, .inl (Z.2.1, 36, .inl (fun _ => 0))), (q3, .inl (Z.2.1, 72, .inl (fun _ => 0))), (q4, .inl (Z.2.1, 4, .inl (fun _ => 0))), (q5, .inl (Z.2.1, 4, .inl (fun _ => 0))), (q6, .inl (Z.2.1, 4, .inl (fun _ => 0))), (q7, .inl (Z.2.1, 24, .inl (fun _ => 0))), (q8, .inl (Z.2.1, 24, .inl (fun _ => 0))), (q9, .inl (Z.2.1, 24, .inl (fun _ => 0))), (q10, .inl (Z.2.1, 24, .inl (fun _ => 0))), (q11, .inl (Z.2.1, 12, .inl (fun _ => 0))), (q12, .inl (Z.2.1, 12, .inl (fun _ => 0)))] A s.heap H locs := G
  refine W.widen (k := 12) (n := 246) (Nat.le_refl _) (Nat.le_refl _) ?_
  refine r_putF (ty := .array .int) E G hnm 0 rfl rfl inU9 tyX9_ok nmX9 21 (by decide) m_654 rfl rfl rfl (by decide +kernel) rfl rfl (Nat.le_of_ble_eq_true rfl) rfl dX9_init_116 (fun H locs G => ?_)
  have G : GW Z [(a, .inr (9, [.int 0, .int 0, .int 0, .int 0, .int 0, .int 2, .int 1, .int 0, .int 12, .int 14, .ref q1, .ref q2, .ref q3, .ref q4, .ref q5, .ref q6, .ref q7, .ref q8, .ref q9, .ref q10, .ref q11, .ref q12, .null, .null, .null, .null, .null, .null, .null, .null, .null, .null, .int 0, .int 0, .int 0])), (q1, .inl (Z.2.1, 6, .inl (fun _ => 0))), (q2, .inl (Z.2.1, 36, .inl (fun _ => 0))), (q3, .inl (Z.2.1, 72, .inl (fun _ => 0))), (q4, .inl (Z.2.1, 4, .inl (fun _ => 0))), (q5, .inl (Z.2.1, 4, .inl (fun _ => 0))), (q6, .inl (Z.2.1, 4, .inl (fun _ => 0))), (q7, .inl (Z.2.1, 24, .inl (fun _ => 0))), (q8, .inl (Z.2.1, 24, .inl (fun _ => 0))), (q9, .inl (Z.2.1, 24, .inl (fun _ => 0))), (q10, .inl (Z.2.1, 24, .inl (fun _ => 0))), (q11, .inl (Z.2.1, 12, .inl (fun _ => 0))), (q12, .inl (Z.2.1, 12, .inl (fun _ => 0)))] A s.heap H locs := G
  refine lv_aload_n hx hb dX9_init_119 rfl (lv_at hl 0 rfl) ?_
  refine lv_bipush (v := 12) hx hb dX9_init_120 (by decide) ?_
  refine r_newI E G (n := 12) (N := 12) (by decide) (by decide) (by decide) (Nat.le_of_ble_eq_true rfl) (Nat.le_of_ble_eq_true rfl) dX9_init_122 (fun q13 H G => ?_)
  have G : GW Z [(a, .inr (9, [.int 0, .int 0, .int 0, .int 0, .int 0, .int 2, .int 1, .int 0, .int 12, .int 14, .ref q1, .ref q2, .ref q3, .ref q4, .ref q5, .ref q6, .ref q7, .ref q8, .ref q9, .ref q10, .ref q11, .ref q12, .null, .null, .null, .null, .null, .null, .null, .null, .null, .null, .int 0, .int 0, .int 0])), (q1, .inl (Z.2.1, 6, .inl (fun _ => 0))), (q2, .inl (Z.2.1, 36, .inl (fun _ => 0))), (q3, .inl (Z.2.1, 72, .inl (fun _ => 0))), (q4, .inl (Z.2.1, 4, .inl (fun _ => 0))), (q5, .inl (Z.2.1, 4, .inl (fun _ => 0))), (q6, .inl (Z.2.1, 4, .inl (fun _ => 0))), (q7, .inl (Z.2.1, 24, .inl (fun _ => 0))), (q8, .inl (Z.2.1, 24, .inl (fun _ => 0))), (q9, .inl (Z.2.1, 24, .inl (fun _ => 0))), (q10, .inl (Z.2.1, 24, .inl (fun _ => 0))), (q11, .inl (Z.2.1, 12, .inl (fun _ => 0))), (q12, .inl (Z.2.1, 12, .inl (fun _ => 0))), (q13, .inl (Z.2.1, 12, .inl (fun _ => 0)))] A s.heap H locs := G
  refine W.widen (k := 13) (n := 258) (Nat.le_refl _) (Nat.le_refl _) ?_
  refine r_putF (ty := .array .int) E G hnm 0 rfl rfl inU9 tyX9_ok nmX9 22 (by decide) m_655 rfl rfl rfl (by decide +kernel) rfl rfl (Nat.le_of_ble_eq_true rfl) rfl dX9_init_124 (fun H locs G => ?_)
  have G : GW Z [(a, .inr (9, [.int 0, .int 0, .int 0, .int 0, .int 0, .int 2, .int 1, .int 0, .int 12, .int 14, .ref q1, .ref q2, .ref q3, .ref q4, .ref q5, .ref q6, .ref q7, .ref q8, .ref q9, .ref q10, .ref q11, .ref q12, .ref q13, .null, .null, .null, .null, .null, .null, .null, .null, .null, .int 0, .int 0, .int 0])), (q1, .inl (Z.2.1, 6, .inl (fun _ => 0))), (q2, .inl (Z.2.1, 36, .inl (fun _ => 0))), (q3, .inl (Z.2.1, 72, .inl (fun _ => 0))), (q4, .inl (Z.2.1, 4, .inl (fun _ => 0))), (q5, .inl (Z.2.1, 4, .inl (fun _ => 0))), (q6, .inl (Z.2.1, 4, .inl (fun _ => 0))), (q7, .inl (Z.2.1, 24, .inl (fun _ => 0))), (q8, .inl (Z.2.1, 24, .inl (fun _ => 0))), (q9, .inl (Z.2.1, 24, .inl (fun _ => 0))), (q10, .inl (Z.2.1, 24, .inl (fun _ => 0))), (q11, .inl (Z.2.1, 12, .inl (fun _ => 0))), (q12, .inl (Z.2.1, 12, .inl (fun _ => 0))), (q13, .inl (Z.2.1, 12, .inl (fun _ => 0)))] A s.heap H locs := G
  refine lv_aload_n hx hb dX9_init_127 rfl (lv_at hl 0 rfl) ?_
  refine lv_bipush (v := 12) hx hb dX9_init_128 (by decide) ?_
  refine r_newI E G (n := 12) (N := 12) (by decide) (by decide) (by decide) (Nat.le_of_ble_eq_true rfl) (Nat.le_of_ble_eq_true rfl) dX9_init_130 (fun q14 H G => ?_)
  have G : GW Z [(a, .inr (9, [.int 0, .int 0, .int 0, .int 0, .int 0, .int 2, .int 1, .int 0, .int 12, .int 14, .ref q1, .ref q2, .ref q3, .ref q4, .ref q5, .ref q6, .ref q7, .ref q8, .ref q9, .ref q10, .ref q11, .ref q12, .ref q13, .null, .null, .null, .null, .null, .null, .null, .null, .null, .int 0, .int 0, .int 0])), (q1, .inl (Z.2.1, 6, .inl (fun _ => 0))), (q2, .inl (Z.2.1, 36, .inl (fun _ => 0))), (q3, .inl (Z.2.1, 72, .inl (fun _ => 0))), (q4, .inl (Z.2.1, 4, .inl (fun _ => 0))), (q5, .inl (Z.2.1, 4, .inl (fun _ => 0))), (q6, .inl (Z.2.1, 4, .inl (fun _ => 0))), (q7, .inl (Z.2.1, 24, .inl (fun _ => 0))), (q8, .inl (Z.2.1, 24, .inl (fun _ => 0))), (q9, .inl (Z.2.1, 24, .inl (fun _ => 0))), (q10, .inl (Z.2.1, 24, .inl (fun _ => 0))), (q11, .inl (Z.2.1, 12, .inl (fun _ => 0))), (q12, .inl (Z.2.1, 12, .inl (fun _ => 0))), (q13, .inl (Z.2.1, 12, .inl (fun _ => 0))), (q14, .inl (Z.2.1, 12, .inl (fun _ => 0)))] A s.heap H locs := G
  refine W.widen (k := 14) (n := 270) (Nat.le_refl _) (Nat.le_refl _) ?_
  refine r_putF (ty := .array .int) E G hnm 0 rfl rfl inU9 tyX9_ok nmX9 23 (by decide) m_656 rfl rfl rfl (by decide +kernel) rfl rfl (Nat.le_of_ble_eq_true rfl) rfl dX9_init_132 (fun H locs G => ?_)
  have G : GW Z [(a, .inr (9, [.int 0, .int 0, .int 0, .int 0, .int 0, .int 2, .int 1, .int 0, .int 12, .int 14, .ref q1, .ref q2, .ref q3, .ref q4, .ref q5, .ref q6, .ref q7, .ref q8, .ref q9, .ref q10, .ref q11, .ref q12, .ref q13, .ref q14, .null, .null, .null, .null, .null, .null, .null, .null, .int 0, .int 0, .int 0])), (q1, .inl (Z.2.1, 6, .inl (fun _ => 0))), (q2, .inl (Z.2.1, 36, .inl (fun _ => 0))), (q3, .inl (Z.2.1, 72, .inl (fun _ => 0))), (q4, .inl (Z.2.1, 4, .inl (fun _ => 0))), (q5, .inl (Z.2.1, 4, .inl (fun _ => 0))), (q6, .inl (Z.2.1, 4, .inl (fun _ => 0))), (q7, .inl (Z.2.1, 24, .inl (fun _ => 0))), (q8, .inl (Z.2.1, 24, .inl (fun _ => 0))), (q9, .inl (Z.2.1, 24, .inl (fun _ => 0))), (q10, .inl (Z.2.1, 24, .inl (fun _ => 0))), (q11, .inl (Z.2.1, 12, .inl (fun _ => 0))), (q12, .inl (Z.2.1, 12, .inl (fun _ => 0))), (q13, .inl (Z.2.1, 12, .inl (fun _ => 0))), (q14, .inl (Z.2.1, 12, .inl (fun _ => 0)))] A s.heap H locs := G
  refine lv_aload_n hx hb dX9_init_135 rfl (lv_at hl 0 rfl) ?_
  refine lv_bipush (v := 6) hx hb dX9_init_136 (by decide) ?_
  refine r_newI E G (n := 6) (N := 6) (by decide) (by decide) (by decide) (Nat.le_of_ble_eq_true rfl) (Nat.le_of_ble_eq_true rfl) dX9_init_138 (fun q15 H G => ?_)
  have G : GW Z [(a, .inr (9, [.int 0, .int 0, .int 0, .int 0, .int 0, .int 2, .int 1, .int 0, .int 12, .int 14, .ref q1, .ref q2, .ref q3, .ref q4, .ref q5, .ref q6, .ref q7, .ref q8, .ref q9, .ref q10, .ref q11, .ref q12, .ref q13, .ref q14, .null, .null, .null, .null, .null, .null, .null, .null, .int 0, .int 0, .int 0])), (q1, .inl (Z.2.1, 6, .inl (fun _ => 0))), (q2, .inl (Z.2.1, 36, .inl (fun _ => 0))), (q3, .inl (Z.2.1, 72, .inl (fun _ => 0))), (q4, .inl (Z.2.1, 4, .inl (fun _ => 0))), (q5, .inl (Z.2.1, 4, .inl (fun _ => 0))), (q6, .inl (Z.2.1, 4, .inl (fun _ => 0))), (q7, .inl (Z.2.1, 24, .inl (fun _ => 0))), (q8, .inl (Z.2.1, 24, .inl (fun _ => 0))), (q9, .inl (Z.2.1, 24, .inl (fun _ => 0))), (q10, .inl (Z.2.1, 24, .inl (fun _ => 0))), (q11, .inl (Z.2.1, 12, .inl (fun _ => 0))), (q12, .inl (Z.2.1, 12, .inl (fun _ => 0))), (q13, .inl (Z.2.1, 12, .inl (fun _ => 0))), (q14, .inl (Z.2.1, 12, .inl (fun _ => 0))), (q15, .inl (Z.2.1, 6, .inl (fun _ => 0)))] A s.heap H locs := G
  refine W.widen (k := 15) (n := 276) (Nat.le_refl _) (Nat.le_refl _) ?_
  refine r_putF (ty := .array .int) E G hnm 0 rfl rfl inU9 tyX9_ok nmX9 24 (by decide) m_657 rfl rfl rfl (by decide +kernel) rfl rfl (Nat.le_of_ble_eq_true rfl) rfl dX9_init_140 (fun H locs G => ?_)
  have G : GW Z [(a, .inr (9, [.int 0, .int 0, .int 0, .int 0, .int 0, .int 2, .int 1, .int 0, .int 12, .int 14, .ref q1, .ref q2, .ref q3, .ref q4, .ref q5, .ref q6, .ref q7, .ref q8, .ref q9, .ref q10, .ref q11, .ref q12, .ref q13, .ref q14, .ref q15, .null, .null, .null, .null, .null, .null, .null, .int 0, .int 0, .int 0])), (q1, .inl (Z.2.1, 6, .inl (fun _ => 0))), (q2, .inl (Z.2.1, 36, .inl (fun _ => 0))), (q3, .inl (Z.2.1, 72, .inl (fun _ => 0))), (q4, .inl (Z.2.1, 4, .inl (fun _ => 0))), (q5, .inl (Z.2.1, 4, .inl (fun _ => 0))), (q6, .inl (Z.2.1, 4, .inl (fun _ => 0))), (q7, .inl (Z.2.1, 24, .inl (fun _ => 0))), (q8, .inl (Z.2.1, 24, .inl (fun _ => 0))), (q9, .inl (Z.2.1, 24, .inl (fun _ => 0))), (q10, .inl (Z.2.1, 24, .inl (fun _ => 0))), (q11, .inl (Z.2.1, 12, .inl (fun _ => 0))), (q12, .inl (Z.2.1, 12, .inl (fun _ => 0))), (q13, .inl (Z.2.1, 12, .inl (fun _ => 0))), (q14, .inl (Z.2.1, 12, .inl (fun _ => 0))), (q15, .inl (Z.2.1, 6, .inl (fun _ => 0)))] A s.heap H locs := G
  refine lv_aload_n hx hb dX9_init_143 rfl (lv_at hl 0 rfl) ?_
  refine lv_bipush (v := 12) hx hb dX9_init_144 (by decide) ?_
  refine r_newI E G (n := 12) (N := 12) (by decide) (by decide) (by decide) (Nat.le_of_ble_eq_true rfl) (Nat.le_of_ble_eq_true rfl) dX9_init_146 (fun q16 H G => ?_)
  have G : GW Z [(a, .inr (9, [.int 0, .int 0, .int 0, .int 0, .int 0, .int 2, .int 1, .int 0, .int 12, .int 14, .ref q1, .ref q2, .ref q3, .ref q4, .ref q5, .ref q6, .ref q7, .ref q8, .ref q9, .ref q10, .ref q11, .ref q12, .ref q13, .ref q14, .ref q15, .null, .null, .null, .null, .null, .null, .null, .int 0, .int 0, .int 0])), (q1, .inl (Z.2.1, 6, .inl (fun _ => 0))), (q2, .inl (Z.2.1, 36, .inl (fun _ => 0))), (q3, .inl (Z.2.1, 72, .inl (fun _ => 0))), (q4, .inl (Z.2.1, 4, .inl (fun _ => 0))), (q5, .inl (Z.2.1, 4, .inl (fun _ => 0))), (q6, .inl (Z.2.1, 4, .inl (fun _ => 0))), (q7, .inl (Z.2.1, 24, .inl (fun _ => 0))), (q8, .inl (Z.2.1, 24, .inl (fun _ => 0))), (q9, .inl (Z.2.1, 24, .inl (fun _ => 0))), (q10, .inl (Z.2.1, 24, .inl (fun _ => 0))), (q11, .inl (Z.2.1, 12, .inl (fun _ => 0))), (q12, .inl (Z.2.1, 12, .inl (fun _ => 0))), (q13, .inl (Z.2.1, 12, .inl (fun _ => 0))), (q14, .inl (Z.2.1, 12, .inl (fun _ => 0))), (q15, .inl (Z.2.1, 6, .inl (fun _ => 0))), (q16, .inl (Z.2.1, 12, .inl (fun _ => 0)))] A s.heap H locs := G
  refine W.widen (k := 16) (n := 288) (Nat.le_refl _) (Nat.le_refl _) ?_
  refine r_putF (ty := .array .int) E G hnm 0 rfl rfl inU9 tyX9_ok nmX9 25 (by decide) m_658 rfl rfl rfl (by decide +kernel) rfl rfl (Nat.le_of_ble_eq_true rfl) rfl dX9_init_148 (fun H locs G => ?_)
  have G : GW Z [(a, .inr (9, [.int 0, .int 0, .int 0, .int 0, .int 0, .int 2, .int 1, .int 0, .int 12, .int 14, .ref q1, .ref q2, .ref q3, .ref q4, .ref q5, .ref q6, .ref q7, .ref q8, .ref q9, .ref q10, .ref q11, .ref q12, .ref q13, .ref q14, .ref q15, .ref q16, .null, .null, .null, .null, .null, .null, .int 0, .int 0, .int 0])), (q1, .inl (Z.2.1, 6, .inl (fun _ => 0))), (q2, .inl (Z.2.1, 36, .inl (fun _ => 0))), (q3, .inl (Z.2.1, 72, .inl (fun _ => 0))), (q4, .inl (Z.2.1, 4, .inl (fun _ => 0))), (q5, .inl (Z.2.1, 4, .inl (fun _ => 0))), (q6, .inl (Z.2.1, 4, .inl (fun _ => 0))), (q7, .inl (Z.2.1, 24, .inl (fun _ => 0))), (q8, .inl (Z.2.1, 24, .inl (fun _ => 0))), (q9, .inl (Z.2.1, 24, .inl (fun _ => 0))), (q10, .inl (Z.2.1, 24, .inl (fun _ => 0))), (q11, .inl (Z.2.1, 12, .inl (fun _ => 0))), (q12, .inl (Z.2.1, 12, .inl (fun _ => 0))), (q13, .inl (Z.2.1, 12, .inl (fun _ => 0))), (q14, .inl (Z.2.1, 12, .inl (fun _ => 0))), (q15, .inl (Z.2.1, 6, .inl (fun _ => 0))), (q16, .inl (Z.2.1, 12, .inl (fun _ => 0)))] A s.heap H locs := G
  refine lv_aload_n hx hb dX9_init_151 rfl (lv_at hl 0 rfl) ?_
  refine lv_bipush (v := 12) hx hb dX9_init_152 (by decide) ?_
  refine r_newI E G (n := 12) (N := 12) (by decide) (by decide) (by decide) (Nat.le_of_ble_eq_true rfl) (Nat.le_of_ble_eq_true rfl) dX9_init_154 (fun q17 H G => ?_)
  have G : GW Z [(a, .inr (9, [.int 0, .int 0, .int 0, .int 0, .int 0, .int 2, .int 1, .int 0, .int 12, .int 14, .ref q1, .ref q2, .ref q3, .ref q4, .ref q5, .ref q6, .ref q7, .ref q8, .ref q9, .ref q10, .ref q11, .ref q12, .ref q13, .ref q14, .ref q15, .ref q16, .null, .null, .null, .null, .null, .null, .int 0, .int 0, .int 0])), (q1, .inl (Z.2.1, 6, .inl (fun _ => 0))), (q2, .inl (Z.2.1, 36, .inl (fun _ => 0))), (q3, .inl (Z.2.1, 72, .inl (fun _ => 0))), (q4, .inl (Z.2.1, 4, .inl (fun _ => 0))), (q5, .inl (Z.2.1, 4, .inl (fun _ => 0))), (q6, .inl (Z.2.1, 4, .inl (fun _ => 0))), (q7, .inl (Z.2.1, 24, .inl (fun _ => 0))), (q8, .inl (Z.2.1, 24, .inl (fun _ => 0))), (q9, .inl (Z.2.1, 24, .inl (fun _ => 0))), (q10, .inl (Z.2.1, 24, .inl (fun _ => 0))), (q11, .inl (Z.2.1, 12, .inl (fun _ => 0))), (q12, .inl (Z.2.1, 12, .inl (fun _ => 0))), (q13, .inl (Z.2.1, 12, .inl (fun _ => 0))), (q14, .inl (Z.2.1, 12, .inl (fun _ => 0))), (q15, .inl (Z.2.1, 6, .inl (fun _ => 0))), (q16, .inl (Z.2.1, 12, .inl (fun _ => 0))), (q17, .inl (Z.2.1, 12, .inl (fun _ => 0)))] A s.heap H locs := G
  refine W.widen (k := 17) (n := 300) (Nat.le_refl _) (Nat.le_refl _) ?_
  refine r_putF (ty := .array .int) E G hnm 0 rfl rfl inU9 tyX9_ok nmX9 26 (by decide) m_659 rfl rfl rfl (by decide +kernel) rfl rfl (Nat.le_of_ble_eq_true rfl) rfl dX9_init_156 (fun H locs G => ?_)
  have G : GW Z [(a, .inr (9, [.int 0, .int 0, .int 0, .int 0, .int 0, .int 2, .int 1, .int 0, .int 12, .int 14, .ref q1, .ref q2, .ref q3, .ref q4, .ref q5, .ref q6, .ref q7, .ref q8, .ref q9, .ref q10, .ref q11, .ref q12, .ref q13, .ref q14, .ref q15, .ref q16, .ref q17, .null, .null, .null, .null, .null, .int 0, .int 0, .int 0])), (q1, .inl (Z.2.1, 6, .inl (fun _ => 0))), (q2, .inl (Z.2.1, 36, .inl (fun _ => 0))), (q3, .inl (Z.2.1, 72, .inl (fun _ => 0))), (q4, .inl (Z.2.1, 4, .inl (fun _ => 0))), (q5, .inl (Z.2.1, 4, .inl (fun _ => 0))), (q6, .inl (Z.2.1, 4, .inl (fun _ => 0))), (q7, .inl (Z.2.1, 24, .inl (fun _ => 0))), (q8, .inl (Z.2.1, 24, .inl (fun _ => 0))), (q9, .inl (Z.2.1, 24, .inl (fun _ => 0))), (q10, .inl (Z.2.1, 24, .inl (fun _ => 0))), (q11, .inl (Z.2.1, 12, .inl (fun _ => 0))), (q12, .inl (Z.2.1, 12, .inl (fun _ => 0))), (q13, .inl (Z.2.1, 12, .inl (fun _ => 0))), (q14, .inl (Z.2.1, 12, .inl (fun _ => 0))), (q15, .inl (Z.2.1, 6, .inl (fun _ => 0))), (q16, .inl (Z.2.1, 12, .inl (fun _ => 0))), (q17, .inl (Z.2.1, 12, .inl (fun _ => 0)))] A s.heap H locs := G
  refine lv_aload_n hx hb dX9_init_159 rfl (lv_at hl 0 rfl) ?_
  refine lv_bipush (v := 12) hx hb dX9_init_160 (by decide) ?_
  refine r_newI E G (n := 12) (N := 12) (by decide) (by decide) (by decide) (Nat.le_of_ble_eq_true rfl) (Nat.le_of_ble_eq_true rfl) dX9_init_162 (fun q18 H G => ?_)
  have G : GW Z [(a, .inr (9, [.int 0, .int 0, .int 0, .int 0, .int 0, .int 2, .int 1, .int 0, .int 12, .int 14, .ref q1, .ref q2, .ref q3, .ref q4, .ref q5, .ref q6, .ref q7, .ref q8, .ref q9, .ref q10, .ref q11, .ref q12, .ref q13, .ref q14, .ref q15, .ref q16, .ref q17, .null, .null, .null, .null, .null, .int 0, .int 0, .int 0])), (q1, .inl (Z.2.1, 6, .inl (fun _ => 0))), (q2, .inl (Z.2.1, 36, .inl (fun _ => 0))), (q3, .inl (Z.2.1, 72, .inl (fun _ => 0))), (q4, .inl (Z.2.1, 4, .inl (fun _ => 0))), (q5, .inl (Z.2.1, 4, .inl (fun _ => 0))), (q6, .inl (Z.2.1, 4, .inl (fun _ => 0))), (q7, .inl (Z.2.1, 24, .inl (fun _ => 0))), (q8, .inl (Z.2.1, 24, .inl (fun _ => 0))), (q9, .inl (Z.2.1, 24, .inl (fun _ => 0))), (q10, .inl (Z.2.1, 24, .inl (fun _ => 0))), (q11, .inl (Z.2.1, 12, .inl (fun _ => 0))), (q12, .inl (Z.2.1, 12, .inl (fun _ => 0))), (q13, .inl (Z.2.1, 12, .inl (fun _ => 0))), (q14, .inl (Z.2.1, 12, .inl (fun _ => 0))), (q15, .inl (Z.2.1, 6, .inl (fun _ => 0))), (q16, .inl (Z.2.1, 12, .inl (fun _ => 0))), (q17, .inl (Z.2.1, 12, .inl (fun _ => 0))), (q18, .inl (Z.2.1, 12, .inl (fun _ => 0)))] A s.heap H locs := G
  refine W.widen (k := 18) (n := 312) (Nat.le_refl _) (Nat.le_refl _) ?_
  refine r_putF (ty := .array .int) E G hnm 0 rfl rfl inU9 tyX9_ok nmX9 27 (by decide) m_660 rfl rfl rfl (by decide +kernel) rfl rfl (Nat.le_of_ble_eq_true rfl) rfl dX9_init_164 (fun H locs G => ?_)
  have G : GW Z [(a, .inr (9, [.int 0, .int 0, .int 0, .int 0, .int 0, .int 2, .int 1, .int 0, .int 12, .int 14, .ref q1, .ref q2, .ref q3, .ref q4, .ref q5, .ref q6, .ref q7, .ref q8, .ref q9, .ref q10, .ref q11, .ref q12, .ref q13, .ref q14, .ref q15, .ref q16, .ref q17, .ref q18, .null, .null, .null, .null, .int 0, .int 0, .int 0])), (q1, .inl (Z.2.1, 6, .inl (fun _ => 0))), (q2, .inl (Z.2.1, 36, .inl (fun _ => 0))), (q3, .inl (Z.2.1, 72, .inl (fun _ => 0))), (q4, .inl (Z.2.1, 4, .inl (fun _ => 0))), (q5, .inl (Z.2.1, 4, .inl (fun _ => 0))), (q6, .inl (Z.2.1, 4, .inl (fun _ => 0))), (q7, .inl (Z.2.1, 24, .inl (fun _ => 0))), (q8, .inl (Z.2.1, 24, .inl (fun _ => 0))), (q9, .inl (Z.2.1, 24, .inl (fun _ => 0))), (q10, .inl (Z.2.1, 24, .inl (fun _ => 0))), (q11, .inl (Z.2.1, 12, .inl (fun _ => 0))), (q12, .inl (Z.2.1, 12, .inl (fun _ => 0))), (q13, .inl (Z.2.1, 12, .inl (fun _ => 0))), (q14, .inl (Z.2.1, 12, .inl (fun _ => 0))), (q15, .inl (Z.2.1, 6, .inl (fun _ => 0))), (q16, .inl (Z.2.1, 12, .inl (fun _ => 0))), (q17, .inl (Z.2.1, 12, .inl (fun _ => 0))), (q18, .inl (Z.2.1, 12, .inl (fun _ => 0)))] A s.heap H locs := G
  refine lv_aload_n hx hb dX9_init_167 rfl (lv_at hl 0 rfl) ?_
  refine lv_bipush (v := 12) hx hb dX9_init_168 (by decide) ?_
  refine r_newI E G (n := 12) (N := 12) (by decide) (by decide) (by decide) (Nat.le_of_ble_eq_true rfl) (Nat.le_of_ble_eq_true rfl) dX9_init_170 (fun q19 H G => ?_)
  have G : GW Z [(a, .inr (9, [.int 0, .int 0, .int 0, .int 0, .int 0, .int 2, .int 1, .int 0, .int 12, .int 14, .ref q1, .ref q2, .ref q3, .ref q4, .ref q5, .ref q6, .ref q7, .ref q8, .ref q9, .ref q10, .ref q11, .ref q12, .ref q13, .ref q14, .ref q15, .ref q16, .ref q17, .ref q18, .null, .null, .null, .null, .int 0, .int 0, .int 0])), (q1, .inl (Z.2.1, 6, .inl (fun _ => 0))), (q2, .inl (Z.2.1, 36, .inl (fun _ => 0))), (q3, .inl (Z.2.1, 72, .inl (fun _ => 0))), (q4, .inl (Z.2.1, 4, .inl (fun _ => 0))), (q5, .inl (Z.2.1, 4, .inl (fun _ => 0))), (q6, .inl (Z.2.1, 4, .inl (fun _ => 0))), (q7, .inl (Z.2.1, 24, .inl (fun _ => 0))), (q8, .inl (Z.2.1, 24, .inl (fun _ => 0))), (q9, .inl (Z.2.1, 24, .inl (fun _ => 0))), (q10, .inl (Z.2.1, 24, .inl (fun _ => 0))), (q11, .inl (Z.2.1, 12, .inl (fun _ => 0))), (q12, .inl (Z.2.1, 12, .inl (fun _ => 0))), (q13, .inl (Z.2.1, 12, .inl (fun _ => 0))), (q14, .inl (Z.2.1, 12, .inl (fun _ => 0))), (q15, .inl (Z.2.1, 6, .inl (fun _ => 0))), (q16, .inl (Z.2.1, 12, .inl (fun _ => 0))), (q17, .inl (Z.2.1, 12, .inl (fun _ => 0))), (q18, .inl (Z.2.1, 12, .inl (fun _ => 0))), (q19, .inl (Z.2.1, 12, .inl (fun _ => 0)))] A s.heap H locs := G
  refine W.widen (k := 19) (n := 324) (Nat.le_refl _) (Nat.le_refl _) ?_
  refine r_putF (ty := .array .int) E G hnm 0 rfl rfl inU9 tyX9_ok nmX9 28 (by decide) m_661 rfl rfl rfl (by decide +kernel) rfl rfl (Nat.le_of_ble_eq_true rfl) rfl dX9_init_172 (fun H locs G => ?_)
  have G : GW Z [(a, .inr (9, [.int 0, .int 0, .int 0, .int 0, .int 0, .int 2, .int 1, .int 0, .int 12, .int 14, .ref q1, .ref q2, .ref q3, .ref q4, .ref q5, .ref q6, .ref q7, .ref q8, .ref q9, .ref q10, .ref q11, .ref q12, .ref q13, .ref q14, .ref q15, .ref q16, .ref q17, .ref q18, .ref q19, .null, .null, .null, .int 0, .int 0, .int 0])), (q1, .inl (Z.2.1, 6, .inl (fun _ => 0))), (q2, .inl (Z.2.1, 36, .inl (fun _ => 0))), (q3, .inl (Z.2.1, 72, .inl (fun _ => 0))), (q4, .inl (Z.2.1, 4, .inl (fun _ => 0))), (q5, .inl (Z.2.1, 4, .inl (fun _ => 0))), (q6, .inl (Z.2.1, 4, .inl (fun _ => 0))), (q7, .inl (Z.2.1, 24, .inl (fun _ => 0))), (q8, .inl (Z.2.1, 24, .inl (fun _ => 0))), (q9, .inl (Z.2.1, 24, .inl (fun _ => 0))), (q10, .inl (Z.2.1, 24, .inl (fun _ => 0))), (q11, .inl (Z.2.1, 12, .inl (fun _ => 0))), (q12, .inl (Z.2.1, 12, .inl (fun _ => 0))), (q13, .inl (Z.2.1, 12, .inl (fun _ => 0))), (q14, .inl (Z.2.1, 12, .inl (fun _ => 0))), (q15, .inl (Z.2.1, 6, .inl (fun _ => 0))), (q16, .inl (Z.2.1, 12, .inl (fun _ => 0))), (q17, .inl (Z.2.1, 12, .inl (fun _ => 0))), (q18, .inl (Z.2.1, 12, .inl (fun _ => 0))), (q19, .inl (Z.2.1, 12, .inl (fun _ => 0)))] A s.heap H locs := G
  refine lv_aload_n hx hb dX9_init_175 rfl (lv_at hl 0 rfl) ?_
  refine lv_bipush (v := 12) hx hb dX9_init_176 (by decide) ?_
  refine r_newI E G (n := 12) (N := 12) (by decide) (by decide) (by decide) (Nat.le_of_ble_eq_true rfl) (Nat.le_of_ble_eq_true rfl) dX9_init_178 (fun q20 H G => ?_)
  have G : GW Z [(a, .inr (9, [.int 0, .int 0, .int 0, .int 0, .int 0, .int 2, .int 1, .int 0, .int 12, .int 14, .ref q1, .ref q2, .ref q3, .ref q4, .ref q5, .ref q6, .ref q7, .ref q8, .ref q9, .ref q10, .ref q11, .ref q12, .ref q13, .ref q14, .ref q15, .ref q16, .ref q17, .ref q18, .ref q19, .null, .null, .null, .int 0, .int 0, .int 0])), (q1, .inl (Z.2.1, 6, .inl (fun _ => 0))), (q2, .inl (Z.2.1, 36, .inl (fun _ => 0))), (q3, .inl (Z.2.1, 72, .inl (fun _ => 0))), (q4, .inl (Z.2.1, 4, .inl (fun _ => 0))), (q5, .inl (Z.2.1, 4, .inl (fun _ => 0))), (q6, .inl (Z.2.1, 4, .inl (fun _ => 0))), (q7, .inl (Z.2.1, 24, .inl (fun _ => 0))), (q8, .inl (Z.2.1, 24, .inl (fun _ => 0))), (q9, .inl (Z.2.1, 24, .inl (fun _ => 0))), (q10, .inl (Z.2.1, 24, .inl (fun _ => 0))), (q11, .inl (Z.2.1, 12, .inl (fun _ => 0))), (q12, .inl (Z.2.1, 12, .inl (fun _ => 0))), (q13, .inl (Z.2.1, 12, .inl (fun _ => 0))), (q14, .inl (Z.2.1, 12, .inl (fun _ => 0))), (q15, .inl (Z.2.1, 6, .inl (fun _ => 0))), (q16, .inl (Z.2.1, 12, .inl (fun _ => 0))), (q17, .inl (Z.2.1, 12, .inl (fun _ => 0))), (q18, .inl (Z.2.1, 12, .inl (fun _ => 0))), (q19, .inl (Z.2.1, 12, .inl (fun _ => 0))), (q20, .inl (Z.2.1, 12, .inl (fun _ => 0)))] A s.heap H locs := G
  refine W.widen (k := 20) (n := 336) (Nat.le_refl _) (Nat.le_refl _) ?_
  refine r_putF (ty := .array .int) E G hnm 0 rfl rfl inU9 tyX9_ok nmX9 29 (by decide) m_662 rfl rfl rfl (by decide +kernel) rfl rfl (Nat.le_of_ble_eq_true rfl) rfl dX9_init_180 (fun H locs G => ?_)
  have G : GW Z [(a, .inr (9, [.int 0, .int 0, .int 0, .int 0, .int 0, .int 2, .int 1, .int 0, .int 12, .int 14, .ref q1, .ref q2, .ref q3, .ref q4, .ref q5, .ref q6, .ref q7, .ref q8, .ref q9, .ref q10, .ref q11, .ref q12, .ref q13, .ref q14, .ref q15, .ref q16, .ref q17, .ref q18, .ref q19, .ref q20, .null, .null, .int 0, .int 0, .int 0])), (q1, .inl (Z.2.1, 6, .inl (fun _ => 0))), (q2, .inl (Z.2.1, 36, .inl (fun _ => 0))), (q3, .inl (Z.2.1, 72, .inl (fun _ => 0))), (q4, .inl (Z.2.1, 4, .inl (fun _ => 0))), (q5, .inl (Z.2.1, 4, .inl (fun _ => 0))), (q6, .inl (Z.2.1, 4, .inl (fun _ => 0))), (q7, .inl (Z.2.1, 24, .inl (fun _ => 0))), (q8, .inl (Z.2.1, 24, .inl (fun _ => 0))), (q9, .inl (Z.2.1, 24, .inl (fun _ => 0))), (q10, .inl (Z.2.1, 24, .inl (fun _ => 0))), (q11, .inl (Z.2.1, 12, .inl (fun _ => 0))), (q12, .inl (Z.2.1, 12, .inl (fun _ => 0))), (q13, .inl (Z.2.1, 12, .inl (fun _ => 0))), (q14, .inl (Z.2.1, 12, .inl (fun _ => 0))), (q15, .inl (Z.2.1, 6, .inl (fun _ => 0))), (q16, .inl (Z.2.1, 12, .inl (fun _ => 0))), (q17, .inl (Z.2.1, 12, .inl (fun _ => 0))), (q18, .inl (Z.2.1, 12, .inl (fun _ => 0))), (q19, .inl (Z.2.1, 12, .inl (fun _ => 0))), (q20, .inl (Z.2.1, 12, .inl (fun _ => 0)))] A s.heap H locs := G
  refine lv_aload_n hx hb dX9_init_183 rfl (lv_at hl 0 rfl) ?_
  refine lv_bipush (v := 6) hx hb dX9_init_184 (by decide) ?_
  refine r_newI E G (n := 6) (N := 6) (by decide) (by decide) (by decide) (Nat.le_of_ble_eq_true rfl) (Nat.le_of_ble_eq_true rfl) dX9_init_186 (fun q21 H G => ?_)
  have G : GW Z [(a, .inr (9, [.int 0, .int 0, .int 0, .int 0, .int 0, .int 2, .int 1, .int 0, .int 12, .int 14, .ref q1, .ref q2, .ref q3, .ref q4, .ref q5, .ref q6, .ref q7, .ref q8, .ref q9, .ref q10, .ref q11, .ref q12, .ref q13, .ref q14, .ref q15, .ref q16, .ref q17, .ref q18, .ref q19, .ref q20, .null, .null, .int 0, .int 0, .int 0])), (q1, .inl (Z.2.1, 6, .inl (fun _ => 0))), (q2, .inl (Z.2.1, 36, .inl (fun _ => 0))), (q3, .inl (Z.2.1, 72, .inl (fun _ => 0))), (q4, .inl (Z.2.1, 4, .inl (fun _ => 0))), (q5, .inl (Z.2.1, 4, .inl (fun _ => 0))), (q6, .inl (Z.2.1, 4, .inl (fun _ => 0))), (q7, .inl (Z.2.1, 24, .inl (fun _ => 0))), (q8, .inl (Z.2.1, 24, .inl (fun _ => 0))), (q9, .inl (Z.2.1, 24, .inl (fun _ => 0))), (q10, .inl (Z.2.1, 24, .inl (fun _ => 0))), (q11, .inl (Z.2.1, 12, .inl (fun _ => 0))), (q12, .inl (Z.2.1, 12, .inl (fun _ => 0))), (q13, .inl (Z.2.1, 12, .inl (fun _ => 0))), (q14, .inl (Z.2.1, 12, .inl (fun _ => 0))), (q15, .inl (Z.2.1, 6, .inl (fun _ => 0))), (q16, .inl (Z.2.1, 12, .inl (fun _ => 0))), (q17, .inl (Z.2.1, 12, .inl (fun _ => 0))), (q18, .inl (Z.2.1, 12, .inl (fun _ => 0))), (q19, .inl (Z.2.1, 12, .inl (fun _ => 0))), (q20, .inl (Z.2.1, 12, .inl (fun _ => 0))), (q21, .inl (Z.2.1, 6, .inl (fun _ => 0)))] A s.heap H locs := G
  refine W.widen (k := 21) (n := 342) (Nat.le_refl _) (Nat.le_refl _) ?_
  refine r_putF (ty := .array .int) E G hnm 0 rfl rfl inU9 tyX9_ok nmX9 30 (by decide) m_663 rfl rfl rfl (by decide +kernel) rfl rfl (Nat.le_of_ble_eq_true rfl) rfl dX9_init_188 (fun H locs G => ?_)
  have G : GW Z [(a, .inr (9, [.int 0, .int 0, .int 0, .int 0, .int 0, .int 2, .int 1, .int 0, .int 12, .int 14, .ref q1, .ref q2, .ref q3, .ref q4, .ref q5, .ref q6, .ref q7, .ref q8, .ref q9, .ref q10, .ref q11, .ref q12, .ref q13, .ref q14, .ref q15, .ref q16, .ref q17, .ref q18, .ref q19, .ref q20, .ref q21, .null, .int 0, .int 0, .int 0])), (q1, .inl (Z.2.1, 6, .inl (fun _ => 0))), (q2, .inl (Z.2.1, 36, .inl (fun _ => 0))), (q3, .inl (Z.2.1, 72, .inl (fun _ => 0))), (q4, .inl (Z.2.1, 4, .inl (fun _ => 0))), (q5, .inl (Z.2.1, 4, .inl (fun _ => 0))), (q6, .inl (Z.2.1, 4, .inl (fun _ => 0))), (q7, .inl (Z.2.1, 24, .inl (fun _ => 0))), (q8, .inl (Z.2.1, 24, .inl (fun _ => 0))), (q9, .inl (Z.2.1, 24, .inl (fun _ => 0))), (q10, .inl (Z.2.1, 24, .inl (fun _ => 0))), (q11, .inl (Z.2.1, 12, .inl (fun _ => 0))), (q12, .inl (Z.2.1, 12, .inl (fun _ => 0))), (q13, .inl (Z.2.1, 12, .inl (fun _ => 0))), (q14, .inl (Z.2.1, 12, .inl (fun _ => 0))), (q15, .inl (Z.2.1, 6, .inl (fun _ => 0))), (q16, .inl (Z.2.1, 12, .inl (fun _ => 0))), (q17, .inl (Z.2.1, 12, .inl (fun _ => 0))), (q18, .inl (Z.2.1, 12, .inl (fun _ => 0))), (q19, .inl (Z.2.1, 12, .inl (fun _ => 0))), (q20, .inl (Z.2.1, 12, .inl (fun _ => 0))), (q21, .inl (Z.2.1, 6, .inl (fun _ => 0)))] A s.heap H locs := G
  refine lv_aload_n hx hb dX9_init_191 rfl (lv_at hl 0 rfl) ?_
  refine lv_bipush (v := 6) hx hb dX9_init_192 (by decide) ?_
  refine r_newI E G (n := 6) (N := 6) (by decide) (by decide) (by decide) (Nat.le_of_ble_eq_true rfl) (Nat.le_of_ble_eq_true rfl) dX9_init_194 (fun q22 H G => ?_)
  have G : GW Z [(a, .inr (9, [.int 0, .int 0, .int 0, .int 0, .int 0, .int 2, .int 1, .int 0, .int 12, .int 14, .ref q1, .ref q2, .ref q3, .ref q4, .ref q5, .ref q6, .ref q7, .ref q8, .ref q9, .ref q10, .ref q11, .ref q12, .ref q13, .ref q14, .ref q15, .ref q16, .ref q17, .ref q18, .ref q19, .ref q20, .ref q21, .null, .int 0, .int 0, .int 0])), (q1, .inl (Z.2.1, 6, .inl (fun _ => 0))), (q2, .inl (Z.2.1, 36, .inl (fun _ => 0))), (q3, .inl (Z.2.1, 72, .inl (fun _ => 0))), (q4, .inl (Z.2.1, 4, .inl (fun _ => 0))), (q5, .inl (Z.2.1, 4, .inl (fun _ => 0))), (q6, .inl (Z.2.1, 4, .inl (fun _ => 0))), (q7, .inl (Z.2.1, 24, .inl (fun _ => 0))), (q8, .inl (Z.2.1, 24, .inl (fun _ => 0))), (q9, .inl (Z.2.1, 24, .inl (fun _ => 0))), (q10, .inl (Z.2.1, 24, .inl (fun _ => 0))), (q11, .inl (Z.2.1, 12, .inl (fun _ => 0))), (q12, .inl (Z.2.1, 12, .inl (fun _ => 0))), (q13, .inl (Z.2.1, 12, .inl (fun _ => 0))), (q14, .inl (Z.2.1, 12, .inl (fun _ => 0))), (q15, .inl (Z.2.1, 6, .inl (fun _ => 0))), (q16, .inl (Z.2.1, 12, .inl (fun _ => 0))), (q17, .inl (Z.2.1, 12, .inl (fun _ => 0))), (q18, .inl (Z.2.1, 12, .inl (fun _ => 0))), (q19, .inl (Z.2.1, 12, .inl (fun _ => 0))), (q20, .inl (Z.2.1, 12, .inl (fun _ => 0))), (q21, .inl (Z.2.1, 6, .inl (fun _ => 0))), (q22, .inl (Z.2.1, 6, .inl (fun _ => 0)))] A s.heap H locs := G
  refine W.widen (k := 22) (n := 348) (Nat.le_refl _) (Nat.le_refl _) ?_
  refine r_putF (ty := .array .int) E G hnm 0 rfl rfl inU9 tyX9_ok nmX9 31 (by decide) m_664 rfl rfl rfl (by decide +kernel) rfl rfl (Nat.le_of_ble_eq_true rfl) rfl dX9_init_196 (fun H locs G => ?_)
  have G : GW Z [(a, .inr (9, [.int 0, .int 0, .int 0, .int 0, .int 0, .int 2, .int 1, .int 0, .int 12, .int 14, .ref q1, .ref q2, .ref q3, .ref q4, .ref q5, .ref q6, .ref q7, .ref q8, .ref q9, .ref q10, .ref q11, .ref q12, .ref q13, .ref q14, .ref q15, .ref q16, .ref q17, .ref q18, .ref q19, .ref q20, .ref q21, .ref q22, .int 0, .int 0, .int 0])), (q1, .inl (Z.2.1, 6, .inl (fun _ => 0))), (q2, .inl (Z.2.1, 36, .inl (fun _ => 0))), (q3, .inl (Z.2.1, 72, .inl (fun _ => 0))), (q4, .inl (Z.2.1, 4, .inl (fun _ => 0))), (q5, .inl (Z.2.1, 4, .inl (fun _ => 0))), (q6, .inl (Z.2.1, 4, .inl (fun _ => 0))), (q7, .inl (Z.2.1, 24, .inl (fun _ => 0))), (q8, .inl (Z.2.1, 24, .inl (fun _ => 0))), (q9, .inl (Z.2.1, 24, .inl (fun _ => 0))), (q10, .inl (Z.2.1, 24, .inl (fun _ => 0))), (q11, .inl (Z.2.1, 12, .inl (fun _ => 0))), (q12, .inl (Z.2.1, 12, .inl (fun _ => 0))), (q13, .inl (Z.2.1, 12, .inl (fun _ => 0))), (q14, .inl (Z.2.1, 12, .inl (fun _ => 0))), (q15, .inl (Z.2.1, 6, .inl (fun _ => 0))), (q16, .inl (Z.2.1, 12, .inl (fun _ => 0))), (q17, .inl (Z.2.1, 12, .inl (fun _ => 0))), (q18, .inl (Z.2.1, 12, .inl (fun _ => 0))), (q19, .inl (Z.2.1, 12, .inl (fun _ => 0))), (q20, .inl (Z.2.1, 12, .inl (fun _ => 0))), (q21, .inl (Z.2.1, 6, .inl (fun _ => 0))), (q22, .inl (Z.2.1, 6, .inl (fun _ => 0)))] A s.heap H locs := G
  exact r_retvP E G hr hlk hQ ⟨rfl, qL [a, q1, q2, q3, q4, q5, q6, q7, q8, q9, q10, q11, q12, q13, q14, q15, q16, q17, q18, q19, q20, q21, q22], rfl, rfl⟩ dX9_init_199
theorem Inv0 : Inv S0 := ⟨⟨show (0 : Int32) ≤ 0 ∧ (0 : Int32) ≤ 6 from by decide, show (0 : Int32) ≤ 0 ∧ (0 : Int32) ≤ 4 from by decide, show (0 : Int32) ≤ 0 ∧ (0 : Int32) ≤ 24 from by decide, show (0 : Int32) ≤ 0 ∧ (0 : Int32) ≤ 12 from by decide, show (0 : Int32) ≤ 0 ∧ (0 : Int32) ≤ 12 from by decide⟩, fun _ => Or.inl rfl, fun _ => show (0 : Int32) ≤ 0 ∧ (0 : Int32) ≤ 3 from by decide, fun _ => Or.inl rfl, fun i hi => absurd hi (Nat.not_lt_zero i), fun i j _ hj => absurd hj (Nat.not_lt_zero j), show (0 : Int32) ≤ 14 ∧ (14 : Int32) ≤ 60 from by decide, fun _ => ⟨show (0 : Int32) ≤ 0 ∧ (0 : Int32) ≤ 1000 from by decide, show (0 : Int32) ≤ 0 ∧ (0 : Int32) ≤ 1060 from by decide⟩⟩
