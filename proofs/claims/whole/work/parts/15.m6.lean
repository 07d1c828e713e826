def fup {α : Type} (f : Nat → α → α) (a : α) : Nat → α
  | 0 => a
  | k + 1 => f k (fup f a k)
abbrev nT (X : XC) : Nat := (x_tn X).toNatClampNeg
def wlX (X : XC) (s h : Int32) : Nat → Bool
  | 0 => false
  | k + 1 => wlX X s h k || (decide (x_ts X k = s) && decide (h - x_th X k ≤ 2))
theorem wlX_mono {X : XC} {s h : Int32} {k : Nat} (c : wlX X s h k = true) : ∀ n, k ≤ n → wlX X s h n = true := by
  intro n hn
  induction n with
  | zero => rw [show k = 0 by omega] at c; exact c
  | succ n ih =>
    rcases Nat.lt_or_ge k (n + 1) with g | g
    · unfold wlX; rw [ih (by omega)]; rfl
    · rw [show k = n + 1 by omega] at c; exact c
def wtd (X : XC) (s h w : Int32) : Int32 := if wlX X s h (nT X) then w / 2 else w
def slX (S : St) (v : Int32) (X : XC) (s h w : Int32) : Int32 := if mso S v (wtd X s h w) < x_tk X then mso S v (wtd X s h w) else x_tk X
def stX (S : St) (v : Int32) (X : XC) (s h w : Int32) : XC := v_tn (v_th (v_ts (v_tk (v_tl X (x_tl X + slX S v X s h w)) (x_tk X - slX S v X s h w - mel S v (x_tk X - slX S v X s h w))) (au (x_ts X) (x_tn X) s)) (au (x_th X) (x_tn X) h)) (x_tn X + 1)
def cpA (f g : Nat → Int32) (n : Nat) : Nat → Int32 := fun i => if i < n then f i else g i
theorem cpA_0 (f g : Nat → Int32) : cpA f g 0 = g := by funext i; unfold cpA; rw [if_neg (by omega)]
theorem cpA_s (f g : Nat → Int32) {k : Nat} (hk : k < 2 ^ 31) : au (cpA f g k) (nI k) (ar f (nI k)) = cpA f g (k + 1) := by
  funext i
  unfold au ar upd cpA
  rw [nI_clamp hk]
  by_cases h : i = k
  · rw [if_pos h, if_pos (by omega), h]
  · rw [if_neg h]
    by_cases h2 : i < k
    · rw [if_pos h2, if_pos (by omega)]
    · rw [if_neg h2, if_neg (by omega)]
def cpX (X : XC) : XC := v_bl (v_bk (v_bn (v_bh (v_bs X (cpA (x_ts X) (x_bs X) (nT X))) (cpA (x_th X) (x_bh X) (nT X))) (x_tn X)) (x_tk X)) (x_tl X)
theorem cpX_0 (X : XC) : X = v_bh (v_bs X (cpA (x_ts X) (x_bs X) 0)) (cpA (x_th X) (x_bh X) 0) := by rw [cpA_0, cpA_0]; rfl
theorem cpX_s (X : XC) {k : Nat} (hk : k < 2 ^ 31) : v_bh (v_bs (v_bh (v_bs X (cpA (x_ts X) (x_bs X) k)) (cpA (x_th X) (x_bh X) k)) (au (cpA (x_ts X) (x_bs X) k) (nI k) (ar (x_ts X) (nI k)))) (au (cpA (x_th X) (x_bh X) k) (nI k) (ar (x_th X) (nI k))) = v_bh (v_bs X (cpA (x_ts X) (x_bs X) (k + 1))) (cpA (x_th X) (x_bh X) (k + 1)) := by rw [cpA_s _ _ hk, cpA_s _ _ hk]; rfl
def sbX (X : XC) (a b : Int32) : XC := v_tl (v_tk (v_tn X (x_tn X - 1)) a) b
def b5X (X : XC) (k : Int32) : XC := v_tl (v_tk (v_tn X 0) k) 0
def b6X (X : XC) (k : Int32) : XC := v_bl (v_bk (v_bn X 0) k) 0
def cuX (X : XC) : XC := if x_bn X = 0 ∨ x_bl X < x_tl X then cpX X else X
def exX (S : St) (v last : Int32) : Nat → XC → Int32 → Int32 → XC
  | 0, X, _, _ => X
  | d + 1, X, s, h => if 12 ≤ x_tn X then X else sbX (fup (fun k T => if h + lat S v s (nI k) ≤ last ∧ may S v (nI k) (h + lat S v s (nI k)) = true then exX S v last d T (nI k) (h + lat S v s (nI k)) else T) (cuX (stX S v X s h (wor S s h))) (nS S)) (x_tk X) (x_tl X)
def exF (S : St) (v last : Int32) (d : Nat) (s h : Int32) (k : Nat) (T : XC) : XC := if h + lat S v s (nI k) ≤ last ∧ may S v (nI k) (h + lat S v s (nI k)) = true then exX S v last d T (nI k) (h + lat S v s (nI k)) else T
theorem exX_s (S : St) (v last : Int32) (d : Nat) (X : XC) (s h : Int32) : exX S v last (d + 1) X s h = if 12 ≤ x_tn X then X else sbX (fup (exF S v last d s h) (cuX (stX S v X s h (wor S s h))) (nS S)) (x_tk X) (x_tl X) := rfl
theorem tn_cu (X : XC) : x_tn (cuX X) = x_tn X := by unfold cuX; split <;> rfl
theorem tn_st (S : St) (v : Int32) (X : XC) (s h w : Int32) : x_tn (stX S v X s h w) = x_tn X + 1 := rfl
theorem tn_ex (S : St) (v last : Int32) : ∀ (d : Nat) (X : XC) (s h : Int32), x_tn (exX S v last d X s h) = x_tn X := by
  intro d
  induction d with
  | zero => intro X s h; rfl
  | succ d ih =>
    intro X s h
    rw [exX_s]
    split
    · rfl
    · show x_tn (fup _ _ _) - 1 = _
      have key : ∀ k, x_tn (fup (exF S v last d s h) (cuX (stX S v X s h (wor S s h))) k) = x_tn X + 1 := by
        intro k
        induction k with
        | zero => show x_tn (cuX _) = _; rw [tn_cu, tn_st]
        | succ k ik => show x_tn (exF S v last d s h k _) = _; unfold exF; split; rw [ih]; exact ik; exact ik
      rw [key, Int32.add_sub_cancel]
theorem tn_fu (S : St) (v last : Int32) (d : Nat) (X : XC) (s h : Int32) : ∀ k, x_tn (fup (exF S v last d s h) X k) = x_tn X := by
  intro k
  induction k with
  | zero => rfl
  | succ k ik => show x_tn (exF S v last d s h k _) = _; unfold exF; split; rw [tn_ex]; exact ik; exact ik
theorem exF_t {S : St} {v last : Int32} {d : Nat} {s h : Int32} {k : Nat} {T : XC} (h1 : h + lat S v s (nI k) ≤ last) (h2 : may S v (nI k) (h + lat S v s (nI k)) = true) : exX S v last d T (nI k) (h + lat S v s (nI k)) = exF S v last d s h k T := (if_pos ⟨h1, h2⟩).symm
theorem exF_1 {S : St} {v last : Int32} {d : Nat} {s h : Int32} {k : Nat} {T : XC} (h1 : ¬ h + lat S v s (nI k) ≤ last) : T = exF S v last d s h k T := (if_neg (fun hh => h1 hh.1)).symm
theorem exF_2 {S : St} {v last : Int32} {d : Nat} {s h : Int32} {k : Nat} {T : XC} (h2 : may S v (nI k) (h + lat S v s (nI k)) = false) : T = exF S v last d s h k T := (if_neg (fun hh => by rw [h2] at hh; exact absurd hh.2 (by decide))).symm
theorem cuX_1 {X : XC} (h : x_bn X = 0) : cpX X = cuX X := (if_pos (Or.inl h)).symm
theorem cuX_2 {X : XC} (h : x_bl X < x_tl X) : cpX X = cuX X := (if_pos (Or.inr h)).symm
theorem cuX_3 {X : XC} (h : ¬ x_bn X = 0) (h2 : ¬ x_bl X < x_tl X) : X = cuX X := (if_neg (fun hh => hh.elim h h2)).symm
theorem T12 {X : XC} (h0 : 0 ≤ x_tn X) (h1 : x_tn X ≤ 12) : nT X ≤ 12 := cl_le h0 (by have := (i_le _ _).mp h1; have e := e_lit; omega)
theorem tn_up {x : Int32} (h0 : 0 ≤ x) (h1 : x < 12) : 0 ≤ x + 1 ∧ x + 1 ≤ 12 := by
  have e := e_lit
  rw [i_le] at h0; rw [i_lt] at h1
  rw [i_le, i_le, i_add (by omega) (by omega)]
  omega
theorem nx_ho {S : St} (hI : Inv S) {v s t h last : Int32} (hh : isHo h = true) (hl : last.toInt ≤ 11) (c : h + lat S v s t ≤ last) : isHo (h + lat S v s t) = true ∧ (h + lat S v s t).toInt = h.toInt + (lat S v s t).toInt := by
  have h1 := ho_of hh
  have h2 := lat_rng hI v s t
  have h3 : (h + lat S v s t).toInt = h.toInt + (lat S v s t).toInt := i_add (by omega) (by omega)
  refine ⟨?_, h3⟩
  rw [i_le] at c
  have e := e_lit
  unfold isHo inr
  rw [Bool.and_eq_true, decide_eq_true_eq, decide_eq_true_eq, i_le, i_le]
  omega
set_option maxHeartbeats 4000000 in
set_option maxRecDepth 100000 in
theorem c_X6_begin5 (l : Launch) (Z : ZT) (q : Nat → Nat) (S : St) (X : XC) (p1 : Int32) : CT l Z yX6_begin cX6_begin 2 none 1 [.ref (q 5), .int (p1)] (CW Z q S X) none (CW Z q (S) (b5X X p1)) := by
  refine CE.mk rfl (Nat.le_of_ble_eq_true rfl) (fun p e s m args below meth c A Qx ls E hr hlk hnm hQ G hl => ?_)
  have hx := E.1.1
  have hb := E.1.2.1
  have hl : lv_has ls 2 [(0, .ref (q 5)), (1, .int (p1))] := hl
  refine lv_aload_n hx hb dX6_begin_0 rfl (lv_at hl 0 rfl) ?_
  refine lv_iconst (v := 0) hx hb dX6_begin_1 (by decide) ?_
  refine pC_5_2 E G m_119 dX6_begin_2 (fun H locs G => ?_)
  refine lv_aload_n hx hb dX6_begin_5 rfl (lv_at hl 0 rfl) ?_
  refine lv_iload_n hx hb dX6_begin_6 rfl (lv_at hl 1 rfl) ?_
  refine pC_5_3 E G m_121 dX6_begin_7 (fun H locs G => ?_)
  refine lv_aload_n hx hb dX6_begin_10 rfl (lv_at hl 0 rfl) ?_
  refine lv_iconst (v := 0) hx hb dX6_begin_11 (by decide) ?_
  refine pC_5_4 E G m_123 dX6_begin_12 (fun H locs G => ?_)
  have hs : (b5X X p1) = v_tl (v_tk (v_tn X 0) p1) 0 := rfl
  exact r_retv E G hr hlk hQ (by rw [hs]) dX6_begin_15
set_option maxHeartbeats 4000000 in
set_option maxRecDepth 100000 in
theorem c_X6_begin6 (l : Launch) (Z : ZT) (q : Nat → Nat) (S : St) (X : XC) (p1 : Int32) : CT l Z yX6_begin cX6_begin 2 none 1 [.ref (q 6), .int (p1)] (CW Z q S X) none (CW Z q (S) (b6X X p1)) := by
  refine CE.mk rfl (Nat.le_of_ble_eq_true rfl) (fun p e s m args below meth c A Qx ls E hr hlk hnm hQ G hl => ?_)
  have hx := E.1.1
  have hb := E.1.2.1
  have hl : lv_has ls 2 [(0, .ref (q 6)), (1, .int (p1))] := hl
  refine lv_aload_n hx hb dX6_begin_0 rfl (lv_at hl 0 rfl) ?_
  refine lv_iconst (v := 0) hx hb dX6_begin_1 (by decide) ?_
  refine pC_6_2 E G m_119 dX6_begin_2 (fun H locs G => ?_)
  refine lv_aload_n hx hb dX6_begin_5 rfl (lv_at hl 0 rfl) ?_
  refine lv_iload_n hx hb dX6_begin_6 rfl (lv_at hl 1 rfl) ?_
  refine pC_6_3 E G m_121 dX6_begin_7 (fun H locs G => ?_)
  refine lv_aload_n hx hb dX6_begin_10 rfl (lv_at hl 0 rfl) ?_
  refine lv_iconst (v := 0) hx hb dX6_begin_11 (by decide) ?_
  refine pC_6_4 E G m_123 dX6_begin_12 (fun H locs G => ?_)
  have hs : (b6X X p1) = v_bl (v_bk (v_bn X 0) p1) 0 := rfl
  exact r_retv E G hr hlk hQ (by rw [hs]) dX6_begin_15
set_option maxHeartbeats 4000000 in
set_option maxRecDepth 100000 in
theorem c_X6_has (l : Launch) (Z : ZT) (q : Nat → Nat) (S : St) (X : XC) (p1 : Int32) : CT l Z yX6_has cX6_has 2 (some .boolean) 1 [.ref (q 6), .int (p1)] (CW Z q S X) (some (.int (b01 (decide (0 ≤ p1) && decide (p1 < x_bn X))))) (CW Z q S X) := by
  refine CE.mk rfl (Nat.le_of_ble_eq_true rfl) (fun p e s m args below meth c A Qx ls E hr hlk hnm hQ G hl => ?_)
  have hx := E.1.1
  have hb := E.1.2.1
  have hl : lv_has ls 2 [(0, .ref (q 6)), (1, .int (p1))] := hl
  refine lv_iload_n hx hb dX6_has_0 rfl (lv_at hl 1 rfl) ?_
  refine lv_if_lt (tgt := 16) hx hb dX6_has_1 (by decide) (fun c_1 => ?_) (fun c_1 => ?_)
  · skip
    have c_1n := Int32.not_le.mpr c_1
    refine lv_iconst (v := 0) hx hb dX6_has_16 (by decide) ?_
    have hs : (decide (0 ≤ p1) && decide (p1 < x_bn X)) = false := by first | rfl | (simp [c_1, c_1n]; done) | (simp_all []; done)
    exact r_retz E G hr hlk hQ (by decide) (congrArg (fun t => some (Value.int (b01 t))) hs) rfl dX6_has_17
  · skip
    have c_1n := Int32.not_lt.mp c_1
    refine lv_iload_n hx hb dX6_has_4 rfl (lv_at hl 1 rfl) ?_
    refine lv_aload_n hx hb dX6_has_5 rfl (lv_at hl 0 rfl) ?_
    refine gC_6_2 E G m_119 dX6_has_6 ?_
    refine lv_icmp_ge (tgt := 16) hx hb dX6_has_9 (by decide) (fun c_9 => ?_) (fun c_9 => ?_)
    · skip
      have c_9n := Int32.not_lt.mpr c_9
      refine lv_iconst (v := 0) hx hb dX6_has_16 (by decide) ?_
      have hs : (decide (0 ≤ p1) && decide (p1 < x_bn X)) = false := by first | rfl | (simp [c_1, c_1n, c_9, c_9n]; done) | (simp_all []; done)
      exact r_retz E G hr hlk hQ (by decide) (congrArg (fun t => some (Value.int (b01 t))) hs) rfl dX6_has_17
    · skip
      have c_9n := Int32.not_le.mp c_9
      refine lv_iconst (v := 1) hx hb dX6_has_12 (by decide) ?_
      refine lv_goto (tgt := 17) hx hb dX6_has_13 (by decide) ?_
      have hs : (decide (0 ≤ p1) && decide (p1 < x_bn X)) = true := by first | rfl | (simp [c_1, c_1n, c_9, c_9n]; done) | (simp_all []; done)
      exact r_retz E G hr hlk hQ (by decide) (congrArg (fun t => some (Value.int (b01 t))) hs) rfl dX6_has_17
set_option maxHeartbeats 4000000 in
set_option maxRecDepth 100000 in
theorem c_X6_isFull (l : Launch) (Z : ZT) (q : Nat → Nat) (S : St) (X : XC) : CT l Z yX6_isFull cX6_isFull 1 (some .boolean) 1 [.ref (q 5)] (CW Z q S X) (some (.int (b01 (decide (12 ≤ x_tn X))))) (CW Z q S X) := by
  refine CE.mk rfl (Nat.le_of_ble_eq_true rfl) (fun p e s m args below meth c A Qx ls E hr hlk hnm hQ G hl => ?_)
  have hx := E.1.1
  have hb := E.1.2.1
  have hl : lv_has ls 1 [(0, .ref (q 5))] := hl
  refine lv_aload_n hx hb dX6_isFull_0 rfl (lv_at hl 0 rfl) ?_
  refine gC_5_2 E G m_119 dX6_isFull_1 ?_
  refine lv_bipush (v := 12) hx hb dX6_isFull_4 (by decide) ?_
  refine lv_icmp_lt (tgt := 13) hx hb dX6_isFull_6 (by decide) (fun c_6 => ?_) (fun c_6 => ?_)
  · skip
    have c_6n := Int32.not_le.mpr c_6
    refine lv_iconst (v := 0) hx hb dX6_isFull_13 (by decide) ?_
    have hs : (decide (12 ≤ x_tn X)) = false := by first | rfl | (simp [c_6, c_6n]; done) | (simp_all []; done)
    exact r_retz E G hr hlk hQ (by decide) (congrArg (fun t => some (Value.int (b01 t))) hs) rfl dX6_isFull_14
  · skip
    have c_6n := Int32.not_lt.mp c_6
    refine lv_iconst (v := 1) hx hb dX6_isFull_9 (by decide) ?_
    refine lv_goto (tgt := 14) hx hb dX6_isFull_10 (by decide) ?_
    have hs : (decide (12 ≤ x_tn X)) = true := by first | rfl | (simp [c_6, c_6n]; done) | (simp_all []; done)
    exact r_retz E G hr hlk hQ (by decide) (congrArg (fun t => some (Value.int (b01 t))) hs) rfl dX6_isFull_14
set_option maxHeartbeats 4000000 in
set_option maxRecDepth 100000 in
theorem c_X6_wasLatelyIn (l : Launch) (Z : ZT) (q : Nat → Nat) (S : St) (X : XC) (p1 p2 : Int32) (h5 : 0 ≤ x_tn X) (h6 : x_tn X ≤ 12) : CT l Z yX6_wasLatelyIn cX6_wasLatelyIn 4 (some .boolean) 1 [.ref (q 5), .int (p1), .int (p2)] (CW Z q S X) (some (.int (b01 (wlX X p1 p2 (nT X))))) (CW Z q S X) := by
  refine CE.mk rfl (Nat.le_of_ble_eq_true rfl) (fun p e s m args below meth c A Qx ls E hr hlk hnm hQ G hl => ?_)
  have hx := E.1.1
  have hb := E.1.2.1
  have hl : lv_has ls 4 [(0, .ref (q 5)), (1, .int (p1)), (2, .int (p2))] := hl
  have h12 := T12 h5 h6
  refine lv_iconst (v := 0) hx hb dX6_wasLatelyIn_0 (by decide) ?_
  refine lv_istore_n (lv' := [(3, .int (0)), (0, .ref (q 5)), (1, .int (p1)), (2, .int (p2))]) hx hb dX6_wasLatelyIn_1 rfl hl (by decide) rfl (fun ls hl => ?_)
  have L2 : ∀ k : Nat, k ≤ nT X → (∀ (H : Heap) (locs : List Loc) (ls : Array Slot), wlX X p1 p2 k = false → GW Z (CW Z q S X) A s.heap H locs → lv_has ls 4 [(0, .ref (q 5)), (1, .int (p1)), (2, .int (p2)), (3, .int (nI k))] → W p l e (rmk 1 0 0) s m args below meth c H locs 0 0 Qx (F0 m 2 ls [])) := by
    refine up_in2 (P := fun k => (∀ (H : Heap) (locs : List Loc) (ls : Array Slot), wlX X p1 p2 k = false → GW Z (CW Z q S X) A s.heap H locs → lv_has ls 4 [(0, .ref (q 5)), (1, .int (p1)), (2, .int (p2)), (3, .int (nI k))] → W p l e (rmk 1 0 0) s m args below meth c H locs 0 0 Qx (F0 m 2 ls []))) (nT X) ?_
    intro k hkk ih2 H locs ls hT G hl
    refine lv_iload_n hx hb dX6_wasLatelyIn_2 rfl (lv_at hl 3 rfl) ?_
    refine lv_aload_n hx hb dX6_wasLatelyIn_3 rfl (lv_at hl 0 rfl) ?_
    refine gC_5_2 E G m_119 dX6_wasLatelyIn_4 ?_
    refine lv_icmp_ge (tgt := 40) hx hb dX6_wasLatelyIn_7 (by decide) (fun c_7 => ?_) (fun c_7 => ?_)
    · skip
      have c_7n := Int32.not_lt.mpr c_7
      refine lv_iconst (v := 0) hx hb dX6_wasLatelyIn_40 (by decide) ?_
      have hs : (wlX X p1 p2 (nT X)) = false := by rw [lp_eq h5 hkk c_7] at hT; exact hT
      exact r_retz E G hr hlk hQ (by decide) (congrArg (fun t => some (Value.int (b01 t))) hs) rfl dX6_wasLatelyIn_41
    · skip
      have c_7n := Int32.not_le.mp c_7
      refine lv_aload_n hx hb dX6_wasLatelyIn_10 rfl (lv_at hl 0 rfl) ?_
      refine gC_5_0 E G m_115 dX6_wasLatelyIn_11 ?_
      refine lv_iload_n hx hb dX6_wasLatelyIn_14 rfl (lv_at hl 3 rfl) ?_
      refine aC_13 E G (ix_k (lp_lt h5 hkk c_7) h12 (by decide)) dX6_wasLatelyIn_15 ?_
      refine lv_iload_n hx hb dX6_wasLatelyIn_16 rfl (lv_at hl 1 rfl) ?_
      refine lv_icmp_ne (tgt := 34) hx hb dX6_wasLatelyIn_17 (by decide) (fun c_17 => ?_) (fun c_17 => ?_)
      · skip
        refine lv_iinc (v := (nI k) + 1) (lv' := [(3, .int ((nI k) + 1)), (0, .ref (q 5)), (1, .int (p1)), (2, .int (p2))]) hx hb dX6_wasLatelyIn_34 hl (k := 3) rfl rfl (by decide) rfl (fun ls hl => ?_)
        refine lv_goto (tgt := 2) hx hb dX6_wasLatelyIn_37 (by decide) ?_
        exact ih2 (lp_lt h5 hkk c_7) _ _ _ (by (try simp only [ar_nI _ (show k < 2 ^ 31 by omega)] at c_7 c_7n c_17); simp [wlX, hT, c_7, c_7n, c_17]) (GW.cast (rfl) G) (lv_cast (lv_sub (l' := [(0, .ref (q 5)), (1, .int (p1)), (2, .int (p2)), (3, .int ((nI k) + 1))]) hl [1, 2, 3, 0] rfl) (by rw [nI_1]))
      · skip
        refine lv_iload_n hx hb dX6_wasLatelyIn_20 rfl (lv_at hl 2 rfl) ?_
        refine lv_aload_n hx hb dX6_wasLatelyIn_21 rfl (lv_at hl 0 rfl) ?_
        refine gC_5_1 E G m_117 dX6_wasLatelyIn_22 ?_
        refine lv_iload_n hx hb dX6_wasLatelyIn_25 rfl (lv_at hl 3 rfl) ?_
        refine aC_14 E G (ix_k (lp_lt h5 hkk c_7) h12 (by decide)) dX6_wasLatelyIn_26 ?_
        refine lv_isub hx hb dX6_wasLatelyIn_27 ?_
        refine lv_iconst (v := 2) hx hb dX6_wasLatelyIn_28 (by decide) ?_
        refine lv_icmp_gt (tgt := 34) hx hb dX6_wasLatelyIn_29 (by decide) (fun c_29 => ?_) (fun c_29 => ?_)
        · skip
          have c_29n := Int32.not_le.mpr c_29
          refine lv_iinc (v := (nI k) + 1) (lv' := [(3, .int ((nI k) + 1)), (0, .ref (q 5)), (1, .int (p1)), (2, .int (p2))]) hx hb dX6_wasLatelyIn_34 hl (k := 3) rfl rfl (by decide) rfl (fun ls hl => ?_)
          refine lv_goto (tgt := 2) hx hb dX6_wasLatelyIn_37 (by decide) ?_
          exact ih2 (lp_lt h5 hkk c_7) _ _ _ (by (try simp only [ar_nI _ (show k < 2 ^ 31 by omega)] at c_7 c_7n c_17 c_29 c_29n); simp [wlX, hT, c_7, c_7n, c_17, c_29, c_29n]) (GW.cast (rfl) G) (lv_cast (lv_sub (l' := [(0, .ref (q 5)), (1, .int (p1)), (2, .int (p2)), (3, .int ((nI k) + 1))]) hl [1, 2, 3, 0] rfl) (by rw [nI_1]))
        · skip
          have c_29n := Int32.not_lt.mp c_29
          refine lv_iconst (v := 1) hx hb dX6_wasLatelyIn_32 (by decide) ?_
          have hs : (wlX X p1 p2 (nT X)) = true := wlX_mono (k := k + 1) (by (try simp only [ar_nI _ (show k < 2 ^ 31 by omega)] at c_7 c_7n c_17 c_29 c_29n); simp [wlX, c_7, c_7n, c_17, c_29, c_29n]) _ (lp_lt h5 hkk c_7)
          exact r_retz E G hr hlk hQ (by decide) (congrArg (fun t => some (Value.int (b01 t))) hs) rfl dX6_wasLatelyIn_33
  exact L2 0 (Nat.zero_le _) _ _ _ (rfl) (GW.cast (rfl) G) (lv_cast (lv_sub (l' := [(0, .ref (q 5)), (1, .int (p1)), (2, .int (p2)), (3, .int (0))]) hl [1, 2, 3, 0] rfl) (by rw [nI_0]))
set_option maxHeartbeats 4000000 in
set_option maxRecDepth 100000 in
theorem c_X6_standIn (l : Launch) (Z : ZT) (q : Nat → Nat) (S : St) (X : XC) (p1 p2 p3 : Int32) (v : Int32) (hv : isVa S v = true) (h5 : 0 ≤ x_tn X) (h7 : x_tn X < 12) : CT l Z yX6_standIn cX6_standIn 7 none 3 [.ref (q 5), .ref (q (24 + v.toNatClampNeg)), .int (p1), .int (p2), .int (p3)] (CW Z q S X) none (CW Z q (S) (stX S v X p1 p2 p3)) := by
  refine CE.mk rfl (Nat.le_of_ble_eq_true rfl) (fun p e s m args below meth c A Qx ls E hr hlk hnm hQ G hl => ?_)
  have hx := E.1.1
  have hb := E.1.2.1
  have hl : lv_has ls 7 [(0, .ref (q 5)), (1, .ref (q (24 + v.toNatClampNeg))), (2, .int (p1)), (3, .int (p2)), (4, .int (p3))] := hl
  have h6 := Int32.le_of_lt h7
  refine lv_aload_n hx hb dX6_standIn_0 rfl (lv_at hl 0 rfl) ?_
  refine lv_iload_n hx hb dX6_standIn_1 rfl (lv_at hl 2 rfl) ?_
  refine lv_iload_n hx hb dX6_standIn_2 rfl (lv_at hl 3 rfl) ?_
  refine r_V [] E G (c_X6_wasLatelyIn l Z q S X p1 p2 (h5) (h6)) kX6_wasLatelyIn m_415 5 rfl rfl ⟨Nat.le_of_ble_eq_true rfl, Nat.le_of_ble_eq_true rfl⟩ hl dX6_standIn_3 rfl rfl (Nat.le_of_ble_eq_true rfl) ⟨Nat.zero_le _, Nat.zero_le _⟩ (fun H locs G => ?_)
  refine r_eqb (tgt := 16) hx hb dX6_standIn_6 (by decide) (fun c_6 => ?_) (fun c_6 => ?_)
  · skip
    refine lv_iload hx hb dX6_standIn_16 (lv_at hl 4 rfl) ?_
    refine lv_istore (lv' := [(5, .int (p3)), (0, .ref (q 5)), (1, .ref (q (24 + v.toNatClampNeg))), (2, .int (p1)), (3, .int (p2)), (4, .int (p3))]) hx hb dX6_standIn_18 hl (by decide) rfl (fun ls hl => ?_)
    refine lv_aload_n hx hb dX6_standIn_20 rfl (lv_at hl 1 rfl) ?_
    refine gC_5_3 E G m_121 dX6_standIn_21 ?_
    refine lv_aload_n hx hb dX6_standIn_24 rfl (lv_at hl 2 rfl) ?_
    refine lv_iload hx hb dX6_standIn_25 (lv_at hl 0 rfl) ?_
    refine rV_mostSoldOf [.int (x_tk X)] E G (hv) ⟨Nat.le_of_ble_eq_true rfl, Nat.le_of_ble_eq_true rfl⟩ hl dX6_standIn_27 rfl (Nat.le_of_ble_eq_true rfl) ⟨Nat.zero_le _, Nat.zero_le _⟩ (fun H locs G => ?_)
    refine va_mmin hx hb (E.1.2.2.1.trans hl.1.symm) E.1.2.2.2.1 (E.1.2.2.2.2 _ mj_min_X6_38) (E.1.2.2.2.2 _ mj_min_st) (E.1.2.2.2.2 _ m_52) (E.1.2.2.2.2 _ mj_min_co) (Nat.le_of_ble_eq_true rfl) (Nat.le_of_ble_eq_true rfl) (Nat.zero_le _) (Nat.zero_le _) dX6_standIn_30 ?_
    refine lv_istore (lv' := [(6, .int ((if (mso S v p3) < (x_tk X) then (mso S v p3) else (x_tk X)))), (5, .int (p3)), (0, .ref (q 5)), (1, .ref (q (24 + v.toNatClampNeg))), (2, .int (p1)), (3, .int (p2)), (4, .int (p3))]) hx hb dX6_standIn_33 hl (by decide) rfl (fun ls hl => ?_)
    refine lv_aload_n hx hb dX6_standIn_35 rfl (lv_at hl 2 rfl) ?_
    refine lv_dup hx hb dX6_standIn_36 rfl ?_
    refine gC_5_4 E G m_123 dX6_standIn_37 ?_
    refine lv_iload hx hb dX6_standIn_40 (lv_at hl 0 rfl) ?_
    refine lv_iadd hx hb dX6_standIn_42 ?_
    refine pC_5_4 E G m_123 dX6_standIn_43 (fun H locs G => ?_)
    refine lv_aload_n hx hb dX6_standIn_46 rfl (lv_at hl 2 rfl) ?_
    refine lv_dup hx hb dX6_standIn_47 rfl ?_
    refine gC_5_3 E G m_121 dX6_standIn_48 ?_
    refine lv_topc (e_x_tk_tl _ _) ?_
    refine lv_iload hx hb dX6_standIn_51 (lv_at hl 0 rfl) ?_
    refine lv_isub hx hb dX6_standIn_53 ?_
    refine pC_5_3 E G m_121 dX6_standIn_54 (fun H locs G => ?_)
    refine lv_aload_n hx hb dX6_standIn_57 rfl (lv_at hl 2 rfl) ?_
    refine lv_dup hx hb dX6_standIn_58 rfl ?_
    refine gC_5_3 E G m_121 dX6_standIn_59 ?_
    refine lv_topc (es_x_tk _ _) ?_
    refine lv_aload_n hx hb dX6_standIn_62 rfl (lv_at hl 3 rfl) ?_
    refine lv_aload_n hx hb dX6_standIn_63 rfl (lv_at hl 2 rfl) ?_
    refine gC_5_3 E G m_121 dX6_standIn_64 ?_
    refine lv_topc (es_x_tk _ _) ?_
    refine rV_meltingOf [.int ((x_tk X) - (if (mso S v p3) < (x_tk X) then (mso S v p3) else (x_tk X))), .ref (q 5)] E G (hv) ⟨Nat.le_of_ble_eq_true rfl, Nat.le_of_ble_eq_true rfl⟩ hl dX6_standIn_67 rfl (Nat.le_of_ble_eq_true rfl) ⟨Nat.zero_le _, Nat.zero_le _⟩ (fun H locs G => ?_)
    refine lv_isub hx hb dX6_standIn_70 ?_
    refine pC_5_3 E G m_121 dX6_standIn_71 (fun H locs G => ?_)
    have G := GW.cast (congrArg (fun T => CW Z q S T) (uu_x_tk _ _ _)) G
    refine lv_aload_n hx hb dX6_standIn_74 rfl (lv_at hl 2 rfl) ?_
    refine gC_5_0 E G m_115 dX6_standIn_75 ?_
    refine lv_aload_n hx hb dX6_standIn_78 rfl (lv_at hl 2 rfl) ?_
    refine gC_5_2 E G m_119 dX6_standIn_79 ?_
    refine lv_topc ((e_x_tn_tk _ _).trans (e_x_tn_tl _ _)) ?_
    refine lv_iload_n hx hb dX6_standIn_82 rfl (lv_at hl 4 rfl) ?_
    refine tC_13 E G (ix_lim h5 h7 (by decide)) dX6_standIn_83 (fun H locs G => ?_)
    have G := GW.cast (congrArg (fun f => CW Z q (S) (v_ts (v_tk (v_tl X ((x_tl X) + (if (mso S v p3) < (x_tk X) then (mso S v p3) else (x_tk X)))) (((x_tk X) - (if (mso S v p3) < (x_tk X) then (mso S v p3) else (x_tk X))) - (mel S v ((x_tk X) - (if (mso S v p3) < (x_tk X) then (mso S v p3) else (x_tk X)))))) (au f (x_tn X) p1))) ((e_x_ts_tk _ _).trans (e_x_ts_tl _ _))) G
    refine lv_aload_n hx hb dX6_standIn_84 rfl (lv_at hl 2 rfl) ?_
    refine gC_5_1 E G m_117 dX6_standIn_85 ?_
    refine lv_aload_n hx hb dX6_standIn_88 rfl (lv_at hl 2 rfl) ?_
    refine gC_5_2 E G m_119 dX6_standIn_89 ?_
    refine lv_topc ((e_x_tn_ts _ _).trans ((e_x_tn_tk _ _).trans (e_x_tn_tl _ _))) ?_
    refine lv_iload_n hx hb dX6_standIn_92 rfl (lv_at hl 5 rfl) ?_
    refine tC_14 E G (ix_lim h5 h7 (by decide)) dX6_standIn_93 (fun H locs G => ?_)
    have G := GW.cast (congrArg (fun f => CW Z q (S) (v_th (v_ts (v_tk (v_tl X ((x_tl X) + (if (mso S v p3) < (x_tk X) then (mso S v p3) else (x_tk X)))) (((x_tk X) - (if (mso S v p3) < (x_tk X) then (mso S v p3) else (x_tk X))) - (mel S v ((x_tk X) - (if (mso S v p3) < (x_tk X) then (mso S v p3) else (x_tk X)))))) (au (x_ts X) (x_tn X) p1)) (au f (x_tn X) p2))) ((e_x_th_ts _ _).trans ((e_x_th_tk _ _).trans (e_x_th_tl _ _)))) G
    refine lv_aload_n hx hb dX6_standIn_94 rfl (lv_at hl 2 rfl) ?_
    refine lv_dup hx hb dX6_standIn_95 rfl ?_
    refine gC_5_2 E G m_119 dX6_standIn_96 ?_
    refine lv_topc ((e_x_tn_th _ _).trans ((e_x_tn_ts _ _).trans ((e_x_tn_tk _ _).trans (e_x_tn_tl _ _)))) ?_
    refine lv_iconst (v := 1) hx hb dX6_standIn_99 (by decide) ?_
    refine lv_iadd hx hb dX6_standIn_100 ?_
    refine pC_5_2 E G m_119 dX6_standIn_101 (fun H locs G => ?_)
    have hs : (stX S v X p1 p2 p3) = v_tn (v_th (v_ts (v_tk (v_tl X ((x_tl X) + (if (mso S v p3) < (x_tk X) then (mso S v p3) else (x_tk X)))) (((x_tk X) - (if (mso S v p3) < (x_tk X) then (mso S v p3) else (x_tk X))) - (mel S v ((x_tk X) - (if (mso S v p3) < (x_tk X) then (mso S v p3) else (x_tk X)))))) (au (x_ts X) (x_tn X) p1)) (au (x_th X) (x_tn X) p2)) ((x_tn X) + 1) := by simp only [stX, slX, wtd, c_6]; rfl
    exact r_retv E G hr hlk hQ (by rw [hs]) dX6_standIn_104
  · skip
    refine lv_iload hx hb dX6_standIn_9 (lv_at hl 4 rfl) ?_
    refine lv_iconst (v := 2) hx hb dX6_standIn_11 (by decide) ?_
    refine lv_idiv hx hb dX6_standIn_12 (by decide) ?_
    refine lv_goto (tgt := 18) hx hb dX6_standIn_13 (by decide) ?_
    refine lv_istore (lv' := [(5, .int (p3 / 2)), (0, .ref (q 5)), (1, .ref (q (24 + v.toNatClampNeg))), (2, .int (p1)), (3, .int (p2)), (4, .int (p3))]) hx hb dX6_standIn_18 hl (by decide) rfl (fun ls hl => ?_)
    refine lv_aload_n hx hb dX6_standIn_20 rfl (lv_at hl 1 rfl) ?_
    refine gC_5_3 E G m_121 dX6_standIn_21 ?_
    refine lv_aload_n hx hb dX6_standIn_24 rfl (lv_at hl 2 rfl) ?_
    refine lv_iload hx hb dX6_standIn_25 (lv_at hl 0 rfl) ?_
    refine rV_mostSoldOf [.int (x_tk X)] E G (hv) ⟨Nat.le_of_ble_eq_true rfl, Nat.le_of_ble_eq_true rfl⟩ hl dX6_standIn_27 rfl (Nat.le_of_ble_eq_true rfl) ⟨Nat.zero_le _, Nat.zero_le _⟩ (fun H locs G => ?_)
    refine va_mmin hx hb (E.1.2.2.1.trans hl.1.symm) E.1.2.2.2.1 (E.1.2.2.2.2 _ mj_min_X6_38) (E.1.2.2.2.2 _ mj_min_st) (E.1.2.2.2.2 _ m_52) (E.1.2.2.2.2 _ mj_min_co) (Nat.le_of_ble_eq_true rfl) (Nat.le_of_ble_eq_true rfl) (Nat.zero_le _) (Nat.zero_le _) dX6_standIn_30 ?_
    refine lv_istore (lv' := [(6, .int ((if (mso S v (p3 / 2)) < (x_tk X) then (mso S v (p3 / 2)) else (x_tk X)))), (5, .int (p3 / 2)), (0, .ref (q 5)), (1, .ref (q (24 + v.toNatClampNeg))), (2, .int (p1)), (3, .int (p2)), (4, .int (p3))]) hx hb dX6_standIn_33 hl (by decide) rfl (fun ls hl => ?_)
    refine lv_aload_n hx hb dX6_standIn_35 rfl (lv_at hl 2 rfl) ?_
    refine lv_dup hx hb dX6_standIn_36 rfl ?_
    refine gC_5_4 E G m_123 dX6_standIn_37 ?_
    refine lv_iload hx hb dX6_standIn_40 (lv_at hl 0 rfl) ?_
    refine lv_iadd hx hb dX6_standIn_42 ?_
    refine pC_5_4 E G m_123 dX6_standIn_43 (fun H locs G => ?_)
    refine lv_aload_n hx hb dX6_standIn_46 rfl (lv_at hl 2 rfl) ?_
    refine lv_dup hx hb dX6_standIn_47 rfl ?_
    refine gC_5_3 E G m_121 dX6_standIn_48 ?_
    refine lv_topc (e_x_tk_tl _ _) ?_
    refine lv_iload hx hb dX6_standIn_51 (lv_at hl 0 rfl) ?_
    refine lv_isub hx hb dX6_standIn_53 ?_
    refine pC_5_3 E G m_121 dX6_standIn_54 (fun H locs G => ?_)
    refine lv_aload_n hx hb dX6_standIn_57 rfl (lv_at hl 2 rfl) ?_
    refine lv_dup hx hb dX6_standIn_58 rfl ?_
    refine gC_5_3 E G m_121 dX6_standIn_59 ?_
    refine lv_topc (es_x_tk _ _) ?_
    refine lv_aload_n hx hb dX6_standIn_62 rfl (lv_at hl 3 rfl) ?_
    refine lv_aload_n hx hb dX6_standIn_63 rfl (lv_at hl 2 rfl) ?_
    refine gC_5_3 E G m_121 dX6_standIn_64 ?_
    refine lv_topc (es_x_tk _ _) ?_
    refine rV_meltingOf [.int ((x_tk X) - (if (mso S v (p3 / 2)) < (x_tk X) then (mso S v (p3 / 2)) else (x_tk X))), .ref (q 5)] E G (hv) ⟨Nat.le_of_ble_eq_true rfl, Nat.le_of_ble_eq_true rfl⟩ hl dX6_standIn_67 rfl (Nat.le_of_ble_eq_true rfl) ⟨Nat.zero_le _, Nat.zero_le _⟩ (fun H locs G => ?_)
    refine lv_isub hx hb dX6_standIn_70 ?_
    refine pC_5_3 E G m_121 dX6_standIn_71 (fun H locs G => ?_)
    have G := GW.cast (congrArg (fun T => CW Z q S T) (uu_x_tk _ _ _)) G
    refine lv_aload_n hx hb dX6_standIn_74 rfl (lv_at hl 2 rfl) ?_
    refine gC_5_0 E G m_115 dX6_standIn_75 ?_
    refine lv_aload_n hx hb dX6_standIn_78 rfl (lv_at hl 2 rfl) ?_
    refine gC_5_2 E G m_119 dX6_standIn_79 ?_
    refine lv_topc ((e_x_tn_tk _ _).trans (e_x_tn_tl _ _)) ?_
    refine lv_iload_n hx hb dX6_standIn_82 rfl (lv_at hl 4 rfl) ?_
    refine tC_13 E G (ix_lim h5 h7 (by decide)) dX6_standIn_83 (fun H locs G => ?_)
    have G := GW.cast (congrArg (fun f => CW Z q (S) (v_ts (v_tk (v_tl X ((x_tl X) + (if (mso S v (p3 / 2)) < (x_tk X) then (mso S v (p3 / 2)) else (x_tk X)))) (((x_tk X) - (if (mso S v (p3 / 2)) < (x_tk X) then (mso S v (p3 / 2)) else (x_tk X))) - (mel S v ((x_tk X) - (if (mso S v (p3 / 2)) < (x_tk X) then (mso S v (p3 / 2)) else (x_tk X)))))) (au f (x_tn X) p1))) ((e_x_ts_tk _ _).trans (e_x_ts_tl _ _))) G
    refine lv_aload_n hx hb dX6_standIn_84 rfl (lv_at hl 2 rfl) ?_
    refine gC_5_1 E G m_117 dX6_standIn_85 ?_
    refine lv_aload_n hx hb dX6_standIn_88 rfl (lv_at hl 2 rfl) ?_
    refine gC_5_2 E G m_119 dX6_standIn_89 ?_
    refine lv_topc ((e_x_tn_ts _ _).trans ((e_x_tn_tk _ _).trans (e_x_tn_tl _ _))) ?_
    refine lv_iload_n hx hb dX6_standIn_92 rfl (lv_at hl 5 rfl) ?_
    refine tC_14 E G (ix_lim h5 h7 (by decide)) dX6_standIn_93 (fun H locs G => ?_)
    have G := GW.cast (congrArg (fun f => CW Z q (S) (v_th (v_ts (v_tk (v_tl X ((x_tl X) + (if (mso S v (p3 / 2)) < (x_tk X) then (mso S v (p3 / 2)) else (x_tk X)))) (((x_tk X) - (if (mso S v (p3 / 2)) < (x_tk X) then (mso S v (p3 / 2)) else (x_tk X))) - (mel S v ((x_tk X) - (if (mso S v (p3 / 2)) < (x_tk X) then (mso S v (p3 / 2)) else (x_tk X)))))) (au (x_ts X) (x_tn X) p1)) (au f (x_tn X) p2))) ((e_x_th_ts _ _).trans ((e_x_th_tk _ _).trans (e_x_th_tl _ _)))) G
    refine lv_aload_n hx hb dX6_standIn_94 rfl (lv_at hl 2 rfl) ?_
    refine lv_dup hx hb dX6_standIn_95 rfl ?_
    refine gC_5_2 E G m_119 dX6_standIn_96 ?_
    refine lv_topc ((e_x_tn_th _ _).trans ((e_x_tn_ts _ _).trans ((e_x_tn_tk _ _).trans (e_x_tn_tl _ _)))) ?_
    refine lv_iconst (v := 1) hx hb dX6_standIn_99 (by decide) ?_
    refine lv_iadd hx hb dX6_standIn_100 ?_
    refine pC_5_2 E G m_119 dX6_standIn_101 (fun H locs G => ?_)
    have hs : (stX S v X p1 p2 p3) = v_tn (v_th (v_ts (v_tk (v_tl X ((x_tl X) + (if (mso S v (p3 / 2)) < (x_tk X) then (mso S v (p3 / 2)) else (x_tk X)))) (((x_tk X) - (if (mso S v (p3 / 2)) < (x_tk X) then (mso S v (p3 / 2)) else (x_tk X))) - (mel S v ((x_tk X) - (if (mso S v (p3 / 2)) < (x_tk X) then (mso S v (p3 / 2)) else (x_tk X)))))) (au (x_ts X) (x_tn X) p1)) (au (x_th X) (x_tn X) p2)) ((x_tn X) + 1) := by simp only [stX, slX, wtd, c_6]; rfl
    exact r_retv E G hr hlk hQ (by rw [hs]) dX6_standIn_104
set_option maxHeartbeats 4000000 in
set_option maxRecDepth 100000 in
theorem c_X6_stepBack (l : Launch) (Z : ZT) (q : Nat → Nat) (S : St) (X : XC) (p1 p2 : Int32) : CT l Z yX6_stepBack cX6_stepBack 3 none 1 [.ref (q 5), .int (p1), .int (p2)] (CW Z q S X) none (CW Z q (S) (sbX X p1 p2)) := by
  refine CE.mk rfl (Nat.le_of_ble_eq_true rfl) (fun p e s m args below meth c A Qx ls E hr hlk hnm hQ G hl => ?_)
  have hx := E.1.1
  have hb := E.1.2.1
  have hl : lv_has ls 3 [(0, .ref (q 5)), (1, .int (p1)), (2, .int (p2))] := hl
  refine lv_aload_n hx hb dX6_stepBack_0 rfl (lv_at hl 0 rfl) ?_
  refine lv_dup hx hb dX6_stepBack_1 rfl ?_
  refine gC_5_2 E G m_119 dX6_stepBack_2 ?_
  refine lv_iconst (v := 1) hx hb dX6_stepBack_5 (by decide) ?_
  refine lv_isub hx hb dX6_stepBack_6 ?_
  refine pC_5_2 E G m_119 dX6_stepBack_7 (fun H locs G => ?_)
  refine lv_aload_n hx hb dX6_stepBack_10 rfl (lv_at hl 0 rfl) ?_
  refine lv_iload_n hx hb dX6_stepBack_11 rfl (lv_at hl 1 rfl) ?_
  refine pC_5_3 E G m_121 dX6_stepBack_12 (fun H locs G => ?_)
  refine lv_aload_n hx hb dX6_stepBack_15 rfl (lv_at hl 0 rfl) ?_
  refine lv_iload_n hx hb dX6_stepBack_16 rfl (lv_at hl 2 rfl) ?_
  refine pC_5_4 E G m_123 dX6_stepBack_17 (fun H locs G => ?_)
  have hs : (sbX X p1 p2) = v_tl (v_tk (v_tn X ((x_tn X) - 1)) p1) p2 := rfl
  exact r_retv E G hr hlk hQ (by rw [hs]) dX6_stepBack_20
set_option maxHeartbeats 4000000 in
set_option maxRecDepth 100000 in
theorem c_X6_copyFrom (l : Launch) (Z : ZT) (q : Nat → Nat) (S : St) (X : XC) (h5 : 0 ≤ x_tn X) (h6 : x_tn X ≤ 12) : CT l Z yX6_copyFrom cX6_copyFrom 3 none 1 [.ref (q 6), .ref (q 5)] (CW Z q S X) none (CW Z q (S) (cpX X)) := by
  refine CE.mk rfl (Nat.le_of_ble_eq_true rfl) (fun p e s m args below meth c A Qx ls E hr hlk hnm hQ G hl => ?_)
  have hx := E.1.1
  have hb := E.1.2.1
  have hl : lv_has ls 3 [(0, .ref (q 6)), (1, .ref (q 5))] := hl
  have h12 := T12 h5 h6
  refine lv_iconst (v := 0) hx hb dX6_copyFrom_0 (by decide) ?_
  refine lv_istore_n (lv' := [(2, .int (0)), (0, .ref (q 6)), (1, .ref (q 5))]) hx hb dX6_copyFrom_1 rfl hl (by decide) rfl (fun ls hl => ?_)
  have L2 : ∀ k : Nat, k ≤ nT X → (∀ (H : Heap) (locs : List Loc) (ls : Array Slot), GW Z (CW Z q (S) (v_bh (v_bs X (cpA (x_ts X) (x_bs X) k)) (cpA (x_th X) (x_bh X) k))) A s.heap H locs → lv_has ls 3 [(0, .ref (q 6)), (1, .ref (q 5)), (2, .int (nI k))] → W p l e (rmk 1 0 0) s m args below meth c H locs 0 0 Qx (F0 m 2 ls [])) := by
    refine up_in2 (P := fun k => (∀ (H : Heap) (locs : List Loc) (ls : Array Slot), GW Z (CW Z q (S) (v_bh (v_bs X (cpA (x_ts X) (x_bs X) k)) (cpA (x_th X) (x_bh X) k))) A s.heap H locs → lv_has ls 3 [(0, .ref (q 6)), (1, .ref (q 5)), (2, .int (nI k))] → W p l e (rmk 1 0 0) s m args below meth c H locs 0 0 Qx (F0 m 2 ls []))) (nT X) ?_
    intro k hkk ih2 H locs ls G hl
    refine lv_iload_n hx hb dX6_copyFrom_2 rfl (lv_at hl 2 rfl) ?_
    refine lv_aload_n hx hb dX6_copyFrom_3 rfl (lv_at hl 1 rfl) ?_
    refine gC_5_2 E G m_119 dX6_copyFrom_4 ?_
    refine lv_topc ((e_x_tn_bh _ _).trans (e_x_tn_bs _ _)) ?_
    refine lv_icmp_ge (tgt := 40) hx hb dX6_copyFrom_7 (by decide) (fun c_7 => ?_) (fun c_7 => ?_)
    · skip
      have c_7n := Int32.not_lt.mpr c_7
      refine lv_aload_n hx hb dX6_copyFrom_40 rfl (lv_at hl 0 rfl) ?_
      refine lv_aload_n hx hb dX6_copyFrom_41 rfl (lv_at hl 1 rfl) ?_
      refine gC_5_2 E G m_119 dX6_copyFrom_42 ?_
      refine lv_topc ((e_x_tn_bh _ _).trans (e_x_tn_bs _ _)) ?_
      refine pC_6_2 E G m_119 dX6_copyFrom_45 (fun H locs G => ?_)
      refine lv_aload_n hx hb dX6_copyFrom_48 rfl (lv_at hl 0 rfl) ?_
      refine lv_aload_n hx hb dX6_copyFrom_49 rfl (lv_at hl 1 rfl) ?_
      refine gC_5_3 E G m_121 dX6_copyFrom_50 ?_
      refine lv_topc ((e_x_tk_bn _ _).trans ((e_x_tk_bh _ _).trans (e_x_tk_bs _ _))) ?_
      refine pC_6_3 E G m_121 dX6_copyFrom_53 (fun H locs G => ?_)
      refine lv_aload_n hx hb dX6_copyFrom_56 rfl (lv_at hl 0 rfl) ?_
      refine lv_aload_n hx hb dX6_copyFrom_57 rfl (lv_at hl 1 rfl) ?_
      refine gC_5_4 E G m_123 dX6_copyFrom_58 ?_
      refine lv_topc ((e_x_tl_bk _ _).trans ((e_x_tl_bn _ _).trans ((e_x_tl_bh _ _).trans (e_x_tl_bs _ _)))) ?_
      refine pC_6_4 E G m_123 dX6_copyFrom_61 (fun H locs G => ?_)
      have hs : (cpX X) = v_bl (v_bk (v_bn (v_bh (v_bs X (cpA (x_ts X) (x_bs X) k)) (cpA (x_th X) (x_bh X) k)) (x_tn X)) (x_tk X)) (x_tl X) := by rw [lp_eq h5 hkk c_7]; rfl
      exact r_retv E G hr hlk hQ (by rw [hs]) dX6_copyFrom_64
    · skip
      have c_7n := Int32.not_le.mp c_7
      refine lv_aload_n hx hb dX6_copyFrom_10 rfl (lv_at hl 0 rfl) ?_
      refine gC_6_0 E G m_115 dX6_copyFrom_11 ?_
      refine lv_iload_n hx hb dX6_copyFrom_14 rfl (lv_at hl 2 rfl) ?_
      refine lv_aload_n hx hb dX6_copyFrom_15 rfl (lv_at hl 1 rfl) ?_
      refine gC_5_0 E G m_115 dX6_copyFrom_16 ?_
      refine lv_iload_n hx hb dX6_copyFrom_19 rfl (lv_at hl 2 rfl) ?_
      refine aC_13 E G (ix_k (lp_lt h5 hkk c_7) h12 (by decide)) dX6_copyFrom_20 ?_
      refine lv_topc (congrArg (fun f => ar f (nI k)) ((e_x_ts_bh _ _).trans (e_x_ts_bs _ _))) ?_
      refine tC_15 E G (ix_k (lp_lt h5 hkk c_7) h12 (by decide)) dX6_copyFrom_21 (fun H locs G => ?_)
      have G := GW.cast (congrArg (fun f => CW Z q (S) (v_bs (v_bh (v_bs X (cpA (x_ts X) (x_bs X) k)) (cpA (x_th X) (x_bh X) k)) (au f (nI k) (ar (x_ts X) (nI k))))) ((e_x_bs_bh _ _).trans (es_x_bs _ _))) G
      refine lv_aload_n hx hb dX6_copyFrom_22 rfl (lv_at hl 0 rfl) ?_
      refine gC_6_1 E G m_117 dX6_copyFrom_23 ?_
      refine lv_iload_n hx hb dX6_copyFrom_26 rfl (lv_at hl 2 rfl) ?_
      refine lv_aload_n hx hb dX6_copyFrom_27 rfl (lv_at hl 1 rfl) ?_
      refine gC_5_1 E G m_117 dX6_copyFrom_28 ?_
      refine lv_iload_n hx hb dX6_copyFrom_31 rfl (lv_at hl 2 rfl) ?_
      refine aC_14 E G (ix_k (lp_lt h5 hkk c_7) h12 (by decide)) dX6_copyFrom_32 ?_
      refine lv_topc (congrArg (fun f => ar f (nI k)) ((e_x_th_bs _ _).trans ((e_x_th_bh _ _).trans (e_x_th_bs _ _)))) ?_
      refine tC_16 E G (ix_k (lp_lt h5 hkk c_7) h12 (by decide)) dX6_copyFrom_33 (fun H locs G => ?_)
      have G := GW.cast (congrArg (fun f => CW Z q (S) (v_bh (v_bs (v_bh (v_bs X (cpA (x_ts X) (x_bs X) k)) (cpA (x_th X) (x_bh X) k)) (au (cpA (x_ts X) (x_bs X) k) (nI k) (ar (x_ts X) (nI k)))) (au f (nI k) (ar (x_th X) (nI k))))) ((e_x_bh_bs _ _).trans (es_x_bh _ _))) G
      refine lv_iinc (v := (nI k) + 1) (lv' := [(2, .int ((nI k) + 1)), (0, .ref (q 6)), (1, .ref (q 5))]) hx hb dX6_copyFrom_34 hl (k := 2) rfl rfl (by decide) rfl (fun ls hl => ?_)
      refine lv_goto (tgt := 2) hx hb dX6_copyFrom_37 (by decide) ?_
      exact ih2 (lp_lt h5 hkk c_7) _ _ _ (GW.cast (congrArg (fun T => CW Z q S T) (cpX_s X (show k < 2 ^ 31 by omega))) G) (lv_cast (lv_sub (l' := [(0, .ref (q 6)), (1, .ref (q 5)), (2, .int ((nI k) + 1))]) hl [1, 2, 0] rfl) (by rw [nI_1]))
  exact L2 0 (Nat.zero_le _) _ _ _ (GW.cast (congrArg (fun T => CW Z q S T) (cpX_0 X)) G) (lv_cast (lv_sub (l' := [(0, .ref (q 6)), (1, .ref (q 5)), (2, .int (0))]) hl [1, 2, 0] rfl) (by rw [nI_0]))
set_option maxHeartbeats 4000000 in
set_option maxRecDepth 100000 in
theorem c_X8_explore (l : Launch) (Z : ZT) (q : Nat → Nat) (S : St) (v last : Int32) (hI : Inv S) (hv : isVa S v = true) (hla : last.toInt ≤ 11) : ∀ (d : Nat) (X : XC) (p1 p2 : Int32) (h1 : isSt S p1 = true) (h2 : isHo p2 = true) (h5 : 0 ≤ x_tn X) (h8 : last.toInt - p2.toInt < d) (h9 : p2.toInt ≤ last.toInt), CT l Z yX8_explore cX8_explore 9 none (4 + d) [.ref (q 0), .ref (q (24 + v.toNatClampNeg)), .int p1, .int p2, .int last] (CW Z q S X) none (CW Z q S (exX S v last d X p1 p2)) := by
  intro d
  induction d with
  | zero => intro X p1 p2 h1 h2 h5 h8 h9; omega
  | succ d ihd =>
    intro X p1 p2 h1 h2 h5 h8 h9
    refine CE.mk rfl (Nat.le_of_ble_eq_true rfl) (fun p e s m args below meth c A Qx ls E hr hlk hnm hQ G hl => ?_)
    have hx := E.1.1
    have hb := E.1.2.1
    have hl : lv_has ls 9 [(0, .ref (q 0)), (1, .ref (q (24 + v.toNatClampNeg))), (2, .int (p1)), (3, .int (p2)), (4, .int (last))] := hl
    refine lv_aload_n hx hb dX8_explore_0 rfl (lv_at hl 0 rfl) ?_
    refine gC_0_5 E G m_193 dX8_explore_1 ?_
    refine r_V [] E G (c_X6_isFull l Z q S X) kX6_isFull m_407 5 rfl rfl ⟨by simp only [rmk]; omega, by simp only [rmk]; omega⟩ hl dX8_explore_4 rfl rfl (Nat.le_of_ble_eq_true rfl) ⟨Nat.zero_le _, Nat.zero_le _⟩ (fun H locs G => ?_)
    refine r_eqb (tgt := 11) hx hb dX8_explore_7 (by decide) (fun c_7 => ?_) (fun c_7 => ?_)
    · skip
      have c_7d := of_decide_eq_false c_7
      have h7 := Int32.not_le.mp c_7d
      have htu := tn_up h5 h7
      refine lv_aload_n hx hb dX8_explore_11 rfl (lv_at hl 0 rfl) ?_
      refine gC_0_5 E G m_193 dX8_explore_12 ?_
      refine gC_5_3 E G m_122 dX8_explore_15 ?_
      refine lv_istore (lv' := [(5, .int (x_tk X)), (0, .ref (q 0)), (1, .ref (q (24 + v.toNatClampNeg))), (2, .int (p1)), (3, .int (p2)), (4, .int (last))]) hx hb dX8_explore_18 hl (by decide) rfl (fun ls hl => ?_)
      refine lv_aload_n hx hb dX8_explore_20 rfl (lv_at hl 1 rfl) ?_
      refine gC_0_5 E G m_193 dX8_explore_21 ?_
      refine gC_5_4 E G m_124 dX8_explore_24 ?_
      refine lv_istore (lv' := [(6, .int (x_tl X)), (5, .int (x_tk X)), (0, .ref (q 0)), (1, .ref (q (24 + v.toNatClampNeg))), (2, .int (p1)), (3, .int (p2)), (4, .int (last))]) hx hb dX8_explore_27 hl (by decide) rfl (fun ls hl => ?_)
      refine lv_aload_n hx hb dX8_explore_29 rfl (lv_at hl 2 rfl) ?_
      refine gC_0_5 E G m_193 dX8_explore_30 ?_
      refine lv_aload_n hx hb dX8_explore_33 rfl (lv_at hl 3 rfl) ?_
      refine lv_iload_n hx hb dX8_explore_34 rfl (lv_at hl 4 rfl) ?_
      refine lv_iload_n hx hb dX8_explore_35 rfl (lv_at hl 5 rfl) ?_
      refine lv_aload_n hx hb dX8_explore_36 rfl (lv_at hl 2 rfl) ?_
      refine gC_0_1 E G m_189 dX8_explore_37 ?_
      refine lv_iload_n hx hb dX8_explore_40 rfl (lv_at hl 4 rfl) ?_
      refine lv_iload_n hx hb dX8_explore_41 rfl (lv_at hl 5 rfl) ?_
      refine r_V [.int (p2), .int (p1), .ref (q (24 + v.toNatClampNeg)), .ref (q 5)] E G (c_X5_worthAt l Z q S X p1 p2 hI h1 h2) kX5_worthAt m_372 2 rfl rfl ⟨by simp only [rmk]; omega, by simp only [rmk]; omega⟩ hl dX8_explore_42 rfl rfl (Nat.le_of_ble_eq_true rfl) ⟨Nat.zero_le _, Nat.zero_le _⟩ (fun H locs G => ?_)
      refine r_Vv [] E G (c_X6_standIn l Z q S X p1 p2 (wor S p1 p2) v (hv) (h5) (h7)) kX6_standIn m_411 5 rfl rfl ⟨by simp only [rmk]; omega, by simp only [rmk]; omega⟩ hl dX8_explore_45 rfl rfl (Nat.le_of_ble_eq_true rfl) ⟨Nat.zero_le _, Nat.zero_le _⟩ (fun H locs G => ?_)
      have J86 : ∀ (H : Heap) (locs : List Loc) (ls : Array Slot), GW Z (CW Z q (S) (cuX (stX S v X p1 p2 (wor S p1 p2)))) A s.heap H locs → lv_has ls 9 [(0, .ref (q 0)), (1, .ref (q (24 + v.toNatClampNeg))), (2, .int (p1)), (3, .int (p2)), (4, .int (last)), (5, .int (x_tk X)), (6, .int (x_tl X))] → W p l e (rmk (4 + (d + 1)) 0 0) s m args below meth c H locs 0 0 Qx (F0 m 86 ls []) := by
        intro H locs ls G hl
        refine lv_iconst (v := 0) hx hb dX8_explore_86 (by decide) ?_
        refine lv_istore (lv' := [(7, .int (0)), (0, .ref (q 0)), (1, .ref (q (24 + v.toNatClampNeg))), (2, .int (p1)), (3, .int (p2)), (4, .int (last)), (5, .int (x_tk X)), (6, .int (x_tl X))]) hx hb dX8_explore_87 hl (by decide) rfl (fun ls hl => ?_)
        have L89 : ∀ k : Nat, k ≤ nS S → (∀ (H : Heap) (locs : List Loc) (ls : Array Slot), GW Z (CW Z q (S) (fup (exF S v last d p1 p2) (cuX (stX S v X p1 p2 (wor S p1 p2))) k)) A s.heap H locs → lv_has ls 9 [(0, .ref (q 0)), (1, .ref (q (24 + v.toNatClampNeg))), (2, .int (p1)), (3, .int (p2)), (4, .int (last)), (5, .int (x_tk X)), (6, .int (x_tl X)), (7, .int (nI k))] → W p l e (rmk (4 + (d + 1)) 0 0) s m args below meth c H locs 0 0 Qx (F0 m 89 ls [])) := by
          refine up_in2 (P := fun k => (∀ (H : Heap) (locs : List Loc) (ls : Array Slot), GW Z (CW Z q (S) (fup (exF S v last d p1 p2) (cuX (stX S v X p1 p2 (wor S p1 p2))) k)) A s.heap H locs → lv_has ls 9 [(0, .ref (q 0)), (1, .ref (q (24 + v.toNatClampNeg))), (2, .int (p1)), (3, .int (p2)), (4, .int (last)), (5, .int (x_tk X)), (6, .int (x_tl X)), (7, .int (nI k))] → W p l e (rmk (4 + (d + 1)) 0 0) s m args below meth c H locs 0 0 Qx (F0 m 89 ls []))) (nS S) ?_
          intro k hkk ih89 H locs ls G hl
          refine lv_iload hx hb dX8_explore_89 (lv_at hl 7 rfl) ?_
          refine lv_aload_n hx hb dX8_explore_91 rfl (lv_at hl 0 rfl) ?_
          refine gC_0_1 E G m_189 dX8_explore_92 ?_
          refine gC_2_3 E G m_72 dX8_explore_95 ?_
          refine lv_icmp_ge (tgt := 149) hx hb dX8_explore_98 (by decide) (fun c_98 => ?_) (fun c_98 => ?_)
          · skip
            have c_98n := Int32.not_lt.mpr c_98
            refine lv_aload_n hx hb dX8_explore_149 rfl (lv_at hl 0 rfl) ?_
            refine gC_0_5 E G m_193 dX8_explore_150 ?_
            refine lv_iload hx hb dX8_explore_153 (lv_at hl 5 rfl) ?_
            refine lv_iload hx hb dX8_explore_155 (lv_at hl 6 rfl) ?_
            refine r_Vv [] E G (c_X6_stepBack l Z q S (fup (exF S v last d p1 p2) (cuX (stX S v X p1 p2 (wor S p1 p2))) k) (x_tk X) (x_tl X)) kX6_stepBack m_458 5 rfl rfl ⟨by simp only [rmk]; omega, by simp only [rmk]; omega⟩ hl dX8_explore_157 rfl rfl (Nat.le_of_ble_eq_true rfl) ⟨Nat.zero_le _, Nat.zero_le _⟩ (fun H locs G => ?_)
            have hs : (exX S v last (d + 1) X p1 p2) = sbX (fup (exF S v last d p1 p2) (cuX (stX S v X p1 p2 (wor S p1 p2))) k) (x_tk X) (x_tl X) := by rw [exX_s, if_neg c_7d, lp_eq hI.st.1 hkk c_98]
            exact r_retv E G hr hlk hQ (by rw [hs]) dX8_explore_160
          · skip
            have c_98n := Int32.not_le.mp c_98
            have hst := st_k hI (lp_lt hI.st.1 hkk c_98)
            refine lv_iload_n hx hb dX8_explore_101 rfl (lv_at hl 3 rfl) ?_
            refine lv_aload_n hx hb dX8_explore_102 rfl (lv_at hl 0 rfl) ?_
            refine lv_aload_n hx hb dX8_explore_103 rfl (lv_at hl 1 rfl) ?_
            refine lv_iload_n hx hb dX8_explore_104 rfl (lv_at hl 2 rfl) ?_
            refine lv_iload hx hb dX8_explore_105 (lv_at hl 7 rfl) ?_
            refine r_V [.int (p2)] E G (c_X8_hoursBetween l Z q S (fup (exF S v last d p1 p2) (cuX (stX S v X p1 p2 (wor S p1 p2))) k) p1 (nI k) v hI (hv) h1 hst) kX8_hoursBetween m_445 0 rfl rfl ⟨by simp only [rmk]; omega, by simp only [rmk]; omega⟩ hl dX8_explore_107 rfl rfl (Nat.le_of_ble_eq_true rfl) ⟨Nat.zero_le _, Nat.zero_le _⟩ (fun H locs G => ?_)
            refine lv_iadd hx hb dX8_explore_110 ?_
            refine lv_istore (lv' := [(8, .int (p2 + (lat S v p1 (nI k)))), (0, .ref (q 0)), (1, .ref (q (24 + v.toNatClampNeg))), (2, .int (p1)), (3, .int (p2)), (4, .int (last)), (5, .int (x_tk X)), (6, .int (x_tl X)), (7, .int (nI k))]) hx hb dX8_explore_111 hl (by decide) rfl (fun ls hl => ?_)
            refine lv_iload hx hb dX8_explore_113 (lv_at hl 0 rfl) ?_
            refine lv_iload hx hb dX8_explore_115 (lv_at hl 5 rfl) ?_
            refine lv_icmp_gt (tgt := 143) hx hb dX8_explore_117 (by decide) (fun c_117 => ?_) (fun c_117 => ?_)
            · skip
              have c_117n := Int32.not_le.mpr c_117
              refine lv_iinc (v := (nI k) + 1) (lv' := [(7, .int ((nI k) + 1)), (8, .int (p2 + (lat S v p1 (nI k)))), (0, .ref (q 0)), (1, .ref (q (24 + v.toNatClampNeg))), (2, .int (p1)), (3, .int (p2)), (4, .int (last)), (5, .int (x_tk X)), (6, .int (x_tl X))]) hx hb dX8_explore_143 hl (k := 8) rfl rfl (by decide) rfl (fun ls hl => ?_)
              refine lv_goto (tgt := 89) hx hb dX8_explore_146 (by decide) ?_
              exact ih89 (lp_lt hI.st.1 hkk c_98) _ _ _ (GW.cast (congrArg (fun T => CW Z q S T) (exF_1 c_117n)) G) (lv_cast (lv_sub (l' := [(0, .ref (q 0)), (1, .ref (q (24 + v.toNatClampNeg))), (2, .int (p1)), (3, .int (p2)), (4, .int (last)), (5, .int (x_tk X)), (6, .int (x_tl X)), (7, .int ((nI k) + 1))]) hl [2, 3, 4, 5, 6, 7, 8, 0] rfl) (by rw [nI_1]))
            · skip
              have c_117n := Int32.not_lt.mp c_117
              refine lv_aload_n hx hb dX8_explore_120 rfl (lv_at hl 1 rfl) ?_
              refine lv_aload_n hx hb dX8_explore_121 rfl (lv_at hl 2 rfl) ?_
              refine lv_iload hx hb dX8_explore_122 (lv_at hl 8 rfl) ?_
              refine lv_iload hx hb dX8_explore_124 (lv_at hl 0 rfl) ?_
              refine r_V [] E G (c_X8_mayStand l Z q S (fup (exF S v last d p1 p2) (cuX (stX S v X p1 p2 (wor S p1 p2))) k) (nI k) (p2 + (lat S v p1 (nI k))) v hI (hv) hst) kX8_mayStand m_349 0 rfl rfl ⟨by simp only [rmk]; omega, by simp only [rmk]; omega⟩ hl dX8_explore_126 rfl rfl (Nat.le_of_ble_eq_true rfl) ⟨Nat.zero_le _, Nat.zero_le _⟩ (fun H locs G => ?_)
              refine r_eqb (tgt := 143) hx hb dX8_explore_129 (by decide) (fun c_129 => ?_) (fun c_129 => ?_)
              · skip
                refine lv_iinc (v := (nI k) + 1) (lv' := [(7, .int ((nI k) + 1)), (8, .int (p2 + (lat S v p1 (nI k)))), (0, .ref (q 0)), (1, .ref (q (24 + v.toNatClampNeg))), (2, .int (p1)), (3, .int (p2)), (4, .int (last)), (5, .int (x_tk X)), (6, .int (x_tl X))]) hx hb dX8_explore_143 hl (k := 8) rfl rfl (by decide) rfl (fun ls hl => ?_)
                refine lv_goto (tgt := 89) hx hb dX8_explore_146 (by decide) ?_
                exact ih89 (lp_lt hI.st.1 hkk c_98) _ _ _ (GW.cast (congrArg (fun T => CW Z q S T) (exF_2 c_129)) G) (lv_cast (lv_sub (l' := [(0, .ref (q 0)), (1, .ref (q (24 + v.toNatClampNeg))), (2, .int (p1)), (3, .int (p2)), (4, .int (last)), (5, .int (x_tk X)), (6, .int (x_tl X)), (7, .int ((nI k) + 1))]) hl [2, 3, 4, 5, 6, 7, 8, 0] rfl) (by rw [nI_1]))
              · skip
                refine lv_aload_n hx hb dX8_explore_132 rfl (lv_at hl 1 rfl) ?_
                refine lv_aload_n hx hb dX8_explore_133 rfl (lv_at hl 2 rfl) ?_
                refine lv_iload hx hb dX8_explore_134 (lv_at hl 8 rfl) ?_
                refine lv_iload hx hb dX8_explore_136 (lv_at hl 0 rfl) ?_
                refine lv_iload hx hb dX8_explore_138 (lv_at hl 5 rfl) ?_
                have hnx := nx_ho hI (v := v) (s := p1) (t := nI k) h2 hla c_117n
                refine r_Vv [] E G (ihd (fup (exF S v last d p1 p2) (cuX (stX S v X p1 p2 (wor S p1 p2))) k) (nI k) (p2 + (lat S v p1 (nI k))) hst hnx.1 (by rw [tn_fu, tn_cu, tn_st]; exact htu.1) (by have := lat_rng hI v p1 (nI k); rw [hnx.2]; omega) ((i_le _ _).mp c_117n)) kX8_explore m_403 0 rfl rfl ⟨by simp only [rmk]; omega, by simp only [rmk]; omega⟩ hl dX8_explore_140 rfl rfl (Nat.le_of_ble_eq_true rfl) ⟨Nat.zero_le _, Nat.zero_le _⟩ (fun H locs G => ?_)
                refine lv_iinc (v := (nI k) + 1) (lv' := [(7, .int ((nI k) + 1)), (8, .int (p2 + (lat S v p1 (nI k)))), (0, .ref (q 0)), (1, .ref (q (24 + v.toNatClampNeg))), (2, .int (p1)), (3, .int (p2)), (4, .int (last)), (5, .int (x_tk X)), (6, .int (x_tl X))]) hx hb dX8_explore_143 hl (k := 8) rfl rfl (by decide) rfl (fun ls hl => ?_)
                refine lv_goto (tgt := 89) hx hb dX8_explore_146 (by decide) ?_
                exact ih89 (lp_lt hI.st.1 hkk c_98) _ _ _ (GW.cast (congrArg (fun T => CW Z q S T) (exF_t c_117n c_129)) G) (lv_cast (lv_sub (l' := [(0, .ref (q 0)), (1, .ref (q (24 + v.toNatClampNeg))), (2, .int (p1)), (3, .int (p2)), (4, .int (last)), (5, .int (x_tk X)), (6, .int (x_tl X)), (7, .int ((nI k) + 1))]) hl [2, 3, 4, 5, 6, 7, 8, 0] rfl) (by rw [nI_1]))
        exact L89 0 (Nat.zero_le _) _ _ _ (GW.cast (rfl) G) (lv_cast (lv_sub (l' := [(0, .ref (q 0)), (1, .ref (q (24 + v.toNatClampNeg))), (2, .int (p1)), (3, .int (p2)), (4, .int (last)), (5, .int (x_tk X)), (6, .int (x_tl X)), (7, .int (0))]) hl [1, 2, 3, 4, 5, 6, 7, 0] rfl) (by rw [nI_0]))
      refine lv_aload_n hx hb dX8_explore_48 rfl (lv_at hl 2 rfl) ?_
      refine gC_0_6 E G m_194 dX8_explore_49 ?_
      refine gC_6_2 E G m_120 dX8_explore_52 ?_
      refine lv_if_eq (tgt := 75) hx hb dX8_explore_55 (by decide) (fun c_55 => ?_) (fun c_55 => ?_)
      · skip
        refine lv_aload_n hx hb dX8_explore_75 rfl (lv_at hl 2 rfl) ?_
        refine gC_0_6 E G m_194 dX8_explore_76 ?_
        refine lv_aload_n hx hb dX8_explore_79 rfl (lv_at hl 2 rfl) ?_
        refine gC_0_5 E G m_193 dX8_explore_80 ?_
        refine r_Vv [] E G (c_X6_copyFrom l Z q S (stX S v X p1 p2 (wor S p1 p2)) (htu.1) (htu.2)) kX6_copyFrom m_441 6 rfl rfl ⟨by simp only [rmk]; omega, by simp only [rmk]; omega⟩ hl dX8_explore_83 rfl rfl (Nat.le_of_ble_eq_true rfl) ⟨Nat.zero_le _, Nat.zero_le _⟩ (fun H locs G => ?_)
        exact J86 _ _ _ (GW.cast (congrArg (fun T => CW Z q S T) (cuX_1 c_55)) G) (lv_cast (lv_sub (l' := [(0, .ref (q 0)), (1, .ref (q (24 + v.toNatClampNeg))), (2, .int (p1)), (3, .int (p2)), (4, .int (last)), (5, .int (x_tk X)), (6, .int (x_tl X))]) hl [2, 3, 4, 5, 6, 1, 0] rfl) (rfl))
      · skip
        refine lv_aload_n hx hb dX8_explore_58 rfl (lv_at hl 2 rfl) ?_
        refine gC_0_5 E G m_193 dX8_explore_59 ?_
        refine gC_5_4 E G m_124 dX8_explore_62 ?_
        refine lv_aload_n hx hb dX8_explore_65 rfl (lv_at hl 2 rfl) ?_
        refine gC_0_6 E G m_194 dX8_explore_66 ?_
        refine gC_6_4 E G m_124 dX8_explore_69 ?_
        refine lv_icmp_le (tgt := 86) hx hb dX8_explore_72 (by decide) (fun c_72 => ?_) (fun c_72 => ?_)
        · skip
          have c_72n := Int32.not_lt.mpr c_72
          exact J86 _ _ _ (GW.cast (congrArg (fun T => CW Z q S T) (cuX_3 c_55 c_72n)) G) (lv_cast (lv_sub (l' := [(0, .ref (q 0)), (1, .ref (q (24 + v.toNatClampNeg))), (2, .int (p1)), (3, .int (p2)), (4, .int (last)), (5, .int (x_tk X)), (6, .int (x_tl X))]) hl [2, 3, 4, 5, 6, 1, 0] rfl) (rfl))
        · skip
          have c_72n := Int32.not_le.mp c_72
          refine lv_aload_n hx hb dX8_explore_75 rfl (lv_at hl 2 rfl) ?_
          refine gC_0_6 E G m_194 dX8_explore_76 ?_
          refine lv_aload_n hx hb dX8_explore_79 rfl (lv_at hl 2 rfl) ?_
          refine gC_0_5 E G m_193 dX8_explore_80 ?_
          refine r_Vv [] E G (c_X6_copyFrom l Z q S (stX S v X p1 p2 (wor S p1 p2)) (htu.1) (htu.2)) kX6_copyFrom m_441 6 rfl rfl ⟨by simp only [rmk]; omega, by simp only [rmk]; omega⟩ hl dX8_explore_83 rfl rfl (Nat.le_of_ble_eq_true rfl) ⟨Nat.zero_le _, Nat.zero_le _⟩ (fun H locs G => ?_)
          exact J86 _ _ _ (GW.cast (congrArg (fun T => CW Z q S T) (cuX_2 c_72n)) G) (lv_cast (lv_sub (l' := [(0, .ref (q 0)), (1, .ref (q (24 + v.toNatClampNeg))), (2, .int (p1)), (3, .int (p2)), (4, .int (last)), (5, .int (x_tk X)), (6, .int (x_tl X))]) hl [2, 3, 4, 5, 6, 1, 0] rfl) (rfl))
    · skip
      have c_7d := of_decide_eq_true c_7
      have hs : (exX S v last (d + 1) X p1 p2) = X := by rw [exX_s, if_pos c_7d]
      exact r_retv E G hr hlk hQ (by rw [hs]) dX8_explore_10
