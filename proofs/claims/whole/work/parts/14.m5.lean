abbrev nS (S : St) : Nat := (s_st S).toNatClampNeg
def btr (S : St) (v o t h x : Int32) : Nat → Bool
  | 0 => false
  | k + 1 => btr S v o t h x k || (may S v (nI k) h && decide (x < geS S v o (nI k) t h))
theorem btr_mono {S : St} {v o t h x : Int32} {k : Nat} (c : btr S v o t h x k = true) : ∀ n, k ≤ n → btr S v o t h x n = true := by
  intro n hn
  induction n with
  | zero => rw [show k = 0 by omega] at c; exact c
  | succ n ih =>
    rcases Nat.lt_or_ge k (n + 1) with g | g
    · unfold btr; rw [ih (by omega)]; rfl
    · rw [show k = n + 1 by omega] at c; exact c
def ctt (S : St) (v s o t h : Int32) : Bool := may S v s h && !btr S v o t h (geS S v o s t h) (nS S)
def blM (S : St) (a b s t h : Int32) : Bool := !btr S a b t h (geS S a b s t h) (nS S) && !btr S b a s h (geS S b a t s h) (nS S)
def isB (S : St) (a b s t h : Int32) : Bool := ctt S a s b t h && ctt S b t a s h
theorem isB_M {S : St} {a b s t h : Int32} : isB S a b s t h = (may S a s h && (may S b t h && blM S a b s t h)) := by
  unfold isB ctt blM
  cases may S a s h <;> cases may S b t h <;> simp
def bst (S : St) (a b h i : Int32) (st : Option Int32 × Int32) (s t : Int32) : Option Int32 × Int32 := if st.1.isSome then st else if isB S a b s t h then (if st.2 = i then (some (10 * s + t), st.2) else (none, st.2 + 1)) else st
def brw (S : St) (a b h i s : Int32) (st : Option Int32 × Int32) : Nat → Option Int32 × Int32
  | 0 => st
  | t + 1 => bst S a b h i (brw S a b h i s st t) s (nI t)
def bal (S : St) (a b h i : Int32) : Nat → Option Int32 × Int32
  | 0 => (none, 0)
  | s + 1 => brw S a b h i (nI s) (bal S a b h i s) (nS S)
theorem brw_p {S : St} {a b h i s : Int32} {st : Option Int32 × Int32} {t : Nat} {r : Int32} (c : (brw S a b h i s st t).1 = some r) : ∀ n, t ≤ n → (brw S a b h i s st n).1 = some r := by
  intro n hn
  induction n with
  | zero => rw [show t = 0 by omega] at c; exact c
  | succ n ih =>
    rcases Nat.lt_or_ge t (n + 1) with g | g
    · unfold brw bst; rw [if_pos (by rw [ih (by omega)]; rfl)]; exact ih (by omega)
    · rw [show t = n + 1 by omega] at c; exact c
theorem bal_p {S : St} {a b h i : Int32} {s : Nat} {r : Int32} (c : (bal S a b h i s).1 = some r) : ∀ n, s ≤ n → (bal S a b h i n).1 = some r := by
  intro n hn
  induction n with
  | zero => rw [show s = 0 by omega] at c; exact c
  | succ n ih =>
    rcases Nat.lt_or_ge s (n + 1) with g | g
    · unfold bal; exact brw_p (t := 0) (ih (by omega)) _ (Nat.zero_le _)
    · rw [show s = n + 1 by omega] at c; exact c
theorem bal_f {S : St} {a b h i r : Int32} {s t : Nat} (hs : s < nS S) (ht : t < nS S) (c : (brw S a b h i (nI s) (bal S a b h i s) (t + 1)).1 = some r) : (bal S a b h i (nS S)).1 = some r :=
  bal_p (s := s + 1) (by unfold bal; exact brw_p c _ (by omega)) _ (by omega)
def sp_bal (S : St) (a b h i : Int32) : Int32 × St := if isVa S a && (isVa S b && (!decide (a = b) && (isHo h && decide (0 ≤ i)))) then (match (bal S a b h i (nS S)).1 with | some r => (r, S) | none => fnd S (-1000002)) else fnd S (-1000001)
-- the two that get the most
def tst (S : St) (a b h : Int32) (st : Int32 × Int32) (s t : Int32) : Int32 × Int32 := if may S a s h && may S b t h then (if st.2 < geS S a b s t h + geS S b a t s h then (10 * s + t, geS S a b s t h + geS S b a t s h) else st) else st
def trw (S : St) (a b h s : Int32) (st : Int32 × Int32) : Nat → Int32 × Int32
  | 0 => st
  | t + 1 => tst S a b h (trw S a b h s st t) s (nI t)
def tog (S : St) (a b h : Int32) : Nat → Int32 × Int32
  | 0 => (-1, -1)
  | s + 1 => trw S a b h (nI s) (tog S a b h s) (nS S)
def tok (x : Int32) : Prop := x = -1 ∨ 0 ≤ x.toInt
theorem ten {s t : Nat} (hs : s < 6) (ht : t < 6) : 0 ≤ (10 * nI s + nI t : Int32).toInt := by
  have e10 : (10 : Int32).toInt = 10 := by decide
  have h1 : (nI s).toInt = s := nI_toInt (by omega)
  have h2 : (nI t).toInt = t := nI_toInt (by omega)
  have h3 : (10 * nI s : Int32).toInt = 10 * s := by rw [i_mul (by rw [e10, h1]; omega) (by rw [e10, h1]; omega), e10, h1]
  rw [i_add (by rw [h3, h2]; omega) (by rw [h3, h2]; omega), h3, h2]
  omega
theorem trw_ok {S : St} (hI : Inv S) {a b h : Int32} {s : Nat} (hs : s < 6) {st : Int32 × Int32} (c : tok st.1) : ∀ t, t ≤ nS S → tok (trw S a b h (nI s) st t).1 := by
  intro t
  have h6 : nS S ≤ 6 := N6 hI
  induction t with
  | zero => intro _; exact c
  | succ t ih =>
    intro ht
    unfold trw tst
    split
    · split
      · exact Or.inr (ten hs (by omega))
      · exact ih (by omega)
    · exact ih (by omega)
theorem tog_ok {S : St} (hI : Inv S) {a b h : Int32} : ∀ s, s ≤ nS S → tok (tog S a b h s).1 := by
  intro s
  have h6 : nS S ≤ 6 := N6 hI
  induction s with
  | zero => intro _; exact Or.inl rfl
  | succ s ih => intro hs; unfold tog; exact trw_ok hI (by omega) (ih (by omega)) _ (Nat.le_refl _)
def prn (x : Int32) : Int32 := if x = -1 then -1000002 else x
theorem prn_10 {s t : Nat} (hs : s < 6) (ht : t < 6) : prn (10 * nI s + nI t) = 10 * nI s + nI t := by
  unfold prn
  rw [if_neg]
  intro e
  have h := ten hs ht
  rw [e] at h
  exact absurd h (by decide)
theorem prn_e {x : Int32} (h : tok x) : prn x = -1000002 ↔ x = -1 := by
  unfold prn
  split
  · rename_i e; exact ⟨fun _ => e, fun _ => rfl⟩
  · rename_i e
    refine ⟨fun g => ?_, fun g => absurd g e⟩
    rcases h with h | h
    · exact h
    · rw [g] at h; exact absurd h (by decide)
theorem prn_n {x : Int32} (e : ¬ x = -1) : prn x = x := if_neg e
theorem tok_neg {x : Int32} (h : tok x) : x < 0 ↔ x = -1 := by
  rcases h with h | h
  · subst h; exact ⟨fun _ => rfl, fun _ => by decide⟩
  · have e0 : (0 : Int32).toInt = 0 := by decide
    refine ⟨fun g => ?_, fun g => ?_⟩
    · rw [i_lt] at g; omega
    · subst g; decide
def sp_tog (S : St) (a b h : Int32) : Int32 × St := if isVa S a && (isVa S b && (!decide (a = b) && isHo h)) then (if (tog S a b h (nS S)).1 = -1 then fnd S (-1000002) else ((tog S a b h (nS S)).1, S)) else fnd S (-1000001)
theorem subz {x y : Int32} : x - y = 0 ↔ y = x := by
  constructor
  · intro h
    have := congrArg (fun z => z + y) h
    simp only [Int32.sub_add_cancel, Int32.zero_add] at this
    exact this.symm
  · intro h; rw [h]; exact Int32.sub_self _
theorem sub1 (x y : Int32) : x - y + -1 = x - (y + 1) := by
  rw [Int32.sub_eq_add_neg, Int32.sub_eq_add_neg, Int32.neg_add, Int32.sub_eq_add_neg (-y) 1, ← Int32.add_assoc]
theorem two_of {S : St} {a b : Int32} (h : (isVa S a && (isVa S b && !decide (a = b))) = true) : isVa S a = true ∧ isVa S b = true ∧ ¬ a = b := by
  simp only [Bool.and_eq_true, Bool.not_eq_true', decide_eq_false_iff_not] at h; exact h
theorem two_h {S : St} {a b h : Int32} (c : (isVa S a && (isVa S b && (!decide (a = b) && isHo h))) = true) : isVa S a = true ∧ isVa S b = true ∧ ¬ a = b ∧ isHo h = true := by
  simp only [Bool.and_eq_true, Bool.not_eq_true', decide_eq_false_iff_not] at c; exact c
set_option maxHeartbeats 4000000 in
set_option maxRecDepth 100000 in
theorem c_X8_areTwoVans (l : Launch) (Z : ZT) (q : Nat → Nat) (S : St) (X : XC) (p1 p2 : Int32) (hI : Inv S) : CT l Z yX8_areTwoVans cX8_areTwoVans 3 (some .boolean) 2 [.ref (q 0), .int (p1), .int (p2)] (CW Z q S X) (some (.int (b01 (isVa S p1 && (isVa S p2 && !decide (p1 = p2)))))) (CW Z q S X) := by
  refine CE.mk rfl (Nat.le_of_ble_eq_true rfl) (fun p e s m args below meth c A Qx ls E hr hlk hnm hQ G hl => ?_)
  have hx := E.1.1
  have hb := E.1.2.1
  have hl : lv_has ls 3 [(0, .ref (q 0)), (1, .int (p1)), (2, .int (p2))] := hl
  refine lv_aload_n hx hb dX8_areTwoVans_0 rfl (lv_at hl 0 rfl) ?_
  refine lv_iload_n hx hb dX8_areTwoVans_1 rfl (lv_at hl 1 rfl) ?_
  rcases va_em S p1 with hv_2 | hv_2
  · skip
    refine r_V [] E G (c_X8_vanNumber_t l Z q S X p1 hI hv_2) kX8_vanNumber m_325 0 rfl rfl ⟨Nat.le_of_ble_eq_true rfl, Nat.le_of_ble_eq_true rfl⟩ hl dX8_areTwoVans_2 rfl rfl (Nat.le_of_ble_eq_true rfl) ⟨Nat.zero_le _, Nat.zero_le _⟩ (fun H locs G => ?_)
    refine lv_ifnull hx hb dX8_areTwoVans_5 ?_
    refine lv_aload_n hx hb dX8_areTwoVans_8 rfl (lv_at hl 0 rfl) ?_
    refine lv_iload_n hx hb dX8_areTwoVans_9 rfl (lv_at hl 2 rfl) ?_
    rcases va_em S p2 with hv_10 | hv_10
    · skip
      refine r_V [] E G (c_X8_vanNumber_t l Z q S X p2 hI hv_10) kX8_vanNumber m_325 0 rfl rfl ⟨Nat.le_of_ble_eq_true rfl, Nat.le_of_ble_eq_true rfl⟩ hl dX8_areTwoVans_10 rfl rfl (Nat.le_of_ble_eq_true rfl) ⟨Nat.zero_le _, Nat.zero_le _⟩ (fun H locs G => ?_)
      refine lv_ifnull hx hb dX8_areTwoVans_13 ?_
      refine lv_iload_n hx hb dX8_areTwoVans_16 rfl (lv_at hl 1 rfl) ?_
      refine lv_iload_n hx hb dX8_areTwoVans_17 rfl (lv_at hl 2 rfl) ?_
      refine lv_icmp_eq (tgt := 25) hx hb dX8_areTwoVans_18 (by decide) (fun c_18 => ?_) (fun c_18 => ?_)
      · skip
        refine lv_iconst (v := 0) hx hb dX8_areTwoVans_25 (by decide) ?_
        have hs : (isVa S p1 && (isVa S p2 && !decide (p1 = p2))) = false := by first | rfl | (simp [hv_2, hv_10, c_18]; done) | (simp_all []; done)
        exact r_retz E G hr hlk hQ (by decide) (congrArg (fun t => some (Value.int (b01 t))) hs) rfl dX8_areTwoVans_26
      · skip
        refine lv_iconst (v := 1) hx hb dX8_areTwoVans_21 (by decide) ?_
        refine lv_goto (tgt := 26) hx hb dX8_areTwoVans_22 (by decide) ?_
        have hs : (isVa S p1 && (isVa S p2 && !decide (p1 = p2))) = true := by first | rfl | (simp [hv_2, hv_10, c_18]; done) | (simp_all []; done)
        exact r_retz E G hr hlk hQ (by decide) (congrArg (fun t => some (Value.int (b01 t))) hs) rfl dX8_areTwoVans_26
    · skip
      refine r_V [] E G (c_X8_vanNumber_f l Z q S X p2 hI hv_10) kX8_vanNumber m_325 0 rfl rfl ⟨Nat.le_of_ble_eq_true rfl, Nat.le_of_ble_eq_true rfl⟩ hl dX8_areTwoVans_10 rfl rfl (Nat.le_of_ble_eq_true rfl) ⟨Nat.zero_le _, Nat.zero_le _⟩ (fun H locs G => ?_)
      refine lv_ifnullN (tgt := 25) hx hb dX8_areTwoVans_13 (by decide) ?_
      refine lv_iconst (v := 0) hx hb dX8_areTwoVans_25 (by decide) ?_
      have hs : (isVa S p1 && (isVa S p2 && !decide (p1 = p2))) = false := by first | rfl | (simp [hv_2, hv_10]; done) | (simp_all []; done)
      exact r_retz E G hr hlk hQ (by decide) (congrArg (fun t => some (Value.int (b01 t))) hs) rfl dX8_areTwoVans_26
  · skip
    refine r_V [] E G (c_X8_vanNumber_f l Z q S X p1 hI hv_2) kX8_vanNumber m_325 0 rfl rfl ⟨Nat.le_of_ble_eq_true rfl, Nat.le_of_ble_eq_true rfl⟩ hl dX8_areTwoVans_2 rfl rfl (Nat.le_of_ble_eq_true rfl) ⟨Nat.zero_le _, Nat.zero_le _⟩ (fun H locs G => ?_)
    refine lv_ifnullN (tgt := 25) hx hb dX8_areTwoVans_5 (by decide) ?_
    refine lv_iconst (v := 0) hx hb dX8_areTwoVans_25 (by decide) ?_
    have hs : (isVa S p1 && (isVa S p2 && !decide (p1 = p2))) = false := by first | rfl | (simp [hv_2]; done) | (simp_all []; done)
    exact r_retz E G hr hlk hQ (by decide) (congrArg (fun t => some (Value.int (b01 t))) hs) rfl dX8_areTwoVans_26
set_option maxHeartbeats 4000000 in
set_option maxRecDepth 100000 in
theorem c_X8_isContent (l : Launch) (Z : ZT) (q : Nat → Nat) (S : St) (X : XC) (p1 p2 p3 p4 p5 : Int32) (hI : Inv S) (hv : isVa S p1 = true) (h1 : isSt S p2 = true) (h2 : isHo p5 = true) : CT l Z yX8_isContent cX8_isContent 9 (some .boolean) 4 [.ref (q 0), .int (p1), .int (p2), .int (p3), .int (p4), .int (p5)] (CW Z q S X) (some (.int (b01 (ctt S p1 p2 p3 p4 p5)))) (CW Z q S X) := by
  refine CE.mk rfl (Nat.le_of_ble_eq_true rfl) (fun p e s m args below meth c A Qx ls E hr hlk hnm hQ G hl => ?_)
  have hx := E.1.1
  have hb := E.1.2.1
  have hl : lv_has ls 9 [(0, .ref (q 0)), (1, .int (p1)), (2, .int (p2)), (3, .int (p3)), (4, .int (p4)), (5, .int (p5))] := hl
  have h0 := hI.st.1
  have h6 : nS S ≤ 6 := N6 hI
  refine lv_aload_n hx hb dX8_isContent_0 rfl (lv_at hl 0 rfl) ?_
  refine lv_iload_n hx hb dX8_isContent_1 rfl (lv_at hl 1 rfl) ?_
  refine r_V [] E G (c_X8_vanNumber_t l Z q S X p1 hI hv) kX8_vanNumber m_325 0 rfl rfl ⟨Nat.le_of_ble_eq_true rfl, Nat.le_of_ble_eq_true rfl⟩ hl dX8_isContent_2 rfl rfl (Nat.le_of_ble_eq_true rfl) ⟨Nat.zero_le _, Nat.zero_le _⟩ (fun H locs G => ?_)
  refine lv_astore (lv' := [(6, .ref (q (24 + p1.toNatClampNeg))), (0, .ref (q 0)), (1, .int (p1)), (2, .int (p2)), (3, .int (p3)), (4, .int (p4)), (5, .int (p5))]) hx hb dX8_isContent_5 hl (by decide) rfl (fun ls hl => ?_)
  refine lv_aload hx hb dX8_isContent_7 (lv_at hl 0 rfl) ?_
  refine lv_ifnull hx hb dX8_isContent_9 ?_
  refine lv_aload_n hx hb dX8_isContent_12 rfl (lv_at hl 1 rfl) ?_
  refine lv_aload hx hb dX8_isContent_13 (lv_at hl 0 rfl) ?_
  refine lv_iload_n hx hb dX8_isContent_15 rfl (lv_at hl 3 rfl) ?_
  refine lv_iload hx hb dX8_isContent_16 (lv_at hl 6 rfl) ?_
  refine r_V [] E G (c_X8_mayStand l Z q S X p2 p5 p1 hI (hv) h1) kX8_mayStand m_349 0 rfl rfl ⟨Nat.le_of_ble_eq_true rfl, Nat.le_of_ble_eq_true rfl⟩ hl dX8_isContent_18 rfl rfl (Nat.le_of_ble_eq_true rfl) ⟨Nat.zero_le _, Nat.zero_le _⟩ (fun H locs G => ?_)
  refine r_neb (tgt := 26) hx hb dX8_isContent_21 (by decide) (fun c_21 => ?_) (fun c_21 => ?_)
  · skip
    refine lv_aload_n hx hb dX8_isContent_26 rfl (lv_at hl 1 rfl) ?_
    refine lv_iload_n hx hb dX8_isContent_27 rfl (lv_at hl 2 rfl) ?_
    refine lv_iload_n hx hb dX8_isContent_28 rfl (lv_at hl 3 rfl) ?_
    refine lv_iload_n hx hb dX8_isContent_29 rfl (lv_at hl 4 rfl) ?_
    refine lv_iload hx hb dX8_isContent_30 (lv_at hl 5 rfl) ?_
    refine lv_iload hx hb dX8_isContent_32 (lv_at hl 6 rfl) ?_
    refine r_V [] E G (c_X8_shareOf l Z q S X p1 p2 p3 p4 p5 hI h1 h2) kX8_shareOf m_535 0 rfl rfl ⟨Nat.le_of_ble_eq_true rfl, Nat.le_of_ble_eq_true rfl⟩ hl dX8_isContent_34 rfl rfl (Nat.le_of_ble_eq_true rfl) ⟨Nat.zero_le _, Nat.zero_le _⟩ (fun H locs G => ?_)
    refine lv_istore (lv' := [(7, .int (geS S p1 p3 p2 p4 p5)), (6, .ref (q (24 + p1.toNatClampNeg))), (0, .ref (q 0)), (1, .int (p1)), (2, .int (p2)), (3, .int (p3)), (4, .int (p4)), (5, .int (p5))]) hx hb dX8_isContent_37 hl (by decide) rfl (fun ls hl => ?_)
    refine lv_iconst (v := 0) hx hb dX8_isContent_39 (by decide) ?_
    refine lv_istore (lv' := [(8, .int (0)), (7, .int (geS S p1 p3 p2 p4 p5)), (6, .ref (q (24 + p1.toNatClampNeg))), (0, .ref (q 0)), (1, .int (p1)), (2, .int (p2)), (3, .int (p3)), (4, .int (p4)), (5, .int (p5))]) hx hb dX8_isContent_40 hl (by decide) rfl (fun ls hl => ?_)
    have L42 : ∀ k : Nat, k ≤ nS S → (∀ (H : Heap) (locs : List Loc) (ls : Array Slot), btr S p1 p3 p4 p5 (geS S p1 p3 p2 p4 p5) k = false → GW Z (CW Z q S X) A s.heap H locs → lv_has ls 9 [(0, .ref (q 0)), (1, .int (p1)), (3, .int (p3)), (4, .int (p4)), (5, .int (p5)), (6, .ref (q (24 + p1.toNatClampNeg))), (7, .int (geS S p1 p3 p2 p4 p5)), (8, .int (nI k))] → W p l e (rmk 4 0 0) s m args below meth c H locs 0 0 Qx (F0 m 42 ls [])) := by
      refine up_in2 (P := fun k => (∀ (H : Heap) (locs : List Loc) (ls : Array Slot), btr S p1 p3 p4 p5 (geS S p1 p3 p2 p4 p5) k = false → GW Z (CW Z q S X) A s.heap H locs → lv_has ls 9 [(0, .ref (q 0)), (1, .int (p1)), (3, .int (p3)), (4, .int (p4)), (5, .int (p5)), (6, .ref (q (24 + p1.toNatClampNeg))), (7, .int (geS S p1 p3 p2 p4 p5)), (8, .int (nI k))] → W p l e (rmk 4 0 0) s m args below meth c H locs 0 0 Qx (F0 m 42 ls []))) (nS S) ?_
      intro k hkk ih42 H locs ls hT G hl
      refine lv_iload hx hb dX8_isContent_42 (lv_at hl 7 rfl) ?_
      refine lv_aload_n hx hb dX8_isContent_44 rfl (lv_at hl 0 rfl) ?_
      refine gC_0_1 E G m_189 dX8_isContent_45 ?_
      refine gC_2_3 E G m_72 dX8_isContent_48 ?_
      refine lv_icmp_ge (tgt := 92) hx hb dX8_isContent_51 (by decide) (fun c_51 => ?_) (fun c_51 => ?_)
      · skip
        have c_51n := Int32.not_lt.mpr c_51
        refine lv_iconst (v := 1) hx hb dX8_isContent_92 (by decide) ?_
        have hs : (ctt S p1 p2 p3 p4 p5) = true := by have hT2 := hT; rw [lp_eq h0 hkk c_51] at hT2; simp [ctt, hT2, c_21, c_51, c_51n]
        exact r_retz E G hr hlk hQ (by decide) (congrArg (fun t => some (Value.int (b01 t))) hs) rfl dX8_isContent_93
      · skip
        have c_51n := Int32.not_le.mp c_51
        have hst := st_k hI (lp_lt h0 hkk c_51)
        refine lv_aload_n hx hb dX8_isContent_54 rfl (lv_at hl 0 rfl) ?_
        refine lv_aload hx hb dX8_isContent_55 (lv_at hl 5 rfl) ?_
        refine lv_iload hx hb dX8_isContent_57 (lv_at hl 7 rfl) ?_
        refine lv_iload hx hb dX8_isContent_59 (lv_at hl 4 rfl) ?_
        refine r_V [] E G (c_X8_mayStand l Z q S X (nI k) p5 p1 hI (hv) hst) kX8_mayStand m_349 0 rfl rfl ⟨Nat.le_of_ble_eq_true rfl, Nat.le_of_ble_eq_true rfl⟩ hl dX8_isContent_61 rfl rfl (Nat.le_of_ble_eq_true rfl) ⟨Nat.zero_le _, Nat.zero_le _⟩ (fun H locs G => ?_)
        refine r_eqb (tgt := 86) hx hb dX8_isContent_64 (by decide) (fun c_64 => ?_) (fun c_64 => ?_)
        · skip
          refine lv_iinc (v := (nI k) + 1) (lv' := [(8, .int ((nI k) + 1)), (0, .ref (q 0)), (1, .int (p1)), (3, .int (p3)), (4, .int (p4)), (5, .int (p5)), (6, .ref (q (24 + p1.toNatClampNeg))), (7, .int (geS S p1 p3 p2 p4 p5))]) hx hb dX8_isContent_86 hl (k := 7) rfl rfl (by decide) rfl (fun ls hl => ?_)
          refine lv_goto (tgt := 42) hx hb dX8_isContent_89 (by decide) ?_
          exact ih42 (lp_lt h0 hkk c_51) _ _ _ (by simp [btr, hT, c_21, c_51, c_51n, c_64]) (GW.cast (rfl) G) (lv_cast (lv_sub (l' := [(0, .ref (q 0)), (1, .int (p1)), (3, .int (p3)), (4, .int (p4)), (5, .int (p5)), (6, .ref (q (24 + p1.toNatClampNeg))), (7, .int (geS S p1 p3 p2 p4 p5)), (8, .int ((nI k) + 1))]) hl [1, 2, 3, 4, 5, 6, 7, 0] rfl) (by rw [nI_1]))
        · skip
          refine lv_aload_n hx hb dX8_isContent_67 rfl (lv_at hl 0 rfl) ?_
          refine lv_iload_n hx hb dX8_isContent_68 rfl (lv_at hl 1 rfl) ?_
          refine lv_iload hx hb dX8_isContent_69 (lv_at hl 7 rfl) ?_
          refine lv_iload_n hx hb dX8_isContent_71 rfl (lv_at hl 2 rfl) ?_
          refine lv_iload hx hb dX8_isContent_72 (lv_at hl 3 rfl) ?_
          refine lv_iload hx hb dX8_isContent_74 (lv_at hl 4 rfl) ?_
          refine r_V [] E G (c_X8_shareOf l Z q S X p1 (nI k) p3 p4 p5 hI hst h2) kX8_shareOf m_535 0 rfl rfl ⟨Nat.le_of_ble_eq_true rfl, Nat.le_of_ble_eq_true rfl⟩ hl dX8_isContent_76 rfl rfl (Nat.le_of_ble_eq_true rfl) ⟨Nat.zero_le _, Nat.zero_le _⟩ (fun H locs G => ?_)
          refine lv_iload hx hb dX8_isContent_79 (lv_at hl 6 rfl) ?_
          refine lv_icmp_le (tgt := 86) hx hb dX8_isContent_81 (by decide) (fun c_81 => ?_) (fun c_81 => ?_)
          · skip
            have c_81n := Int32.not_lt.mpr c_81
            refine lv_iinc (v := (nI k) + 1) (lv' := [(8, .int ((nI k) + 1)), (0, .ref (q 0)), (1, .int (p1)), (3, .int (p3)), (4, .int (p4)), (5, .int (p5)), (6, .ref (q (24 + p1.toNatClampNeg))), (7, .int (geS S p1 p3 p2 p4 p5))]) hx hb dX8_isContent_86 hl (k := 7) rfl rfl (by decide) rfl (fun ls hl => ?_)
            refine lv_goto (tgt := 42) hx hb dX8_isContent_89 (by decide) ?_
            exact ih42 (lp_lt h0 hkk c_51) _ _ _ (by simp [btr, hT, c_21, c_51, c_51n, c_64, c_81, c_81n]) (GW.cast (rfl) G) (lv_cast (lv_sub (l' := [(0, .ref (q 0)), (1, .int (p1)), (3, .int (p3)), (4, .int (p4)), (5, .int (p5)), (6, .ref (q (24 + p1.toNatClampNeg))), (7, .int (geS S p1 p3 p2 p4 p5)), (8, .int ((nI k) + 1))]) hl [1, 2, 3, 4, 5, 6, 7, 0] rfl) (by rw [nI_1]))
          · skip
            have c_81n := Int32.not_le.mp c_81
            refine lv_iconst (v := 0) hx hb dX8_isContent_84 (by decide) ?_
            have hs : (ctt S p1 p2 p3 p4 p5) = false := by have hT2 := btr_mono (S := S) (v := p1) (o := p3) (t := p4) (h := p5) (x := geS S p1 p3 p2 p4 p5) (k := k + 1) (by simp [btr, c_21, c_51, c_51n, c_64, c_81, c_81n]) _ (lp_lt h0 hkk c_51); simp [ctt, hT2]
            exact r_retz E G hr hlk hQ (by decide) (congrArg (fun t => some (Value.int (b01 t))) hs) rfl dX8_isContent_85
    exact L42 0 (Nat.zero_le _) _ _ _ (rfl) (GW.cast (rfl) G) (lv_cast (lv_sub (l' := [(0, .ref (q 0)), (1, .int (p1)), (3, .int (p3)), (4, .int (p4)), (5, .int (p5)), (6, .ref (q (24 + p1.toNatClampNeg))), (7, .int (geS S p1 p3 p2 p4 p5)), (8, .int (0))]) hl [3, 4, 6, 7, 8, 2, 1, 0] rfl) (by rw [nI_0]))
  · skip
    refine lv_iconst (v := 0) hx hb dX8_isContent_24 (by decide) ?_
    have hs : (ctt S p1 p2 p3 p4 p5) = false := by simp [ctt, c_21]
    exact r_retz E G hr hlk hQ (by decide) (congrArg (fun t => some (Value.int (b01 t))) hs) rfl dX8_isContent_25
set_option maxHeartbeats 4000000 in
set_option maxRecDepth 100000 in
theorem c_X8_isBalance (l : Launch) (Z : ZT) (q : Nat → Nat) (S : St) (X : XC) (p1 p2 p3 p4 p5 : Int32) (hI : Inv S) (hv : isVa S p1 = true) (hw : isVa S p3 = true) (h1 : isSt S p2 = true) (h3 : isSt S p4 = true) (h2 : isHo p5 = true) : CT l Z yX8_isBalance cX8_isBalance 6 (some .boolean) 5 [.ref (q 0), .int (p1), .int (p2), .int (p3), .int (p4), .int (p5)] (CW Z q S X) (some (.int (b01 (isB S p1 p3 p2 p4 p5)))) (CW Z q S X) := by
  refine CE.mk rfl (Nat.le_of_ble_eq_true rfl) (fun p e s m args below meth c A Qx ls E hr hlk hnm hQ G hl => ?_)
  have hx := E.1.1
  have hb := E.1.2.1
  have hl : lv_has ls 6 [(0, .ref (q 0)), (1, .int (p1)), (2, .int (p2)), (3, .int (p3)), (4, .int (p4)), (5, .int (p5))] := hl
  refine lv_aload_n hx hb dX8_isBalance_0 rfl (lv_at hl 0 rfl) ?_
  refine lv_iload_n hx hb dX8_isBalance_1 rfl (lv_at hl 1 rfl) ?_
  refine lv_iload_n hx hb dX8_isBalance_2 rfl (lv_at hl 2 rfl) ?_
  refine lv_iload_n hx hb dX8_isBalance_3 rfl (lv_at hl 3 rfl) ?_
  refine lv_iload hx hb dX8_isBalance_4 (lv_at hl 4 rfl) ?_
  refine lv_iload hx hb dX8_isBalance_6 (lv_at hl 5 rfl) ?_
  refine r_V [] E G (c_X8_isContent l Z q S X p1 p2 p3 p4 p5 hI (hv) (h1) (h2)) kX8_isContent m_551 0 rfl rfl ⟨Nat.le_of_ble_eq_true rfl, Nat.le_of_ble_eq_true rfl⟩ hl dX8_isBalance_8 rfl rfl (Nat.le_of_ble_eq_true rfl) ⟨Nat.zero_le _, Nat.zero_le _⟩ (fun H locs G => ?_)
  refine r_eqb (tgt := 32) hx hb dX8_isBalance_11 (by decide) (fun c_11 => ?_) (fun c_11 => ?_)
  · skip
    refine lv_iconst (v := 0) hx hb dX8_isBalance_32 (by decide) ?_
    have hs : (isB S p1 p3 p2 p4 p5) = false := by first | rfl | (simp [isB, c_11]; done) | (simp_all [isB]; done)
    exact r_retz E G hr hlk hQ (by decide) (congrArg (fun t => some (Value.int (b01 t))) hs) rfl dX8_isBalance_33
  · skip
    refine lv_aload_n hx hb dX8_isBalance_14 rfl (lv_at hl 0 rfl) ?_
    refine lv_iload_n hx hb dX8_isBalance_15 rfl (lv_at hl 3 rfl) ?_
    refine lv_iload hx hb dX8_isBalance_16 (lv_at hl 4 rfl) ?_
    refine lv_iload_n hx hb dX8_isBalance_18 rfl (lv_at hl 1 rfl) ?_
    refine lv_iload_n hx hb dX8_isBalance_19 rfl (lv_at hl 2 rfl) ?_
    refine lv_iload hx hb dX8_isBalance_20 (lv_at hl 5 rfl) ?_
    refine r_V [] E G (c_X8_isContent l Z q S X p3 p4 p1 p2 p5 hI (hw) (h3) (h2)) kX8_isContent m_551 0 rfl rfl ⟨Nat.le_of_ble_eq_true rfl, Nat.le_of_ble_eq_true rfl⟩ hl dX8_isBalance_22 rfl rfl (Nat.le_of_ble_eq_true rfl) ⟨Nat.zero_le _, Nat.zero_le _⟩ (fun H locs G => ?_)
    refine r_eqb (tgt := 32) hx hb dX8_isBalance_25 (by decide) (fun c_25 => ?_) (fun c_25 => ?_)
    · skip
      refine lv_iconst (v := 0) hx hb dX8_isBalance_32 (by decide) ?_
      have hs : (isB S p1 p3 p2 p4 p5) = false := by first | rfl | (simp [isB, c_11, c_25]; done) | (simp_all [isB]; done)
      exact r_retz E G hr hlk hQ (by decide) (congrArg (fun t => some (Value.int (b01 t))) hs) rfl dX8_isBalance_33
    · skip
      refine lv_iconst (v := 1) hx hb dX8_isBalance_28 (by decide) ?_
      refine lv_goto (tgt := 33) hx hb dX8_isBalance_29 (by decide) ?_
      have hs : (isB S p1 p3 p2 p4 p5) = true := by first | rfl | (simp [isB, c_11, c_25]; done) | (simp_all [isB]; done)
      exact r_retz E G hr hlk hQ (by decide) (congrArg (fun t => some (Value.int (b01 t))) hs) rfl dX8_isBalance_33
set_option maxHeartbeats 4000000 in
set_option maxRecDepth 100000 in
theorem c_X8_balance (l : Launch) (Z : ZT) (q : Nat → Nat) (S : St) (X : XC) (p1 p2 p3 p4 : Int32) (hI : Inv S) : CT l Z yX8_balance cX8_balance 8 (some .int) 6 [.ref (q 0), .int (p1), .int (p2), .int (p3), .int (p4)] (CW Z q S X) (some (.int ((sp_bal S p1 p2 p3 p4).1))) (CW Z q ((sp_bal S p1 p2 p3 p4).2) (X)) := by
  refine CE.mk rfl (Nat.le_of_ble_eq_true rfl) (fun p e s m args below meth c A Qx ls E hr hlk hnm hQ G hl => ?_)
  have hx := E.1.1
  have hb := E.1.2.1
  have hl : lv_has ls 8 [(0, .ref (q 0)), (1, .int (p1)), (2, .int (p2)), (3, .int (p3)), (4, .int (p4))] := hl
  have h0 := hI.st.1
  have h6 : nS S ≤ 6 := N6 hI
  refine lv_aload_n hx hb dX8_balance_0 rfl (lv_at hl 0 rfl) ?_
  refine lv_iload_n hx hb dX8_balance_1 rfl (lv_at hl 1 rfl) ?_
  refine lv_iload_n hx hb dX8_balance_2 rfl (lv_at hl 2 rfl) ?_
  refine r_V [] E G (c_X8_areTwoVans l Z q S X p1 p2 hI) kX8_areTwoVans m_543 0 rfl rfl ⟨Nat.le_of_ble_eq_true rfl, Nat.le_of_ble_eq_true rfl⟩ hl dX8_balance_3 rfl rfl (Nat.le_of_ble_eq_true rfl) ⟨Nat.zero_le _, Nat.zero_le _⟩ (fun H locs G => ?_)
  refine r_eqb (tgt := 21) hx hb dX8_balance_6 (by decide) (fun c_6 => ?_) (fun c_6 => ?_)
  · skip
    refine lv_aload_n hx hb dX8_balance_21 rfl (lv_at hl 0 rfl) ?_
    refine lv_ldc hx hb E.1.2.2.2.1 (E.1.2.2.2.2 _ m_226) dX8_balance_22 ?_
    refine r_V [] E G (c_X8_finding l Z q S X (-1000001) (by decide)) kX8_finding m_227 0 rfl rfl ⟨Nat.le_of_ble_eq_true rfl, Nat.le_of_ble_eq_true rfl⟩ hl dX8_balance_24 rfl rfl (Nat.le_of_ble_eq_true rfl) ⟨Nat.zero_le _, Nat.zero_le _⟩ (fun H locs G => ?_)
    have hs : (sp_bal S p1 p2 p3 p4) = ((fnd S (-1000001)).1, (fnd S (-1000001)).2) := by first | (simp [sp_bal, c_13]; done) | (simp [sp_bal, c_18]; done) | (cases h1 : isVa S p1 <;> cases h2 : isVa S p2 <;> simp [h1, h2] at c_6 <;> simp [sp_bal, h1, h2, c_6])
    exact r_ret E G hr hlk hQ (by rw [hs]) (by rw [hs]) dX8_balance_27
  · skip
    have h12 := two_of c_6
    refine lv_iload_n hx hb dX8_balance_9 rfl (lv_at hl 3 rfl) ?_
    refine r_S [] E G (c_X8_isHour l Z q S X p3) kX8_isHour m_264 ⟨Nat.le_of_ble_eq_true rfl, Nat.le_of_ble_eq_true rfl⟩ hl dX8_balance_10 rfl rfl (Nat.le_of_ble_eq_true rfl) ⟨Nat.zero_le _, Nat.zero_le _⟩ (fun H locs G => ?_)
    refine r_eqb (tgt := 21) hx hb dX8_balance_13 (by decide) (fun c_13 => ?_) (fun c_13 => ?_)
    · skip
      refine lv_aload_n hx hb dX8_balance_21 rfl (lv_at hl 0 rfl) ?_
      refine lv_ldc hx hb E.1.2.2.2.1 (E.1.2.2.2.2 _ m_226) dX8_balance_22 ?_
      refine r_V [] E G (c_X8_finding l Z q S X (-1000001) (by decide)) kX8_finding m_227 0 rfl rfl ⟨Nat.le_of_ble_eq_true rfl, Nat.le_of_ble_eq_true rfl⟩ hl dX8_balance_24 rfl rfl (Nat.le_of_ble_eq_true rfl) ⟨Nat.zero_le _, Nat.zero_le _⟩ (fun H locs G => ?_)
      have hs : (sp_bal S p1 p2 p3 p4) = ((fnd S (-1000001)).1, (fnd S (-1000001)).2) := by first | (simp [sp_bal, c_13]; done) | (simp [sp_bal, c_18]; done) | (cases h1 : isVa S p1 <;> cases h2 : isVa S p2 <;> simp [h1, h2] at c_6 <;> simp [sp_bal, h1, h2, c_6])
      exact r_ret E G hr hlk hQ (by rw [hs]) (by rw [hs]) dX8_balance_27
    · skip
      refine lv_iload hx hb dX8_balance_16 (lv_at hl 4 rfl) ?_
      refine lv_if_ge (tgt := 28) hx hb dX8_balance_18 (by decide) (fun c_18 => ?_) (fun c_18 => ?_)
      · skip
        have c_18n := Int32.not_lt.mpr c_18
        refine lv_iconst (v := 0) hx hb dX8_balance_28 (by decide) ?_
        refine lv_istore (lv' := [(5, .int (0)), (0, .ref (q 0)), (1, .int (p1)), (2, .int (p2)), (3, .int (p3)), (4, .int (p4))]) hx hb dX8_balance_29 hl (by decide) rfl (fun ls hl => ?_)
        refine lv_iconst (v := 0) hx hb dX8_balance_31 (by decide) ?_
        refine lv_istore (lv' := [(6, .int (0)), (5, .int (0)), (0, .ref (q 0)), (1, .int (p1)), (2, .int (p2)), (3, .int (p3)), (4, .int (p4))]) hx hb dX8_balance_32 hl (by decide) rfl (fun ls hl => ?_)
        have L34 : ∀ k : Nat, k ≤ nS S → (∀ (H : Heap) (locs : List Loc) (ls : Array Slot), (bal S p1 p2 p3 p4 k).1 = none → GW Z (CW Z q S X) A s.heap H locs → lv_has ls 8 [(0, .ref (q 0)), (1, .int (p1)), (2, .int (p2)), (3, .int (p3)), (4, .int (p4)), (5, .int ((bal S p1 p2 p3 p4 k).2)), (6, .int (nI k))] → W p l e (rmk 6 0 0) s m args below meth c H locs 0 0 Qx (F0 m 34 ls [])) := by
          refine up_in2 (P := fun k => (∀ (H : Heap) (locs : List Loc) (ls : Array Slot), (bal S p1 p2 p3 p4 k).1 = none → GW Z (CW Z q S X) A s.heap H locs → lv_has ls 8 [(0, .ref (q 0)), (1, .int (p1)), (2, .int (p2)), (3, .int (p3)), (4, .int (p4)), (5, .int ((bal S p1 p2 p3 p4 k).2)), (6, .int (nI k))] → W p l e (rmk 6 0 0) s m args below meth c H locs 0 0 Qx (F0 m 34 ls []))) (nS S) ?_
          intro k hkk ih34 H locs ls hT G hl
          refine lv_iload hx hb dX8_balance_34 (lv_at hl 6 rfl) ?_
          refine lv_aload_n hx hb dX8_balance_36 rfl (lv_at hl 0 rfl) ?_
          refine gC_0_1 E G m_189 dX8_balance_37 ?_
          refine gC_2_3 E G m_72 dX8_balance_40 ?_
          refine lv_icmp_ge (tgt := 106) hx hb dX8_balance_43 (by decide) (fun c_43 => ?_) (fun c_43 => ?_)
          · skip
            have c_43n := Int32.not_lt.mpr c_43
            refine lv_aload_n hx hb dX8_balance_106 rfl (lv_at hl 0 rfl) ?_
            refine lv_ldc hx hb E.1.2.2.2.1 (E.1.2.2.2.2 _ m_470) dX8_balance_107 ?_
            refine r_V [] E G (c_X8_finding l Z q S X (-1000002) (by decide)) kX8_finding m_227 0 rfl rfl ⟨Nat.le_of_ble_eq_true rfl, Nat.le_of_ble_eq_true rfl⟩ hl dX8_balance_109 rfl rfl (Nat.le_of_ble_eq_true rfl) ⟨Nat.zero_le _, Nat.zero_le _⟩ (fun H locs G => ?_)
            have hs : (sp_bal S p1 p2 p3 p4) = ((fnd S (-1000002)).1, (fnd S (-1000002)).2) := by rw [lp_eq h0 hkk c_43] at hT; unfold sp_bal; rw [if_pos (by simp [h12.1, h12.2.1, h12.2.2, c_13, c_18]), hT]
            exact r_ret E G hr hlk hQ (by rw [hs]) (by rw [hs]) dX8_balance_112
          · skip
            have c_43n := Int32.not_le.mp c_43
            have hs1 := st_k hI (lp_lt h0 hkk c_43)
            refine lv_iconst (v := 0) hx hb dX8_balance_46 (by decide) ?_
            refine lv_istore (lv' := [(7, .int (0)), (0, .ref (q 0)), (1, .int (p1)), (2, .int (p2)), (3, .int (p3)), (4, .int (p4)), (5, .int ((bal S p1 p2 p3 p4 k).2)), (6, .int (nI k))]) hx hb dX8_balance_47 hl (by decide) rfl (fun ls hl => ?_)
            have L49 : ∀ j : Nat, j ≤ nS S → (∀ (H : Heap) (locs : List Loc) (ls : Array Slot), (brw S p1 p2 p3 p4 (nI k) (bal S p1 p2 p3 p4 k) j).1 = none → GW Z (CW Z q S X) A s.heap H locs → lv_has ls 8 [(0, .ref (q 0)), (1, .int (p1)), (2, .int (p2)), (3, .int (p3)), (4, .int (p4)), (5, .int ((brw S p1 p2 p3 p4 (nI k) (bal S p1 p2 p3 p4 k) j).2)), (6, .int (nI k)), (7, .int (nI j))] → W p l e (rmk 6 0 0) s m args below meth c H locs 0 0 Qx (F0 m 49 ls [])) := by
              refine up_in2 (P := fun j => (∀ (H : Heap) (locs : List Loc) (ls : Array Slot), (brw S p1 p2 p3 p4 (nI k) (bal S p1 p2 p3 p4 k) j).1 = none → GW Z (CW Z q S X) A s.heap H locs → lv_has ls 8 [(0, .ref (q 0)), (1, .int (p1)), (2, .int (p2)), (3, .int (p3)), (4, .int (p4)), (5, .int ((brw S p1 p2 p3 p4 (nI k) (bal S p1 p2 p3 p4 k) j).2)), (6, .int (nI k)), (7, .int (nI j))] → W p l e (rmk 6 0 0) s m args below meth c H locs 0 0 Qx (F0 m 49 ls []))) (nS S) ?_
              intro j hkj ih49 H locs ls hU G hl
              refine lv_iload hx hb dX8_balance_49 (lv_at hl 7 rfl) ?_
              refine lv_aload_n hx hb dX8_balance_51 rfl (lv_at hl 0 rfl) ?_
              refine gC_0_1 E G m_189 dX8_balance_52 ?_
              refine gC_2_3 E G m_72 dX8_balance_55 ?_
              refine lv_icmp_ge (tgt := 100) hx hb dX8_balance_58 (by decide) (fun c_58 => ?_) (fun c_58 => ?_)
              · skip
                have c_58n := Int32.not_lt.mpr c_58
                refine lv_iinc (v := (nI k) + 1) (lv' := [(6, .int ((nI k) + 1)), (0, .ref (q 0)), (1, .int (p1)), (2, .int (p2)), (3, .int (p3)), (4, .int (p4)), (5, .int ((brw S p1 p2 p3 p4 (nI k) (bal S p1 p2 p3 p4 k) j).2)), (7, .int (nI j))]) hx hb dX8_balance_100 hl (k := 6) rfl rfl (by decide) rfl (fun ls hl => ?_)
                refine lv_goto (tgt := 34) hx hb dX8_balance_103 (by decide) ?_
                exact ih34 (lp_lt h0 hkk c_43) _ _ _ (by rw [lp_eq h0 hkj c_58] at hU; exact hU) (GW.cast (rfl) G) (lv_cast (lv_sub (l' := [(0, .ref (q 0)), (1, .int (p1)), (2, .int (p2)), (3, .int (p3)), (4, .int (p4)), (5, .int ((brw S p1 p2 p3 p4 (nI k) (bal S p1 p2 p3 p4 k) j).2)), (6, .int ((nI k) + 1))]) hl [1, 2, 3, 4, 5, 6, 0] rfl) (by rw [nI_1, lp_eq h0 hkj c_58]; rfl))
              · skip
                have c_58n := Int32.not_le.mp c_58
                have hs2 := st_k hI (lp_lt h0 hkj c_58)
                refine lv_aload_n hx hb dX8_balance_61 rfl (lv_at hl 0 rfl) ?_
                refine lv_iload_n hx hb dX8_balance_62 rfl (lv_at hl 1 rfl) ?_
                refine lv_iload hx hb dX8_balance_63 (lv_at hl 6 rfl) ?_
                refine lv_iload_n hx hb dX8_balance_65 rfl (lv_at hl 2 rfl) ?_
                refine lv_iload hx hb dX8_balance_66 (lv_at hl 7 rfl) ?_
                refine lv_iload_n hx hb dX8_balance_68 rfl (lv_at hl 3 rfl) ?_
                refine r_V [] E G (c_X8_isBalance l Z q S X p1 (nI k) p2 (nI j) p3 hI h12.1 h12.2.1 hs1 hs2 c_13) kX8_isBalance m_547 0 rfl rfl ⟨Nat.le_of_ble_eq_true rfl, Nat.le_of_ble_eq_true rfl⟩ hl dX8_balance_69 rfl rfl (Nat.le_of_ble_eq_true rfl) ⟨Nat.zero_le _, Nat.zero_le _⟩ (fun H locs G => ?_)
                refine r_eqb (tgt := 94) hx hb dX8_balance_72 (by decide) (fun c_72 => ?_) (fun c_72 => ?_)
                · skip
                  refine lv_iinc (v := (nI j) + 1) (lv' := [(7, .int ((nI j) + 1)), (0, .ref (q 0)), (1, .int (p1)), (2, .int (p2)), (3, .int (p3)), (4, .int (p4)), (5, .int ((brw S p1 p2 p3 p4 (nI k) (bal S p1 p2 p3 p4 k) j).2)), (6, .int (nI k))]) hx hb dX8_balance_94 hl (k := 7) rfl rfl (by decide) rfl (fun ls hl => ?_)
                  refine lv_goto (tgt := 49) hx hb dX8_balance_97 (by decide) ?_
                  exact ih49 (lp_lt h0 hkj c_58) _ _ _ (by simp [brw, bst, hU, c_6, c_13, c_18, c_18n, c_43, c_43n, c_58, c_58n, c_72]) (GW.cast (rfl) G) (lv_cast (lv_sub (l' := [(0, .ref (q 0)), (1, .int (p1)), (2, .int (p2)), (3, .int (p3)), (4, .int (p4)), (5, .int ((brw S p1 p2 p3 p4 (nI k) (bal S p1 p2 p3 p4 k) j).2)), (6, .int (nI k)), (7, .int ((nI j) + 1))]) hl [1, 2, 3, 4, 5, 6, 7, 0] rfl) (by simp [nI_1, brw, bst, hU, c_6, c_13, c_18, c_18n, c_43, c_43n, c_58, c_58n, c_72]))
                · skip
                  refine lv_iload hx hb dX8_balance_75 (lv_at hl 5 rfl) ?_
                  refine lv_iload hx hb dX8_balance_77 (lv_at hl 4 rfl) ?_
                  refine lv_icmp_ne (tgt := 91) hx hb dX8_balance_79 (by decide) (fun c_79 => ?_) (fun c_79 => ?_)
                  · skip
                    refine lv_iinc (v := ((brw S p1 p2 p3 p4 (nI k) (bal S p1 p2 p3 p4 k) j).2) + 1) (lv' := [(5, .int (((brw S p1 p2 p3 p4 (nI k) (bal S p1 p2 p3 p4 k) j).2) + 1)), (0, .ref (q 0)), (1, .int (p1)), (2, .int (p2)), (3, .int (p3)), (4, .int (p4)), (6, .int (nI k)), (7, .int (nI j))]) hx hb dX8_balance_91 hl (k := 5) rfl rfl (by decide) rfl (fun ls hl => ?_)
                    refine lv_iinc (v := (nI j) + 1) (lv' := [(7, .int ((nI j) + 1)), (5, .int (((brw S p1 p2 p3 p4 (nI k) (bal S p1 p2 p3 p4 k) j).2) + 1)), (0, .ref (q 0)), (1, .int (p1)), (2, .int (p2)), (3, .int (p3)), (4, .int (p4)), (6, .int (nI k))]) hx hb dX8_balance_94 hl (k := 7) rfl rfl (by decide) rfl (fun ls hl => ?_)
                    refine lv_goto (tgt := 49) hx hb dX8_balance_97 (by decide) ?_
                    exact ih49 (lp_lt h0 hkj c_58) _ _ _ (by simp [brw, bst, hU, c_6, c_13, c_18, c_18n, c_43, c_43n, c_58, c_58n, c_72, c_79]) (GW.cast (rfl) G) (lv_cast (lv_sub (l' := [(0, .ref (q 0)), (1, .int (p1)), (2, .int (p2)), (3, .int (p3)), (4, .int (p4)), (5, .int (((brw S p1 p2 p3 p4 (nI k) (bal S p1 p2 p3 p4 k) j).2) + 1)), (6, .int (nI k)), (7, .int ((nI j) + 1))]) hl [2, 3, 4, 5, 6, 1, 7, 0] rfl) (by simp [nI_1, brw, bst, hU, c_6, c_13, c_18, c_18n, c_43, c_43n, c_58, c_58n, c_72, c_79]))
                  · skip
                    refine lv_bipush (v := 10) hx hb dX8_balance_82 (by decide) ?_
                    refine lv_iload hx hb dX8_balance_84 (lv_at hl 6 rfl) ?_
                    refine lv_imul hx hb dX8_balance_86 ?_
                    refine lv_iload hx hb dX8_balance_87 (lv_at hl 7 rfl) ?_
                    refine lv_iadd hx hb dX8_balance_89 ?_
                    have hs : (sp_bal S p1 p2 p3 p4) = ((10 * (nI k)) + (nI j), S) := by have hf := bal_f (S := S) (a := p1) (b := p2) (h := p3) (i := p4) (r := 10 * nI k + nI j) (lp_lt h0 hkk c_43) (lp_lt h0 hkj c_58) (by simp [brw, bst, hU, c_6, c_13, c_18, c_18n, c_43, c_43n, c_58, c_58n, c_72, c_79]); unfold sp_bal; rw [if_pos (by simp [h12.1, h12.2.1, h12.2.2, c_13, c_18]), hf]
                    exact r_ret E G hr hlk hQ (by rw [hs]) (by rw [hs]) dX8_balance_90
            exact L49 0 (Nat.zero_le _) _ _ _ (hT) (GW.cast (rfl) G) (lv_cast (lv_sub (l' := [(0, .ref (q 0)), (1, .int (p1)), (2, .int (p2)), (3, .int (p3)), (4, .int (p4)), (5, .int ((bal S p1 p2 p3 p4 k).2)), (6, .int (nI k)), (7, .int (0))]) hl [1, 2, 3, 4, 5, 6, 7, 0] rfl) (by rw [nI_0]; rfl))
        exact L34 0 (Nat.zero_le _) _ _ _ (rfl) (GW.cast (rfl) G) (lv_cast (lv_sub (l' := [(0, .ref (q 0)), (1, .int (p1)), (2, .int (p2)), (3, .int (p3)), (4, .int (p4)), (5, .int (0)), (6, .int (0))]) hl [2, 3, 4, 5, 6, 1, 0] rfl) (by rw [nI_0]; rfl))
      · skip
        have c_18n := Int32.not_le.mp c_18
        refine lv_aload_n hx hb dX8_balance_21 rfl (lv_at hl 0 rfl) ?_
        refine lv_ldc hx hb E.1.2.2.2.1 (E.1.2.2.2.2 _ m_226) dX8_balance_22 ?_
        refine r_V [] E G (c_X8_finding l Z q S X (-1000001) (by decide)) kX8_finding m_227 0 rfl rfl ⟨Nat.le_of_ble_eq_true rfl, Nat.le_of_ble_eq_true rfl⟩ hl dX8_balance_24 rfl rfl (Nat.le_of_ble_eq_true rfl) ⟨Nat.zero_le _, Nat.zero_le _⟩ (fun H locs G => ?_)
        have hs : (sp_bal S p1 p2 p3 p4) = ((fnd S (-1000001)).1, (fnd S (-1000001)).2) := by first | (simp [sp_bal, c_13]; done) | (simp [sp_bal, c_18]; done) | (cases h1 : isVa S p1 <;> cases h2 : isVa S p2 <;> simp [h1, h2] at c_6 <;> simp [sp_bal, h1, h2, c_6])
        exact r_ret E G hr hlk hQ (by rw [hs]) (by rw [hs]) dX8_balance_27
set_option maxHeartbeats 4000000 in
set_option maxRecDepth 100000 in
theorem c_X8_together (l : Launch) (Z : ZT) (q : Nat → Nat) (S : St) (X : XC) (p1 p2 p3 : Int32) (hI : Inv S) : CT l Z yX8_together cX8_together 11 (some .int) 5 [.ref (q 0), .int (p1), .int (p2), .int (p3)] (CW Z q S X) (some (.int ((sp_tog S p1 p2 p3).1))) (CW Z q ((sp_tog S p1 p2 p3).2) (X)) := by
  refine CE.mk rfl (Nat.le_of_ble_eq_true rfl) (fun p e s m args below meth c A Qx ls E hr hlk hnm hQ G hl => ?_)
  have hx := E.1.1
  have hb := E.1.2.1
  have hl : lv_has ls 11 [(0, .ref (q 0)), (1, .int (p1)), (2, .int (p2)), (3, .int (p3))] := hl
  have h0 := hI.st.1
  have h6 : nS S ≤ 6 := N6 hI
  refine lv_aload_n hx hb dX8_together_0 rfl (lv_at hl 0 rfl) ?_
  refine lv_iload_n hx hb dX8_together_1 rfl (lv_at hl 1 rfl) ?_
  rcases va_em S p1 with hv_2 | hv_2
  · skip
    refine r_V [] E G (c_X8_vanNumber_t l Z q S X p1 hI hv_2) kX8_vanNumber m_325 0 rfl rfl ⟨Nat.le_of_ble_eq_true rfl, Nat.le_of_ble_eq_true rfl⟩ hl dX8_together_2 rfl rfl (Nat.le_of_ble_eq_true rfl) ⟨Nat.zero_le _, Nat.zero_le _⟩ (fun H locs G => ?_)
    refine lv_astore (lv' := [(4, .ref (q (24 + p1.toNatClampNeg))), (0, .ref (q 0)), (1, .int (p1)), (2, .int (p2)), (3, .int (p3))]) hx hb dX8_together_5 hl (by decide) rfl (fun ls hl => ?_)
    refine lv_aload_n hx hb dX8_together_7 rfl (lv_at hl 1 rfl) ?_
    refine lv_iload_n hx hb dX8_together_8 rfl (lv_at hl 3 rfl) ?_
    rcases va_em S p2 with hv_9 | hv_9
    · skip
      refine r_V [] E G (c_X8_vanNumber_t l Z q S X p2 hI hv_9) kX8_vanNumber m_325 0 rfl rfl ⟨Nat.le_of_ble_eq_true rfl, Nat.le_of_ble_eq_true rfl⟩ hl dX8_together_9 rfl rfl (Nat.le_of_ble_eq_true rfl) ⟨Nat.zero_le _, Nat.zero_le _⟩ (fun H locs G => ?_)
      refine lv_astore (lv' := [(5, .ref (q (24 + p2.toNatClampNeg))), (4, .ref (q (24 + p1.toNatClampNeg))), (0, .ref (q 0)), (1, .int (p1)), (2, .int (p2)), (3, .int (p3))]) hx hb dX8_together_12 hl (by decide) rfl (fun ls hl => ?_)
      refine lv_aload hx hb dX8_together_14 (lv_at hl 1 rfl) ?_
      refine lv_ifnull hx hb dX8_together_16 ?_
      refine lv_aload hx hb dX8_together_19 (lv_at hl 0 rfl) ?_
      refine lv_ifnull hx hb dX8_together_21 ?_
      refine lv_iload_n hx hb dX8_together_24 rfl (lv_at hl 3 rfl) ?_
      refine lv_iload_n hx hb dX8_together_25 rfl (lv_at hl 4 rfl) ?_
      refine lv_icmp_eq (tgt := 36) hx hb dX8_together_26 (by decide) (fun c_26 => ?_) (fun c_26 => ?_)
      · skip
        refine lv_aload_n hx hb dX8_together_36 rfl (lv_at hl 2 rfl) ?_
        refine lv_ldc hx hb E.1.2.2.2.1 (E.1.2.2.2.2 _ m_226) dX8_together_37 ?_
        refine r_V [] E G (c_X8_finding l Z q S X (-1000001) (by decide)) kX8_finding m_227 0 rfl rfl ⟨Nat.le_of_ble_eq_true rfl, Nat.le_of_ble_eq_true rfl⟩ hl dX8_together_39 rfl rfl (Nat.le_of_ble_eq_true rfl) ⟨Nat.zero_le _, Nat.zero_le _⟩ (fun H locs G => ?_)
        have hs : (sp_tog S p1 p2 p3) = ((fnd S (-1000001)).1, (fnd S (-1000001)).2) := by simp [sp_tog, hv_2, hv_9, c_26]
        exact r_ret E G hr hlk hQ (by rw [hs]) (by rw [hs]) dX8_together_42
      · skip
        refine lv_iload_n hx hb dX8_together_29 rfl (lv_at hl 5 rfl) ?_
        refine r_S [] E G (c_X8_isHour l Z q S X p3) kX8_isHour m_264 ⟨Nat.le_of_ble_eq_true rfl, Nat.le_of_ble_eq_true rfl⟩ hl dX8_together_30 rfl rfl (Nat.le_of_ble_eq_true rfl) ⟨Nat.zero_le _, Nat.zero_le _⟩ (fun H locs G => ?_)
        refine r_neb (tgt := 43) hx hb dX8_together_33 (by decide) (fun c_33 => ?_) (fun c_33 => ?_)
        · skip
          refine lv_iconst (v := -1) hx hb dX8_together_43 (by decide) ?_
          refine lv_istore (lv' := [(6, .int ((-1))), (5, .ref (q (24 + p2.toNatClampNeg))), (4, .ref (q (24 + p1.toNatClampNeg))), (0, .ref (q 0)), (1, .int (p1)), (2, .int (p2)), (3, .int (p3))]) hx hb dX8_together_44 hl (by decide) rfl (fun ls hl => ?_)
          refine lv_ldc hx hb E.1.2.2.2.1 (E.1.2.2.2.2 _ m_470) dX8_together_46 ?_
          refine lv_istore (lv' := [(7, .int ((-1000002))), (6, .int ((-1))), (5, .ref (q (24 + p2.toNatClampNeg))), (4, .ref (q (24 + p1.toNatClampNeg))), (0, .ref (q 0)), (1, .int (p1)), (2, .int (p2)), (3, .int (p3))]) hx hb dX8_together_48 hl (by decide) rfl (fun ls hl => ?_)
          refine lv_iconst (v := 0) hx hb dX8_together_50 (by decide) ?_
          refine lv_istore (lv' := [(8, .int (0)), (7, .int ((-1000002))), (6, .int ((-1))), (5, .ref (q (24 + p2.toNatClampNeg))), (4, .ref (q (24 + p1.toNatClampNeg))), (0, .ref (q 0)), (1, .int (p1)), (2, .int (p2)), (3, .int (p3))]) hx hb dX8_together_51 hl (by decide) rfl (fun ls hl => ?_)
          have L53 : ∀ k : Nat, k ≤ nS S → (∀ (H : Heap) (locs : List Loc) (ls : Array Slot), GW Z (CW Z q S X) A s.heap H locs → lv_has ls 11 [(0, .ref (q 0)), (1, .int (p1)), (2, .int (p2)), (3, .int (p3)), (4, .ref (q (24 + p1.toNatClampNeg))), (5, .ref (q (24 + p2.toNatClampNeg))), (6, .int ((tog S p1 p2 p3 k).2)), (7, .int (prn (tog S p1 p2 p3 k).1)), (8, .int (nI k))] → W p l e (rmk 5 0 0) s m args below meth c H locs 0 0 Qx (F0 m 53 ls [])) := by
            refine up_in2 (P := fun k => (∀ (H : Heap) (locs : List Loc) (ls : Array Slot), GW Z (CW Z q S X) A s.heap H locs → lv_has ls 11 [(0, .ref (q 0)), (1, .int (p1)), (2, .int (p2)), (3, .int (p3)), (4, .ref (q (24 + p1.toNatClampNeg))), (5, .ref (q (24 + p2.toNatClampNeg))), (6, .int ((tog S p1 p2 p3 k).2)), (7, .int (prn (tog S p1 p2 p3 k).1)), (8, .int (nI k))] → W p l e (rmk 5 0 0) s m args below meth c H locs 0 0 Qx (F0 m 53 ls []))) (nS S) ?_
            intro k hkk ih53 H locs ls G hl
            refine lv_iload hx hb dX8_together_53 (lv_at hl 8 rfl) ?_
            refine lv_aload_n hx hb dX8_together_55 rfl (lv_at hl 0 rfl) ?_
            refine gC_0_1 E G m_189 dX8_together_56 ?_
            refine gC_2_3 E G m_72 dX8_together_59 ?_
            refine lv_icmp_ge (tgt := 162) hx hb dX8_together_62 (by decide) (fun c_62 => ?_) (fun c_62 => ?_)
            · skip
              have c_62n := Int32.not_lt.mpr c_62
              refine lv_iload hx hb dX8_together_162 (lv_at hl 7 rfl) ?_
              refine lv_ldc hx hb E.1.2.2.2.1 (E.1.2.2.2.2 _ m_470) dX8_together_164 ?_
              refine lv_icmp_ne (tgt := 178) hx hb dX8_together_166 (by decide) (fun c_166 => ?_) (fun c_166 => ?_)
              · skip
                refine lv_iload hx hb dX8_together_178 (lv_at hl 7 rfl) ?_
                have hs : (sp_tog S p1 p2 p3) = (prn (tog S p1 p2 p3 k).1, S) := by rw [lp_eq h0 hkk c_62] at c_166; have ok := tog_ok hI (a := p1) (b := p2) (h := p3) (nS S) (Nat.le_refl _); rw [prn_e ok] at c_166; simp [sp_tog, lp_eq h0 hkk c_62, prn, hv_2, hv_9, c_26, c_33, c_62, c_62n, c_166]
                exact r_ret E G hr hlk hQ (by rw [hs]) (by rw [hs]) dX8_together_180
              · skip
                refine lv_aload_n hx hb dX8_together_169 rfl (lv_at hl 0 rfl) ?_
                refine lv_ldc hx hb E.1.2.2.2.1 (E.1.2.2.2.2 _ m_470) dX8_together_170 ?_
                refine r_V [] E G (c_X8_finding l Z q S X (-1000002) (by decide)) kX8_finding m_227 0 rfl rfl ⟨Nat.le_of_ble_eq_true rfl, Nat.le_of_ble_eq_true rfl⟩ hl dX8_together_172 rfl rfl (Nat.le_of_ble_eq_true rfl) ⟨Nat.zero_le _, Nat.zero_le _⟩ (fun H locs G => ?_)
                refine lv_goto (tgt := 180) hx hb dX8_together_175 (by decide) ?_
                have hs : (sp_tog S p1 p2 p3) = ((fnd S (-1000002)).1, (fnd S (-1000002)).2) := by rw [lp_eq h0 hkk c_62] at c_166; have ok := tog_ok hI (a := p1) (b := p2) (h := p3) (nS S) (Nat.le_refl _); rw [prn_e ok] at c_166; simp [sp_tog, lp_eq h0 hkk c_62, prn, hv_2, hv_9, c_26, c_33, c_62, c_62n, c_166]
                exact r_ret E G hr hlk hQ (by rw [hs]) (by rw [hs]) dX8_together_180
            · skip
              have c_62n := Int32.not_le.mp c_62
              have hs1 := st_k hI (lp_lt h0 hkk c_62)
              refine lv_iconst (v := 0) hx hb dX8_together_65 (by decide) ?_
              refine lv_istore (lv' := [(9, .int (0)), (0, .ref (q 0)), (1, .int (p1)), (2, .int (p2)), (3, .int (p3)), (4, .ref (q (24 + p1.toNatClampNeg))), (5, .ref (q (24 + p2.toNatClampNeg))), (6, .int ((tog S p1 p2 p3 k).2)), (7, .int (prn (tog S p1 p2 p3 k).1)), (8, .int (nI k))]) hx hb dX8_together_66 hl (by decide) rfl (fun ls hl => ?_)
              have L68 : ∀ j : Nat, j ≤ nS S → (∀ (H : Heap) (locs : List Loc) (ls : Array Slot), GW Z (CW Z q S X) A s.heap H locs → lv_has ls 11 [(0, .ref (q 0)), (1, .int (p1)), (2, .int (p2)), (3, .int (p3)), (4, .ref (q (24 + p1.toNatClampNeg))), (5, .ref (q (24 + p2.toNatClampNeg))), (6, .int ((trw S p1 p2 p3 (nI k) (tog S p1 p2 p3 k) j).2)), (7, .int (prn (trw S p1 p2 p3 (nI k) (tog S p1 p2 p3 k) j).1)), (8, .int (nI k)), (9, .int (nI j))] → W p l e (rmk 5 0 0) s m args below meth c H locs 0 0 Qx (F0 m 68 ls [])) := by
                refine up_in2 (P := fun j => (∀ (H : Heap) (locs : List Loc) (ls : Array Slot), GW Z (CW Z q S X) A s.heap H locs → lv_has ls 11 [(0, .ref (q 0)), (1, .int (p1)), (2, .int (p2)), (3, .int (p3)), (4, .ref (q (24 + p1.toNatClampNeg))), (5, .ref (q (24 + p2.toNatClampNeg))), (6, .int ((trw S p1 p2 p3 (nI k) (tog S p1 p2 p3 k) j).2)), (7, .int (prn (trw S p1 p2 p3 (nI k) (tog S p1 p2 p3 k) j).1)), (8, .int (nI k)), (9, .int (nI j))] → W p l e (rmk 5 0 0) s m args below meth c H locs 0 0 Qx (F0 m 68 ls []))) (nS S) ?_
                intro j hkj ih68 H locs ls G hl
                refine lv_iload hx hb dX8_together_68 (lv_at hl 9 rfl) ?_
                refine lv_aload_n hx hb dX8_together_70 rfl (lv_at hl 0 rfl) ?_
                refine gC_0_1 E G m_189 dX8_together_71 ?_
                refine gC_2_3 E G m_72 dX8_together_74 ?_
                refine lv_icmp_ge (tgt := 156) hx hb dX8_together_77 (by decide) (fun c_77 => ?_) (fun c_77 => ?_)
                · skip
                  have c_77n := Int32.not_lt.mpr c_77
                  refine lv_iinc (v := (nI k) + 1) (lv' := [(8, .int ((nI k) + 1)), (0, .ref (q 0)), (1, .int (p1)), (2, .int (p2)), (3, .int (p3)), (4, .ref (q (24 + p1.toNatClampNeg))), (5, .ref (q (24 + p2.toNatClampNeg))), (6, .int ((trw S p1 p2 p3 (nI k) (tog S p1 p2 p3 k) j).2)), (7, .int (prn (trw S p1 p2 p3 (nI k) (tog S p1 p2 p3 k) j).1)), (9, .int (nI j))]) hx hb dX8_together_156 hl (k := 8) rfl rfl (by decide) rfl (fun ls hl => ?_)
                  refine lv_goto (tgt := 53) hx hb dX8_together_159 (by decide) ?_
                  exact ih53 (lp_lt h0 hkk c_62) _ _ _ (GW.cast (rfl) G) (lv_cast (lv_sub (l' := [(0, .ref (q 0)), (1, .int (p1)), (2, .int (p2)), (3, .int (p3)), (4, .ref (q (24 + p1.toNatClampNeg))), (5, .ref (q (24 + p2.toNatClampNeg))), (6, .int ((trw S p1 p2 p3 (nI k) (tog S p1 p2 p3 k) j).2)), (7, .int (prn (trw S p1 p2 p3 (nI k) (tog S p1 p2 p3 k) j).1)), (8, .int ((nI k) + 1))]) hl [1, 2, 3, 4, 5, 6, 7, 8, 0] rfl) (by rw [nI_1, lp_eq h0 hkj c_77]; rfl))
                · skip
                  have c_77n := Int32.not_le.mp c_77
                  have hs2 := st_k hI (lp_lt h0 hkj c_77)
                  refine lv_aload_n hx hb dX8_together_80 rfl (lv_at hl 0 rfl) ?_
                  refine lv_aload hx hb dX8_together_81 (lv_at hl 4 rfl) ?_
                  refine lv_iload hx hb dX8_together_83 (lv_at hl 8 rfl) ?_
                  refine lv_iload_n hx hb dX8_together_85 rfl (lv_at hl 3 rfl) ?_
                  refine r_V [] E G (c_X8_mayStand l Z q S X (nI k) p3 p1 hI (hv_2) hs1) kX8_mayStand m_349 0 rfl rfl ⟨Nat.le_of_ble_eq_true rfl, Nat.le_of_ble_eq_true rfl⟩ hl dX8_together_86 rfl rfl (Nat.le_of_ble_eq_true rfl) ⟨Nat.zero_le _, Nat.zero_le _⟩ (fun H locs G => ?_)
                  refine r_eqb (tgt := 150) hx hb dX8_together_89 (by decide) (fun c_89 => ?_) (fun c_89 => ?_)
                  · skip
                    refine lv_iinc (v := (nI j) + 1) (lv' := [(9, .int ((nI j) + 1)), (0, .ref (q 0)), (1, .int (p1)), (2, .int (p2)), (3, .int (p3)), (4, .ref (q (24 + p1.toNatClampNeg))), (5, .ref (q (24 + p2.toNatClampNeg))), (6, .int ((trw S p1 p2 p3 (nI k) (tog S p1 p2 p3 k) j).2)), (7, .int (prn (trw S p1 p2 p3 (nI k) (tog S p1 p2 p3 k) j).1)), (8, .int (nI k))]) hx hb dX8_together_150 hl (k := 9) rfl rfl (by decide) rfl (fun ls hl => ?_)
                    refine lv_goto (tgt := 68) hx hb dX8_together_153 (by decide) ?_
                    exact ih68 (lp_lt h0 hkj c_77) _ _ _ (GW.cast (rfl) G) (lv_cast (lv_sub (l' := [(0, .ref (q 0)), (1, .int (p1)), (2, .int (p2)), (3, .int (p3)), (4, .ref (q (24 + p1.toNatClampNeg))), (5, .ref (q (24 + p2.toNatClampNeg))), (6, .int ((trw S p1 p2 p3 (nI k) (tog S p1 p2 p3 k) j).2)), (7, .int (prn (trw S p1 p2 p3 (nI k) (tog S p1 p2 p3 k) j).1)), (8, .int (nI k)), (9, .int ((nI j) + 1))]) hl [1, 2, 3, 4, 5, 6, 7, 8, 9, 0] rfl) (by have g1 : k < nS S := lp_lt h0 hkk c_62; have g2 : j < nS S := lp_lt h0 hkj c_77; simp [nI_1, trw, tst, prn_10 (show k < 6 by omega) (show j < 6 by omega), hv_2, hv_9, c_26, c_33, c_62, c_62n, c_77, c_77n, c_89]))
                  · skip
                    refine lv_aload_n hx hb dX8_together_92 rfl (lv_at hl 0 rfl) ?_
                    refine lv_aload hx hb dX8_together_93 (lv_at hl 5 rfl) ?_
                    refine lv_iload hx hb dX8_together_95 (lv_at hl 9 rfl) ?_
                    refine lv_iload_n hx hb dX8_together_97 rfl (lv_at hl 3 rfl) ?_
                    refine r_V [] E G (c_X8_mayStand l Z q S X (nI j) p3 p2 hI (hv_9) hs2) kX8_mayStand m_349 0 rfl rfl ⟨Nat.le_of_ble_eq_true rfl, Nat.le_of_ble_eq_true rfl⟩ hl dX8_together_98 rfl rfl (Nat.le_of_ble_eq_true rfl) ⟨Nat.zero_le _, Nat.zero_le _⟩ (fun H locs G => ?_)
                    refine r_eqb (tgt := 150) hx hb dX8_together_101 (by decide) (fun c_101 => ?_) (fun c_101 => ?_)
                    · skip
                      refine lv_iinc (v := (nI j) + 1) (lv' := [(9, .int ((nI j) + 1)), (0, .ref (q 0)), (1, .int (p1)), (2, .int (p2)), (3, .int (p3)), (4, .ref (q (24 + p1.toNatClampNeg))), (5, .ref (q (24 + p2.toNatClampNeg))), (6, .int ((trw S p1 p2 p3 (nI k) (tog S p1 p2 p3 k) j).2)), (7, .int (prn (trw S p1 p2 p3 (nI k) (tog S p1 p2 p3 k) j).1)), (8, .int (nI k))]) hx hb dX8_together_150 hl (k := 9) rfl rfl (by decide) rfl (fun ls hl => ?_)
                      refine lv_goto (tgt := 68) hx hb dX8_together_153 (by decide) ?_
                      exact ih68 (lp_lt h0 hkj c_77) _ _ _ (GW.cast (rfl) G) (lv_cast (lv_sub (l' := [(0, .ref (q 0)), (1, .int (p1)), (2, .int (p2)), (3, .int (p3)), (4, .ref (q (24 + p1.toNatClampNeg))), (5, .ref (q (24 + p2.toNatClampNeg))), (6, .int ((trw S p1 p2 p3 (nI k) (tog S p1 p2 p3 k) j).2)), (7, .int (prn (trw S p1 p2 p3 (nI k) (tog S p1 p2 p3 k) j).1)), (8, .int (nI k)), (9, .int ((nI j) + 1))]) hl [1, 2, 3, 4, 5, 6, 7, 8, 9, 0] rfl) (by have g1 : k < nS S := lp_lt h0 hkk c_62; have g2 : j < nS S := lp_lt h0 hkj c_77; simp [nI_1, trw, tst, prn_10 (show k < 6 by omega) (show j < 6 by omega), hv_2, hv_9, c_26, c_33, c_62, c_62n, c_77, c_77n, c_89, c_101]))
                    · skip
                      refine lv_aload_n hx hb dX8_together_104 rfl (lv_at hl 0 rfl) ?_
                      refine lv_iload_n hx hb dX8_together_105 rfl (lv_at hl 1 rfl) ?_
                      refine lv_iload hx hb dX8_together_106 (lv_at hl 8 rfl) ?_
                      refine lv_iload_n hx hb dX8_together_108 rfl (lv_at hl 2 rfl) ?_
                      refine lv_iload hx hb dX8_together_109 (lv_at hl 9 rfl) ?_
                      refine lv_iload_n hx hb dX8_together_111 rfl (lv_at hl 3 rfl) ?_
                      refine r_V [] E G (c_X8_shareOf l Z q S X p1 (nI k) p2 (nI j) p3 hI hs1 c_33) kX8_shareOf m_535 0 rfl rfl ⟨Nat.le_of_ble_eq_true rfl, Nat.le_of_ble_eq_true rfl⟩ hl dX8_together_112 rfl rfl (Nat.le_of_ble_eq_true rfl) ⟨Nat.zero_le _, Nat.zero_le _⟩ (fun H locs G => ?_)
                      refine lv_aload_n hx hb dX8_together_115 rfl (lv_at hl 0 rfl) ?_
                      refine lv_iload_n hx hb dX8_together_116 rfl (lv_at hl 2 rfl) ?_
                      refine lv_iload hx hb dX8_together_117 (lv_at hl 9 rfl) ?_
                      refine lv_iload_n hx hb dX8_together_119 rfl (lv_at hl 1 rfl) ?_
                      refine lv_iload hx hb dX8_together_120 (lv_at hl 8 rfl) ?_
                      refine lv_iload_n hx hb dX8_together_122 rfl (lv_at hl 3 rfl) ?_
                      refine r_V [.int (geS S p1 p2 (nI k) (nI j) p3)] E G (c_X8_shareOf l Z q S X p2 (nI j) p1 (nI k) p3 hI hs2 c_33) kX8_shareOf m_535 0 rfl rfl ⟨Nat.le_of_ble_eq_true rfl, Nat.le_of_ble_eq_true rfl⟩ hl dX8_together_123 rfl rfl (Nat.le_of_ble_eq_true rfl) ⟨Nat.zero_le _, Nat.zero_le _⟩ (fun H locs G => ?_)
                      refine lv_iadd hx hb dX8_together_126 ?_
                      refine lv_istore (lv' := [(10, .int ((geS S p1 p2 (nI k) (nI j) p3) + (geS S p2 p1 (nI j) (nI k) p3))), (0, .ref (q 0)), (1, .int (p1)), (2, .int (p2)), (3, .int (p3)), (4, .ref (q (24 + p1.toNatClampNeg))), (5, .ref (q (24 + p2.toNatClampNeg))), (6, .int ((trw S p1 p2 p3 (nI k) (tog S p1 p2 p3 k) j).2)), (7, .int (prn (trw S p1 p2 p3 (nI k) (tog S p1 p2 p3 k) j).1)), (8, .int (nI k)), (9, .int (nI j))]) hx hb dX8_together_127 hl (by decide) rfl (fun ls hl => ?_)
                      refine lv_iload hx hb dX8_together_129 (lv_at hl 0 rfl) ?_
                      refine lv_iload hx hb dX8_together_131 (lv_at hl 7 rfl) ?_
                      refine lv_icmp_le (tgt := 150) hx hb dX8_together_133 (by decide) (fun c_133 => ?_) (fun c_133 => ?_)
                      · skip
                        have c_133n := Int32.not_lt.mpr c_133
                        refine lv_iinc (v := (nI j) + 1) (lv' := [(9, .int ((nI j) + 1)), (10, .int ((geS S p1 p2 (nI k) (nI j) p3) + (geS S p2 p1 (nI j) (nI k) p3))), (0, .ref (q 0)), (1, .int (p1)), (2, .int (p2)), (3, .int (p3)), (4, .ref (q (24 + p1.toNatClampNeg))), (5, .ref (q (24 + p2.toNatClampNeg))), (6, .int ((trw S p1 p2 p3 (nI k) (tog S p1 p2 p3 k) j).2)), (7, .int (prn (trw S p1 p2 p3 (nI k) (tog S p1 p2 p3 k) j).1)), (8, .int (nI k))]) hx hb dX8_together_150 hl (k := 10) rfl rfl (by decide) rfl (fun ls hl => ?_)
                        refine lv_goto (tgt := 68) hx hb dX8_together_153 (by decide) ?_
                        exact ih68 (lp_lt h0 hkj c_77) _ _ _ (GW.cast (rfl) G) (lv_cast (lv_sub (l' := [(0, .ref (q 0)), (1, .int (p1)), (2, .int (p2)), (3, .int (p3)), (4, .ref (q (24 + p1.toNatClampNeg))), (5, .ref (q (24 + p2.toNatClampNeg))), (6, .int ((trw S p1 p2 p3 (nI k) (tog S p1 p2 p3 k) j).2)), (7, .int (prn (trw S p1 p2 p3 (nI k) (tog S p1 p2 p3 k) j).1)), (8, .int (nI k)), (9, .int ((nI j) + 1))]) hl [2, 3, 4, 5, 6, 7, 8, 9, 10, 0] rfl) (by have g1 : k < nS S := lp_lt h0 hkk c_62; have g2 : j < nS S := lp_lt h0 hkj c_77; simp [nI_1, trw, tst, prn_10 (show k < 6 by omega) (show j < 6 by omega), hv_2, hv_9, c_26, c_33, c_62, c_62n, c_77, c_77n, c_89, c_101, c_133, c_133n]))
                      · skip
                        have c_133n := Int32.not_le.mp c_133
                        refine lv_iload hx hb dX8_together_136 (lv_at hl 0 rfl) ?_
                        refine lv_istore (lv' := [(6, .int ((geS S p1 p2 (nI k) (nI j) p3) + (geS S p2 p1 (nI j) (nI k) p3))), (10, .int ((geS S p1 p2 (nI k) (nI j) p3) + (geS S p2 p1 (nI j) (nI k) p3))), (0, .ref (q 0)), (1, .int (p1)), (2, .int (p2)), (3, .int (p3)), (4, .ref (q (24 + p1.toNatClampNeg))), (5, .ref (q (24 + p2.toNatClampNeg))), (7, .int (prn (trw S p1 p2 p3 (nI k) (tog S p1 p2 p3 k) j).1)), (8, .int (nI k)), (9, .int (nI j))]) hx hb dX8_together_138 hl (by decide) rfl (fun ls hl => ?_)
                        refine lv_bipush (v := 10) hx hb dX8_together_140 (by decide) ?_
                        refine lv_iload hx hb dX8_together_142 (lv_at hl 9 rfl) ?_
                        refine lv_imul hx hb dX8_together_144 ?_
                        refine lv_iload hx hb dX8_together_145 (lv_at hl 10 rfl) ?_
                        refine lv_iadd hx hb dX8_together_147 ?_
                        refine lv_istore (lv' := [(7, .int ((10 * (nI k)) + (nI j))), (6, .int ((geS S p1 p2 (nI k) (nI j) p3) + (geS S p2 p1 (nI j) (nI k) p3))), (10, .int ((geS S p1 p2 (nI k) (nI j) p3) + (geS S p2 p1 (nI j) (nI k) p3))), (0, .ref (q 0)), (1, .int (p1)), (2, .int (p2)), (3, .int (p3)), (4, .ref (q (24 + p1.toNatClampNeg))), (5, .ref (q (24 + p2.toNatClampNeg))), (8, .int (nI k)), (9, .int (nI j))]) hx hb dX8_together_148 hl (by decide) rfl (fun ls hl => ?_)
                        refine lv_iinc (v := (nI j) + 1) (lv' := [(9, .int ((nI j) + 1)), (7, .int ((10 * (nI k)) + (nI j))), (6, .int ((geS S p1 p2 (nI k) (nI j) p3) + (geS S p2 p1 (nI j) (nI k) p3))), (10, .int ((geS S p1 p2 (nI k) (nI j) p3) + (geS S p2 p1 (nI j) (nI k) p3))), (0, .ref (q 0)), (1, .int (p1)), (2, .int (p2)), (3, .int (p3)), (4, .ref (q (24 + p1.toNatClampNeg))), (5, .ref (q (24 + p2.toNatClampNeg))), (8, .int (nI k))]) hx hb dX8_together_150 hl (k := 10) rfl rfl (by decide) rfl (fun ls hl => ?_)
                        refine lv_goto (tgt := 68) hx hb dX8_together_153 (by decide) ?_
                        exact ih68 (lp_lt h0 hkj c_77) _ _ _ (GW.cast (rfl) G) (lv_cast (lv_sub (l' := [(0, .ref (q 0)), (1, .int (p1)), (2, .int (p2)), (3, .int (p3)), (4, .ref (q (24 + p1.toNatClampNeg))), (5, .ref (q (24 + p2.toNatClampNeg))), (6, .int ((geS S p1 p2 (nI k) (nI j) p3) + (geS S p2 p1 (nI j) (nI k) p3))), (7, .int ((10 * (nI k)) + (nI j))), (8, .int (nI k)), (9, .int ((nI j) + 1))]) hl [4, 5, 6, 7, 8, 9, 2, 1, 10, 0] rfl) (by have g1 : k < nS S := lp_lt h0 hkk c_62; have g2 : j < nS S := lp_lt h0 hkj c_77; simp [nI_1, trw, tst, prn_10 (show k < 6 by omega) (show j < 6 by omega), hv_2, hv_9, c_26, c_33, c_62, c_62n, c_77, c_77n, c_89, c_101, c_133, c_133n]))
              exact L68 0 (Nat.zero_le _) _ _ _ (GW.cast (rfl) G) (lv_cast (lv_sub (l' := [(0, .ref (q 0)), (1, .int (p1)), (2, .int (p2)), (3, .int (p3)), (4, .ref (q (24 + p1.toNatClampNeg))), (5, .ref (q (24 + p2.toNatClampNeg))), (6, .int ((tog S p1 p2 p3 k).2)), (7, .int (prn (tog S p1 p2 p3 k).1)), (8, .int (nI k)), (9, .int (0))]) hl [1, 2, 3, 4, 5, 6, 7, 8, 9, 0] rfl) (by rw [nI_0]; rfl))
          exact L53 0 (Nat.zero_le _) _ _ _ (GW.cast (rfl) G) (lv_cast (lv_sub (l' := [(0, .ref (q 0)), (1, .int (p1)), (2, .int (p2)), (3, .int (p3)), (4, .ref (q (24 + p1.toNatClampNeg))), (5, .ref (q (24 + p2.toNatClampNeg))), (6, .int ((-1))), (7, .int ((-1000002))), (8, .int (0))]) hl [5, 6, 7, 8, 4, 3, 2, 1, 0] rfl) (by rw [nI_0]; rfl))
        · skip
          refine lv_aload_n hx hb dX8_together_36 rfl (lv_at hl 2 rfl) ?_
          refine lv_ldc hx hb E.1.2.2.2.1 (E.1.2.2.2.2 _ m_226) dX8_together_37 ?_
          refine r_V [] E G (c_X8_finding l Z q S X (-1000001) (by decide)) kX8_finding m_227 0 rfl rfl ⟨Nat.le_of_ble_eq_true rfl, Nat.le_of_ble_eq_true rfl⟩ hl dX8_together_39 rfl rfl (Nat.le_of_ble_eq_true rfl) ⟨Nat.zero_le _, Nat.zero_le _⟩ (fun H locs G => ?_)
          have hs : (sp_tog S p1 p2 p3) = ((fnd S (-1000001)).1, (fnd S (-1000001)).2) := by simp [sp_tog, hv_2, hv_9, c_26, c_33]
          exact r_ret E G hr hlk hQ (by rw [hs]) (by rw [hs]) dX8_together_42
    · skip
      refine r_V [] E G (c_X8_vanNumber_f l Z q S X p2 hI hv_9) kX8_vanNumber m_325 0 rfl rfl ⟨Nat.le_of_ble_eq_true rfl, Nat.le_of_ble_eq_true rfl⟩ hl dX8_together_9 rfl rfl (Nat.le_of_ble_eq_true rfl) ⟨Nat.zero_le _, Nat.zero_le _⟩ (fun H locs G => ?_)
      refine lv_astoreN (lv' := [(5, .null), (4, .ref (q (24 + p1.toNatClampNeg))), (0, .ref (q 0)), (1, .int (p1)), (2, .int (p2)), (3, .int (p3))]) hx hb dX8_together_12 hl (by decide) rfl (fun ls hl => ?_)
      refine lv_aload hx hb dX8_together_14 (lv_at hl 1 rfl) ?_
      refine lv_ifnull hx hb dX8_together_16 ?_
      refine lv_aloadN hx hb dX8_together_19 (lv_at hl 0 rfl) ?_
      refine lv_ifnullN (tgt := 36) hx hb dX8_together_21 (by decide) ?_
      refine lv_aload_n hx hb dX8_together_36 rfl (lv_at hl 2 rfl) ?_
      refine lv_ldc hx hb E.1.2.2.2.1 (E.1.2.2.2.2 _ m_226) dX8_together_37 ?_
      refine r_V [] E G (c_X8_finding l Z q S X (-1000001) (by decide)) kX8_finding m_227 0 rfl rfl ⟨Nat.le_of_ble_eq_true rfl, Nat.le_of_ble_eq_true rfl⟩ hl dX8_together_39 rfl rfl (Nat.le_of_ble_eq_true rfl) ⟨Nat.zero_le _, Nat.zero_le _⟩ (fun H locs G => ?_)
      have hs : (sp_tog S p1 p2 p3) = ((fnd S (-1000001)).1, (fnd S (-1000001)).2) := by simp [sp_tog, hv_2, hv_9]
      exact r_ret E G hr hlk hQ (by rw [hs]) (by rw [hs]) dX8_together_42
  · skip
    refine r_V [] E G (c_X8_vanNumber_f l Z q S X p1 hI hv_2) kX8_vanNumber m_325 0 rfl rfl ⟨Nat.le_of_ble_eq_true rfl, Nat.le_of_ble_eq_true rfl⟩ hl dX8_together_2 rfl rfl (Nat.le_of_ble_eq_true rfl) ⟨Nat.zero_le _, Nat.zero_le _⟩ (fun H locs G => ?_)
    refine lv_astoreN (lv' := [(4, .null), (0, .ref (q 0)), (1, .int (p1)), (2, .int (p2)), (3, .int (p3))]) hx hb dX8_together_5 hl (by decide) rfl (fun ls hl => ?_)
    refine lv_aload_n hx hb dX8_together_7 rfl (lv_at hl 1 rfl) ?_
    refine lv_iload_n hx hb dX8_together_8 rfl (lv_at hl 3 rfl) ?_
    rcases va_em S p2 with hv_9 | hv_9
    · skip
      refine r_V [] E G (c_X8_vanNumber_t l Z q S X p2 hI hv_9) kX8_vanNumber m_325 0 rfl rfl ⟨Nat.le_of_ble_eq_true rfl, Nat.le_of_ble_eq_true rfl⟩ hl dX8_together_9 rfl rfl (Nat.le_of_ble_eq_true rfl) ⟨Nat.zero_le _, Nat.zero_le _⟩ (fun H locs G => ?_)
      refine lv_astore (lv' := [(5, .ref (q (24 + p2.toNatClampNeg))), (4, .null), (0, .ref (q 0)), (1, .int (p1)), (2, .int (p2)), (3, .int (p3))]) hx hb dX8_together_12 hl (by decide) rfl (fun ls hl => ?_)
      refine lv_aloadN hx hb dX8_together_14 (lv_at hl 1 rfl) ?_
      refine lv_ifnullN (tgt := 36) hx hb dX8_together_16 (by decide) ?_
      refine lv_aload_n hx hb dX8_together_36 rfl (lv_at hl 2 rfl) ?_
      refine lv_ldc hx hb E.1.2.2.2.1 (E.1.2.2.2.2 _ m_226) dX8_together_37 ?_
      refine r_V [] E G (c_X8_finding l Z q S X (-1000001) (by decide)) kX8_finding m_227 0 rfl rfl ⟨Nat.le_of_ble_eq_true rfl, Nat.le_of_ble_eq_true rfl⟩ hl dX8_together_39 rfl rfl (Nat.le_of_ble_eq_true rfl) ⟨Nat.zero_le _, Nat.zero_le _⟩ (fun H locs G => ?_)
      have hs : (sp_tog S p1 p2 p3) = ((fnd S (-1000001)).1, (fnd S (-1000001)).2) := by simp [sp_tog, hv_2, hv_9]
      exact r_ret E G hr hlk hQ (by rw [hs]) (by rw [hs]) dX8_together_42
    · skip
      refine r_V [] E G (c_X8_vanNumber_f l Z q S X p2 hI hv_9) kX8_vanNumber m_325 0 rfl rfl ⟨Nat.le_of_ble_eq_true rfl, Nat.le_of_ble_eq_true rfl⟩ hl dX8_together_9 rfl rfl (Nat.le_of_ble_eq_true rfl) ⟨Nat.zero_le _, Nat.zero_le _⟩ (fun H locs G => ?_)
      refine lv_astoreN (lv' := [(5, .null), (4, .null), (0, .ref (q 0)), (1, .int (p1)), (2, .int (p2)), (3, .int (p3))]) hx hb dX8_together_12 hl (by decide) rfl (fun ls hl => ?_)
      refine lv_aloadN hx hb dX8_together_14 (lv_at hl 1 rfl) ?_
      refine lv_ifnullN (tgt := 36) hx hb dX8_together_16 (by decide) ?_
      refine lv_aload_n hx hb dX8_together_36 rfl (lv_at hl 2 rfl) ?_
      refine lv_ldc hx hb E.1.2.2.2.1 (E.1.2.2.2.2 _ m_226) dX8_together_37 ?_
      refine r_V [] E G (c_X8_finding l Z q S X (-1000001) (by decide)) kX8_finding m_227 0 rfl rfl ⟨Nat.le_of_ble_eq_true rfl, Nat.le_of_ble_eq_true rfl⟩ hl dX8_together_39 rfl rfl (Nat.le_of_ble_eq_true rfl) ⟨Nat.zero_le _, Nat.zero_le _⟩ (fun H locs G => ?_)
      have hs : (sp_tog S p1 p2 p3) = ((fnd S (-1000001)).1, (fnd S (-1000001)).2) := by simp [sp_tog, hv_2, hv_9]
      exact r_ret E G hr hlk hQ (by rw [hs]) (by rw [hs]) dX8_together_42
set_option maxHeartbeats 4000000 in
set_option maxRecDepth 100000 in
theorem c_X9_isBalance (l : Launch) (Z : ZT) (q : Nat → Nat) (S : St) (Y : YM) (p1 p2 p3 p4 p5 : Int32) (hI : Inv S) (hv : isVa S p1 = true) (hw : isVa S p2 = true) (h1 : isSt S p3 = true) (h3 : isSt S p4 = true) (h2 : isHo p5 = true) : CT l Z yX9_isBalance cX9_isBalance 7 (some .boolean) 4 [.ref (q 0), .int (p1), .int (p2), .int (p3), .int (p4), .int (p5)] (MW Z q S Y) (some (.int (b01 (blM S p1 p2 p3 p4 p5)))) (MW Z q S Y) := by
  refine CE.mk rfl (Nat.le_of_ble_eq_true rfl) (fun p e s m args below meth c A Qx ls E hr hlk hnm hQ G hl => ?_)
  have hx := E.1.1
  have hb := E.1.2.1
  have hl : lv_has ls 7 [(0, .ref (q 0)), (1, .int (p1)), (2, .int (p2)), (3, .int (p3)), (4, .int (p4)), (5, .int (p5))] := hl
  have h0 := hI.st.1
  have h6 : nS S ≤ 6 := N6 hI
  refine lv_iconst (v := 0) hx hb dX9_isBalance_0 (by decide) ?_
  refine lv_istore (lv' := [(6, .int (0)), (0, .ref (q 0)), (1, .int (p1)), (2, .int (p2)), (3, .int (p3)), (4, .int (p4)), (5, .int (p5))]) hx hb dX9_isBalance_1 hl (by decide) rfl (fun ls hl => ?_)
  have L3 : ∀ k : Nat, k ≤ nS S → (∀ (H : Heap) (locs : List Loc) (ls : Array Slot), btr S p1 p2 p4 p5 (geS S p1 p2 p3 p4 p5) k = false → btr S p2 p1 p3 p5 (geS S p2 p1 p4 p3 p5) k = false → GW Z (MW Z q S Y) A s.heap H locs → lv_has ls 7 [(0, .ref (q 0)), (1, .int (p1)), (2, .int (p2)), (3, .int (p3)), (4, .int (p4)), (5, .int (p5)), (6, .int (nI k))] → W p l e (rmk 4 0 0) s m args below meth c H locs 0 0 Qx (F0 m 3 ls [])) := by
    refine up_in2 (P := fun k => (∀ (H : Heap) (locs : List Loc) (ls : Array Slot), btr S p1 p2 p4 p5 (geS S p1 p2 p3 p4 p5) k = false → btr S p2 p1 p3 p5 (geS S p2 p1 p4 p3 p5) k = false → GW Z (MW Z q S Y) A s.heap H locs → lv_has ls 7 [(0, .ref (q 0)), (1, .int (p1)), (2, .int (p2)), (3, .int (p3)), (4, .int (p4)), (5, .int (p5)), (6, .int (nI k))] → W p l e (rmk 4 0 0) s m args below meth c H locs 0 0 Qx (F0 m 3 ls []))) (nS S) ?_
    intro k hkk ih3 H locs ls hT hU G hl
    refine lv_iload hx hb dX9_isBalance_3 (lv_at hl 6 rfl) ?_
    refine lv_aload_n hx hb dX9_isBalance_5 rfl (lv_at hl 0 rfl) ?_
    refine gM_0_0 E G m_633 dX9_isBalance_6 ?_
    refine lv_icmp_ge (tgt := 97) hx hb dX9_isBalance_9 (by decide) (fun c_9 => ?_) (fun c_9 => ?_)
    · skip
      have c_9n := Int32.not_lt.mpr c_9
      refine lv_iconst (v := 1) hx hb dX9_isBalance_97 (by decide) ?_
      have hs : (blM S p1 p2 p3 p4 p5) = true := by rw [lp_eq h0 hkk c_9] at hT hU; simp [blM, hT, hU]
      exact r_retz E G hr hlk hQ (by decide) (congrArg (fun t => some (Value.int (b01 t))) hs) rfl dX9_isBalance_98
    · skip
      have c_9n := Int32.not_le.mp c_9
      have hst := st_k hI (lp_lt h0 hkk c_9)
      refine lv_aload_n hx hb dX9_isBalance_12 rfl (lv_at hl 0 rfl) ?_
      refine lv_iload_n hx hb dX9_isBalance_13 rfl (lv_at hl 1 rfl) ?_
      refine lv_iload hx hb dX9_isBalance_14 (lv_at hl 6 rfl) ?_
      refine lv_iload hx hb dX9_isBalance_16 (lv_at hl 5 rfl) ?_
      refine r_V [] E G (c_X9_mayStand l Z q S Y p1 (nI k) p5 hI hv hst) kX9_mayStand m_798 0 rfl rfl ⟨Nat.le_of_ble_eq_true rfl, Nat.le_of_ble_eq_true rfl⟩ hl dX9_isBalance_18 rfl rfl (Nat.le_of_ble_eq_true rfl) ⟨Nat.zero_le _, Nat.zero_le _⟩ (fun H locs G => ?_)
      refine r_eqb (tgt := 52) hx hb dX9_isBalance_21 (by decide) (fun c_21 => ?_) (fun c_21 => ?_)
      · skip
        refine lv_aload_n hx hb dX9_isBalance_52 rfl (lv_at hl 0 rfl) ?_
        refine lv_iload_n hx hb dX9_isBalance_53 rfl (lv_at hl 2 rfl) ?_
        refine lv_iload hx hb dX9_isBalance_54 (lv_at hl 6 rfl) ?_
        refine lv_iload hx hb dX9_isBalance_56 (lv_at hl 5 rfl) ?_
        refine r_V [] E G (c_X9_mayStand l Z q S Y p2 (nI k) p5 hI hw hst) kX9_mayStand m_798 0 rfl rfl ⟨Nat.le_of_ble_eq_true rfl, Nat.le_of_ble_eq_true rfl⟩ hl dX9_isBalance_58 rfl rfl (Nat.le_of_ble_eq_true rfl) ⟨Nat.zero_le _, Nat.zero_le _⟩ (fun H locs G => ?_)
        refine r_eqb (tgt := 91) hx hb dX9_isBalance_61 (by decide) (fun c_61 => ?_) (fun c_61 => ?_)
        · skip
          refine lv_iinc (v := (nI k) + 1) (lv' := [(6, .int ((nI k) + 1)), (0, .ref (q 0)), (1, .int (p1)), (2, .int (p2)), (3, .int (p3)), (4, .int (p4)), (5, .int (p5))]) hx hb dX9_isBalance_91 hl (k := 6) rfl rfl (by decide) rfl (fun ls hl => ?_)
          refine lv_goto (tgt := 3) hx hb dX9_isBalance_94 (by decide) ?_
          exact ih3 (lp_lt h0 hkk c_9) _ _ _ (by simp [btr, hT, c_9, c_9n, c_21, c_61]) (by simp [btr, hU, c_9, c_9n, c_21, c_61]) (GW.cast (rfl) G) (lv_cast (lv_sub (l' := [(0, .ref (q 0)), (1, .int (p1)), (2, .int (p2)), (3, .int (p3)), (4, .int (p4)), (5, .int (p5)), (6, .int ((nI k) + 1))]) hl [1, 2, 3, 4, 5, 6, 0] rfl) (by rw [nI_1]))
        · skip
          refine lv_aload_n hx hb dX9_isBalance_64 rfl (lv_at hl 0 rfl) ?_
          refine lv_iload_n hx hb dX9_isBalance_65 rfl (lv_at hl 2 rfl) ?_
          refine lv_iload_n hx hb dX9_isBalance_66 rfl (lv_at hl 1 rfl) ?_
          refine lv_iload hx hb dX9_isBalance_67 (lv_at hl 6 rfl) ?_
          refine lv_iload_n hx hb dX9_isBalance_69 rfl (lv_at hl 3 rfl) ?_
          refine lv_iload hx hb dX9_isBalance_70 (lv_at hl 5 rfl) ?_
          refine r_V [] E G (c_X9_getsOf l Z q S Y p2 p1 (nI k) p3 p5 hI hst h2) kX9_getsOf m_886 0 rfl rfl ⟨Nat.le_of_ble_eq_true rfl, Nat.le_of_ble_eq_true rfl⟩ hl dX9_isBalance_72 rfl rfl (Nat.le_of_ble_eq_true rfl) ⟨Nat.zero_le _, Nat.zero_le _⟩ (fun H locs G => ?_)
          refine lv_aload_n hx hb dX9_isBalance_75 rfl (lv_at hl 0 rfl) ?_
          refine lv_iload_n hx hb dX9_isBalance_76 rfl (lv_at hl 2 rfl) ?_
          refine lv_iload_n hx hb dX9_isBalance_77 rfl (lv_at hl 1 rfl) ?_
          refine lv_iload hx hb dX9_isBalance_78 (lv_at hl 4 rfl) ?_
          refine lv_iload_n hx hb dX9_isBalance_80 rfl (lv_at hl 3 rfl) ?_
          refine lv_iload hx hb dX9_isBalance_81 (lv_at hl 5 rfl) ?_
          refine r_V [.int (geS S p2 p1 (nI k) p3 p5)] E G (c_X9_getsOf l Z q S Y p2 p1 p4 p3 p5 hI h3 h2) kX9_getsOf m_886 0 rfl rfl ⟨Nat.le_of_ble_eq_true rfl, Nat.le_of_ble_eq_true rfl⟩ hl dX9_isBalance_83 rfl rfl (Nat.le_of_ble_eq_true rfl) ⟨Nat.zero_le _, Nat.zero_le _⟩ (fun H locs G => ?_)
          refine lv_icmp_le (tgt := 91) hx hb dX9_isBalance_86 (by decide) (fun c_86 => ?_) (fun c_86 => ?_)
          · skip
            have c_86n := Int32.not_lt.mpr c_86
            refine lv_iinc (v := (nI k) + 1) (lv' := [(6, .int ((nI k) + 1)), (0, .ref (q 0)), (1, .int (p1)), (2, .int (p2)), (3, .int (p3)), (4, .int (p4)), (5, .int (p5))]) hx hb dX9_isBalance_91 hl (k := 6) rfl rfl (by decide) rfl (fun ls hl => ?_)
            refine lv_goto (tgt := 3) hx hb dX9_isBalance_94 (by decide) ?_
            exact ih3 (lp_lt h0 hkk c_9) _ _ _ (by simp [btr, hT, c_9, c_9n, c_21, c_61, c_86, c_86n]) (by simp [btr, hU, c_9, c_9n, c_21, c_61, c_86, c_86n]) (GW.cast (rfl) G) (lv_cast (lv_sub (l' := [(0, .ref (q 0)), (1, .int (p1)), (2, .int (p2)), (3, .int (p3)), (4, .int (p4)), (5, .int (p5)), (6, .int ((nI k) + 1))]) hl [1, 2, 3, 4, 5, 6, 0] rfl) (by rw [nI_1]))
          · skip
            have c_86n := Int32.not_le.mp c_86
            refine lv_iconst (v := 0) hx hb dX9_isBalance_89 (by decide) ?_
            have hs : (blM S p1 p2 p3 p4 p5) = false := by have hT2 := btr_mono (S := S) (v := p2) (o := p1) (t := p3) (h := p5) (x := geS S p2 p1 p4 p3 p5) (k := k + 1) (by simp [btr, c_9, c_9n, c_21, c_61, c_86, c_86n]) _ (lp_lt h0 hkk c_9); simp [blM, hT2]
            exact r_retz E G hr hlk hQ (by decide) (congrArg (fun t => some (Value.int (b01 t))) hs) rfl dX9_isBalance_90
      · skip
        refine lv_aload_n hx hb dX9_isBalance_24 rfl (lv_at hl 0 rfl) ?_
        refine lv_iload_n hx hb dX9_isBalance_25 rfl (lv_at hl 1 rfl) ?_
        refine lv_iload_n hx hb dX9_isBalance_26 rfl (lv_at hl 2 rfl) ?_
        refine lv_iload hx hb dX9_isBalance_27 (lv_at hl 6 rfl) ?_
        refine lv_iload hx hb dX9_isBalance_29 (lv_at hl 4 rfl) ?_
        refine lv_iload hx hb dX9_isBalance_31 (lv_at hl 5 rfl) ?_
        refine r_V [] E G (c_X9_getsOf l Z q S Y p1 p2 (nI k) p4 p5 hI hst h2) kX9_getsOf m_886 0 rfl rfl ⟨Nat.le_of_ble_eq_true rfl, Nat.le_of_ble_eq_true rfl⟩ hl dX9_isBalance_33 rfl rfl (Nat.le_of_ble_eq_true rfl) ⟨Nat.zero_le _, Nat.zero_le _⟩ (fun H locs G => ?_)
        refine lv_aload_n hx hb dX9_isBalance_36 rfl (lv_at hl 0 rfl) ?_
        refine lv_iload_n hx hb dX9_isBalance_37 rfl (lv_at hl 1 rfl) ?_
        refine lv_iload_n hx hb dX9_isBalance_38 rfl (lv_at hl 2 rfl) ?_
        refine lv_iload_n hx hb dX9_isBalance_39 rfl (lv_at hl 3 rfl) ?_
        refine lv_iload hx hb dX9_isBalance_40 (lv_at hl 4 rfl) ?_
        refine lv_iload hx hb dX9_isBalance_42 (lv_at hl 5 rfl) ?_
        refine r_V [.int (geS S p1 p2 (nI k) p4 p5)] E G (c_X9_getsOf l Z q S Y p1 p2 p3 p4 p5 hI h1 h2) kX9_getsOf m_886 0 rfl rfl ⟨Nat.le_of_ble_eq_true rfl, Nat.le_of_ble_eq_true rfl⟩ hl dX9_isBalance_44 rfl rfl (Nat.le_of_ble_eq_true rfl) ⟨Nat.zero_le _, Nat.zero_le _⟩ (fun H locs G => ?_)
        refine lv_icmp_le (tgt := 52) hx hb dX9_isBalance_47 (by decide) (fun c_47 => ?_) (fun c_47 => ?_)
        · skip
          have c_47n := Int32.not_lt.mpr c_47
          refine lv_aload_n hx hb dX9_isBalance_52 rfl (lv_at hl 0 rfl) ?_
          refine lv_iload_n hx hb dX9_isBalance_53 rfl (lv_at hl 2 rfl) ?_
          refine lv_iload hx hb dX9_isBalance_54 (lv_at hl 6 rfl) ?_
          refine lv_iload hx hb dX9_isBalance_56 (lv_at hl 5 rfl) ?_
          refine r_V [] E G (c_X9_mayStand l Z q S Y p2 (nI k) p5 hI hw hst) kX9_mayStand m_798 0 rfl rfl ⟨Nat.le_of_ble_eq_true rfl, Nat.le_of_ble_eq_true rfl⟩ hl dX9_isBalance_58 rfl rfl (Nat.le_of_ble_eq_true rfl) ⟨Nat.zero_le _, Nat.zero_le _⟩ (fun H locs G => ?_)
          refine r_eqb (tgt := 91) hx hb dX9_isBalance_61 (by decide) (fun c_61 => ?_) (fun c_61 => ?_)
          · skip
            refine lv_iinc (v := (nI k) + 1) (lv' := [(6, .int ((nI k) + 1)), (0, .ref (q 0)), (1, .int (p1)), (2, .int (p2)), (3, .int (p3)), (4, .int (p4)), (5, .int (p5))]) hx hb dX9_isBalance_91 hl (k := 6) rfl rfl (by decide) rfl (fun ls hl => ?_)
            refine lv_goto (tgt := 3) hx hb dX9_isBalance_94 (by decide) ?_
            exact ih3 (lp_lt h0 hkk c_9) _ _ _ (by simp [btr, hT, c_9, c_9n, c_21, c_47, c_47n, c_61]) (by simp [btr, hU, c_9, c_9n, c_21, c_47, c_47n, c_61]) (GW.cast (rfl) G) (lv_cast (lv_sub (l' := [(0, .ref (q 0)), (1, .int (p1)), (2, .int (p2)), (3, .int (p3)), (4, .int (p4)), (5, .int (p5)), (6, .int ((nI k) + 1))]) hl [1, 2, 3, 4, 5, 6, 0] rfl) (by rw [nI_1]))
          · skip
            refine lv_aload_n hx hb dX9_isBalance_64 rfl (lv_at hl 0 rfl) ?_
            refine lv_iload_n hx hb dX9_isBalance_65 rfl (lv_at hl 2 rfl) ?_
            refine lv_iload_n hx hb dX9_isBalance_66 rfl (lv_at hl 1 rfl) ?_
            refine lv_iload hx hb dX9_isBalance_67 (lv_at hl 6 rfl) ?_
            refine lv_iload_n hx hb dX9_isBalance_69 rfl (lv_at hl 3 rfl) ?_
            refine lv_iload hx hb dX9_isBalance_70 (lv_at hl 5 rfl) ?_
            refine r_V [] E G (c_X9_getsOf l Z q S Y p2 p1 (nI k) p3 p5 hI hst h2) kX9_getsOf m_886 0 rfl rfl ⟨Nat.le_of_ble_eq_true rfl, Nat.le_of_ble_eq_true rfl⟩ hl dX9_isBalance_72 rfl rfl (Nat.le_of_ble_eq_true rfl) ⟨Nat.zero_le _, Nat.zero_le _⟩ (fun H locs G => ?_)
            refine lv_aload_n hx hb dX9_isBalance_75 rfl (lv_at hl 0 rfl) ?_
            refine lv_iload_n hx hb dX9_isBalance_76 rfl (lv_at hl 2 rfl) ?_
            refine lv_iload_n hx hb dX9_isBalance_77 rfl (lv_at hl 1 rfl) ?_
            refine lv_iload hx hb dX9_isBalance_78 (lv_at hl 4 rfl) ?_
            refine lv_iload_n hx hb dX9_isBalance_80 rfl (lv_at hl 3 rfl) ?_
            refine lv_iload hx hb dX9_isBalance_81 (lv_at hl 5 rfl) ?_
            refine r_V [.int (geS S p2 p1 (nI k) p3 p5)] E G (c_X9_getsOf l Z q S Y p2 p1 p4 p3 p5 hI h3 h2) kX9_getsOf m_886 0 rfl rfl ⟨Nat.le_of_ble_eq_true rfl, Nat.le_of_ble_eq_true rfl⟩ hl dX9_isBalance_83 rfl rfl (Nat.le_of_ble_eq_true rfl) ⟨Nat.zero_le _, Nat.zero_le _⟩ (fun H locs G => ?_)
            refine lv_icmp_le (tgt := 91) hx hb dX9_isBalance_86 (by decide) (fun c_86 => ?_) (fun c_86 => ?_)
            · skip
              have c_86n := Int32.not_lt.mpr c_86
              refine lv_iinc (v := (nI k) + 1) (lv' := [(6, .int ((nI k) + 1)), (0, .ref (q 0)), (1, .int (p1)), (2, .int (p2)), (3, .int (p3)), (4, .int (p4)), (5, .int (p5))]) hx hb dX9_isBalance_91 hl (k := 6) rfl rfl (by decide) rfl (fun ls hl => ?_)
              refine lv_goto (tgt := 3) hx hb dX9_isBalance_94 (by decide) ?_
              exact ih3 (lp_lt h0 hkk c_9) _ _ _ (by simp [btr, hT, c_9, c_9n, c_21, c_47, c_47n, c_61, c_86, c_86n]) (by simp [btr, hU, c_9, c_9n, c_21, c_47, c_47n, c_61, c_86, c_86n]) (GW.cast (rfl) G) (lv_cast (lv_sub (l' := [(0, .ref (q 0)), (1, .int (p1)), (2, .int (p2)), (3, .int (p3)), (4, .int (p4)), (5, .int (p5)), (6, .int ((nI k) + 1))]) hl [1, 2, 3, 4, 5, 6, 0] rfl) (by rw [nI_1]))
            · skip
              have c_86n := Int32.not_le.mp c_86
              refine lv_iconst (v := 0) hx hb dX9_isBalance_89 (by decide) ?_
              have hs : (blM S p1 p2 p3 p4 p5) = false := by have hT2 := btr_mono (S := S) (v := p2) (o := p1) (t := p3) (h := p5) (x := geS S p2 p1 p4 p3 p5) (k := k + 1) (by simp [btr, c_9, c_9n, c_21, c_47, c_47n, c_61, c_86, c_86n]) _ (lp_lt h0 hkk c_9); simp [blM, hT2]
              exact r_retz E G hr hlk hQ (by decide) (congrArg (fun t => some (Value.int (b01 t))) hs) rfl dX9_isBalance_90
        · skip
          have c_47n := Int32.not_le.mp c_47
          refine lv_iconst (v := 0) hx hb dX9_isBalance_50 (by decide) ?_
          have hs : (blM S p1 p2 p3 p4 p5) = false := by have hT2 := btr_mono (S := S) (v := p1) (o := p2) (t := p4) (h := p5) (x := geS S p1 p2 p3 p4 p5) (k := k + 1) (by simp [btr, c_9, c_9n, c_21, c_47, c_47n]) _ (lp_lt h0 hkk c_9); simp [blM, hT2]
          exact r_retz E G hr hlk hQ (by decide) (congrArg (fun t => some (Value.int (b01 t))) hs) rfl dX9_isBalance_51
  exact L3 0 (Nat.zero_le _) _ _ _ (rfl) (rfl) (GW.cast (rfl) G) (lv_cast (lv_sub (l' := [(0, .ref (q 0)), (1, .int (p1)), (2, .int (p2)), (3, .int (p3)), (4, .int (p4)), (5, .int (p5)), (6, .int (0))]) hl [1, 2, 3, 4, 5, 6, 0] rfl) (by rw [nI_0]))
set_option maxHeartbeats 4000000 in
set_option maxRecDepth 100000 in
theorem c_X9_balance (l : Launch) (Z : ZT) (q : Nat → Nat) (S : St) (Y : YM) (p1 p2 p3 p4 : Int32) (hI : Inv S) : CT l Z yX9_balance cX9_balance 8 (some .int) 5 [.ref (q 0), .int (p1), .int (p2), .int (p3), .int (p4)] (MW Z q S Y) (some (.int ((sp_bal S p1 p2 p3 p4).1))) (MW Z q ((sp_bal S p1 p2 p3 p4).2) (Y)) := by
  refine CE.mk rfl (Nat.le_of_ble_eq_true rfl) (fun p e s m args below meth c A Qx ls E hr hlk hnm hQ G hl => ?_)
  have hx := E.1.1
  have hb := E.1.2.1
  have hl : lv_has ls 8 [(0, .ref (q 0)), (1, .int (p1)), (2, .int (p2)), (3, .int (p3)), (4, .int (p4))] := hl
  have h0 := hI.st.1
  have h6 : nS S ≤ 6 := N6 hI
  refine lv_aload_n hx hb dX9_balance_0 rfl (lv_at hl 0 rfl) ?_
  refine lv_iload_n hx hb dX9_balance_1 rfl (lv_at hl 1 rfl) ?_
  refine lv_iload_n hx hb dX9_balance_2 rfl (lv_at hl 2 rfl) ?_
  refine lv_iload_n hx hb dX9_balance_3 rfl (lv_at hl 3 rfl) ?_
  refine r_V [] E G (c_X9_areTwo l Z q S Y p1 p2 p3 hI) kX9_areTwo m_894 0 rfl rfl ⟨Nat.le_of_ble_eq_true rfl, Nat.le_of_ble_eq_true rfl⟩ hl dX9_balance_4 rfl rfl (Nat.le_of_ble_eq_true rfl) ⟨Nat.zero_le _, Nat.zero_le _⟩ (fun H locs G => ?_)
  refine r_eqb (tgt := 15) hx hb dX9_balance_7 (by decide) (fun c_7 => ?_) (fun c_7 => ?_)
  · skip
    refine lv_aload_n hx hb dX9_balance_15 rfl (lv_at hl 0 rfl) ?_
    refine lv_iconst (v := 1) hx hb dX9_balance_16 (by decide) ?_
    refine r_V [] E G (c_X9_finds l Z q S Y 1 (by decide)) kX9_finds m_746 0 rfl rfl ⟨Nat.le_of_ble_eq_true rfl, Nat.le_of_ble_eq_true rfl⟩ hl dX9_balance_17 rfl rfl (Nat.le_of_ble_eq_true rfl) ⟨Nat.zero_le _, Nat.zero_le _⟩ (fun H locs G => ?_)
    have hs : (sp_bal S p1 p2 p3 p4) = ((fnd S (-1000000 - 1)).1, (fnd S (-1000000 - 1)).2) := by first | (simp [sp_bal, fq1, c_12]; done) | (cases h1 : isVa S p1 <;> cases h2 : isVa S p2 <;> cases h3 : isHo p3 <;> simp [h1, h2, h3] at c_7 <;> simp [sp_bal, fq1, h1, h2, h3, c_7])
    exact r_ret E G hr hlk hQ (by rw [hs]) (by rw [hs]) dX9_balance_20
  · skip
    have h12 := two_h c_7
    refine lv_iload hx hb dX9_balance_10 (lv_at hl 4 rfl) ?_
    refine lv_if_ge (tgt := 21) hx hb dX9_balance_12 (by decide) (fun c_12 => ?_) (fun c_12 => ?_)
    · skip
      have c_12n := Int32.not_lt.mpr c_12
      refine lv_iload hx hb dX9_balance_21 (lv_at hl 4 rfl) ?_
      refine lv_istore (lv' := [(5, .int (p4)), (0, .ref (q 0)), (1, .int (p1)), (2, .int (p2)), (3, .int (p3)), (4, .int (p4))]) hx hb dX9_balance_23 hl (by decide) rfl (fun ls hl => ?_)
      refine lv_iconst (v := 0) hx hb dX9_balance_25 (by decide) ?_
      refine lv_istore (lv' := [(6, .int (0)), (5, .int (p4)), (0, .ref (q 0)), (1, .int (p1)), (2, .int (p2)), (3, .int (p3)), (4, .int (p4))]) hx hb dX9_balance_26 hl (by decide) rfl (fun ls hl => ?_)
      have L28 : ∀ k : Nat, k ≤ nS S → (∀ (H : Heap) (locs : List Loc) (ls : Array Slot), (bal S p1 p2 p3 p4 k).1 = none → GW Z (MW Z q S Y) A s.heap H locs → lv_has ls 8 [(0, .ref (q 0)), (1, .int (p1)), (2, .int (p2)), (3, .int (p3)), (5, .int (p4 - (bal S p1 p2 p3 p4 k).2)), (6, .int (nI k))] → W p l e (rmk 5 0 0) s m args below meth c H locs 0 0 Qx (F0 m 28 ls [])) := by
        refine up_in2 (P := fun k => (∀ (H : Heap) (locs : List Loc) (ls : Array Slot), (bal S p1 p2 p3 p4 k).1 = none → GW Z (MW Z q S Y) A s.heap H locs → lv_has ls 8 [(0, .ref (q 0)), (1, .int (p1)), (2, .int (p2)), (3, .int (p3)), (5, .int (p4 - (bal S p1 p2 p3 p4 k).2)), (6, .int (nI k))] → W p l e (rmk 5 0 0) s m args below meth c H locs 0 0 Qx (F0 m 28 ls []))) (nS S) ?_
        intro k hkk ih28 H locs ls hT G hl
        refine lv_iload hx hb dX9_balance_28 (lv_at hl 5 rfl) ?_
        refine lv_aload_n hx hb dX9_balance_30 rfl (lv_at hl 0 rfl) ?_
        refine gM_0_0 E G m_633 dX9_balance_31 ?_
        refine lv_icmp_ge (tgt := 117) hx hb dX9_balance_34 (by decide) (fun c_34 => ?_) (fun c_34 => ?_)
        · skip
          have c_34n := Int32.not_lt.mpr c_34
          refine lv_aload_n hx hb dX9_balance_117 rfl (lv_at hl 0 rfl) ?_
          refine lv_iconst (v := 2) hx hb dX9_balance_118 (by decide) ?_
          refine r_V [] E G (c_X9_finds l Z q S Y 2 (by decide)) kX9_finds m_746 0 rfl rfl ⟨Nat.le_of_ble_eq_true rfl, Nat.le_of_ble_eq_true rfl⟩ hl dX9_balance_119 rfl rfl (Nat.le_of_ble_eq_true rfl) ⟨Nat.zero_le _, Nat.zero_le _⟩ (fun H locs G => ?_)
          have hs : (sp_bal S p1 p2 p3 p4) = ((fnd S (-1000000 - 2)).1, (fnd S (-1000000 - 2)).2) := by rw [lp_eq h0 hkk c_34] at hT; unfold sp_bal; rw [if_pos (by simp [h12.1, h12.2.1, h12.2.2.1, h12.2.2.2, c_12]), hT]; rfl
          exact r_ret E G hr hlk hQ (by rw [hs]) (by rw [hs]) dX9_balance_122
        · skip
          have c_34n := Int32.not_le.mp c_34
          have hs1 := st_k hI (lp_lt h0 hkk c_34)
          refine lv_iconst (v := 0) hx hb dX9_balance_37 (by decide) ?_
          refine lv_istore (lv' := [(7, .int (0)), (0, .ref (q 0)), (1, .int (p1)), (2, .int (p2)), (3, .int (p3)), (5, .int (p4 - (bal S p1 p2 p3 p4 k).2)), (6, .int (nI k))]) hx hb dX9_balance_38 hl (by decide) rfl (fun ls hl => ?_)
          have L40 : ∀ j : Nat, j ≤ nS S → (∀ (H : Heap) (locs : List Loc) (ls : Array Slot), (brw S p1 p2 p3 p4 (nI k) (bal S p1 p2 p3 p4 k) j).1 = none → GW Z (MW Z q S Y) A s.heap H locs → lv_has ls 8 [(0, .ref (q 0)), (1, .int (p1)), (2, .int (p2)), (3, .int (p3)), (5, .int (p4 - (brw S p1 p2 p3 p4 (nI k) (bal S p1 p2 p3 p4 k) j).2)), (6, .int (nI k)), (7, .int (nI j))] → W p l e (rmk 5 0 0) s m args below meth c H locs 0 0 Qx (F0 m 40 ls [])) := by
            refine up_in2 (P := fun j => (∀ (H : Heap) (locs : List Loc) (ls : Array Slot), (brw S p1 p2 p3 p4 (nI k) (bal S p1 p2 p3 p4 k) j).1 = none → GW Z (MW Z q S Y) A s.heap H locs → lv_has ls 8 [(0, .ref (q 0)), (1, .int (p1)), (2, .int (p2)), (3, .int (p3)), (5, .int (p4 - (brw S p1 p2 p3 p4 (nI k) (bal S p1 p2 p3 p4 k) j).2)), (6, .int (nI k)), (7, .int (nI j))] → W p l e (rmk 5 0 0) s m args below meth c H locs 0 0 Qx (F0 m 40 ls []))) (nS S) ?_
            intro j hkj ih40 H locs ls hU G hl
            refine lv_iload hx hb dX9_balance_40 (lv_at hl 6 rfl) ?_
            refine lv_aload_n hx hb dX9_balance_42 rfl (lv_at hl 0 rfl) ?_
            refine gM_0_0 E G m_633 dX9_balance_43 ?_
            refine lv_icmp_ge (tgt := 111) hx hb dX9_balance_46 (by decide) (fun c_46 => ?_) (fun c_46 => ?_)
            · skip
              have c_46n := Int32.not_lt.mpr c_46
              refine lv_iinc (v := (nI k) + 1) (lv' := [(6, .int ((nI k) + 1)), (0, .ref (q 0)), (1, .int (p1)), (2, .int (p2)), (3, .int (p3)), (5, .int (p4 - (brw S p1 p2 p3 p4 (nI k) (bal S p1 p2 p3 p4 k) j).2)), (7, .int (nI j))]) hx hb dX9_balance_111 hl (k := 5) rfl rfl (by decide) rfl (fun ls hl => ?_)
              refine lv_goto (tgt := 28) hx hb dX9_balance_114 (by decide) ?_
              exact ih28 (lp_lt h0 hkk c_34) _ _ _ (by rw [lp_eq h0 hkj c_46] at hU; exact hU) (GW.cast (rfl) G) (lv_cast (lv_sub (l' := [(0, .ref (q 0)), (1, .int (p1)), (2, .int (p2)), (3, .int (p3)), (5, .int (p4 - (brw S p1 p2 p3 p4 (nI k) (bal S p1 p2 p3 p4 k) j).2)), (6, .int ((nI k) + 1))]) hl [1, 2, 3, 4, 5, 0] rfl) (by rw [nI_1, lp_eq h0 hkj c_46]; rfl))
            · skip
              have c_46n := Int32.not_le.mp c_46
              have hs2 := st_k hI (lp_lt h0 hkj c_46)
              refine lv_aload_n hx hb dX9_balance_49 rfl (lv_at hl 0 rfl) ?_
              refine lv_iload_n hx hb dX9_balance_50 rfl (lv_at hl 1 rfl) ?_
              refine lv_iload hx hb dX9_balance_51 (lv_at hl 5 rfl) ?_
              refine lv_iload_n hx hb dX9_balance_53 rfl (lv_at hl 3 rfl) ?_
              refine r_V [] E G (c_X9_mayStand l Z q S Y p1 (nI k) p3 hI h12.1 hs1) kX9_mayStand m_798 0 rfl rfl ⟨Nat.le_of_ble_eq_true rfl, Nat.le_of_ble_eq_true rfl⟩ hl dX9_balance_54 rfl rfl (Nat.le_of_ble_eq_true rfl) ⟨Nat.zero_le _, Nat.zero_le _⟩ (fun H locs G => ?_)
              refine r_eqb (tgt := 105) hx hb dX9_balance_57 (by decide) (fun c_57 => ?_) (fun c_57 => ?_)
              · skip
                refine lv_iinc (v := (nI j) + 1) (lv' := [(7, .int ((nI j) + 1)), (0, .ref (q 0)), (1, .int (p1)), (2, .int (p2)), (3, .int (p3)), (5, .int (p4 - (brw S p1 p2 p3 p4 (nI k) (bal S p1 p2 p3 p4 k) j).2)), (6, .int (nI k))]) hx hb dX9_balance_105 hl (k := 6) rfl rfl (by decide) rfl (fun ls hl => ?_)
                refine lv_goto (tgt := 40) hx hb dX9_balance_108 (by decide) ?_
                exact ih40 (lp_lt h0 hkj c_46) _ _ _ (by (try simp only [subz] at c_7 c_12 c_12n c_34 c_34n c_46 c_46n c_57); simp [brw, bst, hU, isB_M, c_7, c_12, c_12n, c_34, c_34n, c_46, c_46n, c_57]) (GW.cast (rfl) G) (lv_cast (lv_sub (l' := [(0, .ref (q 0)), (1, .int (p1)), (2, .int (p2)), (3, .int (p3)), (5, .int (p4 - (brw S p1 p2 p3 p4 (nI k) (bal S p1 p2 p3 p4 k) j).2)), (6, .int (nI k)), (7, .int ((nI j) + 1))]) hl [1, 2, 3, 4, 5, 6, 0] rfl) (by (try simp only [subz] at c_7 c_12 c_12n c_34 c_34n c_46 c_46n c_57); simp [nI_1, brw, bst, hU, isB_M, sub1, c_7, c_12, c_12n, c_34, c_34n, c_46, c_46n, c_57]))
              · skip
                refine lv_aload_n hx hb dX9_balance_60 rfl (lv_at hl 0 rfl) ?_
                refine lv_iload_n hx hb dX9_balance_61 rfl (lv_at hl 2 rfl) ?_
                refine lv_iload hx hb dX9_balance_62 (lv_at hl 6 rfl) ?_
                refine lv_iload_n hx hb dX9_balance_64 rfl (lv_at hl 3 rfl) ?_
                refine r_V [] E G (c_X9_mayStand l Z q S Y p2 (nI j) p3 hI h12.2.1 hs2) kX9_mayStand m_798 0 rfl rfl ⟨Nat.le_of_ble_eq_true rfl, Nat.le_of_ble_eq_true rfl⟩ hl dX9_balance_65 rfl rfl (Nat.le_of_ble_eq_true rfl) ⟨Nat.zero_le _, Nat.zero_le _⟩ (fun H locs G => ?_)
                refine r_eqb (tgt := 105) hx hb dX9_balance_68 (by decide) (fun c_68 => ?_) (fun c_68 => ?_)
                · skip
                  refine lv_iinc (v := (nI j) + 1) (lv' := [(7, .int ((nI j) + 1)), (0, .ref (q 0)), (1, .int (p1)), (2, .int (p2)), (3, .int (p3)), (5, .int (p4 - (brw S p1 p2 p3 p4 (nI k) (bal S p1 p2 p3 p4 k) j).2)), (6, .int (nI k))]) hx hb dX9_balance_105 hl (k := 6) rfl rfl (by decide) rfl (fun ls hl => ?_)
                  refine lv_goto (tgt := 40) hx hb dX9_balance_108 (by decide) ?_
                  exact ih40 (lp_lt h0 hkj c_46) _ _ _ (by (try simp only [subz] at c_7 c_12 c_12n c_34 c_34n c_46 c_46n c_57 c_68); simp [brw, bst, hU, isB_M, c_7, c_12, c_12n, c_34, c_34n, c_46, c_46n, c_57, c_68]) (GW.cast (rfl) G) (lv_cast (lv_sub (l' := [(0, .ref (q 0)), (1, .int (p1)), (2, .int (p2)), (3, .int (p3)), (5, .int (p4 - (brw S p1 p2 p3 p4 (nI k) (bal S p1 p2 p3 p4 k) j).2)), (6, .int (nI k)), (7, .int ((nI j) + 1))]) hl [1, 2, 3, 4, 5, 6, 0] rfl) (by (try simp only [subz] at c_7 c_12 c_12n c_34 c_34n c_46 c_46n c_57 c_68); simp [nI_1, brw, bst, hU, isB_M, sub1, c_7, c_12, c_12n, c_34, c_34n, c_46, c_46n, c_57, c_68]))
                · skip
                  refine lv_aload_n hx hb dX9_balance_71 rfl (lv_at hl 0 rfl) ?_
                  refine lv_iload_n hx hb dX9_balance_72 rfl (lv_at hl 1 rfl) ?_
                  refine lv_iload_n hx hb dX9_balance_73 rfl (lv_at hl 2 rfl) ?_
                  refine lv_iload hx hb dX9_balance_74 (lv_at hl 5 rfl) ?_
                  refine lv_iload hx hb dX9_balance_76 (lv_at hl 6 rfl) ?_
                  refine lv_iload_n hx hb dX9_balance_78 rfl (lv_at hl 3 rfl) ?_
                  refine r_V [] E G (c_X9_isBalance l Z q S Y p1 p2 (nI k) (nI j) p3 hI h12.1 h12.2.1 hs1 hs2 h12.2.2.2) kX9_isBalance m_898 0 rfl rfl ⟨Nat.le_of_ble_eq_true rfl, Nat.le_of_ble_eq_true rfl⟩ hl dX9_balance_79 rfl rfl (Nat.le_of_ble_eq_true rfl) ⟨Nat.zero_le _, Nat.zero_le _⟩ (fun H locs G => ?_)
                  refine r_neb (tgt := 88) hx hb dX9_balance_82 (by decide) (fun c_82 => ?_) (fun c_82 => ?_)
                  · skip
                    refine lv_iload hx hb dX9_balance_88 (lv_at hl 4 rfl) ?_
                    refine lv_if_ne (tgt := 102) hx hb dX9_balance_90 (by decide) (fun c_90 => ?_) (fun c_90 => ?_)
                    · skip
                      refine lv_iinc (v := (p4 - (brw S p1 p2 p3 p4 (nI k) (bal S p1 p2 p3 p4 k) j).2) + (-1)) (lv' := [(5, .int ((p4 - (brw S p1 p2 p3 p4 (nI k) (bal S p1 p2 p3 p4 k) j).2) + (-1))), (0, .ref (q 0)), (1, .int (p1)), (2, .int (p2)), (3, .int (p3)), (6, .int (nI k)), (7, .int (nI j))]) hx hb dX9_balance_102 hl (k := 4) rfl rfl (by decide) rfl (fun ls hl => ?_)
                      refine lv_iinc (v := (nI j) + 1) (lv' := [(7, .int ((nI j) + 1)), (5, .int ((p4 - (brw S p1 p2 p3 p4 (nI k) (bal S p1 p2 p3 p4 k) j).2) + (-1))), (0, .ref (q 0)), (1, .int (p1)), (2, .int (p2)), (3, .int (p3)), (6, .int (nI k))]) hx hb dX9_balance_105 hl (k := 6) rfl rfl (by decide) rfl (fun ls hl => ?_)
                      refine lv_goto (tgt := 40) hx hb dX9_balance_108 (by decide) ?_
                      exact ih40 (lp_lt h0 hkj c_46) _ _ _ (by (try simp only [subz] at c_7 c_12 c_12n c_34 c_34n c_46 c_46n c_57 c_68 c_82 c_90); simp [brw, bst, hU, isB_M, c_7, c_12, c_12n, c_34, c_34n, c_46, c_46n, c_57, c_68, c_82, c_90]) (GW.cast (rfl) G) (lv_cast (lv_sub (l' := [(0, .ref (q 0)), (1, .int (p1)), (2, .int (p2)), (3, .int (p3)), (5, .int ((p4 - (brw S p1 p2 p3 p4 (nI k) (bal S p1 p2 p3 p4 k) j).2) + (-1))), (6, .int (nI k)), (7, .int ((nI j) + 1))]) hl [2, 3, 4, 5, 1, 6, 0] rfl) (by (try simp only [subz] at c_7 c_12 c_12n c_34 c_34n c_46 c_46n c_57 c_68 c_82 c_90); simp [nI_1, brw, bst, hU, isB_M, sub1, c_7, c_12, c_12n, c_34, c_34n, c_46, c_46n, c_57, c_68, c_82, c_90]))
                    · skip
                      refine lv_bipush (v := 10) hx hb dX9_balance_93 (by decide) ?_
                      refine lv_iload hx hb dX9_balance_95 (lv_at hl 5 rfl) ?_
                      refine lv_imul hx hb dX9_balance_97 ?_
                      refine lv_iload hx hb dX9_balance_98 (lv_at hl 6 rfl) ?_
                      refine lv_iadd hx hb dX9_balance_100 ?_
                      have hs : (sp_bal S p1 p2 p3 p4) = ((10 * (nI k)) + (nI j), S) := by have hf := bal_f (S := S) (a := p1) (b := p2) (h := p3) (i := p4) (r := 10 * nI k + nI j) (lp_lt h0 hkk c_34) (lp_lt h0 hkj c_46) (by simp only [subz] at c_90; simp [brw, bst, hU, isB_M, c_7, c_12, c_12n, c_34, c_34n, c_46, c_46n, c_57, c_68, c_82, c_90]); unfold sp_bal; rw [if_pos (by simp [h12.1, h12.2.1, h12.2.2.1, h12.2.2.2, c_12]), hf]
                      exact r_ret E G hr hlk hQ (by rw [hs]) (by rw [hs]) dX9_balance_101
                  · skip
                    refine lv_goto (tgt := 105) hx hb dX9_balance_85 (by decide) ?_
                    refine lv_iinc (v := (nI j) + 1) (lv' := [(7, .int ((nI j) + 1)), (0, .ref (q 0)), (1, .int (p1)), (2, .int (p2)), (3, .int (p3)), (5, .int (p4 - (brw S p1 p2 p3 p4 (nI k) (bal S p1 p2 p3 p4 k) j).2)), (6, .int (nI k))]) hx hb dX9_balance_105 hl (k := 6) rfl rfl (by decide) rfl (fun ls hl => ?_)
                    refine lv_goto (tgt := 40) hx hb dX9_balance_108 (by decide) ?_
                    exact ih40 (lp_lt h0 hkj c_46) _ _ _ (by (try simp only [subz] at c_7 c_12 c_12n c_34 c_34n c_46 c_46n c_57 c_68 c_82); simp [brw, bst, hU, isB_M, c_7, c_12, c_12n, c_34, c_34n, c_46, c_46n, c_57, c_68, c_82]) (GW.cast (rfl) G) (lv_cast (lv_sub (l' := [(0, .ref (q 0)), (1, .int (p1)), (2, .int (p2)), (3, .int (p3)), (5, .int (p4 - (brw S p1 p2 p3 p4 (nI k) (bal S p1 p2 p3 p4 k) j).2)), (6, .int (nI k)), (7, .int ((nI j) + 1))]) hl [1, 2, 3, 4, 5, 6, 0] rfl) (by (try simp only [subz] at c_7 c_12 c_12n c_34 c_34n c_46 c_46n c_57 c_68 c_82); simp [nI_1, brw, bst, hU, isB_M, sub1, c_7, c_12, c_12n, c_34, c_34n, c_46, c_46n, c_57, c_68, c_82]))
          exact L40 0 (Nat.zero_le _) _ _ _ (hT) (GW.cast (rfl) G) (lv_cast (lv_sub (l' := [(0, .ref (q 0)), (1, .int (p1)), (2, .int (p2)), (3, .int (p3)), (5, .int (p4 - (bal S p1 p2 p3 p4 k).2)), (6, .int (nI k)), (7, .int (0))]) hl [1, 2, 3, 4, 5, 6, 0] rfl) (by rw [nI_0]; rfl))
      exact L28 0 (Nat.zero_le _) _ _ _ (rfl) (GW.cast (rfl) G) (lv_cast (lv_sub (l' := [(0, .ref (q 0)), (1, .int (p1)), (2, .int (p2)), (3, .int (p3)), (5, .int (p4)), (6, .int (0))]) hl [2, 3, 4, 5, 1, 0] rfl) (by rw [nI_0]; show _ = [_, _, _, _, (5, Value.int (p4 - 0)), _]; rw [Int32.sub_zero]))
    · skip
      have c_12n := Int32.not_le.mp c_12
      refine lv_aload_n hx hb dX9_balance_15 rfl (lv_at hl 0 rfl) ?_
      refine lv_iconst (v := 1) hx hb dX9_balance_16 (by decide) ?_
      refine r_V [] E G (c_X9_finds l Z q S Y 1 (by decide)) kX9_finds m_746 0 rfl rfl ⟨Nat.le_of_ble_eq_true rfl, Nat.le_of_ble_eq_true rfl⟩ hl dX9_balance_17 rfl rfl (Nat.le_of_ble_eq_true rfl) ⟨Nat.zero_le _, Nat.zero_le _⟩ (fun H locs G => ?_)
      have hs : (sp_bal S p1 p2 p3 p4) = ((fnd S (-1000000 - 1)).1, (fnd S (-1000000 - 1)).2) := by first | (simp [sp_bal, fq1, c_12]; done) | (cases h1 : isVa S p1 <;> cases h2 : isVa S p2 <;> cases h3 : isHo p3 <;> simp [h1, h2, h3] at c_7 <;> simp [sp_bal, fq1, h1, h2, h3, c_7])
      exact r_ret E G hr hlk hQ (by rw [hs]) (by rw [hs]) dX9_balance_20
set_option maxHeartbeats 4000000 in
set_option maxRecDepth 100000 in
theorem c_X9_together (l : Launch) (Z : ZT) (q : Nat → Nat) (S : St) (Y : YM) (p1 p2 p3 : Int32) (hI : Inv S) : CT l Z yX9_together cX9_together 9 (some .int) 5 [.ref (q 0), .int (p1), .int (p2), .int (p3)] (MW Z q S Y) (some (.int ((sp_tog S p1 p2 p3).1))) (MW Z q ((sp_tog S p1 p2 p3).2) (Y)) := by
  refine CE.mk rfl (Nat.le_of_ble_eq_true rfl) (fun p e s m args below meth c A Qx ls E hr hlk hnm hQ G hl => ?_)
  have hx := E.1.1
  have hb := E.1.2.1
  have hl : lv_has ls 9 [(0, .ref (q 0)), (1, .int (p1)), (2, .int (p2)), (3, .int (p3))] := hl
  have h0 := hI.st.1
  have h6 : nS S ≤ 6 := N6 hI
  refine lv_aload_n hx hb dX9_together_0 rfl (lv_at hl 0 rfl) ?_
  refine lv_iload_n hx hb dX9_together_1 rfl (lv_at hl 1 rfl) ?_
  refine lv_iload_n hx hb dX9_together_2 rfl (lv_at hl 2 rfl) ?_
  refine lv_iload_n hx hb dX9_together_3 rfl (lv_at hl 3 rfl) ?_
  refine r_V [] E G (c_X9_areTwo l Z q S Y p1 p2 p3 hI) kX9_areTwo m_894 0 rfl rfl ⟨Nat.le_of_ble_eq_true rfl, Nat.le_of_ble_eq_true rfl⟩ hl dX9_together_4 rfl rfl (Nat.le_of_ble_eq_true rfl) ⟨Nat.zero_le _, Nat.zero_le _⟩ (fun H locs G => ?_)
  refine r_neb (tgt := 16) hx hb dX9_together_7 (by decide) (fun c_7 => ?_) (fun c_7 => ?_)
  · skip
    have h12 := two_h c_7
    refine lv_iconst (v := -1) hx hb dX9_together_16 (by decide) ?_
    refine lv_istore (lv' := [(4, .int ((-1))), (0, .ref (q 0)), (1, .int (p1)), (2, .int (p2)), (3, .int (p3))]) hx hb dX9_together_17 hl (by decide) rfl (fun ls hl => ?_)
    refine lv_iconst (v := -1) hx hb dX9_together_19 (by decide) ?_
    refine lv_istore (lv' := [(5, .int ((-1))), (4, .int ((-1))), (0, .ref (q 0)), (1, .int (p1)), (2, .int (p2)), (3, .int (p3))]) hx hb dX9_together_20 hl (by decide) rfl (fun ls hl => ?_)
    refine lv_iconst (v := 0) hx hb dX9_together_22 (by decide) ?_
    refine lv_istore (lv' := [(6, .int (0)), (5, .int ((-1))), (4, .int ((-1))), (0, .ref (q 0)), (1, .int (p1)), (2, .int (p2)), (3, .int (p3))]) hx hb dX9_together_23 hl (by decide) rfl (fun ls hl => ?_)
    have L25 : ∀ k : Nat, k ≤ nS S → (∀ (H : Heap) (locs : List Loc) (ls : Array Slot), GW Z (MW Z q S Y) A s.heap H locs → lv_has ls 9 [(0, .ref (q 0)), (1, .int (p1)), (2, .int (p2)), (3, .int (p3)), (4, .int ((tog S p1 p2 p3 k).1)), (5, .int ((tog S p1 p2 p3 k).2)), (6, .int (nI k))] → W p l e (rmk 5 0 0) s m args below meth c H locs 0 0 Qx (F0 m 25 ls [])) := by
      refine up_in2 (P := fun k => (∀ (H : Heap) (locs : List Loc) (ls : Array Slot), GW Z (MW Z q S Y) A s.heap H locs → lv_has ls 9 [(0, .ref (q 0)), (1, .int (p1)), (2, .int (p2)), (3, .int (p3)), (4, .int ((tog S p1 p2 p3 k).1)), (5, .int ((tog S p1 p2 p3 k).2)), (6, .int (nI k))] → W p l e (rmk 5 0 0) s m args below meth c H locs 0 0 Qx (F0 m 25 ls []))) (nS S) ?_
      intro k hkk ih25 H locs ls G hl
      refine lv_iload hx hb dX9_together_25 (lv_at hl 6 rfl) ?_
      refine lv_aload_n hx hb dX9_together_27 rfl (lv_at hl 0 rfl) ?_
      refine gM_0_0 E G m_633 dX9_together_28 ?_
      refine lv_icmp_ge (tgt := 132) hx hb dX9_together_31 (by decide) (fun c_31 => ?_) (fun c_31 => ?_)
      · skip
        have c_31n := Int32.not_lt.mpr c_31
        refine lv_iload hx hb dX9_together_132 (lv_at hl 4 rfl) ?_
        refine lv_if_ge (tgt := 145) hx hb dX9_together_134 (by decide) (fun c_134 => ?_) (fun c_134 => ?_)
        · skip
          have c_134n := Int32.not_lt.mpr c_134
          refine lv_iload hx hb dX9_together_145 (lv_at hl 4 rfl) ?_
          have hs : (sp_tog S p1 p2 p3) = ((tog S p1 p2 p3 k).1, S) := by have ok := tog_ok hI (a := p1) (b := p2) (h := p3) (nS S) (Nat.le_refl _); rw [lp_eq h0 hkk c_31, tok_neg ok] at c_134n; simp [sp_tog, fq2, lp_eq h0 hkk c_31, h12.1, h12.2.1, h12.2.2.1, h12.2.2.2, c_134n]
          exact r_ret E G hr hlk hQ (by rw [hs]) (by rw [hs]) dX9_together_147
        · skip
          have c_134n := Int32.not_le.mp c_134
          refine lv_aload_n hx hb dX9_together_137 rfl (lv_at hl 0 rfl) ?_
          refine lv_iconst (v := 2) hx hb dX9_together_138 (by decide) ?_
          refine r_V [] E G (c_X9_finds l Z q S Y 2 (by decide)) kX9_finds m_746 0 rfl rfl ⟨Nat.le_of_ble_eq_true rfl, Nat.le_of_ble_eq_true rfl⟩ hl dX9_together_139 rfl rfl (Nat.le_of_ble_eq_true rfl) ⟨Nat.zero_le _, Nat.zero_le _⟩ (fun H locs G => ?_)
          refine lv_goto (tgt := 147) hx hb dX9_together_142 (by decide) ?_
          have hs : (sp_tog S p1 p2 p3) = ((fnd S (-1000000 - 2)).1, (fnd S (-1000000 - 2)).2) := by have ok := tog_ok hI (a := p1) (b := p2) (h := p3) (nS S) (Nat.le_refl _); rw [lp_eq h0 hkk c_31, tok_neg ok] at c_134n; simp [sp_tog, fq2, lp_eq h0 hkk c_31, h12.1, h12.2.1, h12.2.2.1, h12.2.2.2, c_134n]
          exact r_ret E G hr hlk hQ (by rw [hs]) (by rw [hs]) dX9_together_147
      · skip
        have c_31n := Int32.not_le.mp c_31
        have hs1 := st_k hI (lp_lt h0 hkk c_31)
        refine lv_iconst (v := 0) hx hb dX9_together_34 (by decide) ?_
        refine lv_istore (lv' := [(7, .int (0)), (0, .ref (q 0)), (1, .int (p1)), (2, .int (p2)), (3, .int (p3)), (4, .int ((tog S p1 p2 p3 k).1)), (5, .int ((tog S p1 p2 p3 k).2)), (6, .int (nI k))]) hx hb dX9_together_35 hl (by decide) rfl (fun ls hl => ?_)
        have L37 : ∀ j : Nat, j ≤ nS S → (∀ (H : Heap) (locs : List Loc) (ls : Array Slot), GW Z (MW Z q S Y) A s.heap H locs → lv_has ls 9 [(0, .ref (q 0)), (1, .int (p1)), (2, .int (p2)), (3, .int (p3)), (4, .int ((trw S p1 p2 p3 (nI k) (tog S p1 p2 p3 k) j).1)), (5, .int ((trw S p1 p2 p3 (nI k) (tog S p1 p2 p3 k) j).2)), (6, .int (nI k)), (7, .int (nI j))] → W p l e (rmk 5 0 0) s m args below meth c H locs 0 0 Qx (F0 m 37 ls [])) := by
          refine up_in2 (P := fun j => (∀ (H : Heap) (locs : List Loc) (ls : Array Slot), GW Z (MW Z q S Y) A s.heap H locs → lv_has ls 9 [(0, .ref (q 0)), (1, .int (p1)), (2, .int (p2)), (3, .int (p3)), (4, .int ((trw S p1 p2 p3 (nI k) (tog S p1 p2 p3 k) j).1)), (5, .int ((trw S p1 p2 p3 (nI k) (tog S p1 p2 p3 k) j).2)), (6, .int (nI k)), (7, .int (nI j))] → W p l e (rmk 5 0 0) s m args below meth c H locs 0 0 Qx (F0 m 37 ls []))) (nS S) ?_
          intro j hkj ih37 H locs ls G hl
          refine lv_iload hx hb dX9_together_37 (lv_at hl 7 rfl) ?_
          refine lv_aload_n hx hb dX9_together_39 rfl (lv_at hl 0 rfl) ?_
          refine gM_0_0 E G m_633 dX9_together_40 ?_
          refine lv_icmp_ge (tgt := 126) hx hb dX9_together_43 (by decide) (fun c_43 => ?_) (fun c_43 => ?_)
          · skip
            have c_43n := Int32.not_lt.mpr c_43
            refine lv_iinc (v := (nI k) + 1) (lv' := [(6, .int ((nI k) + 1)), (0, .ref (q 0)), (1, .int (p1)), (2, .int (p2)), (3, .int (p3)), (4, .int ((trw S p1 p2 p3 (nI k) (tog S p1 p2 p3 k) j).1)), (5, .int ((trw S p1 p2 p3 (nI k) (tog S p1 p2 p3 k) j).2)), (7, .int (nI j))]) hx hb dX9_together_126 hl (k := 6) rfl rfl (by decide) rfl (fun ls hl => ?_)
            refine lv_goto (tgt := 25) hx hb dX9_together_129 (by decide) ?_
            exact ih25 (lp_lt h0 hkk c_31) _ _ _ (GW.cast (rfl) G) (lv_cast (lv_sub (l' := [(0, .ref (q 0)), (1, .int (p1)), (2, .int (p2)), (3, .int (p3)), (4, .int ((trw S p1 p2 p3 (nI k) (tog S p1 p2 p3 k) j).1)), (5, .int ((trw S p1 p2 p3 (nI k) (tog S p1 p2 p3 k) j).2)), (6, .int ((nI k) + 1))]) hl [1, 2, 3, 4, 5, 6, 0] rfl) (by rw [nI_1, lp_eq h0 hkj c_43]; rfl))
          · skip
            have c_43n := Int32.not_le.mp c_43
            have hs2 := st_k hI (lp_lt h0 hkj c_43)
            refine lv_aload_n hx hb dX9_together_46 rfl (lv_at hl 0 rfl) ?_
            refine lv_iload_n hx hb dX9_together_47 rfl (lv_at hl 1 rfl) ?_
            refine lv_iload hx hb dX9_together_48 (lv_at hl 6 rfl) ?_
            refine lv_iload_n hx hb dX9_together_50 rfl (lv_at hl 3 rfl) ?_
            refine r_V [] E G (c_X9_mayStand l Z q S Y p1 (nI k) p3 hI h12.1 hs1) kX9_mayStand m_798 0 rfl rfl ⟨Nat.le_of_ble_eq_true rfl, Nat.le_of_ble_eq_true rfl⟩ hl dX9_together_51 rfl rfl (Nat.le_of_ble_eq_true rfl) ⟨Nat.zero_le _, Nat.zero_le _⟩ (fun H locs G => ?_)
            refine r_eqb (tgt := 120) hx hb dX9_together_54 (by decide) (fun c_54 => ?_) (fun c_54 => ?_)
            · skip
              refine lv_iinc (v := (nI j) + 1) (lv' := [(7, .int ((nI j) + 1)), (0, .ref (q 0)), (1, .int (p1)), (2, .int (p2)), (3, .int (p3)), (4, .int ((trw S p1 p2 p3 (nI k) (tog S p1 p2 p3 k) j).1)), (5, .int ((trw S p1 p2 p3 (nI k) (tog S p1 p2 p3 k) j).2)), (6, .int (nI k))]) hx hb dX9_together_120 hl (k := 7) rfl rfl (by decide) rfl (fun ls hl => ?_)
              refine lv_goto (tgt := 37) hx hb dX9_together_123 (by decide) ?_
              exact ih37 (lp_lt h0 hkj c_43) _ _ _ (GW.cast (rfl) G) (lv_cast (lv_sub (l' := [(0, .ref (q 0)), (1, .int (p1)), (2, .int (p2)), (3, .int (p3)), (4, .int ((trw S p1 p2 p3 (nI k) (tog S p1 p2 p3 k) j).1)), (5, .int ((trw S p1 p2 p3 (nI k) (tog S p1 p2 p3 k) j).2)), (6, .int (nI k)), (7, .int ((nI j) + 1))]) hl [1, 2, 3, 4, 5, 6, 7, 0] rfl) (by simp [nI_1, trw, tst, c_7, c_31, c_31n, c_43, c_43n, c_54]))
            · skip
              refine lv_aload_n hx hb dX9_together_57 rfl (lv_at hl 0 rfl) ?_
              refine lv_iload_n hx hb dX9_together_58 rfl (lv_at hl 2 rfl) ?_
              refine lv_iload hx hb dX9_together_59 (lv_at hl 7 rfl) ?_
              refine lv_iload_n hx hb dX9_together_61 rfl (lv_at hl 3 rfl) ?_
              refine r_V [] E G (c_X9_mayStand l Z q S Y p2 (nI j) p3 hI h12.2.1 hs2) kX9_mayStand m_798 0 rfl rfl ⟨Nat.le_of_ble_eq_true rfl, Nat.le_of_ble_eq_true rfl⟩ hl dX9_together_62 rfl rfl (Nat.le_of_ble_eq_true rfl) ⟨Nat.zero_le _, Nat.zero_le _⟩ (fun H locs G => ?_)
              refine r_neb (tgt := 71) hx hb dX9_together_65 (by decide) (fun c_65 => ?_) (fun c_65 => ?_)
              · skip
                refine lv_aload_n hx hb dX9_together_71 rfl (lv_at hl 0 rfl) ?_
                refine lv_iload_n hx hb dX9_together_72 rfl (lv_at hl 1 rfl) ?_
                refine lv_iload_n hx hb dX9_together_73 rfl (lv_at hl 2 rfl) ?_
                refine lv_iload hx hb dX9_together_74 (lv_at hl 6 rfl) ?_
                refine lv_iload hx hb dX9_together_76 (lv_at hl 7 rfl) ?_
                refine lv_iload_n hx hb dX9_together_78 rfl (lv_at hl 3 rfl) ?_
                refine r_V [] E G (c_X9_getsOf l Z q S Y p1 p2 (nI k) (nI j) p3 hI hs1 h12.2.2.2) kX9_getsOf m_886 0 rfl rfl ⟨Nat.le_of_ble_eq_true rfl, Nat.le_of_ble_eq_true rfl⟩ hl dX9_together_79 rfl rfl (Nat.le_of_ble_eq_true rfl) ⟨Nat.zero_le _, Nat.zero_le _⟩ (fun H locs G => ?_)
                refine lv_aload_n hx hb dX9_together_82 rfl (lv_at hl 0 rfl) ?_
                refine lv_iload_n hx hb dX9_together_83 rfl (lv_at hl 2 rfl) ?_
                refine lv_iload_n hx hb dX9_together_84 rfl (lv_at hl 1 rfl) ?_
                refine lv_iload hx hb dX9_together_85 (lv_at hl 7 rfl) ?_
                refine lv_iload hx hb dX9_together_87 (lv_at hl 6 rfl) ?_
                refine lv_iload_n hx hb dX9_together_89 rfl (lv_at hl 3 rfl) ?_
                refine r_V [.int (geS S p1 p2 (nI k) (nI j) p3)] E G (c_X9_getsOf l Z q S Y p2 p1 (nI j) (nI k) p3 hI hs2 h12.2.2.2) kX9_getsOf m_886 0 rfl rfl ⟨Nat.le_of_ble_eq_true rfl, Nat.le_of_ble_eq_true rfl⟩ hl dX9_together_90 rfl rfl (Nat.le_of_ble_eq_true rfl) ⟨Nat.zero_le _, Nat.zero_le _⟩ (fun H locs G => ?_)
                refine lv_iadd hx hb dX9_together_93 ?_
                refine lv_istore (lv' := [(8, .int ((geS S p1 p2 (nI k) (nI j) p3) + (geS S p2 p1 (nI j) (nI k) p3))), (0, .ref (q 0)), (1, .int (p1)), (2, .int (p2)), (3, .int (p3)), (4, .int ((trw S p1 p2 p3 (nI k) (tog S p1 p2 p3 k) j).1)), (5, .int ((trw S p1 p2 p3 (nI k) (tog S p1 p2 p3 k) j).2)), (6, .int (nI k)), (7, .int (nI j))]) hx hb dX9_together_94 hl (by decide) rfl (fun ls hl => ?_)
                refine lv_iload hx hb dX9_together_96 (lv_at hl 0 rfl) ?_
                refine lv_iload hx hb dX9_together_98 (lv_at hl 6 rfl) ?_
                refine lv_icmp_gt (tgt := 106) hx hb dX9_together_100 (by decide) (fun c_100 => ?_) (fun c_100 => ?_)
                · skip
                  have c_100n := Int32.not_le.mpr c_100
                  refine lv_bipush (v := 10) hx hb dX9_together_106 (by decide) ?_
                  refine lv_iload hx hb dX9_together_108 (lv_at hl 7 rfl) ?_
                  refine lv_imul hx hb dX9_together_110 ?_
                  refine lv_iload hx hb dX9_together_111 (lv_at hl 8 rfl) ?_
                  refine lv_iadd hx hb dX9_together_113 ?_
                  refine lv_istore (lv' := [(4, .int ((10 * (nI k)) + (nI j))), (8, .int ((geS S p1 p2 (nI k) (nI j) p3) + (geS S p2 p1 (nI j) (nI k) p3))), (0, .ref (q 0)), (1, .int (p1)), (2, .int (p2)), (3, .int (p3)), (5, .int ((trw S p1 p2 p3 (nI k) (tog S p1 p2 p3 k) j).2)), (6, .int (nI k)), (7, .int (nI j))]) hx hb dX9_together_114 hl (by decide) rfl (fun ls hl => ?_)
                  refine lv_iload hx hb dX9_together_116 (lv_at hl 1 rfl) ?_
                  refine lv_istore (lv' := [(5, .int ((geS S p1 p2 (nI k) (nI j) p3) + (geS S p2 p1 (nI j) (nI k) p3))), (4, .int ((10 * (nI k)) + (nI j))), (8, .int ((geS S p1 p2 (nI k) (nI j) p3) + (geS S p2 p1 (nI j) (nI k) p3))), (0, .ref (q 0)), (1, .int (p1)), (2, .int (p2)), (3, .int (p3)), (6, .int (nI k)), (7, .int (nI j))]) hx hb dX9_together_118 hl (by decide) rfl (fun ls hl => ?_)
                  refine lv_iinc (v := (nI j) + 1) (lv' := [(7, .int ((nI j) + 1)), (5, .int ((geS S p1 p2 (nI k) (nI j) p3) + (geS S p2 p1 (nI j) (nI k) p3))), (4, .int ((10 * (nI k)) + (nI j))), (8, .int ((geS S p1 p2 (nI k) (nI j) p3) + (geS S p2 p1 (nI j) (nI k) p3))), (0, .ref (q 0)), (1, .int (p1)), (2, .int (p2)), (3, .int (p3)), (6, .int (nI k))]) hx hb dX9_together_120 hl (k := 8) rfl rfl (by decide) rfl (fun ls hl => ?_)
                  refine lv_goto (tgt := 37) hx hb dX9_together_123 (by decide) ?_
                  exact ih37 (lp_lt h0 hkj c_43) _ _ _ (GW.cast (rfl) G) (lv_cast (lv_sub (l' := [(0, .ref (q 0)), (1, .int (p1)), (2, .int (p2)), (3, .int (p3)), (4, .int ((10 * (nI k)) + (nI j))), (5, .int ((geS S p1 p2 (nI k) (nI j) p3) + (geS S p2 p1 (nI j) (nI k) p3))), (6, .int (nI k)), (7, .int ((nI j) + 1))]) hl [4, 5, 6, 7, 2, 1, 8, 0] rfl) (by simp [nI_1, trw, tst, c_7, c_31, c_31n, c_43, c_43n, c_54, c_65, c_100, c_100n]))
                · skip
                  have c_100n := Int32.not_lt.mp c_100
                  refine lv_goto (tgt := 120) hx hb dX9_together_103 (by decide) ?_
                  refine lv_iinc (v := (nI j) + 1) (lv' := [(7, .int ((nI j) + 1)), (8, .int ((geS S p1 p2 (nI k) (nI j) p3) + (geS S p2 p1 (nI j) (nI k) p3))), (0, .ref (q 0)), (1, .int (p1)), (2, .int (p2)), (3, .int (p3)), (4, .int ((trw S p1 p2 p3 (nI k) (tog S p1 p2 p3 k) j).1)), (5, .int ((trw S p1 p2 p3 (nI k) (tog S p1 p2 p3 k) j).2)), (6, .int (nI k))]) hx hb dX9_together_120 hl (k := 8) rfl rfl (by decide) rfl (fun ls hl => ?_)
                  refine lv_goto (tgt := 37) hx hb dX9_together_123 (by decide) ?_
                  exact ih37 (lp_lt h0 hkj c_43) _ _ _ (GW.cast (rfl) G) (lv_cast (lv_sub (l' := [(0, .ref (q 0)), (1, .int (p1)), (2, .int (p2)), (3, .int (p3)), (4, .int ((trw S p1 p2 p3 (nI k) (tog S p1 p2 p3 k) j).1)), (5, .int ((trw S p1 p2 p3 (nI k) (tog S p1 p2 p3 k) j).2)), (6, .int (nI k)), (7, .int ((nI j) + 1))]) hl [2, 3, 4, 5, 6, 7, 8, 0] rfl) (by simp [nI_1, trw, tst, c_7, c_31, c_31n, c_43, c_43n, c_54, c_65, c_100, c_100n]))
              · skip
                refine lv_goto (tgt := 120) hx hb dX9_together_68 (by decide) ?_
                refine lv_iinc (v := (nI j) + 1) (lv' := [(7, .int ((nI j) + 1)), (0, .ref (q 0)), (1, .int (p1)), (2, .int (p2)), (3, .int (p3)), (4, .int ((trw S p1 p2 p3 (nI k) (tog S p1 p2 p3 k) j).1)), (5, .int ((trw S p1 p2 p3 (nI k) (tog S p1 p2 p3 k) j).2)), (6, .int (nI k))]) hx hb dX9_together_120 hl (k := 7) rfl rfl (by decide) rfl (fun ls hl => ?_)
                refine lv_goto (tgt := 37) hx hb dX9_together_123 (by decide) ?_
                exact ih37 (lp_lt h0 hkj c_43) _ _ _ (GW.cast (rfl) G) (lv_cast (lv_sub (l' := [(0, .ref (q 0)), (1, .int (p1)), (2, .int (p2)), (3, .int (p3)), (4, .int ((trw S p1 p2 p3 (nI k) (tog S p1 p2 p3 k) j).1)), (5, .int ((trw S p1 p2 p3 (nI k) (tog S p1 p2 p3 k) j).2)), (6, .int (nI k)), (7, .int ((nI j) + 1))]) hl [1, 2, 3, 4, 5, 6, 7, 0] rfl) (by simp [nI_1, trw, tst, c_7, c_31, c_31n, c_43, c_43n, c_54, c_65]))
        exact L37 0 (Nat.zero_le _) _ _ _ (GW.cast (rfl) G) (lv_cast (lv_sub (l' := [(0, .ref (q 0)), (1, .int (p1)), (2, .int (p2)), (3, .int (p3)), (4, .int ((tog S p1 p2 p3 k).1)), (5, .int ((tog S p1 p2 p3 k).2)), (6, .int (nI k)), (7, .int (0))]) hl [1, 2, 3, 4, 5, 6, 7, 0] rfl) (by rw [nI_0]; rfl))
    exact L25 0 (Nat.zero_le _) _ _ _ (GW.cast (rfl) G) (lv_cast (lv_sub (l' := [(0, .ref (q 0)), (1, .int (p1)), (2, .int (p2)), (3, .int (p3)), (4, .int ((-1))), (5, .int ((-1))), (6, .int (0))]) hl [3, 4, 5, 6, 2, 1, 0] rfl) (by rw [nI_0]; rfl))
  · skip
    refine lv_aload_n hx hb dX9_together_10 rfl (lv_at hl 0 rfl) ?_
    refine lv_iconst (v := 1) hx hb dX9_together_11 (by decide) ?_
    refine r_V [] E G (c_X9_finds l Z q S Y 1 (by decide)) kX9_finds m_746 0 rfl rfl ⟨Nat.le_of_ble_eq_true rfl, Nat.le_of_ble_eq_true rfl⟩ hl dX9_together_12 rfl rfl (Nat.le_of_ble_eq_true rfl) ⟨Nat.zero_le _, Nat.zero_le _⟩ (fun H locs G => ?_)
    have hs : (sp_tog S p1 p2 p3) = ((fnd S (-1000000 - 1)).1, (fnd S (-1000000 - 1)).2) := by cases h1 : isVa S p1 <;> cases h2 : isVa S p2 <;> cases h3 : isHo p3 <;> simp [h1, h2, h3] at c_7 <;> simp [sp_tog, fq1, h1, h2, h3, c_7]
    exact r_ret E G hr hlk hQ (by rw [hs]) (by rw [hs]) dX9_together_15
