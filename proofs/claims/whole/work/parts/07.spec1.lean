-- pure: findings, ranges
def fnd (S : St) (a : Int32) : Int32 × St := (a, u_co S (au (s_co S) (-1000000 - a) (ar (s_co S) (-1000000 - a) + 1)))
def inr (v a b : Int32) : Bool := decide (a ≤ v) && decide (v ≤ b)
def isHo (h : Int32) : Bool := inr h 0 11
def isSt (S : St) (a : Int32) : Bool := decide (0 ≤ a) && decide (a < s_st S)
def isVa (S : St) (v : Int32) : Bool := decide (0 ≤ v) && decide (v < s_va S)
def isSd (S : St) (n : Int32) : Bool := decide (0 ≤ n) && decide (n < s_sd S)
def isBi (S : St) (n : Int32) : Bool := decide (0 ≤ n) && decide (n < s_bi S)
def ho (a : Int32) : Int32 := a - a / 100 * 100
def isAt (S : St) (a : Int32) : Bool := decide (0 ≤ a) && (isSt S (a / 100) && isHo (ho a))
def isKi (k : Int32) : Bool := inr k 0 2
def Inv (S : St) : Prop :=
  ((0 ≤ s_st S ∧ s_st S ≤ 6) ∧ (0 ≤ s_va S ∧ s_va S ≤ 4) ∧ (0 ≤ s_sd S ∧ s_sd S ≤ 24) ∧ (0 ≤ s_bi S ∧ s_bi S ≤ 12) ∧ (0 ≤ s_wa S ∧ s_wa S ≤ 12)) ∧
  (∀ i, s_sc S i = 0 ∨ s_sc S i = 1) ∧ (∀ i, 0 ≤ s_wy S i ∧ s_wy S i ≤ 3) ∧ (∀ i, s_ki S i = 0 ∨ s_ki S i = 1 ∨ s_ki S i = 2) ∧
  (∀ i, i < (s_sd S).toNatClampNeg → isVa S (s_sv S i) = true ∧ isSt S (s_ss S i) = true ∧ isHo (s_sh S i) = true) ∧
  (∀ i j, i < j → j < (s_sd S).toNatClampNeg → s_sv S i = s_sv S j → s_sh S i < s_sh S j) ∧
  (0 ≤ s_cr S ∧ s_cr S ≤ 60) ∧ ∀ i, (0 ≤ s_bd S i ∧ s_bd S i ≤ 1000) ∧ (0 ≤ s_du S i ∧ s_du S i ≤ 1060)
theorem Inv.st {S : St} (h : Inv S) : 0 ≤ s_st S ∧ s_st S ≤ 6 := h.1.1
theorem Inv.va {S : St} (h : Inv S) : 0 ≤ s_va S ∧ s_va S ≤ 4 := h.1.2.1
theorem Inv.sd {S : St} (h : Inv S) : 0 ≤ s_sd S ∧ s_sd S ≤ 24 := h.1.2.2.1
theorem Inv.bi {S : St} (h : Inv S) : 0 ≤ s_bi S ∧ s_bi S ≤ 12 := h.1.2.2.2.1
theorem Inv.wa {S : St} (h : Inv S) : 0 ≤ s_wa S ∧ s_wa S ≤ 12 := h.1.2.2.2.2
-- numbers
theorem i_le (x y : Int32) : x ≤ y ↔ x.toInt ≤ y.toInt := Int32.le_iff_toInt_le
theorem i_lt (x y : Int32) : x < y ↔ x.toInt < y.toInt := Int32.lt_iff_toInt_lt
theorem i_rng (x : Int32) : -2147483648 ≤ x.toInt ∧ x.toInt < 2147483648 := ⟨by have := Int32.le_toInt x; exact this, by have := Int32.toInt_lt x; exact this⟩
theorem i_bm {z : Int} (h1 : -2147483648 ≤ z) (h2 : z < 2147483648) : z.bmod (2 ^ 32) = z := by
  rw [Int.bmod_def]
  split <;> omega
theorem i_add {x y : Int32} (h1 : -2147483648 ≤ x.toInt + y.toInt) (h2 : x.toInt + y.toInt < 2147483648) : (x + y).toInt = x.toInt + y.toInt := by
  rw [Int32.toInt_add]; exact i_bm h1 h2
theorem i_sub {x y : Int32} (h1 : -2147483648 ≤ x.toInt - y.toInt) (h2 : x.toInt - y.toInt < 2147483648) : (x - y).toInt = x.toInt - y.toInt := by
  rw [Int32.toInt_sub]; exact i_bm h1 h2
theorem i_mul {x y : Int32} (h1 : -2147483648 ≤ x.toInt * y.toInt) (h2 : x.toInt * y.toInt < 2147483648) : (x * y).toInt = x.toInt * y.toInt := by
  rw [Int32.toInt_mul]; exact i_bm h1 h2
theorem vp_of {x : Int32} {n : Nat} (h1 : 0 ≤ x.toInt) (h2 : x.toInt < n) : vp_in x n := vp_in_iff.mpr ⟨h1, h2⟩
theorem in_of {v a b : Int32} (h : inr v a b = true) : a.toInt ≤ v.toInt ∧ v.toInt ≤ b.toInt := by
  unfold inr at h
  rw [Bool.and_eq_true, decide_eq_true_eq, decide_eq_true_eq, i_le, i_le] at h
  exact h
theorem ho_of {h : Int32} (c : isHo h = true) : 0 ≤ h.toInt ∧ h.toInt ≤ 11 := in_of c
theorem st_of {S : St} (hI : Inv S) {a : Int32} (c : isSt S a = true) : 0 ≤ a.toInt ∧ a.toInt < 6 := by
  unfold isSt at c
  rw [Bool.and_eq_true, decide_eq_true_eq, decide_eq_true_eq, i_le, i_lt] at c
  have h := (i_le _ _).mp hI.st.2
  have e6 : (6 : Int32).toInt = 6 := by decide
  have e0 : (0 : Int32).toInt = 0 := by decide
  omega
theorem va_of {S : St} (hI : Inv S) {a : Int32} (c : isVa S a = true) : 0 ≤ a.toInt ∧ a.toInt < 4 := by
  unfold isVa at c
  rw [Bool.and_eq_true, decide_eq_true_eq, decide_eq_true_eq, i_le, i_lt] at c
  have h := (i_le _ _).mp hI.va.2
  have e6 : (4 : Int32).toInt = 4 := by decide
  have e0 : (0 : Int32).toInt = 0 := by decide
  omega
theorem sd_of {S : St} (hI : Inv S) {a : Int32} (c : isSd S a = true) : 0 ≤ a.toInt ∧ a.toInt < 24 := by
  unfold isSd at c
  rw [Bool.and_eq_true, decide_eq_true_eq, decide_eq_true_eq, i_le, i_lt] at c
  have h := (i_le _ _).mp hI.sd.2
  have e6 : (24 : Int32).toInt = 24 := by decide
  have e0 : (0 : Int32).toInt = 0 := by decide
  omega
theorem bi_of {S : St} (hI : Inv S) {a : Int32} (c : isBi S a = true) : 0 ≤ a.toInt ∧ a.toInt < 12 := by
  unfold isBi at c
  rw [Bool.and_eq_true, decide_eq_true_eq, decide_eq_true_eq, i_le, i_lt] at c
  have h := (i_le _ _).mp hI.bi.2
  have e6 : (12 : Int32).toInt = 12 := by decide
  have e0 : (0 : Int32).toInt = 0 := by decide
  omega
theorem lt_pred {x y : Int32} (h : 0 ≤ y) : (x ≤ y - 1) ↔ x < y := by
  rw [i_le] at h ⊢
  rw [i_lt]
  have e0 : (0 : Int32).toInt = 0 := by decide
  have e1 : (1 : Int32).toInt = 1 := by decide
  have := i_rng y
  rw [i_sub (by omega) (by omega)]
  omega
theorem inr_pred {x y : Int32} (h : 0 ≤ y) : inr x 0 (y - 1) = (decide (0 ≤ x) && decide (x < y)) := by
  unfold inr
  rw [decide_eq_decide.mpr (lt_pred h)]
theorem va_lt {S : St} {v : Int32} (c : isVa S v = true) : v.toNatClampNeg < vn S := by
  unfold isVa at c
  rw [Bool.and_eq_true, decide_eq_true_eq, decide_eq_true_eq] at c
  obtain ⟨j, hj, e⟩ := nI_of (x := v) (Int32.not_lt.mpr c.1)
  obtain ⟨n, hn, e2⟩ := nI_of (x := s_va S) (Int32.not_lt.mpr (Int32.le_of_lt (Int32.lt_of_le_of_lt c.1 c.2)))
  unfold vn
  have c2 := c.2
  rw [e, e2] at c2
  rw [e, e2, nI_clamp hj, nI_clamp hn]
  exact (nI_ltI hj hn).mp c2
section RV2
variable {p : Program} {l : Launch} {e : Env} {R : Room} {s : State} {m : MethodId} {args : Array Value} {below : List Frame} {meth : Method} {c : Code} {H H0 : Heap} {locs : List Loc} {cells slots : Nat} {Q : State → Prop} {cc : ByteArray} {nL pc : Nat} {own : String} {Z : ZT} {A : Nat → Prop} {ls : Array Slot} {rest : List Value} {q : Nat → Nat} {S : St} {X : XC}
theorem hV_0 (E : EW p m c cc nL s args own Z) (G : GW Z (CW Z q S X) A H0 H locs) {v : Int32} (hv : isVa S v = true) {idx : Nat} (hl : Cond.fieldLink own idx "ConeRounds$Van" "stock" "I" ∈ wU) (hdg : decode cc pc = .ok (.getfield idx, 3)) (kk : W p l e R s m args below meth c H locs cells slots Q (F0 m (pc + 3) ls (.int (ar (s_so S) v) :: rest))) : W p l e R s m args below meth c H locs cells slots Q (F0 m pc ls (.ref (q (24 + v.toNatClampNeg)) :: rest)) := gV_0 E G (va_lt hv) hl hdg kk
theorem hV_1 (E : EW p m c cc nL s args own Z) (G : GW Z (CW Z q S X) A H0 H locs) {v : Int32} (hv : isVa S v = true) {idx : Nat} (hl : Cond.fieldLink own idx "ConeRounds$Van" "licence" "I" ∈ wU) (hdg : decode cc pc = .ok (.getfield idx, 3)) (kk : W p l e R s m args below meth c H locs cells slots Q (F0 m (pc + 3) ls (.int (ar (s_li S) v) :: rest))) : W p l e R s m args below meth c H locs cells slots Q (F0 m pc ls (.ref (q (24 + v.toNatClampNeg)) :: rest)) := gV_1 E G (va_lt hv) hl hdg kk
theorem iV_0 (E : EW p m c cc nL s args own Z) (G : GW Z (CW Z q S X) A H0 H locs) {v : Int32} (hv : isVa S v = true) {idx : Nat} (hl : Cond.fieldLink own idx "ConeRounds$Van" "stock" "I" ∈ wU) {x : Int32} (hdg : decode cc pc = .ok (.putfield idx, 3)) (kk : ∀ (H1 : Heap) (locs1 : List Loc), GW Z (CW Z q (u_so S (au (s_so S) v x)) X) A H0 H1 locs1 → W p l e R s m args below meth c H1 locs1 cells slots Q (F0 m (pc + 3) ls rest)) : W p l e R s m args below meth c H locs cells slots Q (F0 m pc ls (.int x :: .ref (q (24 + v.toNatClampNeg)) :: rest)) := pV_0 E G (va_lt hv) hl hdg kk
theorem iV_1 (E : EW p m c cc nL s args own Z) (G : GW Z (CW Z q S X) A H0 H locs) {v : Int32} (hv : isVa S v = true) {idx : Nat} (hl : Cond.fieldLink own idx "ConeRounds$Van" "licence" "I" ∈ wU) {x : Int32} (hdg : decode cc pc = .ok (.putfield idx, 3)) (kk : ∀ (H1 : Heap) (locs1 : List Loc), GW Z (CW Z q (u_li S (au (s_li S) v x)) X) A H0 H1 locs1 → W p l e R s m args below meth c H1 locs1 cells slots Q (F0 m (pc + 3) ls rest)) : W p l e R s m args below meth c H locs cells slots Q (F0 m pc ls (.int x :: .ref (q (24 + v.toNatClampNeg)) :: rest)) := pV_1 E G (va_lt hv) hl hdg kk
theorem vf_t {v : Int32} (hv : isVa S v = true) : va_rf (vf q S v.toNatClampNeg) = .ref (q (24 + v.toNatClampNeg)) := by
  unfold vf
  rw [if_pos (va_lt hv)]
  rfl
end RV2
