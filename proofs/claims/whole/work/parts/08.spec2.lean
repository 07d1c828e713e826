theorem e_lit : (0 : Int32).toInt = 0 ∧ (1 : Int32).toInt = 1 ∧ (2 : Int32).toInt = 2 ∧ (3 : Int32).toInt = 3 ∧ (4 : Int32).toInt = 4 ∧ (5 : Int32).toInt = 5 ∧ (6 : Int32).toInt = 6 ∧ (11 : Int32).toInt = 11 ∧ (12 : Int32).toInt = 12 ∧ (24 : Int32).toInt = 24 := by decide
theorem ix_st {S : St} (hI : Inv S) {a : Int32} (h : isSt S a = true) : vp_in a 6 := by have := st_of hI h; exact vp_of (by omega) (by omega)
theorem ix_va {S : St} (hI : Inv S) {a : Int32} (h : isVa S a = true) : vp_in a 4 := by have := va_of hI h; exact vp_of (by omega) (by omega)
theorem ix_sd {S : St} (hI : Inv S) {a : Int32} (h : isSd S a = true) : vp_in a 24 := by have := sd_of hI h; exact vp_of (by omega) (by omega)
theorem ix_bi {S : St} (hI : Inv S) {a : Int32} (h : isBi S a = true) : vp_in a 12 := by have := bi_of hI h; exact vp_of (by omega) (by omega)
theorem m6 {a b : Int32} (ha : 0 ≤ a.toInt ∧ a.toInt < 6) (hb : 0 ≤ b.toInt ∧ b.toInt < 6) : (a * 6 + b).toInt = a.toInt * 6 + b.toInt := by
  have e6 : (6 : Int32).toInt = 6 := by decide
  have h1 : (a * 6).toInt = a.toInt * 6 := by rw [i_mul (by rw [e6]; omega) (by rw [e6]; omega), e6]
  rw [i_add (by rw [h1]; omega) (by rw [h1]; omega), h1]
theorem m12 {a b : Int32} (ha : 0 ≤ a.toInt ∧ a.toInt < 6) (hb : 0 ≤ b.toInt ∧ b.toInt ≤ 11) : (a * 12 + b).toInt = a.toInt * 12 + b.toInt := by
  have e6 : (12 : Int32).toInt = 12 := by decide
  have h1 : (a * 12).toInt = a.toInt * 12 := by rw [i_mul (by rw [e6]; omega) (by rw [e6]; omega), e6]
  rw [i_add (by rw [h1]; omega) (by rw [h1]; omega), h1]
theorem ix_wy {S : St} (hI : Inv S) {a b : Int32} (ha : isSt S a = true) (hb : isSt S b = true) : vp_in (a * 6 + b) 36 := by
  have h1 := st_of hI ha
  have h2 := st_of hI hb
  exact vp_of (by rw [m6 h1 h2]; omega) (by rw [m6 h1 h2]; omega)
theorem ix_wi {S : St} (hI : Inv S) {a b : Int32} (ha : isSt S a = true) (hb : isHo b = true) : vp_in (a * 12 + b) 72 := by
  have h1 := st_of hI ha
  have h2 := ho_of hb
  exact vp_of (by rw [m12 h1 h2]; omega) (by rw [m12 h1 h2]; omega)
theorem ix_lim {x y : Int32} {n : Nat} (h0 : 0 ≤ x) (h : x < y) (hy : y.toInt = n) : vp_in x n := by
  rw [i_le] at h0
  rw [i_lt] at h
  have e0 : (0 : Int32).toInt = 0 := by decide
  exact vp_of (by omega) (by omega)
theorem ix_fnd {a : Int32} (h : inr (-1000000 - a) 1 5 = true) : vp_in (-1000000 - a) 6 := by
  have h1 := in_of h
  have e := e_lit
  exact vp_of (by omega) (by omega)
theorem fnd_in {a : Int32} (h : inr (-1000000 - a) 1 5 = true) : ¬ (-1000000 - a) < 1 ∧ ¬ 5 < (-1000000 - a) := by
  have h1 := in_of h
  exact ⟨fun c => by rw [i_lt] at c; omega, fun c => by rw [i_lt] at c; omega⟩
theorem le11 (h : Int32) : (h ≤ 11) = (h < 12) := by
  rw [i_le, i_lt]
  have e := e_lit
  have e12 : (12 : Int32).toInt = 12 := by decide
  exact propext ⟨fun _ => by omega, fun _ => by omega⟩
theorem ki_or (k : Int32) : isKi k = (decide (k = 0) || (decide (k = 1) || decide (k = 2))) := by
  unfold isKi inr
  have e := e_lit
  rw [Bool.eq_iff_iff]
  simp only [Bool.and_eq_true, Bool.or_eq_true, decide_eq_true_eq, i_le, ← Int32.toInt_inj]
  omega
theorem nar01 (b : Bool) : vp_nar .boolean (b01 b) = b01 b := by cases b <;> rfl
section RZ
variable {p : Program} {l : Launch} {e : Env} {R : Room} {s : State} {m : MethodId} {args : Array Value} {below : List Frame} {meth : Method} {c : Code} {H H0 : Heap} {locs : List Loc} {cells slots : Nat} {Q : State → Prop} {cc : ByteArray} {nL pc : Nat} {own : String} {Z : ZT} {A : Nat → Prop} {ls : Array Slot} {rest : List Value} {q : Nat → Nat} {S : St} {X : XC}
theorem tC_10 (E : EW p m c cc nL s args own Z) (G : GW Z (CW Z q S X) A H0 H locs) {i x : Int32} (hin : vp_in i 6) (h01 : vp_nar .boolean x = x) (hdg : decode cc pc = .ok (.bastore, 1)) (kk : ∀ (H1 : Heap) (locs1 : List Loc), GW Z (CW Z q (u_sc S (au (s_sc S) i x)) X) A H0 H1 locs1 → W p l e R s m args below meth c H1 locs1 cells slots Q (F0 m (pc + 1) ls rest)) : W p l e R s m args below meth c H locs cells slots Q (F0 m pc ls (.int x :: .int i :: .ref (q 10) :: rest)) := by
  refine va_zast E.1.1 E.1.2.1 E.2.1 G.1 G.2.1 G.2.2.1 10 1 rfl rfl hin hdg (fun H1 locs1 h1 h2 h3 => ?_)
  rw [h01] at h1 h2
  exact kk H1 locs1 ⟨h1, h2, h3, G.2.2.2⟩
end RZ
-- law, licences, worth, ways
def isLi (S : St) (v s : Int32) : Bool := decide ((ar (s_li S) v >>> (s &&& 31)) &&& 1 = 1)
def isBa (S : St) (s h : Int32) : Bool := decide (ar (s_sc S) s = 1) && inr h (s_bf S) (s_bt S)
def may (S : St) (v s h : Int32) : Bool := isLi S v s && !isBa S s h
def wor (S : St) (s h : Int32) : Int32 := ar (s_wi S) (s * 12 + h) * (s_he S + 2) / 4
def lat (S : St) (v a b : Int32) : Int32 := if a = b then 1 else 1 + ar (s_wy S) (a * 6 + b) + (if ar (s_ki S) v = 2 then 1 else 0)
theorem sc01 {S : St} (hI : Inv S) (s : Int32) : ar (s_sc S) s = 0 ∨ ar (s_sc S) s = 1 := hI.2.1 _
-- stands
def laS (S : St) (v : Int32) : Nat → Int32
  | 0 => -1
  | k + 1 => if s_sv S k = v then nI k else laS S v k
def taS (S : St) (a h : Int32) : Nat → Bool
  | 0 => false
  | k + 1 => taS S a h k || (decide (s_ss S k = a) && decide (s_sh S k = h))
theorem taS_mono {S : St} {a h : Int32} {k : Nat} (c : taS S a h k = true) : ∀ n, k ≤ n → taS S a h n = true := by
  intro n hn
  induction n with
  | zero => rw [show k = 0 by omega] at c; exact c
  | succ n ih =>
    rcases Nat.lt_or_ge k (n + 1) with g | g
    · unfold taS; rw [ih (by omega)]; rfl
    · rw [show k = n + 1 by omega] at c; exact c
def coS (S : St) (v a : Int32) : Nat → Int32
  | 0 => 0
  | k + 1 => if s_sv S k = v ∧ s_ss S k = a then coS S v a k + 1 else coS S v a k
theorem ar_nI (f : Nat → Int32) {k : Nat} (h : k < 2 ^ 31) : ar f (nI k) = f k := by unfold ar; rw [nI_clamp h]
theorem cl_le {x : Int32} {n : Nat} (h0 : 0 ≤ x) (h : x.toInt ≤ n) : x.toNatClampNeg ≤ n := by
  obtain ⟨j, hj, e⟩ := nI_of (x := x) (Int32.not_lt.mpr h0)
  rw [e, nI_toInt hj] at h
  rw [e, nI_clamp hj]
  omega
theorem ix_k {k N n : Nat} (h : k < N) (hN : N ≤ n) (hn : n < 2 ^ 31) : vp_in (nI k) n := vp_in_nI (by omega) hn
theorem cl_nI {x : Int32} (h0 : 0 ≤ x) : nI x.toNatClampNeg = x := by
  obtain ⟨j, hj, e⟩ := nI_of (x := x) (Int32.not_lt.mpr h0)
  rw [e, nI_clamp hj]
theorem at_st {S : St} {a : Int32} (h : isAt S a = true) : isSt S (a / 100) = true := by
  unfold isAt at h; simp only [Bool.and_eq_true] at h; exact h.2.1
theorem at_ho {S : St} {a : Int32} (h : isAt S a = true) : isHo (ho a) = true := by
  unfold isAt at h; simp only [Bool.and_eq_true] at h; exact h.2.2
theorem at_0 {S : St} {a : Int32} (h : isAt S a = true) : 0 ≤ a := by
  unfold isAt at h; simp only [Bool.and_eq_true, decide_eq_true_eq] at h; exact h.1
theorem iy_wy {S : St} (hI : Inv S) {a b : Int32} (ha : isSt S a = true) (hb : isSt S b = true) : vp_in (6 * a + b) 36 := by rw [Int32.mul_comm]; exact ix_wy hI ha hb
theorem iy_wi {S : St} (hI : Inv S) {a b : Int32} (ha : isSt S a = true) (hb : isHo b = true) : vp_in (12 * a + b) 72 := by rw [Int32.mul_comm]; exact ix_wi hI ha hb
def adT (S : St) (k : Int32) : Int32 × St := (s_st S + 1 - 1, u_st (u_sc S (au (s_sc S) (s_st S) k)) (s_st S + 1))
def re10 (a : Int32) : Int32 := a - a / 10 * 10
def isPr (S : St) (s : Int32) : Bool := decide (0 ≤ s) && (isSt S (s / 10) && isSt S (re10 s))
theorem pr_st {S : St} {s : Int32} (h : isPr S s = true) : isSt S (s / 10) = true ∧ isSt S (s - s / 10 * 10) = true := by
  unfold isPr re10 at h; simp only [Bool.and_eq_true] at h; exact h.2
theorem ge_lim {x y : Int32} (h : x ≤ y) : (y ≤ x) = (x = y) := propext ⟨fun g => Int32.le_antisymm h g, fun g => by rw [g]; exact Int32.le_refl _⟩
theorem sd_in {S : St} (hI : Inv S) {n : Int32} (h : isSd S n = true) : isVa S (ar (s_sv S) n) = true ∧ isSt S (ar (s_ss S) n) = true ∧ isHo (ar (s_sh S) n) = true := by
  unfold isSd at h
  simp only [Bool.and_eq_true, decide_eq_true_eq] at h
  obtain ⟨j, hj, e⟩ := nI_of (x := n) (Int32.not_lt.mpr h.1)
  obtain ⟨k, hk, e2⟩ := nI_of (x := s_sd S) (Int32.not_lt.mpr (Int32.le_of_lt (Int32.lt_of_le_of_lt h.1 h.2)))
  have h2 := h.2
  rw [e, e2] at h2
  exact hI.2.2.2.2.1 n.toNatClampNeg (by rw [e, e2, nI_clamp hj, nI_clamp hk]; exact (nI_ltI hj hk).mp h2)
