-- rounds as lists, the last stand first
abbrev RL : Type := List (Int32 × Int32)
abbrev BT : Type := RL × Int32 × Int32
def trA (f g : Nat → Int32) : RL → Prop
  | [] => True
  | p :: t => f t.length = p.1 ∧ g t.length = p.2 ∧ trA f g t
def lateL : RL → Int32 → Int32 → Bool
  | [], _, _ => false
  | p :: t, s, h => lateL t s h || (decide (p.1 = s) && decide (h - p.2 ≤ 2))
def getL : RL → Nat → Int32 × Int32
  | [], _ => (0, 0)
  | p :: t, i => if i = t.length then p else getL t i
theorem trA_get {f g : Nat → Int32} : ∀ {t : RL}, trA f g t → ∀ i, i < t.length → f i = (getL t i).1 ∧ g i = (getL t i).2
  | [], _, i, h => absurd h (Nat.not_lt_zero i)
  | p :: t, c, i, h => by
    unfold getL
    by_cases e : i = t.length
    · rw [if_pos e, e]; exact ⟨c.1, c.2.1⟩
    · rw [if_neg e]
      exact trA_get c.2.2 i (by have h : i < t.length + 1 := h; omega)
theorem trA_cong {f g f2 g2 : Nat → Int32} : ∀ {t : RL}, (∀ i, i < t.length → f2 i = f i ∧ g2 i = g i) → trA f g t → trA f2 g2 t
  | [], _, _ => trivial
  | p :: t, h, c => by
    have h0 := h t.length (Nat.lt_succ_self _)
    exact ⟨h0.1.trans c.1, h0.2.trans c.2.1, trA_cong (fun i hi => h i (Nat.lt_succ_of_lt hi)) c.2.2⟩
theorem wlX_L {X : XC} {s h : Int32} : ∀ {t : RL}, trA (x_ts X) (x_th X) t → wlX X s h t.length = lateL t s h
  | [], _ => rfl
  | p :: t, c => by
    show (wlX X s h t.length || _) = (lateL t s h || _)
    rw [wlX_L c.2.2, c.1, c.2.1]
def slL (S : St) (v : Int32) (t : RL) (st s h : Int32) : Int32 := if mso S v (if lateL t s h then wor S s h / 2 else wor S s h) < st then mso S v (if lateL t s h then wor S s h / 2 else wor S s h) else st
def kpL (S : St) (v : Int32) (t : RL) (st s h : Int32) : Int32 := st - slL S v t st s h - mel S v (st - slL S v t st s h)
def noL (B : BT) (t : RL) (so st : Int32) : BT := if B.1.length = 0 ∨ B.2.1 < so then (t, so, st) else B
def exL (S : St) (v last : Int32) : Nat → RL → Int32 → Int32 → BT → Int32 → Int32 → BT
  | 0, _, _, _, B, _, _ => B
  | d + 1, t, so, st, B, s, h => fup (fun k B => if h + lat S v s (nI k) ≤ last ∧ may S v (nI k) (h + lat S v s (nI k)) = true then exL S v last d ((s, h) :: t) (so + slL S v t st s h) (kpL S v t st s h) B (nI k) (h + lat S v s (nI k)) else B) (noL B ((s, h) :: t) (so + slL S v t st s h) (kpL S v t st s h)) (nS S)
def exG (S : St) (v last : Int32) (d : Nat) (t : RL) (so st s h : Int32) (k : Nat) (B : BT) : BT := if h + lat S v s (nI k) ≤ last ∧ may S v (nI k) (h + lat S v s (nI k)) = true then exL S v last d ((s, h) :: t) (so + slL S v t st s h) (kpL S v t st s h) B (nI k) (h + lat S v s (nI k)) else B
theorem exL_s (S : St) (v last : Int32) (d : Nat) (t : RL) (so st : Int32) (B : BT) (s h : Int32) : exL S v last (d + 1) t so st B s h = fup (exG S v last d t so st s h) (noL B ((s, h) :: t) (so + slL S v t st s h) (kpL S v t st s h)) (nS S) := rfl
def TR (X : XC) (t : RL) (so st : Int32) : Prop := x_tn X = nI t.length ∧ trA (x_ts X) (x_th X) t ∧ x_tl X = so ∧ x_tk X = st
def BR (X : XC) (B : BT) : Prop := x_bn X = nI B.1.length ∧ trA (x_bs X) (x_bh X) B.1 ∧ x_bl X = B.2.1 ∧ x_bk X = B.2.2 ∧ B.1.length ≤ 12
theorem TR.st {S : St} {v : Int32} {X : XC} {t : RL} {so st s h : Int32} (c : TR X t so st) (hl : t.length < 2 ^ 30) : TR (stX S v X s h (wor S s h)) ((s, h) :: t) (so + slL S v t st s h) (kpL S v t st s h) := by
  obtain ⟨c1, c2, c3, c4⟩ := c
  have hn : nT X = t.length := by unfold nT; rw [c1, nI_clamp (by omega)]
  have hs : slX S v X s h (wor S s h) = slL S v t st s h := by unfold slX wtd slL; rw [hn, wlX_L c2, c4]
  have e1 : ∀ (f : Nat → Int32) (x : Int32), au f (x_tn X) x = upd f t.length x := fun f x => by unfold au; rw [show (x_tn X).toNatClampNeg = t.length from hn]
  refine ⟨?_, ⟨?_, ?_, ?_⟩, ?_, ?_⟩
  · show x_tn X + 1 = nI (t.length + 1); rw [c1, nI_1]
  · show au (x_ts X) (x_tn X) s t.length = s; rw [e1]; exact pk_us
  · show au (x_th X) (x_tn X) h t.length = h; rw [e1]; exact pk_us
  · refine trA_cong (fun i hi => ⟨?_, ?_⟩) c2
    · show au (x_ts X) (x_tn X) s i = _; rw [e1]; exact pk_un (by omega)
    · show au (x_th X) (x_tn X) h i = _; rw [e1]; exact pk_un (by omega)
  · show x_tl X + slX S v X s h (wor S s h) = _; rw [hs, c3]
  · show x_tk X - slX S v X s h (wor S s h) - mel S v (x_tk X - slX S v X s h (wor S s h)) = _; rw [hs, c4]; rfl
theorem BR.cu {X : XC} {t : RL} {so st : Int32} {B : BT} (c : TR X t so st) (b : BR X B) (hl : t.length ≤ 12) : BR (cuX X) (noL B t so st) ∧ TR (cuX X) t so st := by
  obtain ⟨c1, c2, c3, c4⟩ := c
  obtain ⟨b1, b2, b3, b4, b5⟩ := b
  have hn : nT X = t.length := by unfold nT; rw [c1, nI_clamp (by omega)]
  have hz : (x_bn X = 0) ↔ B.1.length = 0 := by
    rw [b1, ← nI_0]
    exact nI_eq (by omega) (by omega)
  unfold cuX noL
  by_cases g : B.1.length = 0 ∨ B.2.1 < so
  · rw [if_pos g, if_pos (by rw [hz, b3, c3]; exact g)]
    refine ⟨⟨c1, ?_, c3, c4, hl⟩, c1, c2, c3, c4⟩
    refine trA_cong (fun i hi => ⟨?_, ?_⟩) c2
    · show cpA (x_ts X) (x_bs X) (nT X) i = _; unfold cpA; rw [if_pos (by have hi : i < t.length := hi; omega)]
    · show cpA (x_th X) (x_bh X) (nT X) i = _; unfold cpA; rw [if_pos (by have hi : i < t.length := hi; omega)]
  · rw [if_neg g, if_neg (by rw [hz, b3, c3]; exact g)]
    exact ⟨⟨b1, b2, b3, b4, b5⟩, c1, c2, c3, c4⟩
theorem exX_L (S : St) (v last : Int32) : ∀ (d : Nat) (X : XC) (t : RL) (so st : Int32) (B : BT) (s h : Int32), TR X t so st → BR X B → t.length + d ≤ 12 → TR (exX S v last d X s h) t so st ∧ BR (exX S v last d X s h) (exL S v last d t so st B s h) := by
  intro d
  induction d with
  | zero => intro X t so st B s h c b _; exact ⟨c, b⟩
  | succ d ih =>
    intro X t so st B s h c b hl
    rw [exX_s, exL_s]
    have hnf : ¬ 12 ≤ x_tn X := by rw [c.1]; exact Int32.not_le.mpr (nI_lt (a := t.length) (b := 12) (by omega) (by decide))
    rw [if_neg hnf]
    have c1 := TR.st (S := S) (v := v) (s := s) (h := h) c (by omega)
    have b1 : BR (stX S v X s h (wor S s h)) B := b
    obtain ⟨b2, c2⟩ := BR.cu c1 b1 (by show t.length + 1 ≤ 12; omega)
    have key : ∀ k, TR (fup (exF S v last d s h) (cuX (stX S v X s h (wor S s h))) k) ((s, h) :: t) (so + slL S v t st s h) (kpL S v t st s h) ∧ BR (fup (exF S v last d s h) (cuX (stX S v X s h (wor S s h))) k) (fup (exG S v last d t so st s h) (noL B ((s, h) :: t) (so + slL S v t st s h) (kpL S v t st s h)) k) := by
      intro k
      induction k with
      | zero => exact ⟨c2, b2⟩
      | succ k ik =>
        show TR (exF S v last d s h k _) _ _ _ ∧ BR (exF S v last d s h k _) (exG S v last d t so st s h k _)
        unfold exF exG
        by_cases g : h + lat S v s (nI k) ≤ last ∧ may S v (nI k) (h + lat S v s (nI k)) = true
        · rw [if_pos g, if_pos g]
          exact ih _ _ _ _ _ _ _ ik.1 ik.2 (by show t.length + 1 + d ≤ 12; omega)
        · rw [if_neg g, if_neg g]
          exact ik
    obtain ⟨k1, k2⟩ := key (nS S)
    refine ⟨⟨?_, k1.2.1.2.2, c.2.2.1, c.2.2.2⟩, k2⟩
    show x_tn _ - 1 = _
    rw [k1.1]
    show nI (t.length + 1) - 1 = _
    rw [nI_pred]
-- the plan
def laH (h n : Int32) : Int32 := (if 12 < h + n then 12 else h + n) - 1
def plB (S : St) (v a n : Int32) : BT := exL S v (laH (ho a) n) 6 [] 0 (ar (s_so S) v) ([], 0, 0) (a / 100) (ho a)
def mkX (S : St) (X : XC) (v a n : Int32) : XC := exX S v (laH (ho a) n) 6 (b5X (b6X X 0) (ar (s_so S) v)) (a / 100) (ho a)
theorem mkX_L (S : St) (X : XC) (v a n : Int32) : BR (mkX S X v a n) (plB S v a n) :=
  (exX_L S v (laH (ho a) n) 6 (b5X (b6X X 0) (ar (s_so S) v)) [] 0 (ar (s_so S) v) ([], 0, 0) (a / 100) (ho a) ⟨nI_0.symm, trivial, rfl, rfl⟩ ⟨nI_0.symm, trivial, rfl, rfl, Nat.zero_le _⟩ (by decide)).2
theorem laH_r {h n : Int32} (hh : isHo h = true) (hn : inr n 1 6 = true) : (laH h n).toInt ≤ 11 ∧ h.toInt ≤ (laH h n).toInt ∧ (laH h n).toInt - h.toInt < 6 := by
  have h1 := ho_of hh
  have h2 := in_of hn
  have e := e_lit
  have h3 : (h + n).toInt = h.toInt + n.toInt := i_add (by omega) (by omega)
  unfold laH
  split
  · rename_i g; rw [i_lt] at g
    rw [i_sub (by omega) (by omega)]; omega
  · rename_i g; rw [i_lt] at g
    rw [i_sub (by omega) (by omega)]; omega
def okP (S : St) (v a n : Int32) : Bool := isVa S v && (isAt S a && inr n 1 6)
def mpV (S : St) (v a n : Int32) : Int32 := if okP S v a n then (if may S v (a / 100) (ho a) then 0 else -1000003) else -1000001
def mpX (S : St) (X : XC) (v a n : Int32) : XC := if mpV S v a n = 0 then mkX S X v a n else X
def sp_plan (S : St) (v a n : Int32) : Int32 × St := if okP S v a n then (if may S v (a / 100) (ho a) then ((plB S v a n).2.1, S) else fnd S (-1000003)) else fnd S (-1000001)
def sp_left (S : St) (v a n : Int32) : Int32 × St := if okP S v a n then (if may S v (a / 100) (ho a) then ((plB S v a n).2.2, S) else fnd S (-1000003)) else fnd S (-1000001)
def sp_stop (S : St) (v a n i : Int32) : Int32 × St := if okP S v a n then (if may S v (a / 100) (ho a) then (if decide (0 ≤ i) && decide (i < nI (plB S v a n).1.length) then (100 * (getL (plB S v a n).1 i.toNatClampNeg).1 + (getL (plB S v a n).1 i.toNatClampNeg).2, S) else fnd S (-1000002)) else fnd S (-1000003)) else fnd S (-1000001)
theorem mpV_c (S : St) (v a n : Int32) : (mpV S v a n = 0 ∧ okP S v a n = true ∧ may S v (a / 100) (ho a) = true) ∨ (mpV S v a n = -1000003 ∧ okP S v a n = true ∧ may S v (a / 100) (ho a) = false) ∨ (mpV S v a n = -1000001 ∧ okP S v a n = false) := by
  unfold mpV
  cases h1 : okP S v a n
  · exact Or.inr (Or.inr ⟨rfl, rfl⟩)
  · cases h2 : may S v (a / 100) (ho a)
    · exact Or.inr (Or.inl ⟨rfl, rfl, rfl⟩)
    · exact Or.inl ⟨rfl, rfl, rfl⟩
theorem mpV_f {S : St} {v a n : Int32} (h : ¬ mpV S v a n = 0) : inr (-1000000 - mpV S v a n) 1 5 = true := by
  rcases mpV_c S v a n with ⟨e, -⟩ | ⟨e, -⟩ | ⟨e, -⟩
  · exact absurd e h
  · rw [e]; decide
  · rw [e]; decide
theorem mpX_0 {S : St} {X : XC} {v a n : Int32} (h : mpV S v a n = 0) : mpX S X v a n = mkX S X v a n := if_pos h
theorem mpX_n {S : St} {X : XC} {v a n : Int32} (h : ¬ mpV S v a n = 0) : mpX S X v a n = X := if_neg h
theorem pl_f {S : St} {v a n : Int32} (h : ¬ mpV S v a n = 0) : sp_plan S v a n = fnd S (mpV S v a n) ∧ sp_left S v a n = fnd S (mpV S v a n) ∧ ∀ i, sp_stop S v a n i = fnd S (mpV S v a n) := by
  rcases mpV_c S v a n with ⟨e, -⟩ | ⟨e, h1, h2⟩ | ⟨e, h1⟩
  · exact absurd e h
  · rw [e]; unfold sp_plan sp_left sp_stop; rw [h1, h2]; exact ⟨rfl, rfl, fun _ => rfl⟩
  · rw [e]; unfold sp_plan sp_left sp_stop; rw [h1]; exact ⟨rfl, rfl, fun _ => rfl⟩
theorem pl_t {S : St} {v a n : Int32} (h : mpV S v a n = 0) : okP S v a n = true ∧ may S v (a / 100) (ho a) = true := by
  rcases mpV_c S v a n with ⟨-, h1, h2⟩ | ⟨e, -⟩ | ⟨e, -⟩
  · exact ⟨h1, h2⟩
  · rw [e] at h; exact absurd h (by decide)
  · rw [e] at h; exact absurd h (by decide)
theorem ix_pl {S : St} {X : XC} {v a n i : Int32} (c : (decide (0 ≤ i) && decide (i < x_bn (mkX S X v a n))) = true) : vp_in i 12 := by
  have b := mkX_L S X v a n
  simp only [Bool.and_eq_true, decide_eq_true_eq, i_le, i_lt] at c
  have e0 : (0 : Int32).toInt = 0 := by decide
  have h1 := b.2.2.2.2
  rw [b.1, nI_toInt (by omega)] at c
  exact vp_of (by omega) (by omega)
theorem pl_at {S : St} {X : XC} {v a n i : Int32} (c : (decide (0 ≤ i) && decide (i < x_bn (mkX S X v a n))) = true) : ar (x_bs (mkX S X v a n)) i = (getL (plB S v a n).1 i.toNatClampNeg).1 ∧ ar (x_bh (mkX S X v a n)) i = (getL (plB S v a n).1 i.toNatClampNeg).2 := by
  have b := mkX_L S X v a n
  have c' := c
  simp only [Bool.and_eq_true, decide_eq_true_eq] at c'
  obtain ⟨j, hj, e⟩ := nI_of (x := i) (Int32.not_lt.mpr c'.1)
  have h1 := b.2.2.2.2
  have h2 := c'.2
  rw [b.1, e] at h2
  have h3 := (nI_ltI hj (by omega)).mp h2
  unfold ar
  rw [e, nI_clamp hj]
  exact trA_get b.2.1 j h3
-- the numbers that wait, as a round
def goL (S : St) (v : Int32) (t : RL) (s h : Int32) : Bool := match t with
  | [] => true
  | p :: _ => decide (h = p.2 + lat S v p.1 s)
abbrev wtk (S : St) (k : Nat) : Int32 := ar (s_wt S) (nI k)
def wkS (S : St) (v : Int32) (k : Nat) (B : BT) : Option BT := if isAt S (wtk S k) && (may S v (wtk S k / 100) (ho (wtk S k)) && goL S v B.1 (wtk S k / 100) (ho (wtk S k))) then some ((wtk S k / 100, ho (wtk S k)) :: B.1, B.2.1 + slL S v B.1 B.2.2 (wtk S k / 100) (ho (wtk S k)), kpL S v B.1 B.2.2 (wtk S k / 100) (ho (wtk S k))) else none
def wkL (S : St) (v : Int32) : Nat → Option BT
  | 0 => some ([], 0, ar (s_so S) v)
  | k + 1 => (wkL S v k).bind (wkS S v k)
theorem wkL_n {S : St} {v : Int32} {k : Nat} (c : wkL S v k = none) : ∀ n, k ≤ n → wkL S v n = none := by
  intro n hn
  induction n with
  | zero => rw [show k = 0 by omega] at c; exact c
  | succ n ih =>
    rcases Nat.lt_or_ge k (n + 1) with g | g
    · unfold wkL; rw [ih (by omega)]; rfl
    · rw [show k = n + 1 by omega] at c; exact c
theorem wkL_len {S : St} {v : Int32} : ∀ {k : Nat} {B : BT}, wkL S v k = some B → B.1.length = k
  | 0, B, h => by cases h; rfl
  | k + 1, B, h => by
    unfold wkL at h
    cases e : wkL S v k with
    | none => rw [e] at h; cases h
    | some C =>
      rw [e] at h
      have h : wkS S v k C = some B := h
      unfold wkS at h
      split at h
      · cases h
        show C.1.length + 1 = k + 1
        rw [wkL_len e]
      · cases h
def okT (S : St) (t : RL) : Prop := ∀ p ∈ t, isSt S p.1 = true
def wkX (S : St) (v : Int32) (X : XC) : Nat → XC
  | 0 => b5X X (ar (s_so S) v)
  | k + 1 => if (wkL S v (k + 1)).isSome then stX S v (wkX S v X k) (wtk S k / 100) (ho (wtk S k)) (wor S (wtk S k / 100) (ho (wtk S k))) else wkX S v X k
theorem wkX_n {S : St} {v : Int32} {X : XC} {k : Nat} (c : wkL S v (k + 1) = none) : ∀ n, k ≤ n → wkX S v X n = wkX S v X k := by
  intro n hn
  induction n with
  | zero => rw [show k = 0 by omega]
  | succ n ih =>
    rcases Nat.lt_or_ge k (n + 1) with g | g
    · show (if (wkL S v (n + 1)).isSome then _ else wkX S v X n) = _
      rw [wkL_n c (n + 1) (by omega)]; exact ih (by omega)
    · rw [show k = n + 1 by omega]
def wkI (S : St) (v : Int32) (X : XC) (k : Nat) : Prop := ∃ B, wkL S v k = some B ∧ TR (wkX S v X k) B.1 B.2.1 B.2.2 ∧ okT S B.1
theorem wkI_0 (S : St) (v : Int32) (X : XC) : wkI S v X 0 := ⟨([], 0, ar (s_so S) v), rfl, ⟨nI_0.symm, trivial, rfl, rfl⟩, fun p h => by cases h⟩
def wkP (S : St) (v : Int32) (X : XC) (n : Nat) : Bool × XC := ((wkL S v n).isSome, wkX S v X n)
theorem wkP_f {S : St} {v : Int32} {X : XC} {k n : Nat} {B : BT} (h1 : wkL S v k = some B) (h2 : wkS S v k B = none) (hk : k < n) : wkP S v X n = (false, wkX S v X k) := by
  have h3 : wkL S v (k + 1) = none := by unfold wkL; rw [h1]; exact h2
  unfold wkP
  rw [wkL_n h3 n (by omega), wkX_n h3 n (by omega)]
  rfl
theorem wkS_t {S : St} {v : Int32} {k : Nat} {B : BT} (h1 : isAt S (wtk S k) = true) (h2 : (may S v (wtk S k / 100) (ho (wtk S k)) && goL S v B.1 (wtk S k / 100) (ho (wtk S k))) = true) : wkS S v k B = some ((wtk S k / 100, ho (wtk S k)) :: B.1, B.2.1 + slL S v B.1 B.2.2 (wtk S k / 100) (ho (wtk S k)), kpL S v B.1 B.2.2 (wtk S k / 100) (ho (wtk S k))) := by
  unfold wkS; rw [if_pos (by rw [h1, h2]; rfl)]
theorem wkS_1 {S : St} {v : Int32} {k : Nat} {B : BT} (h1 : isAt S (wtk S k) = false) : wkS S v k B = none := by unfold wkS; rw [h1]; rfl
theorem wkS_2 {S : St} {v : Int32} {k : Nat} {B : BT} (h2 : (may S v (wtk S k / 100) (ho (wtk S k)) && goL S v B.1 (wtk S k / 100) (ho (wtk S k))) = false) : wkS S v k B = none := by unfold wkS; rw [h2, Bool.and_false]; rfl
theorem wkX_t {S : St} {v : Int32} {X : XC} {k : Nat} {B B2 : BT} (h1 : wkL S v k = some B) (h2 : wkS S v k B = some B2) : stX S v (wkX S v X k) (wtk S k / 100) (ho (wtk S k)) (wor S (wtk S k / 100) (ho (wtk S k))) = wkX S v X (k + 1) := by
  have h3 : wkL S v (k + 1) = some B2 := by unfold wkL; rw [h1]; exact h2
  show _ = if (wkL S v (k + 1)).isSome then _ else _
  rw [h3]; rfl
theorem wkI_s {S : St} {v : Int32} {X : XC} {k : Nat} {B : BT} (hk : k < 12) (h1 : wkL S v k = some B) (c : TR (wkX S v X k) B.1 B.2.1 B.2.2) (o : okT S B.1) (g1 : isAt S (wtk S k) = true) (g2 : (may S v (wtk S k / 100) (ho (wtk S k)) && goL S v B.1 (wtk S k / 100) (ho (wtk S k))) = true) : wkI S v X (k + 1) := by
  have h2 := wkS_t (B := B) g1 g2
  refine ⟨_, by unfold wkL; rw [h1]; exact h2, ?_, ?_⟩
  · rw [← wkX_t h1 h2]
    exact TR.st c (by rw [wkL_len h1]; omega)
  · intro p hp
    rcases List.mem_cons.mp hp with e | e
    · rw [e]; exact at_st g1
    · exact o p e
theorem TR_nil {X : XC} {t : RL} {so st : Int32} (c : TR X t so st) (hl : t.length ≤ 12) (h : x_tn X - 1 < 0) : t = [] := by
  cases t with
  | nil => rfl
  | cons p t =>
    rw [c.1] at h
    have h : nI (t.length + 1) - 1 < 0 := h
    rw [nI_pred] at h
    exact absurd h (nI_pos (by have hl : t.length + 1 ≤ 12 := hl; omega))
theorem TR_last {X : XC} {t : RL} {so st : Int32} (c : TR X t so st) (hl : t.length ≤ 12) (h : ¬ x_tn X - 1 < 0) : ∃ p t0, t = p :: t0 ∧ vp_in (x_tn X - 1) 12 ∧ ar (x_ts X) (x_tn X - 1) = p.1 ∧ ar (x_th X) (x_tn X - 1) = p.2 := by
  cases t with
  | nil => rw [c.1] at h; exact absurd (by decide) h
  | cons p t =>
    have hl : t.length + 1 ≤ 12 := hl
    have e : x_tn X - 1 = nI t.length := by rw [c.1]; show nI (t.length + 1) - 1 = _; rw [nI_pred]
    refine ⟨p, t, rfl, by rw [e]; exact vp_in_nI (by omega) (by decide), ?_, ?_⟩
    · rw [e, ar_nI _ (by omega)]; exact c.2.1.1
    · rw [e, ar_nI _ (by omega)]; exact c.2.1.2.1
def mpP (S : St) (X : XC) (v a n : Int32) : Int32 × XC := (mpV S v a n, mpX S X v a n)
theorem pl_v {S : St} {X : XC} {v a n : Int32} (h : mpV S v a n = 0) : sp_plan S v a n = (x_bl (mpX S X v a n), S) ∧ sp_left S v a n = (x_bk (mpX S X v a n), S) := by
  have b := mkX_L S X v a n
  obtain ⟨h1, h2⟩ := pl_t h
  rw [mpX_0 h, b.2.2.1, b.2.2.2.1]
  unfold sp_plan sp_left
  rw [if_pos h1, if_pos h2, if_pos h1, if_pos h2]
  exact ⟨rfl, rfl⟩
theorem ix_mp {S : St} {X : XC} {v a n i : Int32} (h : mpV S v a n = 0) (c : (decide (0 ≤ i) && decide (i < x_bn (mpX S X v a n))) = true) : vp_in i 12 := ix_pl (X := X) (by rw [← mpX_0 h]; exact c)
theorem sp_t {S : St} {X : XC} {v a n i : Int32} (h : mpV S v a n = 0) (c : (decide (0 ≤ i) && decide (i < x_bn (mpX S X v a n))) = true) : sp_stop S v a n i = (100 * ar (x_bs (mpX S X v a n)) i + ar (x_bh (mpX S X v a n)) i, S) := by
  obtain ⟨h1, h2⟩ := pl_t h
  rw [mpX_0 h] at c ⊢
  have b := mkX_L S X v a n
  have g := pl_at c
  rw [b.1] at c
  unfold sp_stop
  rw [if_pos h1, if_pos h2, if_pos c, g.1, g.2]
theorem sp_f {S : St} {X : XC} {v a n i : Int32} (h : mpV S v a n = 0) (c : (decide (0 ≤ i) && decide (i < x_bn (mpX S X v a n))) = false) : sp_stop S v a n i = fnd S (-1000002) := by
  obtain ⟨h1, h2⟩ := pl_t h
  rw [mpX_0 h] at c
  have b := mkX_L S X v a n
  rw [b.1] at c
  unfold sp_stop
  rw [if_pos h1, if_pos h2, if_neg (by rw [c]; decide)]
theorem Inv.wa0 {S : St} (h : Inv S) : Inv (u_wa S 0) := ⟨⟨h.1.1, h.1.2.1, h.1.2.2.1, h.1.2.2.2.1, show (0 : Int32) ≤ 0 ∧ (0 : Int32) ≤ 12 from by decide⟩, h.2⟩
theorem wa0_eq {S : St} (h : s_wa S = 0) : u_wa S 0 = S := by
  obtain ⟨a, b, c, d, e, f⟩ := S
  have h : e = 0 := h
  subst h
  rfl
def sp_check (S : St) (v : Int32) : Int32 × St := if s_wa S = 0 then fnd S (-1000002) else if isVa S v then (match wkL (u_wa S 0) v (s_wa S).toNatClampNeg with | some B => (B.2.1, u_wa S 0) | none => fnd (u_wa S 0) (-1000003)) else fnd (u_wa S 0) (-1000001)
def ckX (S : St) (X : XC) (v : Int32) : XC := if s_wa S = 0 then X else if isVa S v then wkX (u_wa S 0) v X (s_wa S).toNatClampNeg else X
theorem ck_f {T : St} {X : XC} {v : Int32} {n : Nat} (c : (wkP T v X n).1 = false) : (match wkL T v n with | some B => (B.2.1, T) | none => fnd T (-1000003)) = ((fnd T (-1000003)).1, (fnd T (-1000003)).2) := by
  have c : (wkL T v n).isSome = false := c
  cases e : wkL T v n with
  | none => rfl
  | some B => rw [e] at c; cases c
theorem wkI_all {S : St} {v : Int32} {X : XC} : ∀ {k : Nat} {B : BT}, k ≤ 12 → wkL S v k = some B → TR (wkX S v X k) B.1 B.2.1 B.2.2
  | 0, B, _, h => by cases h; exact ⟨nI_0.symm, trivial, rfl, rfl⟩
  | k + 1, B, hk, h => by
    have h0 := h
    unfold wkL at h
    cases e : wkL S v k with
    | none => rw [e] at h; cases h
    | some C =>
      rw [e] at h
      have h : wkS S v k C = some B := h
      have ih := wkI_all (X := X) (by omega) e
      rw [← wkX_t e h]
      unfold wkS at h
      split at h
      · cases h
        exact TR.st ih (by rw [wkL_len e]; omega)
      · cases h
theorem ck_t {T : St} {X : XC} {v : Int32} {n : Nat} (hn : n ≤ 12) (c : (wkP T v X n).1 = true) : (match wkL T v n with | some B => (B.2.1, T) | none => fnd T (-1000003)) = (x_tl (wkP T v X n).2, T) := by
  have c : (wkL T v n).isSome = true := c
  cases e : wkL T v n with
  | none => rw [e] at c; cases c
  | some B => exact congrArg (fun z => (z, T)) (wkI_all (X := X) hn e).2.2.1.symm
theorem mpP_n {S : St} {X : XC} {v a n c : Int32} (e : mpV S v a n = c) (h : ¬ c = 0) : mpP S X v a n = (c, X) := by
  unfold mpP mpX; rw [e, if_neg h]
theorem mpP_z {S : St} {X : XC} {v a n : Int32} (e : mpV S v a n = 0) : mpP S X v a n = (0, mkX S X v a n) := by
  unfold mpP; rw [mpX_0 e, e]
theorem NW {S : St} (hI : Inv S) : (s_wa S).toNatClampNeg ≤ 12 := cl_le hI.wa.1 (by have := (i_le _ _).mp hI.wa.2; have e := e_lit; omega)
