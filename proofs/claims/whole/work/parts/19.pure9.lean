def cum (S : St) (v : Int32) : RL → Int32 × Int32
  | [] => (0, ar (s_so S) v)
  | p :: t => ((cum S v t).1 + slL S v t (cum S v t).2 p.1 p.2, kpL S v t (cum S v t).2 p.1 p.2)
def skA (S : St) (v : Int32) (f g : Nat → Int32) : RL → Prop
  | [] => True
  | p :: t => f t.length = (cum S v (p :: t)).1 ∧ g t.length = (cum S v (p :: t)).2 ∧ skA S v f g t
theorem skA_cong {S : St} {v : Int32} {f g f2 g2 : Nat → Int32} : ∀ {t : RL}, (∀ i, i < t.length → f2 i = f i ∧ g2 i = g i) → skA S v f g t → skA S v f2 g2 t
  | [], _, _ => trivial
  | p :: t, h, c => by
    have h0 := h t.length (Nat.lt_succ_self _)
    exact ⟨h0.1.trans c.1, h0.2.trans c.2.1, skA_cong (fun i hi => h i (Nat.lt_succ_of_lt hi)) c.2.2⟩
def okH (t : RL) : Prop := ∀ p ∈ t, isHo p.2 = true
def MR (S : St) (v : Int32) (Y : YM) (t : RL) : Prop := trA (y_rs Y) (y_rh Y) t ∧ skA S v (y_so Y) (y_ke Y) t ∧ okT S t ∧ okH t
def BM (Y : YM) (B : BT) : Prop := y_bm Y = nI B.1.length ∧ trA (y_bs Y) (y_bh Y) B.1 ∧ (¬ B.1.length = 0 → y_bl Y = B.2.1 ∧ y_bk Y = B.2.2) ∧ B.1.length ≤ 6
theorem MR.tl {S : St} {v : Int32} {Y : YM} {p : Int32 × Int32} {t : RL} (c : MR S v Y (p :: t)) : MR S v Y t := ⟨c.1.2.2, c.2.1.2.2, fun q h => c.2.2.1 q (List.mem_cons_of_mem _ h), fun q h => c.2.2.2 q (List.mem_cons_of_mem _ h)⟩
theorem lt3 (x : Int32) : (x < 3) = (x ≤ 2) := by
  have e := e_lit
  rw [i_le, i_lt]
  exact propext ⟨fun _ => by omega, fun _ => by omega⟩
theorem hfY_L {Y : YM} {k a h : Int32} (ha : ar (y_rs Y) k = a) (hh : ar (y_rh Y) k = h) : ∀ {t : RL}, trA (y_rs Y) (y_rh Y) t → hfY Y k t.length = lateL t a h
  | [], _ => rfl
  | p :: t, c => by
    show (hfY Y k t.length || _) = (lateL t a h || _)
    rw [hfY_L ha hh c.2.2, ha, hh, c.1, c.2.1]
    simp only [lt3]
theorem min_c (x y : Int32) : (if x < y then x else y) = (if y < x then y else x) := by
  by_cases h1 : x < y
  · rw [if_pos h1, if_neg (Int32.not_lt.mpr (Int32.le_of_lt h1))]
  · rw [if_neg h1]
    by_cases h2 : y < x
    · rw [if_pos h2]
    · rw [if_neg h2]
      exact Int32.le_antisymm (Int32.not_lt.mp h1) (Int32.not_lt.mp h2)
theorem au_nI (f : Nat → Int32) {n : Nat} (h : n < 2 ^ 31) (x : Int32) : au f (nI n) x = upd f n x := by unfold au; rw [nI_clamp h]
theorem MR.se {S : St} {v : Int32} {Y : YM} {t : RL} {a h : Int32} (c : MR S v Y t) (hl : t.length < 12) (ha : isSt S a = true) (hh : isHo h = true) : MR S v (seY S v (z_rh (z_rs Y (au (y_rs Y) (nI t.length) a)) (au (y_rh Y) (nI t.length) h)) (nI t.length)) ((a, h) :: t) := by
  obtain ⟨c1, c2, c3, c4⟩ := c
  have hb : t.length < 2 ^ 31 := by omega
  generalize hY : z_rh (z_rs Y (au (y_rs Y) (nI t.length) a)) (au (y_rh Y) (nI t.length) h) = Y2
  have r1 : y_rs Y2 = upd (y_rs Y) t.length a := by rw [← hY, ← au_nI _ hb]; rfl
  have r2 : y_rh Y2 = upd (y_rh Y) t.length h := by rw [← hY, ← au_nI _ hb]; rfl
  have r3 : y_so Y2 = y_so Y := by rw [← hY]; rfl
  have r4 : y_ke Y2 = y_ke Y := by rw [← hY]; rfl
  have t1 : trA (y_rs Y2) (y_rh Y2) t := trA_cong (fun i hi => by rw [r1, r2]; exact ⟨pk_un (by omega), pk_un (by omega)⟩) c1
  have g1 : ar (y_rs Y2) (nI t.length) = a := by rw [ar_nI _ hb, r1]; exact pk_us
  have g2 : ar (y_rh Y2) (nI t.length) = h := by rw [ar_nI _ hb, r2]; exact pk_us
  have w1 : wdY S Y2 (nI t.length) = if lateL t a h then wor S a h / 2 else wor S a h := by unfold wdY; rw [nI_clamp hb, hfY_L g1 g2 t1, g1, g2]
  have hp : hdY S v Y2 (nI t.length) = (cum S v t).2 ∧ pvY Y2 (nI t.length) = (cum S v t).1 := by
    unfold hdY pvY
    cases t with
    | nil => exact ⟨rfl, rfl⟩
    | cons p t0 =>
      have hz : ¬ nI (p :: t0).length = 0 := nI_ne0 (Nat.succ_pos _) hb
      rw [if_neg hz, if_neg hz]
      have e : nI (p :: t0).length - 1 = nI t0.length := nI_pred _
      have hb0 : t0.length < 2 ^ 31 := by have hb : t0.length + 1 < 2 ^ 31 := hb; omega
      rw [e, ar_nI _ hb0, ar_nI _ hb0, r3, r4]
      exact ⟨c2.2.1, c2.1⟩
  have s1 : saY S v Y2 (nI t.length) = slL S v t (cum S v t).2 a h := by unfold saY slL; rw [hp.1, w1]; exact min_c _ _
  refine ⟨⟨?_, ?_, ?_⟩, ⟨?_, ?_, ?_⟩, ?_, ?_⟩
  · show y_rs Y2 t.length = a; rw [r1]; exact pk_us
  · show y_rh Y2 t.length = h; rw [r2]; exact pk_us
  · exact t1
  · show au (y_so Y2) (nI t.length) (pvY Y2 (nI t.length) + saY S v Y2 (nI t.length)) t.length = _
    rw [au_nI _ hb, pk_us, hp.2, s1]; rfl
  · show au (y_ke Y2) (nI t.length) (hdY S v Y2 (nI t.length) - saY S v Y2 (nI t.length) - mel S v (hdY S v Y2 (nI t.length) - saY S v Y2 (nI t.length))) t.length = _
    rw [au_nI _ hb, pk_us, hp.1, s1]; rfl
  · refine skA_cong (fun i hi => ⟨?_, ?_⟩) c2
    · show au (y_so Y2) (nI t.length) _ i = _; rw [au_nI _ hb, r3]; exact pk_un (by omega)
    · show au (y_ke Y2) (nI t.length) _ i = _; rw [au_nI _ hb, r4]; exact pk_un (by omega)
  · intro p hpm
    rcases List.mem_cons.mp hpm with e | e
    · rw [e]; exact ha
    · exact c3 p e
  · intro p hpm
    rcases List.mem_cons.mp hpm with e | e
    · rw [e]; exact hh
    · exact c4 p e
theorem BM.no {S : St} {v : Int32} {Y : YM} {p : Int32 × Int32} {t : RL} {B : BT} (c : MR S v Y (p :: t)) (b : BM Y B) (hl : t.length + 1 ≤ 6) : BM (noY Y (nI (t.length + 1))) (noL B (p :: t) (cum S v (p :: t)).1 (cum S v (p :: t)).2) ∧ MR S v (noY Y (nI (t.length + 1))) (p :: t) ∧ y_tr (noY Y (nI (t.length + 1))) = y_tr Y := by
  have e1 : ar (y_so Y) (nI (t.length + 1) - 1) = (cum S v (p :: t)).1 := by rw [nI_pred, ar_nI _ (by omega)]; exact c.2.1.1
  have e2 : ar (y_ke Y) (nI (t.length + 1) - 1) = (cum S v (p :: t)).2 := by rw [nI_pred, ar_nI _ (by omega)]; exact c.2.1.2.1
  obtain ⟨b1, b2, b3, b4⟩ := b
  have hz : (0 < y_bm Y) ↔ ¬ B.1.length = 0 := by
    rw [b1]
    constructor
    · intro h z; rw [z, nI_0] at h; exact absurd h (by decide)
    · intro h; rw [← nI_0]; exact nI_lt (by omega) (by omega)
  unfold noY noL
  rw [e1, e2, nI_clamp (show t.length + 1 < 2 ^ 31 by omega)]
  by_cases g : B.1.length = 0 ∨ B.2.1 < (cum S v (p :: t)).1
  · rw [if_pos g, if_neg (fun hh => by
      rcases g with z | z
      · exact hz.mp hh.1 z
      · have h3 := (b3 (hz.mp hh.1)).1
        rw [h3] at hh
        exact absurd hh.2 (Int32.not_le.mpr z))]
    refine ⟨⟨rfl, ?_, fun _ => ⟨rfl, rfl⟩, hl⟩, c, rfl⟩
    refine trA_cong (fun i hi => ⟨?_, ?_⟩) c.1
    · show cpA (y_rs Y) (y_bs Y) (t.length + 1) i = _; unfold cpA; rw [if_pos (by have hi : i < t.length + 1 := hi; omega)]
    · show cpA (y_rh Y) (y_bh Y) (t.length + 1) i = _; unfold cpA; rw [if_pos (by have hi : i < t.length + 1 := hi; omega)]
  · have g2 : ¬ B.1.length = 0 := fun z => g (Or.inl z)
    rw [if_neg g, if_pos ⟨hz.mpr g2, by rw [(b3 g2).1]; exact Int32.not_lt.mp (fun z => g (Or.inr z))⟩]
    exact ⟨⟨b1, b2, b3, b4⟩, c, rfl⟩
def gof {α : Type} (f : Nat → α → α) : Nat → Nat → α → α
  | 0, _, a => a
  | r + 1, k, a => gof f r (k + 1) (f k a)
theorem gof_fup {α : Type} (f : Nat → α → α) (a : α) : ∀ r k, gof f r k (fup f a k) = fup f a (k + r)
  | 0, k => rfl
  | r + 1, k => by
    show gof f r (k + 1) (fup f a (k + 1)) = _
    rw [gof_fup f a r (k + 1), show k + 1 + r = k + (r + 1) by omega]
theorem gof_0 {α : Type} (f : Nat → α → α) (a : α) (n : Nat) : gof f n 0 a = fup f a n := by
  have h := gof_fup f a n 0
  rw [Nat.zero_add] at h
  exact h
theorem la_t {h n : Int32} (hh : isHo h = true) (hn : inr n 1 6 = true) (c : 11 ≤ h + n - 1) : 11 = laH h n := by
  have h1 := ho_of hh
  have h2 := in_of hn
  have e := e_lit
  have h3 : (h + n).toInt = h.toInt + n.toInt := i_add (by omega) (by omega)
  have h4 : (h + n - 1).toInt = h.toInt + n.toInt - 1 := by rw [i_sub (by omega) (by omega)]; omega
  rw [i_le] at c
  unfold laH
  by_cases g : 12 < h + n
  · rw [if_pos g]; decide
  · rw [if_neg g, ← Int32.toInt_inj]
    rw [i_lt] at g
    omega
theorem la_f {h n : Int32} (hh : isHo h = true) (hn : inr n 1 6 = true) (c : ¬ 11 ≤ h + n - 1) : h + n - 1 = laH h n := by
  have h1 := ho_of hh
  have h2 := in_of hn
  have e := e_lit
  have h3 : (h + n).toInt = h.toInt + n.toInt := i_add (by omega) (by omega)
  have h4 : (h + n - 1).toInt = h.toInt + n.toInt - 1 := by rw [i_sub (by omega) (by omega)]; omega
  rw [i_le] at c
  unfold laH
  rw [if_neg]
  intro g
  rw [i_lt] at g
  omega
section RE
variable {p : Program} {l : Launch} {e : Env} {R : Room} {s : State} {m : MethodId} {args : Array Value} {below : List Frame} {meth : Method} {c : Code} {H H0 : Heap} {locs : List Loc} {cells slots : Nat} {Q : State → Prop}
variable {cc : ByteArray} {nL pc : Nat} {own : String} {Z : ZT} {w : va_W} {A : Nat → Prop} {ls : Array Slot} {a : Nat}
variable {y : MethodName} {b : ByteArray} {mL k n idx : Nat} {ret : Option FieldType}
theorem r_retvE {post : Option Value → va_W → Prop} (E : EW p m c cc nL s args own Z) (G : GW Z w A s.heap H locs) (hr : meth.sig.returnType = none) (hlk : meth.locks = false) (hQ : Q = MQ below (QA Z A post) args s cells slots A) (hp : post none w) (hdg : decode cc pc = .ok (.return_, 1)) : W p l e R s m args below meth c H locs cells slots Q (F0 m pc ls []) := by
  subst hQ
  exact W.vret E.1.1 E.1.2.1 hr (fun t ht _ => ⟨⟨none, w, rfl, hp, by rw [ht]; exact G.1, G.2.1⟩, G.2.2.1.F ht⟩) G.2.2.1.2.2 hdg hlk
theorem r_retE {post : Option Value → va_W → Prop} (E : EW p m c cc nL s args own Z) (G : GW Z w A s.heap H locs) (hr : meth.sig.returnType = some .int) (hlk : meth.locks = false) (hQ : Q = MQ below (QA Z A post) args s cells slots A) {v : Int32} (hp : post (some (.int v)) w) (hdg : decode cc pc = .ok (.ireturn, 1)) : W p l e R s m args below meth c H locs cells slots Q (F0 m pc ls [.int v]) := by
  subst hQ
  exact W.iret E.1.1 E.1.2.1 hr (fun t ht _ => ⟨⟨some (.int v), w, rfl, hp, by rw [ht]; exact G.1, G.2.1⟩, G.2.2.1.F ht⟩) G.2.2.1.2.2 hdg hlk
theorem r_VE {As : List Value} {post : Option Value → va_W → Prop} {mc ms : Nat} (rest : List Value) (E : EW p m c cc nL s args own Z) (G : GW Z w A s.heap H locs) (hM : CE l Z y b mL ret k mc ms (.ref a :: As) w post) (ky : KV y b mL ret n) (hl : Cond.methodLink own idx y ∈ wU) (j : Nat) {ci : Nat} {fs : List Value} {T : u_T} {N : Nat} (hj : w[j]? = some (a, .inr (ci, fs))) (hcl : vwC[ci]? = some (y.cls, T, N)) (hR : k + 1 ≤ R.frames ∧ 8 + (mL + 11) + 100 * k ≤ R.locals) {st0 : List Value} {lv : List (Nat × Value)} (hl2 : lv_has ls nL lv) (hdg : decode cc pc = .ok (.invokevirtual idx, 3)) (hst : st0 = As.reverse ++ .ref a :: rest) (hn : As.length = n) (hsum : (rest.map fun v => v.category).sum ≤ 8) (hf : cells + mc ≤ R.cells ∧ slots + ms ≤ R.slots)
    (kk : ∀ (rv : Option Value) (w' : va_W) (H1 : Heap) (locs1 : List Loc), post rv w' → GW Z w' A s.heap H1 locs1 → W p l e R s m args below meth c H1 locs1 (cells + mc) (slots + ms) Q (F0 m (pc + 3) ls (rv.toList ++ rest))) : W p l e R s m args below meth c H locs cells slots Q (F0 m pc ls st0) :=
  r_back G (r_runV E G hM ky hl ⟨j, ci, fs, T, N, hj, hcl⟩ hn hR hst hsum hl2 hdg hf) kk
end RE
theorem desc_z {S : St} (hI : Inv S) {v a h k last : Int32} (hh : isHo h = true) (hl : last.toInt ≤ 11) (c : h + lat S v a k ≤ last) (hd : last.toInt - h.toInt < ((0 : Nat) : Int) + 1) : False := by
  have h1 := nx_ho hI (v := v) (s := a) (t := k) hh hl c
  have h2 := lat_rng hI v a k
  rw [i_le, h1.2] at c
  omega
theorem desc_s {S : St} (hI : Inv S) {v a h k last : Int32} {d : Nat} (hh : isHo h = true) (hl : last.toInt ≤ 11) (c : h + lat S v a k ≤ last) (hd : last.toInt - h.toInt < ((d + 1 : Nat) : Int) + 1) : last.toInt - (h + lat S v a k).toInt < (d : Int) + 1 := by
  have h1 := nx_ho hI (v := v) (s := a) (t := k) hh hl c
  have h2 := lat_rng hI v a k
  rw [h1.2]
  omega
theorem exG_1 {S : St} {v last : Int32} {d : Nat} {t : RL} {so st s h : Int32} {k : Nat} {B : BT} (h1 : ¬ h + lat S v s (nI k) ≤ last) : exG S v last d t so st s h k B = B := if_neg (fun hh => h1 hh.1)
theorem exG_2 {S : St} {v last : Int32} {d : Nat} {t : RL} {so st s h : Int32} {k : Nat} {B : BT} (h2 : may S v (nI k) (h + lat S v s (nI k)) = false) : exG S v last d t so st s h k B = B := if_neg (fun hh => by rw [h2] at hh; exact absurd hh.2 (by decide))
theorem exG_d {S : St} {v last : Int32} {d : Nat} {t : RL} {s h : Int32} {k : Nat} {B : BT} (c1 : h + lat S v s (nI k) ≤ last) (c2 : may S v (nI k) (h + lat S v s (nI k)) = true) : exG S v last (d + 1) t (cum S v t).1 (cum S v t).2 s h k B = gof (exG S v last d ((s, h) :: t) (cum S v ((s, h) :: t)).1 (cum S v ((s, h) :: t)).2 (nI k) (h + lat S v s (nI k))) (nS S) 0 (noL B ((nI k, h + lat S v s (nI k)) :: (s, h) :: t) (cum S v ((nI k, h + lat S v s (nI k)) :: (s, h) :: t)).1 (cum S v ((nI k, h + lat S v s (nI k)) :: (s, h) :: t)).2) := by
  rw [gof_0]
  exact if_pos ⟨c1, c2⟩
theorem k_ne {x : Int32} {k : Nat} (hx : 0 ≤ x) (h : k < x.toNatClampNeg) : ¬ nI k = x := fun e => by
  have := (k_lt hx h).2
  rw [e] at this
  exact Int32.lt_irrefl this
theorem MR.tr {S : St} {v : Int32} {Y : YM} {t : RL} (c : MR S v Y t) (f : Nat → Int32) : MR S v (z_tr Y f) t := by
  unfold MR at c ⊢
  rw [e_y_rs_tr, e_y_rh_tr, e_y_so_tr, e_y_ke_tr]
  exact c
theorem BM.tr {Y : YM} {B : BT} (c : BM Y B) (f : Nat → Int32) : BM (z_tr Y f) B := by
  unfold BM at c ⊢
  rw [e_y_bm_tr, e_y_bs_tr, e_y_bh_tr, e_y_bl_tr, e_y_bk_tr]
  exact c
theorem BM.se {S : St} {v : Int32} {Y : YM} {B : BT} (c : BM Y B) (f g : Nat → Int32) (k : Int32) : BM (seY S v (z_rh (z_rs Y f) g) k) B := by
  unfold BM at c ⊢
  unfold seY
  rw [e_y_bm_ke, e_y_bm_so, e_y_bm_rh, e_y_bm_rs, e_y_bs_ke, e_y_bs_so, e_y_bs_rh, e_y_bs_rs, e_y_bh_ke, e_y_bh_so, e_y_bh_rh, e_y_bh_rs, e_y_bl_ke, e_y_bl_so, e_y_bl_rh, e_y_bl_rs, e_y_bk_ke, e_y_bk_so, e_y_bk_rh, e_y_bk_rs]
  exact c
theorem tr_se (S : St) (v : Int32) (Y : YM) (f g : Nat → Int32) (k : Int32) : y_tr (seY S v (z_rh (z_rs Y f) g) k) = y_tr Y := rfl
