-- the invariant stays
theorem Inv.fnd {S : St} (h : Inv S) (a : Int32) : Inv (fnd S a).2 := h
theorem inc_r {x y : Int32} (h0 : 0 ≤ x) (h1 : x < y) (hy : y.toInt ≤ 1000) : 0 ≤ x + 1 ∧ x + 1 ≤ y := by
  have e := e_lit
  rw [i_le] at h0; rw [i_lt] at h1
  rw [i_le, i_le, i_add (by omega) (by omega)]
  omega
theorem lt_inc {a x y : Int32} (h : a < x) (h1 : x < y) (hy : y.toInt ≤ 1000) (h0 : 0 ≤ x) : a < x + 1 := by
  have e := e_lit
  rw [i_le] at h0; rw [i_lt] at h h1
  rw [i_lt, i_add (by omega) (by omega)]
  omega
theorem au_all {P : Int32 → Prop} {f : Nat → Int32} {k x : Int32} (h : ∀ i, P (f i)) (hx : P x) : ∀ i, P (au f k x i) := by
  intro i
  unfold au upd
  split
  · exact hx
  · exact h i
theorem Inv.n_le {S : St} (h : Inv S) (f : Nat → Int32) : Inv (u_le S f) := h
theorem Inv.n_sm {S : St} (h : Inv S) (f : Nat → Int32) : Inv (u_sm S f) := h
theorem Inv.n_so {S : St} (h : Inv S) (f : Nat → Int32) : Inv (u_so S f) := h
theorem Inv.n_li {S : St} (h : Inv S) (f : Nat → Int32) : Inv (u_li S f) := h
theorem Inv.n_bd {S : St} (h : Inv S) {f : Nat → Int32} (hf : ∀ i, 0 ≤ f i ∧ f i ≤ 1000) : Inv (u_bd S f) := ⟨h.1, h.2.1, h.2.2.1, h.2.2.2.1, h.2.2.2.2.1, h.2.2.2.2.2.1, h.2.2.2.2.2.2.1, fun i => ⟨hf i, (h.2.2.2.2.2.2.2 i).2⟩⟩
theorem Inv.n_du {S : St} (h : Inv S) {f : Nat → Int32} (hf : ∀ i, 0 ≤ f i ∧ f i ≤ 1060) : Inv (u_du S f) := ⟨h.1, h.2.1, h.2.2.1, h.2.2.2.1, h.2.2.2.2.1, h.2.2.2.2.2.1, h.2.2.2.2.2.2.1, fun i => ⟨(h.2.2.2.2.2.2.2 i).1, hf i⟩⟩
theorem Inv.n_bi {S : St} (h : Inv S) {x : Int32} (hx : 0 ≤ x ∧ x ≤ 12) : Inv (u_bi S x) := ⟨⟨h.1.1, h.1.2.1, h.1.2.2.1, hx, h.1.2.2.2.2⟩, h.2⟩
theorem Inv.n_ki {S : St} (h : Inv S) {f : Nat → Int32} (hf : ∀ i, f i = 0 ∨ f i = 1 ∨ f i = 2) : Inv (u_ki S f) := ⟨h.1, h.2.1, h.2.2.1, hf, h.2.2.2.2⟩
theorem Inv.n_sc {S : St} (h : Inv S) {f : Nat → Int32} (hf : ∀ i, f i = 0 ∨ f i = 1) : Inv (u_sc S f) := ⟨h.1, hf, h.2.2⟩
theorem Inv.n_va {S : St} (h : Inv S) {x : Int32} (hx : 0 ≤ x ∧ x ≤ 4) (hm : ∀ a, a < s_va S → a < x) : Inv (u_va S x) := by
  refine ⟨⟨h.1.1, hx, h.1.2.2⟩, h.2.1, h.2.2.1, h.2.2.2.1, fun i hi => ?_, h.2.2.2.2.2⟩
  obtain ⟨a1, a2, a3⟩ := h.2.2.2.2.1 i hi
  refine ⟨?_, a2, a3⟩
  unfold isVa at a1 ⊢
  simp only [Bool.and_eq_true, decide_eq_true_eq] at a1 ⊢
  exact ⟨a1.1, hm _ a1.2⟩
theorem Inv.n_st {S : St} (h : Inv S) {x : Int32} (hx : 0 ≤ x ∧ x ≤ 6) (hm : ∀ a, a < s_st S → a < x) : Inv (u_st S x) := by
  refine ⟨⟨hx, h.1.2⟩, h.2.1, h.2.2.1, h.2.2.2.1, fun i hi => ?_, h.2.2.2.2.2⟩
  obtain ⟨a1, a2, a3⟩ := h.2.2.2.2.1 i hi
  refine ⟨a1, ?_, a3⟩
  unfold isSt at a2 ⊢
  simp only [Bool.and_eq_true, decide_eq_true_eq] at a2 ⊢
  exact ⟨a2.1, hm _ a2.2⟩
theorem Inv.n_sv {S : St} (h : Inv S) {f : Nat → Int32} (hf : ∀ i, i < (s_sd S).toNatClampNeg → f i = s_sv S i) : Inv (u_sv S f) := by
  refine ⟨h.1, h.2.1, h.2.2.1, h.2.2.2.1, fun i hi => ?_, fun i j hij hj he => ?_, h.2.2.2.2.2.2⟩
  · have hi : i < (s_sd S).toNatClampNeg := hi
    show isVa S (f i) = true ∧ _
    rw [hf i hi]
    exact h.2.2.2.2.1 i hi
  · have hj : j < (s_sd S).toNatClampNeg := hj
    have he : f i = f j := he
    rw [hf i (by omega), hf j hj] at he
    exact h.2.2.2.2.2.1 i j hij hj he
theorem Inv.n_ss {S : St} (h : Inv S) {f : Nat → Int32} (hf : ∀ i, i < (s_sd S).toNatClampNeg → f i = s_ss S i) : Inv (u_ss S f) := by
  refine ⟨h.1, h.2.1, h.2.2.1, h.2.2.2.1, fun i hi => ?_, h.2.2.2.2.2⟩
  have hi : i < (s_sd S).toNatClampNeg := hi
  show _ ∧ isSt S (f i) = true ∧ _
  rw [hf i hi]
  exact h.2.2.2.2.1 i hi
theorem Inv.n_sh {S : St} (h : Inv S) {f : Nat → Int32} (hf : ∀ i, i < (s_sd S).toNatClampNeg → f i = s_sh S i) : Inv (u_sh S f) := by
  refine ⟨h.1, h.2.1, h.2.2.1, h.2.2.2.1, fun i hi => ?_, fun i j hij hj he => ?_, h.2.2.2.2.2.2⟩
  · have hi : i < (s_sd S).toNatClampNeg := hi
    show _ ∧ _ ∧ isHo (f i) = true
    rw [hf i hi]
    exact h.2.2.2.2.1 i hi
  · have hj : j < (s_sd S).toNatClampNeg := hj
    show f i < f j
    rw [hf i (by omega), hf j hj]
    exact h.2.2.2.2.2.1 i j hij hj he
theorem Inv.n_sd {S : St} (h : Inv S) {n : Nat} (hn : (s_sd S).toNatClampNeg = n) {x : Int32} (hx : 0 ≤ x ∧ x ≤ 24) (hc : x.toNatClampNeg = n + 1) (h1 : isVa S (s_sv S n) = true) (h2 : isSt S (s_ss S n) = true) (h3 : isHo (s_sh S n) = true) (h4 : ∀ i, i < n → s_sv S i = s_sv S n → s_sh S i < s_sh S n) : Inv (u_sd S x) := by
  refine ⟨⟨h.1.1, h.1.2.1, hx, h.1.2.2.2⟩, h.2.1, h.2.2.1, h.2.2.2.1, fun i hi => ?_, fun i j hij hj he => ?_, h.2.2.2.2.2.2⟩
  · have hi : i < x.toNatClampNeg := hi
    show isVa S (s_sv S i) = true ∧ isSt S (s_ss S i) = true ∧ isHo (s_sh S i) = true
    by_cases z : i = n
    · rw [z]; exact ⟨h1, h2, h3⟩
    · exact h.2.2.2.2.1 i (by omega)
  · have hj : j < x.toNatClampNeg := hj
    have he : s_sv S i = s_sv S j := he
    show s_sh S i < s_sh S j
    by_cases z : j = n
    · rw [z] at he ⊢; exact h4 i (by omega) he
    · exact h.2.2.2.2.2.1 i j hij (by omega) he
theorem Inv.street {S : St} (h : Inv S) (k : Int32) : Inv (sp_street S k).2 := by
  unfold sp_street
  split
  · rename_i c
    split
    · exact h.fnd _
    · rename_i g
      have hlt := ne_lim h.st.2 g
      rw [in01] at c
      simp only [Bool.or_eq_true, decide_eq_true_eq] at c
      dsimp only
      exact (h.n_sc (au_all (P := fun z => z = 0 ∨ z = 1) h.2.1 c)).n_st (inc_r h.st.1 hlt (by decide)) (fun a ha => lt_inc ha hlt (by decide) h.st.1)
  · exact h.fnd _
theorem Inv.way {S : St} (h : Inv S) (a b v : Int32) : Inv (sp_way S a b v).2 := by
  unfold sp_way
  split
  · rename_i c
    simp only [Bool.and_eq_true] at c
    have h2 : 0 ≤ v ∧ v ≤ 3 := by have := c.2.2.2; unfold inr at this; simp only [Bool.and_eq_true, decide_eq_true_eq] at this; exact this
    exact ⟨h.1, h.2.1, au_all (P := fun z => 0 ≤ z ∧ z ≤ 3) (au_all (P := fun z => 0 ≤ z ∧ z ≤ 3) h.2.2.1 h2) h2, h.2.2.2⟩
  · exact h.fnd _
theorem Inv.wish {S : St} (h : Inv S) (s k v : Int32) : Inv (sp_wish S s k v).2 := by unfold sp_wish; split; exact h; exact h.fnd _
theorem Inv.heat {S : St} (h : Inv S) (v : Int32) : Inv (sp_heat S v).2 := by unfold sp_heat; split; exact h; exact h.fnd _
theorem Inv.as {S : St} (h : Inv S) (v k : Int32) : Inv (sp_as S v k).2 := by
  unfold sp_as; split
  · split; exact h; exact h.fnd _
  · exact h.fnd _
theorem Inv.stock {S : St} (h : Inv S) (v k : Int32) : Inv (sp_stock S v k).2 := by unfold sp_stock; split; exact h; exact h.fnd _
theorem Inv.licence {S : St} (h : Inv S) (v k : Int32) : Inv (sp_licence S v k).2 := by unfold sp_licence; split; exact h; exact h.fnd _
theorem Inv.law {S : St} (h : Inv S) (a b c : Int32) : Inv (sp_law S a b c).2 := by unfold sp_law; split; exact h; exact h.fnd _
theorem Inv.may {S : St} (h : Inv S) (a b c : Int32) : Inv (sp_may S a b c).2 := by unfold sp_may; split; exact h; exact h.fnd _
theorem Inv.worth {S : St} (h : Inv S) (a b : Int32) : Inv (sp_worth S a b).2 := by unfold sp_worth; split; exact h; exact h.fnd _
theorem Inv.plan {S : St} (h : Inv S) (v a n : Int32) : Inv (sp_plan S v a n).2 := by
  unfold sp_plan; split
  · split; exact h; exact h.fnd _
  · exact h.fnd _
theorem Inv.left {S : St} (h : Inv S) (v a n : Int32) : Inv (sp_left S v a n).2 := by
  unfold sp_left; split
  · split; exact h; exact h.fnd _
  · exact h.fnd _
theorem Inv.stop {S : St} (h : Inv S) (v a n i : Int32) : Inv (sp_stop S v a n i).2 := by
  unfold sp_stop; split
  · split
    · split; exact h; exact h.fnd _
    · exact h.fnd _
  · exact h.fnd _
theorem Inv.wrong {S : St} (h : Inv S) (n : Int32) : Inv (sp_wrong S n).2 := by unfold sp_wrong; split; exact h; exact h.fnd _
theorem Inv.clear {S : St} (h : Inv S) : Inv (sp_clear S).2 :=
  ⟨⟨h.1.1, h.1.2.1, show (0 : Int32) ≤ 0 ∧ (0 : Int32) ≤ 24 from by decide, h.1.2.2.2⟩, h.2.1, h.2.2.1, h.2.2.2.1, (fun i hi => absurd hi (Nat.not_lt_zero i)), (fun i j _ hj => absurd hj (Nat.not_lt_zero j)), h.2.2.2.2.2.2⟩
theorem Inv.holder {S : St} (h : Inv S) (s : Int32) : Inv (sp_holder S s).2 := by
  unfold sp_holder; split
  · split; exact h.fnd _; exact h
  · exact h.fnd _
theorem Inv.gets {S : St} (h : Inv S) (a b s k : Int32) : Inv (sp_gets S a b s k).2 := by
  unfold sp_gets; split
  · split; exact h; exact h.fnd _
  · exact h.fnd _
theorem Inv.balance {S : St} (h : Inv S) (a b k i : Int32) : Inv (sp_bal S a b k i).2 := by
  unfold sp_bal; split
  · split; exact h; exact h.fnd _
  · exact h.fnd _
theorem Inv.together {S : St} (h : Inv S) (a b k : Int32) : Inv (sp_tog S a b k).2 := by
  unfold sp_tog; split
  · split; exact h.fnd _; exact h
  · exact h.fnd _
theorem in_le {v a b : Int32} (h : inr v a b = true) : a ≤ v ∧ v ≤ b := by
  unfold inr at h; simp only [Bool.and_eq_true, decide_eq_true_eq] at h; exact h
theorem Inv.credit {S : St} (h : Inv S) (d : Int32) : Inv (sp_credit S d).2 := by
  unfold sp_credit; split
  · rename_i c; exact ⟨h.1, h.2.1, h.2.2.1, h.2.2.2.1, h.2.2.2.2.1, h.2.2.2.2.2.1, in_le c, h.2.2.2.2.2.2.2⟩
  · exact h.fnd _
theorem Inv.bill {S : St} (h : Inv S) (c d : Int32) : Inv (sp_bill S c d).2 := by
  unfold sp_bill; split
  · rename_i g
    simp only [Bool.and_eq_true] at g
    split
    · exact h.fnd _
    · rename_i g2
      have hd := in_le g.2
      have hc := h.2.2.2.2.2.2.1
      have hb := h.2.2.2.2.2.2.2
      have hs : 0 ≤ d + s_cr S ∧ d + s_cr S ≤ 1060 := by
        rw [i_le, i_le] at hd hc
        have e0 : (0 : Int32).toInt = 0 := by decide
        have e1 : (1000 : Int32).toInt = 1000 := by decide
        have e2 : (60 : Int32).toInt = 60 := by decide
        have e3 : (1060 : Int32).toInt = 1060 := by decide
        rw [i_le, i_le, i_add (by omega) (by omega)]
        omega
      unfold adB
      dsimp only
      exact (((h.n_le _).n_bd (au_all (P := fun z => 0 ≤ z ∧ z ≤ 1000) (fun i => (hb i).1) hd)).n_du (au_all (P := fun z => 0 ≤ z ∧ z ≤ 1060) (fun i => (hb i).2) hs)).n_bi (inc_r h.bi.1 (ne_lim h.bi.2 g2) (by decide))
  · exact h.fnd _
theorem Inv.pay {S : St} (h : Inv S) (n c : Int32) : Inv (sp_pay S n c).2 := by
  unfold sp_pay; split
  · split; exact h.fnd _; exact h
  · exact h.fnd _
theorem Inv.owed {S : St} (h : Inv S) (n d : Int32) : Inv (sp_owed S n d).2 := by unfold sp_owed; split; exact h; exact h.fnd _
theorem Inv.tell {S : St} (h : Inv S) (v : Int32) : Inv (sp_tell S v).2 := by
  unfold sp_tell; split
  · exact h.fnd _
  · rename_i g; exact ⟨⟨h.1.1, h.1.2.1, h.1.2.2.1, h.1.2.2.2.1, inc_r h.wa.1 (ne_lim h.wa.2 g) (by decide)⟩, h.2⟩
theorem Inv.check {S : St} (h : Inv S) (v : Int32) : Inv (sp_check S v).2 := by
  unfold sp_check; split
  · exact h.fnd _
  · split
    · split; exact h.wa0; exact h.wa0.fnd _
    · exact h.wa0.fnd _
theorem Inv.count {S : St} (h : Inv S) (w : Int32) : Inv (sp_count S w).2 := by
  unfold sp_count
  repeat' split
  all_goals first | exact h | exact h.fnd _
theorem Inv.found {S : St} (h : Inv S) (k : Int32) : Inv (sp_found S k).2 := by unfold sp_found; split; exact h; exact h.fnd _
theorem Inv.van {S : St} (h : Inv S) (k : Int32) : Inv (sp_van S k).2 := by
  unfold sp_van; split
  · rename_i c
    split
    · exact h.fnd _
    · rename_i g
      have hlt := ne_lim h.va.2 g
      rw [ki_or] at c
      simp only [Bool.or_eq_true, decide_eq_true_eq] at c
      dsimp only
      exact (((h.n_ki (au_all (P := fun z => z = 0 ∨ z = 1 ∨ z = 2) h.2.2.2.1 c)).n_so _).n_li _).n_va (inc_r h.va.1 hlt (by decide)) (fun a ha => lt_inc (by simp only [e_s_va_li, e_s_va_so, e_s_va_ki] at ha; exact ha) hlt (by decide) h.va.1)
  · exact h.fnd _
theorem laS_max (S : St) (v : Int32) : ∀ (n i : Nat), i < n → s_sv S i = v → ∃ j, i ≤ j ∧ j < n ∧ laS S v n = nI j ∧ s_sv S j = v
  | 0, i, h, _ => absurd h (Nat.not_lt_zero i)
  | n + 1, i, h, e => by
    unfold laS
    by_cases g : s_sv S n = v
    · rw [if_pos g]; exact ⟨n, by omega, by omega, rfl, g⟩
    · rw [if_neg g]
      have hi : i < n := by
        rcases Nat.lt_or_ge i n with z | z
        · exact z
        · rw [show i = n by omega] at e; exact absurd e g
      obtain ⟨j, h1, h2, h3, h4⟩ := laS_max S v n i hi e
      exact ⟨j, h1, by omega, h3, h4⟩
theorem Inv.stand {S : St} (h : Inv S) (v a c : Int32) : Inv (sp_stand S v a c).2 := by
  unfold sp_stand; split
  · rename_i g
    simp only [Bool.and_eq_true] at g
    split
    · exact h.fnd _
    · rename_i g1
      split
      · exact h.fnd _
      · rename_i g2
        have hlt := ne_lim h.sd.2 g2
        have h24 := N24 h
        have en : s_sd S = nI (s_sd S).toNatClampNeg := (cl_nI h.sd.1).symm
        have hx := inc_r h.sd.1 hlt (by decide)
        generalize hn : (s_sd S).toNatClampNeg = n at en h24 g1
        have hcl : (s_sd S + 1).toNatClampNeg = n + 1 := by rw [en, nI_1, nI_clamp (by omega)]
        have hau : ∀ (f : Nat → Int32) (x : Int32), au f (s_sd S) x = upd f n x := fun f x => by rw [en]; exact au_nI f (by omega) x
        have hne : ∀ (f : Nat → Int32) (x : Int32) (i : Nat), i < n → upd f n x i = f i := fun f x i hi => pk_un (show i ≠ n by omega)
        unfold adS
        dsimp only
        rw [hau, hau, hau, hau]
        have k1 : Inv (u_sv S (upd (s_sv S) n v)) := h.n_sv (fun i hi => hne _ _ i (by rw [hn] at hi; exact hi))
        have k2 : Inv (u_ss (u_sv S (upd (s_sv S) n v)) (upd (s_ss S) n (a / 100))) := k1.n_ss (fun i hi => by rw [e_s_sd_sv, hn] at hi; rw [e_s_ss_sv]; exact hne _ _ i hi)
        have k3 : Inv (u_sh (u_ss (u_sv S (upd (s_sv S) n v)) (upd (s_ss S) n (a / 100))) (upd (s_sh S) n (ho a))) := k2.n_sh (fun i hi => by rw [e_s_sd_ss, e_s_sd_sv, hn] at hi; rw [e_s_sh_ss, e_s_sh_sv]; exact hne _ _ i hi)
        refine (k3.n_sm _).n_sd (n := n) (by rw [e_s_sd_sm, e_s_sd_sh, e_s_sd_ss, e_s_sd_sv]; exact hn) hx hcl ?_ ?_ ?_ ?_
        · rw [e_s_sv_sm, e_s_sv_sh, e_s_sv_ss, es_s_sv, pk_us]; exact g.1
        · rw [e_s_ss_sm, e_s_ss_sh, es_s_ss, pk_us]; exact at_st g.2.1
        · rw [e_s_sh_sm, es_s_sh, pk_us]; exact at_ho g.2.1
        · intro i hi he
          rw [e_s_sv_sm, e_s_sv_sh, e_s_sv_ss, es_s_sv, pk_us, hne _ _ i hi] at he
          rw [e_s_sh_sm, es_s_sh, pk_us, hne _ _ i hi]
          obtain ⟨m, m1, m2, m3, m4⟩ := laS_max S v n i hi he
          rw [m3] at g1
          have hsd : isSd S (nI m) = true := sd_k h (by omega)
          rw [hsd, Bool.true_and] at g1
          have g3 : ar (s_sh S) (nI m) < ho a := Int32.not_le.mp (fun w => g1 (decide_eq_true w))
          rw [ar_nI _ (by omega)] at g3
          rcases Nat.lt_or_ge i m with w | w
          · exact Int32.lt_trans (h.2.2.2.2.2.1 i m w (by omega) (he.trans m4.symm)) g3
          · rw [show i = m by omega]; exact g3
  · exact h.fnd _
