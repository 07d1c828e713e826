theorem c_X8_newVan (l : Launch) (Z : ZT) (p1 : Int32) : CEn l Z yX8_newVan cX8_newVan 1 (some (.object "ConeRounds$Van")) 3 1 2 [.int p1] [] (fun r x => ∃ a : Nat, r = some (.ref a) ∧ x = [(a, .inr (kc p1, [.int 0, .int 63]))]) := by
  refine CEn.mk rfl (Nat.le_of_ble_eq_true rfl) (fun p e s m args below meth c A Qx ls E hN hr hlk hnm hQ G hl => ?_)
  have hx := E.1.1
  have hb := E.1.2.1
  have hl : lv_has ls 1 [(0, .int p1)] := hl
  refine lv_iload_n hx hb dX8_newVan_0 rfl (lv_at hl 0 rfl) ?_
  refine lv_iconst (v := 1) hx hb dX8_newVan_1 (by decide) ?_
  refine lv_icmp_ne (tgt := 13) hx hb dX8_newVan_2 (by decide) (fun c1 => ?_) (fun c1 => ?_)
  · refine lv_iload_n hx hb dX8_newVan_13 rfl (lv_at hl 0 rfl) ?_
    refine lv_iconst (v := 2) hx hb dX8_newVan_14 (by decide) ?_
    refine lv_icmp_ne (tgt := 26) hx hb dX8_newVan_15 (by decide) (fun c2 => ?_) (fun c2 => ?_)
    · have hk : kc p1 = 7 := by unfold kc; rw [if_neg c1, if_neg c2]
      refine r_new E G (ci := 7) (fs := [.int 0, .int 0]) rfl inU7 tyX7_ok m_107 m_316 m_49 dfX7 (Nat.le_of_ble_eq_true rfl) (Nat.le_of_ble_eq_true rfl) dX8_newVan_26 (fun q1 H G => ?_)
      refine W.widen (k := 1) (n := 2) (Nat.le_refl _) (Nat.le_refl _) ?_
      refine lv_dup hx hb dX8_newVan_29 rfl ?_
      refine r_INR (w := []) [.ref q1] E hN G (c_X7_init0 l Z q1 7 (by decide)) kX7_init hN.1.2.2.2.2 ⟨Nat.le_of_ble_eq_true rfl, Nat.le_of_ble_eq_true rfl⟩ hl dX8_newVan_30 (Nat.le_of_ble_eq_true rfl) ⟨Nat.le_of_ble_eq_true rfl, Nat.le_of_ble_eq_true rfl⟩ (fun rv w1 H locs hp G => ?_)
      obtain ⟨rfl, rfl⟩ := hp
      exact r_reta (v := .ref q1) E G hr hlk hQ (Or.inr ⟨q1, rfl⟩) ⟨q1, rfl, by rw [hk]; rfl⟩ dX8_newVan_33
    · have hk : kc p1 = 2 := by unfold kc; rw [if_neg c1]; simp [c2]
      refine r_new E G (ci := 2) (fs := [.int 0, .int 0]) rfl inU2 tyX2_ok m_307 m_308 m_51 dfX2 (Nat.le_of_ble_eq_true rfl) (Nat.le_of_ble_eq_true rfl) dX8_newVan_18 (fun q1 H G => ?_)
      refine W.widen (k := 1) (n := 2) (Nat.le_refl _) (Nat.le_refl _) ?_
      refine lv_dup hx hb dX8_newVan_21 rfl ?_
      refine r_INR (w := []) [.ref q1] E hN G (c_X2_init l Z q1) kX2_init hN.1.2.2.1 ⟨Nat.le_of_ble_eq_true rfl, Nat.le_of_ble_eq_true rfl⟩ hl dX8_newVan_22 (Nat.le_of_ble_eq_true rfl) ⟨Nat.le_of_ble_eq_true rfl, Nat.le_of_ble_eq_true rfl⟩ (fun rv w1 H locs hp G => ?_)
      obtain ⟨rfl, rfl⟩ := hp
      exact r_reta (v := .ref q1) E G hr hlk hQ (Or.inr ⟨q1, rfl⟩) ⟨q1, rfl, by rw [hk]; rfl⟩ dX8_newVan_25
  · have hk : kc p1 = 0 := by unfold kc; simp [c1]
    refine r_new E G (ci := 0) (fs := [.int 0, .int 0]) rfl inU0 tyX0_ok m_289 m_290 m_50 dfX0 (Nat.le_of_ble_eq_true rfl) (Nat.le_of_ble_eq_true rfl) dX8_newVan_5 (fun q1 H G => ?_)
    refine W.widen (k := 1) (n := 2) (Nat.le_refl _) (Nat.le_refl _) ?_
    refine lv_dup hx hb dX8_newVan_8 rfl ?_
    refine r_INR (w := []) [.ref q1] E hN G (c_X0_init l Z q1) kX0_init hN.1.1 ⟨Nat.le_of_ble_eq_true rfl, Nat.le_of_ble_eq_true rfl⟩ hl dX8_newVan_9 (Nat.le_of_ble_eq_true rfl) ⟨Nat.le_of_ble_eq_true rfl, Nat.le_of_ble_eq_true rfl⟩ (fun rv w1 H locs hp G => ?_)
    obtain ⟨rfl, rfl⟩ := hp
    exact r_reta (v := .ref q1) E G hr hlk hQ (Or.inr ⟨q1, rfl⟩) ⟨q1, rfl, by rw [hk]; rfl⟩ dX8_newVan_12
def qn (q : Nat → Nat) (S : St) (a : Nat) : Nat → Nat := fun i => if i = 24 + vn S then a else q i
theorem qn_lt {q : Nat → Nat} {S : St} {a i : Nat} (h : i < 24) : qn q S a i = q i := if_neg (by omega)
theorem CF_ki (Z : ZT) (q : Nat → Nat) (S : St) (X : XC) (f : Nat → Int32) : CF Z q (u_ki S f) X = CF Z q S X := rfl
theorem CF_so (Z : ZT) (q : Nat → Nat) (S : St) (X : XC) (f : Nat → Int32) : CF Z q (u_so S f) X = CF Z q S X := rfl
theorem CF_li (Z : ZT) (q : Nat → Nat) (S : St) (X : XC) (f : Nat → Int32) : CF Z q (u_li S f) X = CF Z q S X := rfl
theorem CF_va (Z : ZT) (q q2 : Nat → Nat) (T : St) (X : XC) (v : Int32) (f : Nat → Option Nat) (hf : vf q2 (u_va T v) = f) (hq : ∀ i, i < 24 → q2 i = q i) : CF Z q2 (u_va T v) X = ((CF Z q T X).set 4 (q 4, .inl (Z.2.2.2, 4, .inr (.inr (.inr (.inr (f))))))).set 0 (q 0, .inr (8, [.ref (q 1), .ref (q 2), .ref (q 3), .ref (q 4), .int v, .ref (q 5), .ref (q 6), .ref (q 7), .ref (q 8), .ref (q 9), .int (s_wa T)])) := by
  unfold CF
  rw [hf, hq 0 (by decide), hq 1 (by decide), hq 2 (by decide), hq 3 (by decide), hq 4 (by decide), hq 5 (by decide), hq 6 (by decide), hq 7 (by decide), hq 8 (by decide), hq 9 (by decide), hq 10 (by decide), hq 11 (by decide), hq 12 (by decide), hq 13 (by decide), hq 14 (by decide), hq 15 (by decide), hq 16 (by decide), hq 17 (by decide), hq 18 (by decide), hq 19 (by decide), hq 20 (by decide), hq 21 (by decide), hq 22 (by decide), hq 23 (by decide)]
  rfl
theorem vn_1 {S : St} (h0 : 0 ≤ s_va S) (h4 : s_va S < 4) (T : St) : vn (u_va T (s_va S + 1)) = vn S + 1 := by
  show (s_va S + 1).toNatClampNeg = (s_va S).toNatClampNeg + 1
  obtain ⟨n, hn, e⟩ := nI_of (x := s_va S) (Int32.not_lt.mpr h0)
  rw [e, nI_1, nI_clamp hn]
  have h5 : n < 4 := by
    rw [e] at h4
    exact (nI_ltI (b := 4) hn (by decide)).mp h4
  rw [nI_clamp (by omega)]
theorem van_world {Z : ZT} {q : Nat → Nat} {S T : St} {X : XC} {a : Nat} {k : Int32} (h0 : 0 ≤ s_va S) (h4 : s_va S < 4) (hT : T = u_li (u_so (u_ki S (au (s_ki S) (s_va S) k)) (au (s_so S) (s_va S) 0)) (au (s_li S) (s_va S) 63)) :
    ((CW Z q S X ++ ([(a, .inr (kc k, [.int 0, .int 63]))] : va_W)).set 4 (q 4, .inl (Z.2.2.2, 4, .inr (.inr (.inr (.inr (va_up (vf q S) (s_va S).toNatClampNeg (some a)))))))).set 0 (q 0, .inr (8, [.ref (q 1), .ref (q 2), .ref (q 3), .ref (q 4), .int (s_va S + 1), .ref (q 5), .ref (q 6), .ref (q 7), .ref (q 8), .ref (q 9), .int (s_wa S)])) = CW Z (qn q S a) (u_va T (s_va S + 1)) X := by
  have hn := vn_1 h0 h4 T
  have e1 : ∀ (t : va_W) (a1 a2 : Nat × va_E), ((CF Z q S X ++ t).set 4 a1).set 0 a2 = ((CF Z q S X).set 4 a1).set 0 a2 ++ t := fun t a1 a2 => rfl
  have hki : s_ki T = au (s_ki S) (s_va S) k := by rw [hT, e_s_ki_li, e_s_ki_so, es_s_ki]
  have hso : s_so T = au (s_so S) (s_va S) 0 := by rw [hT, e_s_so_li, es_s_so]
  have hli : s_li T = au (s_li S) (s_va S) 63 := by rw [hT, es_s_li]
  have hvf : vf (qn q S a) (u_va T (s_va S + 1)) = va_up (vf q S) (s_va S).toNatClampNeg (some a) := by
    funext i
    unfold vf va_up
    rw [hn]
    show _ = if i = vn S then some a else if i < vn S then some (q (24 + i)) else none
    by_cases z : i = vn S
    · rw [if_pos z, if_pos (by omega), z]
      unfold qn
      rw [if_pos rfl]
    · rw [if_neg z]
      by_cases y : i < vn S
      · rw [if_pos y, if_pos (by omega)]
        unfold qn
        rw [if_neg (by omega)]
      · rw [if_neg y, if_neg (by omega)]
  unfold CW
  rw [List.append_assoc, e1]
  congr 1
  · rw [CF_va Z q (qn q S a) T X (s_va S + 1) _ hvf (fun i hi => qn_lt hi), hT, CF_li, CF_so, CF_ki]
    rfl
  · unfold vanL
    rw [hn, List.range_succ, List.map_append]
    congr 1
    · apply List.map_congr_left
      intro i hi
      have hi := List.mem_range.mp hi
      have hne : i ≠ (s_va S).toNatClampNeg := Nat.ne_of_lt hi
      rw [e_s_ki_va, e_s_so_va, e_s_li_va, hki, hso, hli]
      unfold au
      rw [pk_un hne, pk_un hne, pk_un hne]
      unfold qn
      rw [if_neg (by omega)]
    · show _ = [(qn q S a (24 + vn S), Sum.inr (kc (s_ki (u_va T (s_va S + 1)) (vn S)), [Value.int (s_so (u_va T (s_va S + 1)) (vn S)), Value.int (s_li (u_va T (s_va S + 1)) (vn S))]))]
      rw [e_s_ki_va, e_s_so_va, e_s_li_va, hki, hso, hli]
      unfold au vn
      rw [pk_us, pk_us, pk_us]
      unfold qn vn
      rw [if_pos rfl]
section RVN
variable {p : Program} {l : Launch} {e : Env} {R : Room} {s : State} {m : MethodId} {args : Array Value} {below : List Frame} {meth : Method} {c : Code} {H H0 : Heap} {locs : List Loc} {cells slots : Nat} {Q : State → Prop} {cc : ByteArray} {nL pc : Nat} {own : String} {Z : ZT} {A : Nat → Prop} {ls : Array Slot} {rest : List Value} {q : Nat → Nat} {S : St} {X : XC}
theorem r_astV (E : EW p m c cc nL s args own Z) {a : Nat} {k : Int32} {fs : List Value} (G : GW Z (CW Z q S X ++ [(a, .inr (kc k, fs))]) A H0 H locs) {i : Int32} (hin : vp_in i 4) (hdg : decode cc pc = .ok (.aastore, 1))
    (kk : ∀ (H1 : Heap) (locs1 : List Loc), GW Z ((CW Z q S X ++ ([(a, .inr (kc k, fs))] : va_W)).set 4 (q 4, .inl (Z.2.2.2, 4, .inr (.inr (.inr (.inr (va_up (vf q S) i.toNatClampNeg (some a)))))))) A H0 H1 locs1 → W p l e R s m args below meth c H1 locs1 cells slots Q (F0 m (pc + 1) ls rest)) : W p l e R s m args below meth c H locs cells slots Q (F0 m pc ls (.ref a :: .int i :: .ref (q 4) :: rest)) := by
  rcases kc_c k with ⟨-, h⟩ | ⟨-, h⟩ | ⟨-, h⟩ <;> rw [h] at G kk
  · exact va_astqO E.1.1 E.1.2.1 E.2.1 G.1 G.2.1 G.2.2.1 4 2 ((CW Z q S X).length + 0) 0 (r := ("ConeRounds$Bike", TX0, 2)) rfl rfl E.2.2.1.1 (ap_r rfl) rfl hin hdg (fun H1 locs1 h1 h2 h3 => kk H1 locs1 ⟨h1, h2, h3, G.2.2.2⟩)
  · exact va_astqO E.1.1 E.1.2.1 E.2.1 G.1 G.2.1 G.2.2.1 4 2 ((CW Z q S X).length + 0) 2 (r := ("ConeRounds$Cart", TX2, 2)) rfl rfl E.2.2.1.2 (ap_r rfl) rfl hin hdg (fun H1 locs1 h1 h2 h3 => kk H1 locs1 ⟨h1, h2, h3, G.2.2.2⟩)
  · exact va_astq E.1.1 E.1.2.1 E.2.1 G.1 G.2.1 G.2.2.1 4 2 ((CW Z q S X).length + 0) 7 (r := ("ConeRounds$Van", TX7, 2)) rfl rfl (ap_r rfl) rfl hin hdg (fun H1 locs1 h1 h2 h3 => kk H1 locs1 ⟨h1, h2, h3, G.2.2.2⟩)
end RVN
theorem va_in4 {x : Int32} (h0 : 0 ≤ x) (h4 : x < 4) : vp_in x 4 := by
  rw [i_le] at h0; rw [i_lt] at h4
  have e0 : (0 : Int32).toInt = 0 := by decide
  have e4 : (4 : Int32).toInt = 4 := by decide
  exact vp_of (by omega) (by omega)
set_option maxRecDepth 100000 in
theorem c_X8_van (l : Launch) (Z : ZT) (q : Nat → Nat) (S : St) (X : XC) (p1 : Int32) (hI : Inv S) : CEn l Z yX8_van cX8_van 2 (some .int) 4 1 2 [.ref (q 0), .int p1] (CW Z q S X) (fun r x => r = some (.int (sp_van S p1).1) ∧ ∃ q2 : Nat → Nat, q2 0 = q 0 ∧ x = CW Z q2 (sp_van S p1).2 X) := by
  refine CEn.mk rfl (Nat.le_of_ble_eq_true rfl) (fun p e s m args below meth c A Qx ls E hN hr hlk hnm hQ G hl => ?_)
  have hx := E.1.1
  have hb := E.1.2.1
  have hl : lv_has ls 2 [(0, .ref (q 0)), (1, .int p1)] := hl
  refine lv_iload_n hx hb dX8_van_0 rfl (lv_at hl 1 rfl) ?_
  refine r_S [] E G (c_X8_isKind l Z q S X p1) kX8_isKind m_283 ⟨Nat.le_of_ble_eq_true rfl, Nat.le_of_ble_eq_true rfl⟩ hl dX8_van_1 rfl rfl (Nat.le_of_ble_eq_true rfl) ⟨Nat.zero_le _, Nat.zero_le _⟩ (fun H locs G => ?_)
  refine r_neb (tgt := 14) hx hb dX8_van_4 (by decide) (fun c1 => ?_) (fun c1 => ?_)
  · refine lv_aload_n hx hb dX8_van_14 rfl (lv_at hl 0 rfl) ?_
    refine gC_0_4 E G m_192 dX8_van_15 ?_
    refine lv_iconst (v := 4) hx hb dX8_van_18 (by decide) ?_
    refine lv_icmp_lt (tgt := 29) hx hb dX8_van_19 (by decide) (fun c2 => ?_) (fun c2 => ?_)
    · have hne : ¬ s_va S = 4 := fun z => by rw [z] at c2; exact absurd c2 (by decide)
      have hs : sp_van S p1 = (s_va S + 1 - 1, u_va (u_li (u_so (u_ki S (au (s_ki S) (s_va S) p1)) (au (s_so S) (s_va S) 0)) (au (s_li S) (s_va S) 63)) (s_va S + 1)) := by
        unfold sp_van
        rw [if_pos c1, if_neg hne]
      refine lv_aload_n hx hb dX8_van_29 rfl (lv_at hl 0 rfl) ?_
      refine gC_0_3 E G m_191 dX8_van_30 ?_
      refine lv_aload_n hx hb dX8_van_33 rfl (lv_at hl 0 rfl) ?_
      refine gC_0_4 E G m_192 dX8_van_34 ?_
      refine lv_iload_n hx hb dX8_van_37 rfl (lv_at hl 1 rfl) ?_
      have G : GW Z (CW Z q S X ++ []) A s.heap H locs := by rw [List.append_nil]; exact G
      refine r_SR [.int (s_va S), .ref (q 4)] E hN G (c_X8_newVan l Z p1) kX8_newVan m_286 ⟨Nat.le_of_ble_eq_true rfl, Nat.le_of_ble_eq_true rfl⟩ hl dX8_van_38 rfl rfl (Nat.le_of_ble_eq_true rfl) ⟨Nat.le_of_ble_eq_true rfl, Nat.le_of_ble_eq_true rfl⟩ (fun rv w1 H locs hp G => ?_)
      obtain ⟨a, rfl, rfl⟩ := hp
      refine r_astV E G (va_in4 hI.va.1 c2) dX8_van_41 (fun H locs G => ?_)
      refine lv_aload_n hx hb dX8_van_42 rfl (lv_at hl 0 rfl) ?_
      refine lv_dup hx hb dX8_van_43 rfl ?_
      refine r_get E G 0 rfl rfl inU8 4 (by decide) m_192 rfl rfl dX8_van_44 ?_
      refine lv_iconst (v := 1) hx hb dX8_van_47 (by decide) ?_
      refine lv_iadd hx hb dX8_van_48 ?_
      refine r_put E G 0 rfl rfl inU8 tyX8_ok nmX8 4 (by decide) m_192 rfl rfl rfl (Nat.le_of_ble_eq_true rfl) rfl dX8_van_49 (fun H locs G => ?_)
      refine lv_aload_n hx hb dX8_van_52 rfl (lv_at hl 0 rfl) ?_
      refine r_get E G 0 rfl rfl inU8 4 (by decide) m_192 rfl rfl dX8_van_53 ?_
      refine lv_iconst (v := 1) hx hb dX8_van_56 (by decide) ?_
      refine lv_isub hx hb dX8_van_57 ?_
      refine r_retP E G hr hlk hQ ⟨by rw [hs], qn q S a, qn_lt (by decide), ?_⟩ dX8_van_58
      rw [hs]
      exact van_world (k := p1) hI.va.1 c2 rfl
    · have heq : s_va S = 4 := Int32.le_antisymm hI.va.2 (Int32.not_lt.mp c2)
      have hs : sp_van S p1 = fnd S (-1000004) := by
        unfold sp_van
        rw [if_pos c1, if_pos heq]
      refine lv_aload_n hx hb dX8_van_22 rfl (lv_at hl 0 rfl) ?_
      refine lv_ldc hx hb E.1.2.2.2.1 (E.1.2.2.2.2 _ m_236) dX8_van_23 ?_
      refine r_V [] E G (c_X8_finding l Z q S X (-1000004) (by decide)) kX8_finding m_227 0 rfl rfl ⟨Nat.le_of_ble_eq_true rfl, Nat.le_of_ble_eq_true rfl⟩ hl dX8_van_25 rfl rfl (Nat.le_of_ble_eq_true rfl) ⟨Nat.zero_le _, Nat.zero_le _⟩ (fun H locs G => ?_)
      refine W.widen (k := 1) (n := 2) (Nat.zero_le _) (Nat.zero_le _) ?_
      exact r_retP E G hr hlk hQ ⟨by rw [hs], q, rfl, by rw [hs]⟩ dX8_van_28
  · have hs : sp_van S p1 = fnd S (-1000001) := by
      unfold sp_van
      rw [if_neg (by rw [c1]; decide)]
    refine lv_aload_n hx hb dX8_van_7 rfl (lv_at hl 0 rfl) ?_
    refine lv_ldc hx hb E.1.2.2.2.1 (E.1.2.2.2.2 _ m_226) dX8_van_8 ?_
    refine r_V [] E G (c_X8_finding l Z q S X (-1000001) (by decide)) kX8_finding m_227 0 rfl rfl ⟨Nat.le_of_ble_eq_true rfl, Nat.le_of_ble_eq_true rfl⟩ hl dX8_van_10 rfl rfl (Nat.le_of_ble_eq_true rfl) ⟨Nat.zero_le _, Nat.zero_le _⟩ (fun H locs G => ?_)
    refine W.widen (k := 1) (n := 2) (Nat.zero_le _) (Nat.zero_le _) ?_
    exact r_retP E G hr hlk hQ ⟨by rw [hs], q, rfl, by rw [hs]⟩ dX8_van_13
