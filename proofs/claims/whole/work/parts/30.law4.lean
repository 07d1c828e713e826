theorem law_cond {j L : Nat} (hL : L ≤ 2560) (hj : j ≤ 512) (c1 : ¬ Int32.ofNat L - 5 < nI (5 * j)) : 5 * j + 5 ≤ L := by
  have e1 : (Int32.ofNat L).toInt = (L : Int) := nI_toInt (n := L) (by omega)
  have e5 : (5 : Int32).toInt = 5 := by decide
  have e2 : (nI (5 * j)).toInt = ((5 * j : Nat) : Int) := nI_toInt (by omega)
  have e3 : (Int32.ofNat L - 5).toInt = (L : Int) - 5 := by rw [i_sub (by rw [e1, e5]; omega) (by rw [e1, e5]; omega), e1, e5]
  rw [i_lt, e2, e3] at c1
  omega
theorem law_in {j k L : Nat} (hL : L ≤ 2560) (hj : 5 * j + 5 ≤ L) (hk : k < 5) {v : Int32} (hv : v = nI k) : vp_in (nI (5 * j) + v) L := by
  rw [hv, nI_add]
  exact vp_in_nI (by omega) (by omega)
set_option maxHeartbeats 4000000 in
set_option maxRecDepth 100000 in
theorem law_loop {p : Program} {l : Launch} {e : Env} {s : State} {m : MethodId} {below : List Frame} {meth : Method} {c : Code} {Z : ZT} {r : Nat → Nat} {b L : Nat} {xs : Nat → Int32} (hL : L ≤ 2560) (E : EW p m c cL_law 4 s #[Value.ref b] "ConeRoundsLaw" Z) (hN : KN s) (hX : va_X b L xs s s.heap) (hbl : b < s.heap.size) (hr : meth.sig.returnType = ret) (hlk : meth.locks = false) :
    ∀ j, j ≤ 512 → ∀ (q : Nat → Nat) (S : St) (X : XC) (Y : YM) (H : Heap) (locs : List Loc) (ls : Array Slot), Inv S → GW Z (CW Z q S X ++ MW Z r S Y) (AL s) s.heap H locs → lv_has ls 4 [(0, .ref b), (1, .ref (q 0)), (2, .ref (r 0)), (3, .int (nI (5 * j)))] → W p l e room_1 s m #[Value.ref b] below meth c H locs (47 + j) (738 + 2 * j) (lw_Z below #[Value.ref b] s) (F0 m 18 ls []) := by
  refine up_in2 512 (fun j hj ih => ?_)
  intro q S X Y H locs ls hI G hl
  have hx := E.1.1
  have hb := E.1.2.1
  have hbA : ¬ AL s b := Nat.not_le.mpr hbl
  refine lv_iload_n hx hb dL_law_18 rfl (lv_at hl 3 rfl) ?_
  refine lv_aload_n hx hb dL_law_19 rfl (lv_at hl 0 rfl) ?_
  refine va_slen hx hb hX hbl hbA G.2.2.1 dL_law_20 ?_
  refine lv_iconst (v := 5) hx hb dL_law_21 (by decide) ?_
  refine lv_isub hx hb dL_law_22 ?_
  refine lv_icmp_gt (tgt := 1147) hx hb dL_law_23 (by decide) (fun c1 => ?_) (fun c1 => ?_)
  · refine lv_iconst (v := 1) hx hb dL_law_1147 (by decide) ?_
    refine va_forget (fun x hx => G.2.2.1.2.2 x hx) ?_
    refine W.widen (k := 870204) (n := 6491635) (by omega) (by omega) ?_
    exact lw_ret hx hb hr hlk dL_law_1148
  · have hle : 5 * j + 5 ≤ L := law_cond hL hj c1
    have hlt : j < 512 := by omega
    have h0 : vp_in (nI (5 * j)) L := vp_in_nI (by omega) (by omega)
    have h1 : vp_in (nI (5 * j) + 1) L := law_in (k := 1) hL hle (by decide) rfl
    have h2 : vp_in (nI (5 * j) + 2) L := law_in (k := 2) hL hle (by decide) rfl
    have h3 : vp_in (nI (5 * j) + 3) L := law_in (k := 3) hL hle (by decide) rfl
    have h4 : vp_in (nI (5 * j) + 4) L := law_in (k := 4) hL hle (by decide) rfl
    have hf : 47 + j + 1 ≤ room_1.cells ∧ 738 + 2 * j + 2 ≤ room_1.slots := ⟨by show 47 + j + 1 ≤ 870204; omega, by show 738 + 2 * j + 2 ≤ 6491635; omega⟩
    have kk : LK p l e s m #[Value.ref b] below meth c (lw_Z below #[Value.ref b] s) Z ls q r (47 + j) (738 + 2 * j) := by
      intro q2 S2 X2 Y2 H locs hq hI G
      refine lv_iinc (v := nI (5 * (j + 1))) (lv' := [(3, .int (nI (5 * (j + 1)))), (0, .ref b), (1, .ref (q 0)), (2, .ref (r 0))]) hx hb dL_law_1141 hl (k := 3) rfl (nI_add (5 * j) 5) (by decide) rfl (fun ls hl => ?_)
      refine lv_goto (tgt := 18) hx hb dL_law_1144 (by decide) ?_
      refine W.widen (k := 47 + (j + 1)) (n := 738 + 2 * (j + 1)) (by omega) (by omega) ?_
      refine ih hlt q2 S2 X2 Y2 H locs ls hI G ?_
      rw [hq]
      exact lv_sub hl [1, 2, 3, 0] rfl
    refine lv_aload_n hx hb dL_law_26 rfl (lv_at hl 0 rfl) ?_
    refine lv_iload_n hx hb dL_law_27 rfl (lv_at hl 3 rfl) ?_
    refine va_sld hx hb hX hbl hbA G.2.2.1 h0 dL_law_28 ?_
    refine lv_bipush (v := 31) hx hb dL_law_29 (by decide) ?_
    refine lv_iand hx hb dL_law_31 ?_
    obtain ⟨n, hn, en⟩ := pk_andE (xs (nI (5 * j)).toNatClampNeg) (m := 31) 5 (by decide)
    rw [en]
    clear en
    match n, hn with
    | 0, _ =>
      refine lv_tableIn (off := 132) (tgt := 164) hx hb dL_law_32 (by decide +kernel) (by decide +kernel) (by decide +kernel) (by decide) ?_
      exact law_c0 E hN hX hbl hI G h1 h2 h3 h4 hl hf kk
    | 1, _ =>
      refine lv_tableIn (off := 155) (tgt := 187) hx hb dL_law_32 (by decide +kernel) (by decide +kernel) (by decide +kernel) (by decide) ?_
      exact law_c1 E hN hX hbl hI G h1 h2 h3 h4 hl hf kk
    | 2, _ =>
      refine lv_tableIn (off := 198) (tgt := 230) hx hb dL_law_32 (by decide +kernel) (by decide +kernel) (by decide +kernel) (by decide) ?_
      exact law_c2 E hN hX hbl hI G h1 h2 h3 h4 hl hf kk
    | 3, _ =>
      refine lv_tableIn (off := 241) (tgt := 273) hx hb dL_law_32 (by decide +kernel) (by decide +kernel) (by decide +kernel) (by decide) ?_
      exact law_c3 E hN hX hbl hI G h1 h2 h3 h4 hl hf kk
    | 4, _ =>
      refine lv_tableIn (off := 264) (tgt := 296) hx hb dL_law_32 (by decide +kernel) (by decide +kernel) (by decide +kernel) (by decide) ?_
      exact law_c4 E hN hX hbl hI G h1 h2 h3 h4 hl hf kk
    | 5, _ =>
      refine lv_tableIn (off := 287) (tgt := 319) hx hb dL_law_32 (by decide +kernel) (by decide +kernel) (by decide +kernel) (by decide) ?_
      exact law_c5 E hN hX hbl hI G h1 h2 h3 h4 hl hf kk
    | 6, _ =>
      refine lv_tableIn (off := 320) (tgt := 352) hx hb dL_law_32 (by decide +kernel) (by decide +kernel) (by decide +kernel) (by decide) ?_
      exact law_c6 E hN hX hbl hI G h1 h2 h3 h4 hl hf kk
    | 7, _ =>
      refine lv_tableIn (off := 353) (tgt := 385) hx hb dL_law_32 (by decide +kernel) (by decide +kernel) (by decide +kernel) (by decide) ?_
      exact law_c7 E hN hX hbl hI G h1 h2 h3 h4 hl hf kk
    | 8, _ =>
      refine lv_tableIn (off := 386) (tgt := 418) hx hb dL_law_32 (by decide +kernel) (by decide +kernel) (by decide +kernel) (by decide) ?_
      exact law_c8 E hN hX hbl hI G h1 h2 h3 h4 hl hf kk
    | 9, _ =>
      refine lv_tableIn (off := 429) (tgt := 461) hx hb dL_law_32 (by decide +kernel) (by decide +kernel) (by decide +kernel) (by decide) ?_
      exact law_c9 E hN hX hbl hI G h1 h2 h3 h4 hl hf kk
    | 10, _ =>
      refine lv_tableIn (off := 472) (tgt := 504) hx hb dL_law_32 (by decide +kernel) (by decide +kernel) (by decide +kernel) (by decide) ?_
      exact law_c10 E hN hX hbl hI G h1 h2 h3 h4 hl hf kk
    | 11, _ =>
      refine lv_tableIn (off := 505) (tgt := 537) hx hb dL_law_32 (by decide +kernel) (by decide +kernel) (by decide +kernel) (by decide) ?_
      exact law_c11 E hN hX hbl hI G h1 h2 h3 h4 hl hf kk
    | 12, _ =>
      refine lv_tableIn (off := 548) (tgt := 580) hx hb dL_law_32 (by decide +kernel) (by decide +kernel) (by decide +kernel) (by decide) ?_
      exact law_c12 E hN hX hbl hI G h1 h2 h3 h4 hl hf kk
    | 13, _ =>
      refine lv_tableIn (off := 601) (tgt := 633) hx hb dL_law_32 (by decide +kernel) (by decide +kernel) (by decide +kernel) (by decide) ?_
      exact law_c13 E hN hX hbl hI G h1 h2 h3 h4 hl hf kk
    | 14, _ =>
      refine lv_tableIn (off := 644) (tgt := 676) hx hb dL_law_32 (by decide +kernel) (by decide +kernel) (by decide +kernel) (by decide) ?_
      exact law_c14 E hN hX hbl hI G h1 h2 h3 h4 hl hf kk
    | 15, _ =>
      refine lv_tableIn (off := 687) (tgt := 719) hx hb dL_law_32 (by decide +kernel) (by decide +kernel) (by decide +kernel) (by decide) ?_
      exact law_c15 E hN hX hbl hI G h1 h2 h3 h4 hl hf kk
    | 16, _ =>
      refine lv_tableIn (off := 710) (tgt := 742) hx hb dL_law_32 (by decide +kernel) (by decide +kernel) (by decide +kernel) (by decide) ?_
      exact law_c16 E hN hX hbl hI G h1 h2 h3 h4 hl hf kk
    | 17, _ =>
      refine lv_tableIn (off := 723) (tgt := 755) hx hb dL_law_32 (by decide +kernel) (by decide +kernel) (by decide +kernel) (by decide) ?_
      exact law_c17 E hN hX hbl hI G h1 h2 h3 h4 hl hf kk
    | 18, _ =>
      refine lv_tableIn (off := 746) (tgt := 778) hx hb dL_law_32 (by decide +kernel) (by decide +kernel) (by decide +kernel) (by decide) ?_
      exact law_c18 E hN hX hbl hI G h1 h2 h3 h4 hl hf kk
    | 19, _ =>
      refine lv_tableIn (off := 799) (tgt := 831) hx hb dL_law_32 (by decide +kernel) (by decide +kernel) (by decide +kernel) (by decide) ?_
      exact law_c19 E hN hX hbl hI G h1 h2 h3 h4 hl hf kk
    | 20, _ =>
      refine lv_tableIn (off := 852) (tgt := 884) hx hb dL_law_32 (by decide +kernel) (by decide +kernel) (by decide +kernel) (by decide) ?_
      exact law_c20 E hN hX hbl hI G h1 h2 h3 h4 hl hf kk
    | 21, _ =>
      refine lv_tableIn (off := 895) (tgt := 927) hx hb dL_law_32 (by decide +kernel) (by decide +kernel) (by decide +kernel) (by decide) ?_
      exact law_c21 E hN hX hbl hI G h1 h2 h3 h4 hl hf kk
    | 22, _ =>
      refine lv_tableIn (off := 918) (tgt := 950) hx hb dL_law_32 (by decide +kernel) (by decide +kernel) (by decide +kernel) (by decide) ?_
      exact law_c22 E hN hX hbl hI G h1 h2 h3 h4 hl hf kk
    | 23, _ =>
      refine lv_tableIn (off := 951) (tgt := 983) hx hb dL_law_32 (by decide +kernel) (by decide +kernel) (by decide +kernel) (by decide) ?_
      exact law_c23 E hN hX hbl hI G h1 h2 h3 h4 hl hf kk
    | 24, _ =>
      refine lv_tableIn (off := 984) (tgt := 1016) hx hb dL_law_32 (by decide +kernel) (by decide +kernel) (by decide +kernel) (by decide) ?_
      exact law_c24 E hN hX hbl hI G h1 h2 h3 h4 hl hf kk
    | 25, _ =>
      refine lv_tableIn (off := 1017) (tgt := 1049) hx hb dL_law_32 (by decide +kernel) (by decide +kernel) (by decide +kernel) (by decide) ?_
      exact law_c25 E hN hX hbl hI G h1 h2 h3 h4 hl hf kk
    | 26, _ =>
      refine lv_tableIn (off := 1040) (tgt := 1072) hx hb dL_law_32 (by decide +kernel) (by decide +kernel) (by decide +kernel) (by decide) ?_
      exact law_c26 E hN hX hbl hI G h1 h2 h3 h4 hl hf kk
    | 27, _ =>
      refine lv_tableIn (off := 1063) (tgt := 1095) hx hb dL_law_32 (by decide +kernel) (by decide +kernel) (by decide +kernel) (by decide) ?_
      exact law_c27 E hN hX hbl hI G h1 h2 h3 h4 hl hf kk
    | 28, _ =>
      refine lv_tableIn (off := 1086) (tgt := 1118) hx hb dL_law_32 (by decide +kernel) (by decide +kernel) (by decide +kernel) (by decide) ?_
      exact law_c28 E hN hX hbl hI G h1 h2 h3 h4 hl hf kk
    | 29, _ =>
      refine lv_tableOut (tgt := 1141) hx hb dL_law_32 (Or.inr (by decide +kernel)) (by decide) ?_
      refine W.widen (k := 47 + j + 1) (n := 738 + 2 * j + 2) (by omega) (by omega) ?_
      exact kk q S X Y H locs rfl hI G
    | 30, _ =>
      refine lv_tableOut (tgt := 1141) hx hb dL_law_32 (Or.inr (by decide +kernel)) (by decide) ?_
      refine W.widen (k := 47 + j + 1) (n := 738 + 2 * j + 2) (by omega) (by omega) ?_
      exact kk q S X Y H locs rfl hI G
    | 31, _ =>
      refine lv_tableOut (tgt := 1141) hx hb dL_law_32 (Or.inr (by decide +kernel)) (by decide) ?_
      refine W.widen (k := 47 + j + 1) (n := 738 + 2 * j + 2) (by omega) (by omega) ?_
      exact kk q S X Y H locs rfl hI G
    | n + 32, hn => exact absurd hn (by omega)
