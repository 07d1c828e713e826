section LAW
variable {p : Program} {l : Launch} {e : Env} {s : State} {m : MethodId} {args : Array Value} {below : List Frame} {meth : Method} {c : Code} {H : Heap} {locs : List Loc} {cells slots : Nat} {Q : State → Prop} {Z : ZT} {ls : Array Slot} {q r : Nat → Nat} {S : St} {X : XC} {Y : YM} {b L : Nat} {xs : Nat → Int32} {i : Int32}
set_option maxRecDepth 100000 in
theorem law_c20 (E : EW p m c cL_law 4 s args "ConeRoundsLaw" Z) (hN : KN s) (hX : va_X b L xs s s.heap) (hbl : b < s.heap.size) (hI : Inv S) (G : GW Z (CW Z q S X ++ MW Z r S Y) (AL s) s.heap H locs) (h1 : vp_in (i + 1) L) (h2 : vp_in (i + 2) L) (h3 : vp_in (i + 3) L) (h4 : vp_in (i + 4) L) (hl : lv_has ls 4 [(0, .ref b), (1, .ref (q 0)), (2, .ref (r 0)), (3, .int i)]) (hf : cells + 1 ≤ room_1.cells ∧ slots + 2 ≤ room_1.slots) (kk : LK p l e s m args below meth c Q Z ls q r cells slots) : W p l e room_1 s m args below meth c H locs cells slots Q (F0 m 884 ls []) := by
  have hx := E.1.1
  have hb := E.1.2.1
  have hbA : ¬ AL s b := Nat.not_le.mpr hbl
  have hf0 : cells + 0 ≤ room_1.cells ∧ slots + 0 ≤ room_1.slots := ⟨Nat.le_trans (Nat.le_succ _) hf.1, Nat.le_trans (Nat.le_add_right _ 2) hf.2⟩
  refine lv_aload_n hx hb dL_law_884 rfl (lv_at hl 1 rfl) ?_
  refine lv_aload_n hx hb dL_law_885 rfl (lv_at hl 0 rfl) ?_
  refine lv_iload_n hx hb dL_law_886 rfl (lv_at hl 3 rfl) ?_
  refine lv_iconst (v := 1) hx hb dL_law_887 (by decide) ?_
  refine lv_iadd hx hb dL_law_888 ?_
  refine va_sld hx hb hX hbl hbA G.2.2.1 h1 dL_law_889 ?_
  refine lv_aload_n hx hb dL_law_890 rfl (lv_at hl 0 rfl) ?_
  refine lv_iload_n hx hb dL_law_891 rfl (lv_at hl 3 rfl) ?_
  refine lv_iconst (v := 2) hx hb dL_law_892 (by decide) ?_
  refine lv_iadd hx hb dL_law_893 ?_
  refine va_sld hx hb hX hbl hbA G.2.2.1 h2 dL_law_894 ?_
  refine lv_aload_n hx hb dL_law_895 rfl (lv_at hl 0 rfl) ?_
  refine lv_iload_n hx hb dL_law_896 rfl (lv_at hl 3 rfl) ?_
  refine lv_iconst (v := 3) hx hb dL_law_897 (by decide) ?_
  refine lv_iadd hx hb dL_law_898 ?_
  refine va_sld hx hb hX hbl hbA G.2.2.1 h3 dL_law_899 ?_
  refine r_VR [] E hN G.swap (CE.toN (c_X8_together l Z q S X (xs (i + 1).toNatClampNeg) (xs (i + 2).toNatClampNeg) (xs (i + 3).toNatClampNeg) hI)) kX8_together m_555 0 rfl rfl ⟨Nat.le_of_ble_eq_true rfl, Nat.le_of_ble_eq_true rfl⟩ hl dL_law_900 rfl rfl (Nat.le_of_ble_eq_true rfl) hf0 (fun rv w1 H locs hp G => ?_)
  obtain ⟨rfl, rfl⟩ := hp
  refine lv_aload_n hx hb dL_law_903 rfl (lv_at hl 2 rfl) ?_
  refine lv_aload_n hx hb dL_law_904 rfl (lv_at hl 0 rfl) ?_
  refine lv_iload_n hx hb dL_law_905 rfl (lv_at hl 3 rfl) ?_
  refine lv_iconst (v := 1) hx hb dL_law_906 (by decide) ?_
  refine lv_iadd hx hb dL_law_907 ?_
  refine va_sld hx hb hX hbl hbA G.2.2.1 h1 dL_law_908 ?_
  refine lv_aload_n hx hb dL_law_909 rfl (lv_at hl 0 rfl) ?_
  refine lv_iload_n hx hb dL_law_910 rfl (lv_at hl 3 rfl) ?_
  refine lv_iconst (v := 2) hx hb dL_law_911 (by decide) ?_
  refine lv_iadd hx hb dL_law_912 ?_
  refine va_sld hx hb hX hbl hbA G.2.2.1 h2 dL_law_913 ?_
  refine lv_aload_n hx hb dL_law_914 rfl (lv_at hl 0 rfl) ?_
  refine lv_iload_n hx hb dL_law_915 rfl (lv_at hl 3 rfl) ?_
  refine lv_iconst (v := 3) hx hb dL_law_916 (by decide) ?_
  refine lv_iadd hx hb dL_law_917 ?_
  refine va_sld hx hb hX hbl hbA G.2.2.1 h3 dL_law_918 ?_
  refine r_VR [.int (sp_tog S (xs (i + 1).toNatClampNeg) (xs (i + 2).toNatClampNeg) (xs (i + 3).toNatClampNeg)).1] E hN G.swap (CE.toN (c_X9_together l Z r S Y (xs (i + 1).toNatClampNeg) (xs (i + 2).toNatClampNeg) (xs (i + 3).toNatClampNeg) hI)) kX9_together m_902 0 rfl rfl ⟨Nat.le_of_ble_eq_true rfl, Nat.le_of_ble_eq_true rfl⟩ hl dL_law_919 rfl rfl (Nat.le_of_ble_eq_true rfl) hf0 (fun rv w1 H locs hp G => ?_)
  obtain ⟨rfl, rfl⟩ := hp
  refine lv_icmp_eq (tgt := 1141) hx hb dL_law_922 (by decide) (fun _ => ?_) (fun cc => absurd rfl cc)
  refine W.widen (k := cells + 1) (n := slots + 2) (by omega) (by omega) ?_
  exact kk q _ _ _ H locs rfl (hI.together (xs (i + 1).toNatClampNeg) (xs (i + 2).toNatClampNeg) (xs (i + 3).toNatClampNeg)) G
set_option maxRecDepth 100000 in
theorem law_c21 (E : EW p m c cL_law 4 s args "ConeRoundsLaw" Z) (hN : KN s) (hX : va_X b L xs s s.heap) (hbl : b < s.heap.size) (hI : Inv S) (G : GW Z (CW Z q S X ++ MW Z r S Y) (AL s) s.heap H locs) (h1 : vp_in (i + 1) L) (h2 : vp_in (i + 2) L) (h3 : vp_in (i + 3) L) (h4 : vp_in (i + 4) L) (hl : lv_has ls 4 [(0, .ref b), (1, .ref (q 0)), (2, .ref (r 0)), (3, .int i)]) (hf : cells + 1 ≤ room_1.cells ∧ slots + 2 ≤ room_1.slots) (kk : LK p l e s m args below meth c Q Z ls q r cells slots) : W p l e room_1 s m args below meth c H locs cells slots Q (F0 m 927 ls []) := by
  have hx := E.1.1
  have hb := E.1.2.1
  have hbA : ¬ AL s b := Nat.not_le.mpr hbl
  have hf0 : cells + 0 ≤ room_1.cells ∧ slots + 0 ≤ room_1.slots := ⟨Nat.le_trans (Nat.le_succ _) hf.1, Nat.le_trans (Nat.le_add_right _ 2) hf.2⟩
  refine lv_aload_n hx hb dL_law_927 rfl (lv_at hl 1 rfl) ?_
  refine lv_aload_n hx hb dL_law_928 rfl (lv_at hl 0 rfl) ?_
  refine lv_iload_n hx hb dL_law_929 rfl (lv_at hl 3 rfl) ?_
  refine lv_iconst (v := 1) hx hb dL_law_930 (by decide) ?_
  refine lv_iadd hx hb dL_law_931 ?_
  refine va_sld hx hb hX hbl hbA G.2.2.1 h1 dL_law_932 ?_
  refine r_VR [] E hN G.swap (CE.toN (c_X8_credit l Z q S X (xs (i + 1).toNatClampNeg) hI)) kX8_credit m_559 0 rfl rfl ⟨Nat.le_of_ble_eq_true rfl, Nat.le_of_ble_eq_true rfl⟩ hl dL_law_933 rfl rfl (Nat.le_of_ble_eq_true rfl) hf0 (fun rv w1 H locs hp G => ?_)
  obtain ⟨rfl, rfl⟩ := hp
  refine lv_aload_n hx hb dL_law_936 rfl (lv_at hl 2 rfl) ?_
  refine lv_aload_n hx hb dL_law_937 rfl (lv_at hl 0 rfl) ?_
  refine lv_iload_n hx hb dL_law_938 rfl (lv_at hl 3 rfl) ?_
  refine lv_iconst (v := 1) hx hb dL_law_939 (by decide) ?_
  refine lv_iadd hx hb dL_law_940 ?_
  refine va_sld hx hb hX hbl hbA G.2.2.1 h1 dL_law_941 ?_
  refine r_VR [.int (sp_credit S (xs (i + 1).toNatClampNeg)).1] E hN G.swap (CE.toN (c_X9_credit l Z r S Y (xs (i + 1).toNatClampNeg) hI)) kX9_credit m_906 0 rfl rfl ⟨Nat.le_of_ble_eq_true rfl, Nat.le_of_ble_eq_true rfl⟩ hl dL_law_942 rfl rfl (Nat.le_of_ble_eq_true rfl) hf0 (fun rv w1 H locs hp G => ?_)
  obtain ⟨rfl, rfl⟩ := hp
  refine lv_icmp_eq (tgt := 1141) hx hb dL_law_945 (by decide) (fun _ => ?_) (fun cc => absurd rfl cc)
  refine W.widen (k := cells + 1) (n := slots + 2) (by omega) (by omega) ?_
  exact kk q _ _ _ H locs rfl (hI.credit (xs (i + 1).toNatClampNeg)) G
set_option maxRecDepth 100000 in
theorem law_c22 (E : EW p m c cL_law 4 s args "ConeRoundsLaw" Z) (hN : KN s) (hX : va_X b L xs s s.heap) (hbl : b < s.heap.size) (hI : Inv S) (G : GW Z (CW Z q S X ++ MW Z r S Y) (AL s) s.heap H locs) (h1 : vp_in (i + 1) L) (h2 : vp_in (i + 2) L) (h3 : vp_in (i + 3) L) (h4 : vp_in (i + 4) L) (hl : lv_has ls 4 [(0, .ref b), (1, .ref (q 0)), (2, .ref (r 0)), (3, .int i)]) (hf : cells + 1 ≤ room_1.cells ∧ slots + 2 ≤ room_1.slots) (kk : LK p l e s m args below meth c Q Z ls q r cells slots) : W p l e room_1 s m args below meth c H locs cells slots Q (F0 m 950 ls []) := by
  have hx := E.1.1
  have hb := E.1.2.1
  have hbA : ¬ AL s b := Nat.not_le.mpr hbl
  have hf0 : cells + 0 ≤ room_1.cells ∧ slots + 0 ≤ room_1.slots := ⟨Nat.le_trans (Nat.le_succ _) hf.1, Nat.le_trans (Nat.le_add_right _ 2) hf.2⟩
  refine lv_aload_n hx hb dL_law_950 rfl (lv_at hl 1 rfl) ?_
  refine lv_aload_n hx hb dL_law_951 rfl (lv_at hl 0 rfl) ?_
  refine lv_iload_n hx hb dL_law_952 rfl (lv_at hl 3 rfl) ?_
  refine lv_iconst (v := 1) hx hb dL_law_953 (by decide) ?_
  refine lv_iadd hx hb dL_law_954 ?_
  refine va_sld hx hb hX hbl hbA G.2.2.1 h1 dL_law_955 ?_
  refine lv_aload_n hx hb dL_law_956 rfl (lv_at hl 0 rfl) ?_
  refine lv_iload_n hx hb dL_law_957 rfl (lv_at hl 3 rfl) ?_
  refine lv_iconst (v := 2) hx hb dL_law_958 (by decide) ?_
  refine lv_iadd hx hb dL_law_959 ?_
  refine va_sld hx hb hX hbl hbA G.2.2.1 h2 dL_law_960 ?_
  refine r_VR [] E hN G.swap (CE.toN (c_X8_bill l Z q S X (xs (i + 1).toNatClampNeg) (xs (i + 2).toNatClampNeg) hI)) kX8_bill m_563 0 rfl rfl ⟨Nat.le_of_ble_eq_true rfl, Nat.le_of_ble_eq_true rfl⟩ hl dL_law_961 rfl rfl (Nat.le_of_ble_eq_true rfl) hf0 (fun rv w1 H locs hp G => ?_)
  obtain ⟨rfl, rfl⟩ := hp
  refine lv_aload_n hx hb dL_law_964 rfl (lv_at hl 2 rfl) ?_
  refine lv_aload_n hx hb dL_law_965 rfl (lv_at hl 0 rfl) ?_
  refine lv_iload_n hx hb dL_law_966 rfl (lv_at hl 3 rfl) ?_
  refine lv_iconst (v := 1) hx hb dL_law_967 (by decide) ?_
  refine lv_iadd hx hb dL_law_968 ?_
  refine va_sld hx hb hX hbl hbA G.2.2.1 h1 dL_law_969 ?_
  refine lv_aload_n hx hb dL_law_970 rfl (lv_at hl 0 rfl) ?_
  refine lv_iload_n hx hb dL_law_971 rfl (lv_at hl 3 rfl) ?_
  refine lv_iconst (v := 2) hx hb dL_law_972 (by decide) ?_
  refine lv_iadd hx hb dL_law_973 ?_
  refine va_sld hx hb hX hbl hbA G.2.2.1 h2 dL_law_974 ?_
  refine r_VR [.int (sp_bill S (xs (i + 1).toNatClampNeg) (xs (i + 2).toNatClampNeg)).1] E hN G.swap (CE.toN (c_X9_bill l Z r S Y (xs (i + 1).toNatClampNeg) (xs (i + 2).toNatClampNeg) hI)) kX9_bill m_910 0 rfl rfl ⟨Nat.le_of_ble_eq_true rfl, Nat.le_of_ble_eq_true rfl⟩ hl dL_law_975 rfl rfl (Nat.le_of_ble_eq_true rfl) hf0 (fun rv w1 H locs hp G => ?_)
  obtain ⟨rfl, rfl⟩ := hp
  refine lv_icmp_eq (tgt := 1141) hx hb dL_law_978 (by decide) (fun _ => ?_) (fun cc => absurd rfl cc)
  refine W.widen (k := cells + 1) (n := slots + 2) (by omega) (by omega) ?_
  exact kk q _ _ _ H locs rfl (hI.bill (xs (i + 1).toNatClampNeg) (xs (i + 2).toNatClampNeg)) G
set_option maxRecDepth 100000 in
theorem law_c23 (E : EW p m c cL_law 4 s args "ConeRoundsLaw" Z) (hN : KN s) (hX : va_X b L xs s s.heap) (hbl : b < s.heap.size) (hI : Inv S) (G : GW Z (CW Z q S X ++ MW Z r S Y) (AL s) s.heap H locs) (h1 : vp_in (i + 1) L) (h2 : vp_in (i + 2) L) (h3 : vp_in (i + 3) L) (h4 : vp_in (i + 4) L) (hl : lv_has ls 4 [(0, .ref b), (1, .ref (q 0)), (2, .ref (r 0)), (3, .int i)]) (hf : cells + 1 ≤ room_1.cells ∧ slots + 2 ≤ room_1.slots) (kk : LK p l e s m args below meth c Q Z ls q r cells slots) : W p l e room_1 s m args below meth c H locs cells slots Q (F0 m 983 ls []) := by
  have hx := E.1.1
  have hb := E.1.2.1
  have hbA : ¬ AL s b := Nat.not_le.mpr hbl
  have hf0 : cells + 0 ≤ room_1.cells ∧ slots + 0 ≤ room_1.slots := ⟨Nat.le_trans (Nat.le_succ _) hf.1, Nat.le_trans (Nat.le_add_right _ 2) hf.2⟩
  refine lv_aload_n hx hb dL_law_983 rfl (lv_at hl 1 rfl) ?_
  refine lv_aload_n hx hb dL_law_984 rfl (lv_at hl 0 rfl) ?_
  refine lv_iload_n hx hb dL_law_985 rfl (lv_at hl 3 rfl) ?_
  refine lv_iconst (v := 1) hx hb dL_law_986 (by decide) ?_
  refine lv_iadd hx hb dL_law_987 ?_
  refine va_sld hx hb hX hbl hbA G.2.2.1 h1 dL_law_988 ?_
  refine lv_aload_n hx hb dL_law_989 rfl (lv_at hl 0 rfl) ?_
  refine lv_iload_n hx hb dL_law_990 rfl (lv_at hl 3 rfl) ?_
  refine lv_iconst (v := 2) hx hb dL_law_991 (by decide) ?_
  refine lv_iadd hx hb dL_law_992 ?_
  refine va_sld hx hb hX hbl hbA G.2.2.1 h2 dL_law_993 ?_
  refine r_VR [] E hN G.swap (CE.toN (c_X8_pay l Z q S X (xs (i + 1).toNatClampNeg) (xs (i + 2).toNatClampNeg) hI)) kX8_pay m_575 0 rfl rfl ⟨Nat.le_of_ble_eq_true rfl, Nat.le_of_ble_eq_true rfl⟩ hl dL_law_994 rfl rfl (Nat.le_of_ble_eq_true rfl) hf0 (fun rv w1 H locs hp G => ?_)
  obtain ⟨rfl, rfl⟩ := hp
  refine lv_aload_n hx hb dL_law_997 rfl (lv_at hl 2 rfl) ?_
  refine lv_aload_n hx hb dL_law_998 rfl (lv_at hl 0 rfl) ?_
  refine lv_iload_n hx hb dL_law_999 rfl (lv_at hl 3 rfl) ?_
  refine lv_iconst (v := 1) hx hb dL_law_1000 (by decide) ?_
  refine lv_iadd hx hb dL_law_1001 ?_
  refine va_sld hx hb hX hbl hbA G.2.2.1 h1 dL_law_1002 ?_
  refine lv_aload_n hx hb dL_law_1003 rfl (lv_at hl 0 rfl) ?_
  refine lv_iload_n hx hb dL_law_1004 rfl (lv_at hl 3 rfl) ?_
  refine lv_iconst (v := 2) hx hb dL_law_1005 (by decide) ?_
  refine lv_iadd hx hb dL_law_1006 ?_
  refine va_sld hx hb hX hbl hbA G.2.2.1 h2 dL_law_1007 ?_
  refine r_VR [.int (sp_pay S (xs (i + 1).toNatClampNeg) (xs (i + 2).toNatClampNeg)).1] E hN G.swap (CE.toN (c_X9_pay l Z r S Y (xs (i + 1).toNatClampNeg) (xs (i + 2).toNatClampNeg) hI)) kX9_pay m_914 0 rfl rfl ⟨Nat.le_of_ble_eq_true rfl, Nat.le_of_ble_eq_true rfl⟩ hl dL_law_1008 rfl rfl (Nat.le_of_ble_eq_true rfl) hf0 (fun rv w1 H locs hp G => ?_)
  obtain ⟨rfl, rfl⟩ := hp
  refine lv_icmp_eq (tgt := 1141) hx hb dL_law_1011 (by decide) (fun _ => ?_) (fun cc => absurd rfl cc)
  refine W.widen (k := cells + 1) (n := slots + 2) (by omega) (by omega) ?_
  exact kk q _ _ _ H locs rfl (hI.pay (xs (i + 1).toNatClampNeg) (xs (i + 2).toNatClampNeg)) G
set_option maxRecDepth 100000 in
theorem law_c24 (E : EW p m c cL_law 4 s args "ConeRoundsLaw" Z) (hN : KN s) (hX : va_X b L xs s s.heap) (hbl : b < s.heap.size) (hI : Inv S) (G : GW Z (CW Z q S X ++ MW Z r S Y) (AL s) s.heap H locs) (h1 : vp_in (i + 1) L) (h2 : vp_in (i + 2) L) (h3 : vp_in (i + 3) L) (h4 : vp_in (i + 4) L) (hl : lv_has ls 4 [(0, .ref b), (1, .ref (q 0)), (2, .ref (r 0)), (3, .int i)]) (hf : cells + 1 ≤ room_1.cells ∧ slots + 2 ≤ room_1.slots) (kk : LK p l e s m args below meth c Q Z ls q r cells slots) : W p l e room_1 s m args below meth c H locs cells slots Q (F0 m 1016 ls []) := by
  have hx := E.1.1
  have hb := E.1.2.1
  have hbA : ¬ AL s b := Nat.not_le.mpr hbl
  have hf0 : cells + 0 ≤ room_1.cells ∧ slots + 0 ≤ room_1.slots := ⟨Nat.le_trans (Nat.le_succ _) hf.1, Nat.le_trans (Nat.le_add_right _ 2) hf.2⟩
  refine lv_aload_n hx hb dL_law_1016 rfl (lv_at hl 1 rfl) ?_
  refine lv_aload_n hx hb dL_law_1017 rfl (lv_at hl 0 rfl) ?_
  refine lv_iload_n hx hb dL_law_1018 rfl (lv_at hl 3 rfl) ?_
  refine lv_iconst (v := 1) hx hb dL_law_1019 (by decide) ?_
  refine lv_iadd hx hb dL_law_1020 ?_
  refine va_sld hx hb hX hbl hbA G.2.2.1 h1 dL_law_1021 ?_
  refine lv_aload_n hx hb dL_law_1022 rfl (lv_at hl 0 rfl) ?_
  refine lv_iload_n hx hb dL_law_1023 rfl (lv_at hl 3 rfl) ?_
  refine lv_iconst (v := 2) hx hb dL_law_1024 (by decide) ?_
  refine lv_iadd hx hb dL_law_1025 ?_
  refine va_sld hx hb hX hbl hbA G.2.2.1 h2 dL_law_1026 ?_
  refine r_VR [] E hN G.swap (CE.toN (c_X8_owed l Z q S X (xs (i + 1).toNatClampNeg) (xs (i + 2).toNatClampNeg) hI)) kX8_owed m_583 0 rfl rfl ⟨Nat.le_of_ble_eq_true rfl, Nat.le_of_ble_eq_true rfl⟩ hl dL_law_1027 rfl rfl (Nat.le_of_ble_eq_true rfl) hf0 (fun rv w1 H locs hp G => ?_)
  obtain ⟨rfl, rfl⟩ := hp
  refine lv_aload_n hx hb dL_law_1030 rfl (lv_at hl 2 rfl) ?_
  refine lv_aload_n hx hb dL_law_1031 rfl (lv_at hl 0 rfl) ?_
  refine lv_iload_n hx hb dL_law_1032 rfl (lv_at hl 3 rfl) ?_
  refine lv_iconst (v := 1) hx hb dL_law_1033 (by decide) ?_
  refine lv_iadd hx hb dL_law_1034 ?_
  refine va_sld hx hb hX hbl hbA G.2.2.1 h1 dL_law_1035 ?_
  refine lv_aload_n hx hb dL_law_1036 rfl (lv_at hl 0 rfl) ?_
  refine lv_iload_n hx hb dL_law_1037 rfl (lv_at hl 3 rfl) ?_
  refine lv_iconst (v := 2) hx hb dL_law_1038 (by decide) ?_
  refine lv_iadd hx hb dL_law_1039 ?_
  refine va_sld hx hb hX hbl hbA G.2.2.1 h2 dL_law_1040 ?_
  refine r_VR [.int (sp_owed S (xs (i + 1).toNatClampNeg) (xs (i + 2).toNatClampNeg)).1] E hN G.swap (CE.toN (c_X9_owed l Z r S Y (xs (i + 1).toNatClampNeg) (xs (i + 2).toNatClampNeg) hI)) kX9_owed m_922 0 rfl rfl ⟨Nat.le_of_ble_eq_true rfl, Nat.le_of_ble_eq_true rfl⟩ hl dL_law_1041 rfl rfl (Nat.le_of_ble_eq_true rfl) hf0 (fun rv w1 H locs hp G => ?_)
  obtain ⟨rfl, rfl⟩ := hp
  refine lv_icmp_eq (tgt := 1141) hx hb dL_law_1044 (by decide) (fun _ => ?_) (fun cc => absurd rfl cc)
  refine W.widen (k := cells + 1) (n := slots + 2) (by omega) (by omega) ?_
  exact kk q _ _ _ H locs rfl (hI.owed (xs (i + 1).toNatClampNeg) (xs (i + 2).toNatClampNeg)) G
set_option maxRecDepth 100000 in
theorem law_c25 (E : EW p m c cL_law 4 s args "ConeRoundsLaw" Z) (hN : KN s) (hX : va_X b L xs s s.heap) (hbl : b < s.heap.size) (hI : Inv S) (G : GW Z (CW Z q S X ++ MW Z r S Y) (AL s) s.heap H locs) (h1 : vp_in (i + 1) L) (h2 : vp_in (i + 2) L) (h3 : vp_in (i + 3) L) (h4 : vp_in (i + 4) L) (hl : lv_has ls 4 [(0, .ref b), (1, .ref (q 0)), (2, .ref (r 0)), (3, .int i)]) (hf : cells + 1 ≤ room_1.cells ∧ slots + 2 ≤ room_1.slots) (kk : LK p l e s m args below meth c Q Z ls q r cells slots) : W p l e room_1 s m args below meth c H locs cells slots Q (F0 m 1049 ls []) := by
  have hx := E.1.1
  have hb := E.1.2.1
  have hbA : ¬ AL s b := Nat.not_le.mpr hbl
  have hf0 : cells + 0 ≤ room_1.cells ∧ slots + 0 ≤ room_1.slots := ⟨Nat.le_trans (Nat.le_succ _) hf.1, Nat.le_trans (Nat.le_add_right _ 2) hf.2⟩
  refine lv_aload_n hx hb dL_law_1049 rfl (lv_at hl 1 rfl) ?_
  refine lv_aload_n hx hb dL_law_1050 rfl (lv_at hl 0 rfl) ?_
  refine lv_iload_n hx hb dL_law_1051 rfl (lv_at hl 3 rfl) ?_
  refine lv_iconst (v := 1) hx hb dL_law_1052 (by decide) ?_
  refine lv_iadd hx hb dL_law_1053 ?_
  refine va_sld hx hb hX hbl hbA G.2.2.1 h1 dL_law_1054 ?_
  refine r_VR [] E hN G.swap (CE.toN (c_X8_tell l Z q S X (xs (i + 1).toNatClampNeg) hI)) kX8_tell m_599 0 rfl rfl ⟨Nat.le_of_ble_eq_true rfl, Nat.le_of_ble_eq_true rfl⟩ hl dL_law_1055 rfl rfl (Nat.le_of_ble_eq_true rfl) hf0 (fun rv w1 H locs hp G => ?_)
  obtain ⟨rfl, rfl⟩ := hp
  refine lv_aload_n hx hb dL_law_1058 rfl (lv_at hl 2 rfl) ?_
  refine lv_aload_n hx hb dL_law_1059 rfl (lv_at hl 0 rfl) ?_
  refine lv_iload_n hx hb dL_law_1060 rfl (lv_at hl 3 rfl) ?_
  refine lv_iconst (v := 1) hx hb dL_law_1061 (by decide) ?_
  refine lv_iadd hx hb dL_law_1062 ?_
  refine va_sld hx hb hX hbl hbA G.2.2.1 h1 dL_law_1063 ?_
  refine r_VR [.int (sp_tell S (xs (i + 1).toNatClampNeg)).1] E hN G.swap (CE.toN (c_X9_tell l Z r S Y (xs (i + 1).toNatClampNeg) hI)) kX9_tell m_930 0 rfl rfl ⟨Nat.le_of_ble_eq_true rfl, Nat.le_of_ble_eq_true rfl⟩ hl dL_law_1064 rfl rfl (Nat.le_of_ble_eq_true rfl) hf0 (fun rv w1 H locs hp G => ?_)
  obtain ⟨rfl, rfl⟩ := hp
  refine lv_icmp_eq (tgt := 1141) hx hb dL_law_1067 (by decide) (fun _ => ?_) (fun cc => absurd rfl cc)
  refine W.widen (k := cells + 1) (n := slots + 2) (by omega) (by omega) ?_
  exact kk q _ _ _ H locs rfl (hI.tell (xs (i + 1).toNatClampNeg)) G
set_option maxRecDepth 100000 in
theorem law_c26 (E : EW p m c cL_law 4 s args "ConeRoundsLaw" Z) (hN : KN s) (hX : va_X b L xs s s.heap) (hbl : b < s.heap.size) (hI : Inv S) (G : GW Z (CW Z q S X ++ MW Z r S Y) (AL s) s.heap H locs) (h1 : vp_in (i + 1) L) (h2 : vp_in (i + 2) L) (h3 : vp_in (i + 3) L) (h4 : vp_in (i + 4) L) (hl : lv_has ls 4 [(0, .ref b), (1, .ref (q 0)), (2, .ref (r 0)), (3, .int i)]) (hf : cells + 1 ≤ room_1.cells ∧ slots + 2 ≤ room_1.slots) (kk : LK p l e s m args below meth c Q Z ls q r cells slots) : W p l e room_1 s m args below meth c H locs cells slots Q (F0 m 1072 ls []) := by
  have hx := E.1.1
  have hb := E.1.2.1
  have hbA : ¬ AL s b := Nat.not_le.mpr hbl
  have hf0 : cells + 0 ≤ room_1.cells ∧ slots + 0 ≤ room_1.slots := ⟨Nat.le_trans (Nat.le_succ _) hf.1, Nat.le_trans (Nat.le_add_right _ 2) hf.2⟩
  refine lv_aload_n hx hb dL_law_1072 rfl (lv_at hl 1 rfl) ?_
  refine lv_aload_n hx hb dL_law_1073 rfl (lv_at hl 0 rfl) ?_
  refine lv_iload_n hx hb dL_law_1074 rfl (lv_at hl 3 rfl) ?_
  refine lv_iconst (v := 1) hx hb dL_law_1075 (by decide) ?_
  refine lv_iadd hx hb dL_law_1076 ?_
  refine va_sld hx hb hX hbl hbA G.2.2.1 h1 dL_law_1077 ?_
  refine r_VR [] E hN G.swap (CE.toN (c_X8_check l Z q S X (xs (i + 1).toNatClampNeg) hI)) kX8_check m_603 0 rfl rfl ⟨Nat.le_of_ble_eq_true rfl, Nat.le_of_ble_eq_true rfl⟩ hl dL_law_1078 rfl rfl (Nat.le_of_ble_eq_true rfl) hf0 (fun rv w1 H locs hp G => ?_)
  obtain ⟨rfl, rfl⟩ := hp
  refine lv_aload_n hx hb dL_law_1081 rfl (lv_at hl 2 rfl) ?_
  refine lv_aload_n hx hb dL_law_1082 rfl (lv_at hl 0 rfl) ?_
  refine lv_iload_n hx hb dL_law_1083 rfl (lv_at hl 3 rfl) ?_
  refine lv_iconst (v := 1) hx hb dL_law_1084 (by decide) ?_
  refine lv_iadd hx hb dL_law_1085 ?_
  refine va_sld hx hb hX hbl hbA G.2.2.1 h1 dL_law_1086 ?_
  refine r_VR [.int (sp_check S (xs (i + 1).toNatClampNeg)).1] E hN G.swap (CE.toN (c_X9_check l Z r S Y (xs (i + 1).toNatClampNeg) hI)) kX9_check m_934 0 rfl rfl ⟨Nat.le_of_ble_eq_true rfl, Nat.le_of_ble_eq_true rfl⟩ hl dL_law_1087 rfl rfl (Nat.le_of_ble_eq_true rfl) hf0 (fun rv w1 H locs hp G => ?_)
  obtain ⟨rfl, Y2, rfl⟩ := hp
  refine lv_icmp_eq (tgt := 1141) hx hb dL_law_1090 (by decide) (fun _ => ?_) (fun cc => absurd rfl cc)
  refine W.widen (k := cells + 1) (n := slots + 2) (by omega) (by omega) ?_
  exact kk q _ _ _ H locs rfl (hI.check (xs (i + 1).toNatClampNeg)) G
set_option maxRecDepth 100000 in
theorem law_c27 (E : EW p m c cL_law 4 s args "ConeRoundsLaw" Z) (hN : KN s) (hX : va_X b L xs s s.heap) (hbl : b < s.heap.size) (hI : Inv S) (G : GW Z (CW Z q S X ++ MW Z r S Y) (AL s) s.heap H locs) (h1 : vp_in (i + 1) L) (h2 : vp_in (i + 2) L) (h3 : vp_in (i + 3) L) (h4 : vp_in (i + 4) L) (hl : lv_has ls 4 [(0, .ref b), (1, .ref (q 0)), (2, .ref (r 0)), (3, .int i)]) (hf : cells + 1 ≤ room_1.cells ∧ slots + 2 ≤ room_1.slots) (kk : LK p l e s m args below meth c Q Z ls q r cells slots) : W p l e room_1 s m args below meth c H locs cells slots Q (F0 m 1095 ls []) := by
  have hx := E.1.1
  have hb := E.1.2.1
  have hbA : ¬ AL s b := Nat.not_le.mpr hbl
  have hf0 : cells + 0 ≤ room_1.cells ∧ slots + 0 ≤ room_1.slots := ⟨Nat.le_trans (Nat.le_succ _) hf.1, Nat.le_trans (Nat.le_add_right _ 2) hf.2⟩
  refine lv_aload_n hx hb dL_law_1095 rfl (lv_at hl 1 rfl) ?_
  refine lv_aload_n hx hb dL_law_1096 rfl (lv_at hl 0 rfl) ?_
  refine lv_iload_n hx hb dL_law_1097 rfl (lv_at hl 3 rfl) ?_
  refine lv_iconst (v := 1) hx hb dL_law_1098 (by decide) ?_
  refine lv_iadd hx hb dL_law_1099 ?_
  refine va_sld hx hb hX hbl hbA G.2.2.1 h1 dL_law_1100 ?_
  refine r_VR [] E hN G.swap (CE.toN (c_X8_count l Z q S X (xs (i + 1).toNatClampNeg) hI)) kX8_count m_615 0 rfl rfl ⟨Nat.le_of_ble_eq_true rfl, Nat.le_of_ble_eq_true rfl⟩ hl dL_law_1101 rfl rfl (Nat.le_of_ble_eq_true rfl) hf0 (fun rv w1 H locs hp G => ?_)
  obtain ⟨rfl, rfl⟩ := hp
  refine lv_aload_n hx hb dL_law_1104 rfl (lv_at hl 2 rfl) ?_
  refine lv_aload_n hx hb dL_law_1105 rfl (lv_at hl 0 rfl) ?_
  refine lv_iload_n hx hb dL_law_1106 rfl (lv_at hl 3 rfl) ?_
  refine lv_iconst (v := 1) hx hb dL_law_1107 (by decide) ?_
  refine lv_iadd hx hb dL_law_1108 ?_
  refine va_sld hx hb hX hbl hbA G.2.2.1 h1 dL_law_1109 ?_
  refine r_VR [.int (sp_count S (xs (i + 1).toNatClampNeg)).1] E hN G.swap (CE.toN (c_X9_count l Z r S Y (xs (i + 1).toNatClampNeg) hI)) kX9_count m_938 0 rfl rfl ⟨Nat.le_of_ble_eq_true rfl, Nat.le_of_ble_eq_true rfl⟩ hl dL_law_1110 rfl rfl (Nat.le_of_ble_eq_true rfl) hf0 (fun rv w1 H locs hp G => ?_)
  obtain ⟨rfl, rfl⟩ := hp
  refine lv_icmp_eq (tgt := 1141) hx hb dL_law_1113 (by decide) (fun _ => ?_) (fun cc => absurd rfl cc)
  refine W.widen (k := cells + 1) (n := slots + 2) (by omega) (by omega) ?_
  exact kk q _ _ _ H locs rfl (hI.count (xs (i + 1).toNatClampNeg)) G
set_option maxRecDepth 100000 in
theorem law_c28 (E : EW p m c cL_law 4 s args "ConeRoundsLaw" Z) (hN : KN s) (hX : va_X b L xs s s.heap) (hbl : b < s.heap.size) (hI : Inv S) (G : GW Z (CW Z q S X ++ MW Z r S Y) (AL s) s.heap H locs) (h1 : vp_in (i + 1) L) (h2 : vp_in (i + 2) L) (h3 : vp_in (i + 3) L) (h4 : vp_in (i + 4) L) (hl : lv_has ls 4 [(0, .ref b), (1, .ref (q 0)), (2, .ref (r 0)), (3, .int i)]) (hf : cells + 1 ≤ room_1.cells ∧ slots + 2 ≤ room_1.slots) (kk : LK p l e s m args below meth c Q Z ls q r cells slots) : W p l e room_1 s m args below meth c H locs cells slots Q (F0 m 1118 ls []) := by
  have hx := E.1.1
  have hb := E.1.2.1
  have hbA : ¬ AL s b := Nat.not_le.mpr hbl
  have hf0 : cells + 0 ≤ room_1.cells ∧ slots + 0 ≤ room_1.slots := ⟨Nat.le_trans (Nat.le_succ _) hf.1, Nat.le_trans (Nat.le_add_right _ 2) hf.2⟩
  refine lv_aload_n hx hb dL_law_1118 rfl (lv_at hl 1 rfl) ?_
  refine lv_aload_n hx hb dL_law_1119 rfl (lv_at hl 0 rfl) ?_
  refine lv_iload_n hx hb dL_law_1120 rfl (lv_at hl 3 rfl) ?_
  refine lv_iconst (v := 1) hx hb dL_law_1121 (by decide) ?_
  refine lv_iadd hx hb dL_law_1122 ?_
  refine va_sld hx hb hX hbl hbA G.2.2.1 h1 dL_law_1123 ?_
  refine r_VR [] E hN G.swap (CE.toN (c_X8_found l Z q S X (xs (i + 1).toNatClampNeg) hI)) kX8_found m_623 0 rfl rfl ⟨Nat.le_of_ble_eq_true rfl, Nat.le_of_ble_eq_true rfl⟩ hl dL_law_1124 rfl rfl (Nat.le_of_ble_eq_true rfl) hf0 (fun rv w1 H locs hp G => ?_)
  obtain ⟨rfl, rfl⟩ := hp
  refine lv_aload_n hx hb dL_law_1127 rfl (lv_at hl 2 rfl) ?_
  refine lv_aload_n hx hb dL_law_1128 rfl (lv_at hl 0 rfl) ?_
  refine lv_iload_n hx hb dL_law_1129 rfl (lv_at hl 3 rfl) ?_
  refine lv_iconst (v := 1) hx hb dL_law_1130 (by decide) ?_
  refine lv_iadd hx hb dL_law_1131 ?_
  refine va_sld hx hb hX hbl hbA G.2.2.1 h1 dL_law_1132 ?_
  refine r_VR [.int (sp_found S (xs (i + 1).toNatClampNeg)).1] E hN G.swap (CE.toN (c_X9_found l Z r S Y (xs (i + 1).toNatClampNeg) hI)) kX9_found m_942 0 rfl rfl ⟨Nat.le_of_ble_eq_true rfl, Nat.le_of_ble_eq_true rfl⟩ hl dL_law_1133 rfl rfl (Nat.le_of_ble_eq_true rfl) hf0 (fun rv w1 H locs hp G => ?_)
  obtain ⟨rfl, rfl⟩ := hp
  refine lv_icmp_eq (tgt := 1141) hx hb dL_law_1136 (by decide) (fun _ => ?_) (fun cc => absurd rfl cc)
  refine W.widen (k := cells + 1) (n := slots + 2) (by omega) (by omega) ?_
  exact kk q _ _ _ H locs rfl (hI.found (xs (i + 1).toNatClampNeg)) G
end LAW
