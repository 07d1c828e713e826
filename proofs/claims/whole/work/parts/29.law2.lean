section LAW
variable {p : Program} {l : Launch} {e : Env} {s : State} {m : MethodId} {args : Array Value} {below : List Frame} {meth : Method} {c : Code} {H : Heap} {locs : List Loc} {cells slots : Nat} {Q : State → Prop} {Z : ZT} {ls : Array Slot} {q r : Nat → Nat} {S : St} {X : XC} {Y : YM} {b L : Nat} {xs : Nat → Int32} {i : Int32}
set_option maxRecDepth 100000 in
theorem law_c10 (E : EW p m c cL_law 4 s args "ConeRoundsLaw" Z) (hN : KN s) (hX : va_X b L xs s s.heap) (hbl : b < s.heap.size) (hI : Inv S) (G : GW Z (CW Z q S X ++ MW Z r S Y) (AL s) s.heap H locs) (h1 : vp_in (i + 1) L) (h2 : vp_in (i + 2) L) (h3 : vp_in (i + 3) L) (h4 : vp_in (i + 4) L) (hl : lv_has ls 4 [(0, .ref b), (1, .ref (q 0)), (2, .ref (r 0)), (3, .int i)]) (hf : cells + 1 ≤ room_1.cells ∧ slots + 2 ≤ room_1.slots) (kk : LK p l e s m args below meth c Q Z ls q r cells slots) : W p l e room_1 s m args below meth c H locs cells slots Q (F0 m 504 ls []) := by
  have hx := E.1.1
  have hb := E.1.2.1
  have hbA : ¬ AL s b := Nat.not_le.mpr hbl
  have hf0 : cells + 0 ≤ room_1.cells ∧ slots + 0 ≤ room_1.slots := ⟨Nat.le_trans (Nat.le_succ _) hf.1, Nat.le_trans (Nat.le_add_right _ 2) hf.2⟩
  refine lv_aload_n hx hb dL_law_504 rfl (lv_at hl 1 rfl) ?_
  refine lv_aload_n hx hb dL_law_505 rfl (lv_at hl 0 rfl) ?_
  refine lv_iload_n hx hb dL_law_506 rfl (lv_at hl 3 rfl) ?_
  refine lv_iconst (v := 1) hx hb dL_law_507 (by decide) ?_
  refine lv_iadd hx hb dL_law_508 ?_
  refine va_sld hx hb hX hbl hbA G.2.2.1 h1 dL_law_509 ?_
  refine lv_aload_n hx hb dL_law_510 rfl (lv_at hl 0 rfl) ?_
  refine lv_iload_n hx hb dL_law_511 rfl (lv_at hl 3 rfl) ?_
  refine lv_iconst (v := 2) hx hb dL_law_512 (by decide) ?_
  refine lv_iadd hx hb dL_law_513 ?_
  refine va_sld hx hb hX hbl hbA G.2.2.1 h2 dL_law_514 ?_
  refine r_VR [] E hN G.swap (CE.toN (c_X8_worth l Z q S X (xs (i + 1).toNatClampNeg) (xs (i + 2).toNatClampNeg) hI)) kX8_worth m_368 0 rfl rfl ⟨Nat.le_of_ble_eq_true rfl, Nat.le_of_ble_eq_true rfl⟩ hl dL_law_515 rfl rfl (Nat.le_of_ble_eq_true rfl) hf0 (fun rv w1 H locs hp G => ?_)
  obtain ⟨rfl, rfl⟩ := hp
  refine lv_aload_n hx hb dL_law_518 rfl (lv_at hl 2 rfl) ?_
  refine lv_aload_n hx hb dL_law_519 rfl (lv_at hl 0 rfl) ?_
  refine lv_iload_n hx hb dL_law_520 rfl (lv_at hl 3 rfl) ?_
  refine lv_iconst (v := 1) hx hb dL_law_521 (by decide) ?_
  refine lv_iadd hx hb dL_law_522 ?_
  refine va_sld hx hb hX hbl hbA G.2.2.1 h1 dL_law_523 ?_
  refine lv_aload_n hx hb dL_law_524 rfl (lv_at hl 0 rfl) ?_
  refine lv_iload_n hx hb dL_law_525 rfl (lv_at hl 3 rfl) ?_
  refine lv_iconst (v := 2) hx hb dL_law_526 (by decide) ?_
  refine lv_iadd hx hb dL_law_527 ?_
  refine va_sld hx hb hX hbl hbA G.2.2.1 h2 dL_law_528 ?_
  refine r_VR [.int (sp_worth S (xs (i + 1).toNatClampNeg) (xs (i + 2).toNatClampNeg)).1] E hN G.swap (CE.toN (c_X9_worth l Z r S Y (xs (i + 1).toNatClampNeg) (xs (i + 2).toNatClampNeg) hI)) kX9_worth m_810 0 rfl rfl ⟨Nat.le_of_ble_eq_true rfl, Nat.le_of_ble_eq_true rfl⟩ hl dL_law_529 rfl rfl (Nat.le_of_ble_eq_true rfl) hf0 (fun rv w1 H locs hp G => ?_)
  obtain ⟨rfl, rfl⟩ := hp
  refine lv_icmp_eq (tgt := 1141) hx hb dL_law_532 (by decide) (fun _ => ?_) (fun cc => absurd rfl cc)
  refine W.widen (k := cells + 1) (n := slots + 2) (by omega) (by omega) ?_
  exact kk q _ _ _ H locs rfl (hI.worth (xs (i + 1).toNatClampNeg) (xs (i + 2).toNatClampNeg)) G
set_option maxRecDepth 100000 in
theorem law_c11 (E : EW p m c cL_law 4 s args "ConeRoundsLaw" Z) (hN : KN s) (hX : va_X b L xs s s.heap) (hbl : b < s.heap.size) (hI : Inv S) (G : GW Z (CW Z q S X ++ MW Z r S Y) (AL s) s.heap H locs) (h1 : vp_in (i + 1) L) (h2 : vp_in (i + 2) L) (h3 : vp_in (i + 3) L) (h4 : vp_in (i + 4) L) (hl : lv_has ls 4 [(0, .ref b), (1, .ref (q 0)), (2, .ref (r 0)), (3, .int i)]) (hf : cells + 1 ≤ room_1.cells ∧ slots + 2 ≤ room_1.slots) (kk : LK p l e s m args below meth c Q Z ls q r cells slots) : W p l e room_1 s m args below meth c H locs cells slots Q (F0 m 537 ls []) := by
  have hx := E.1.1
  have hb := E.1.2.1
  have hbA : ¬ AL s b := Nat.not_le.mpr hbl
  have hf0 : cells + 0 ≤ room_1.cells ∧ slots + 0 ≤ room_1.slots := ⟨Nat.le_trans (Nat.le_succ _) hf.1, Nat.le_trans (Nat.le_add_right _ 2) hf.2⟩
  refine lv_aload_n hx hb dL_law_537 rfl (lv_at hl 1 rfl) ?_
  refine lv_aload_n hx hb dL_law_538 rfl (lv_at hl 0 rfl) ?_
  refine lv_iload_n hx hb dL_law_539 rfl (lv_at hl 3 rfl) ?_
  refine lv_iconst (v := 1) hx hb dL_law_540 (by decide) ?_
  refine lv_iadd hx hb dL_law_541 ?_
  refine va_sld hx hb hX hbl hbA G.2.2.1 h1 dL_law_542 ?_
  refine lv_aload_n hx hb dL_law_543 rfl (lv_at hl 0 rfl) ?_
  refine lv_iload_n hx hb dL_law_544 rfl (lv_at hl 3 rfl) ?_
  refine lv_iconst (v := 2) hx hb dL_law_545 (by decide) ?_
  refine lv_iadd hx hb dL_law_546 ?_
  refine va_sld hx hb hX hbl hbA G.2.2.1 h2 dL_law_547 ?_
  refine lv_aload_n hx hb dL_law_548 rfl (lv_at hl 0 rfl) ?_
  refine lv_iload_n hx hb dL_law_549 rfl (lv_at hl 3 rfl) ?_
  refine lv_iconst (v := 3) hx hb dL_law_550 (by decide) ?_
  refine lv_iadd hx hb dL_law_551 ?_
  refine va_sld hx hb hX hbl hbA G.2.2.1 h3 dL_law_552 ?_
  refine r_VR [] E hN G.swap (CE.toN (c_X8_plan l Z q S X (xs (i + 1).toNatClampNeg) (xs (i + 2).toNatClampNeg) (xs (i + 3).toNatClampNeg) hI)) kX8_plan m_377 0 rfl rfl ⟨Nat.le_of_ble_eq_true rfl, Nat.le_of_ble_eq_true rfl⟩ hl dL_law_553 rfl rfl (Nat.le_of_ble_eq_true rfl) hf0 (fun rv w1 H locs hp G => ?_)
  obtain ⟨rfl, rfl⟩ := hp
  refine lv_aload_n hx hb dL_law_556 rfl (lv_at hl 2 rfl) ?_
  refine lv_aload_n hx hb dL_law_557 rfl (lv_at hl 0 rfl) ?_
  refine lv_iload_n hx hb dL_law_558 rfl (lv_at hl 3 rfl) ?_
  refine lv_iconst (v := 1) hx hb dL_law_559 (by decide) ?_
  refine lv_iadd hx hb dL_law_560 ?_
  refine va_sld hx hb hX hbl hbA G.2.2.1 h1 dL_law_561 ?_
  refine lv_aload_n hx hb dL_law_562 rfl (lv_at hl 0 rfl) ?_
  refine lv_iload_n hx hb dL_law_563 rfl (lv_at hl 3 rfl) ?_
  refine lv_iconst (v := 2) hx hb dL_law_564 (by decide) ?_
  refine lv_iadd hx hb dL_law_565 ?_
  refine va_sld hx hb hX hbl hbA G.2.2.1 h2 dL_law_566 ?_
  refine lv_aload_n hx hb dL_law_567 rfl (lv_at hl 0 rfl) ?_
  refine lv_iload_n hx hb dL_law_568 rfl (lv_at hl 3 rfl) ?_
  refine lv_iconst (v := 3) hx hb dL_law_569 (by decide) ?_
  refine lv_iadd hx hb dL_law_570 ?_
  refine va_sld hx hb hX hbl hbA G.2.2.1 h3 dL_law_571 ?_
  refine r_VR [.int (sp_plan S (xs (i + 1).toNatClampNeg) (xs (i + 2).toNatClampNeg) (xs (i + 3).toNatClampNeg)).1] E hN G.swap (CE.toN (c_X9_plan l Z r S Y (xs (i + 1).toNatClampNeg) (xs (i + 2).toNatClampNeg) (xs (i + 3).toNatClampNeg) hI)) kX9_plan m_818 0 rfl rfl ⟨Nat.le_of_ble_eq_true rfl, Nat.le_of_ble_eq_true rfl⟩ hl dL_law_572 rfl rfl (Nat.le_of_ble_eq_true rfl) hf0 (fun rv w1 H locs hp G => ?_)
  obtain ⟨rfl, Y2, rfl⟩ := hp
  refine lv_icmp_eq (tgt := 1141) hx hb dL_law_575 (by decide) (fun _ => ?_) (fun cc => absurd rfl cc)
  refine W.widen (k := cells + 1) (n := slots + 2) (by omega) (by omega) ?_
  exact kk q _ _ _ H locs rfl (hI.plan (xs (i + 1).toNatClampNeg) (xs (i + 2).toNatClampNeg) (xs (i + 3).toNatClampNeg)) G
set_option maxRecDepth 100000 in
theorem law_c12 (E : EW p m c cL_law 4 s args "ConeRoundsLaw" Z) (hN : KN s) (hX : va_X b L xs s s.heap) (hbl : b < s.heap.size) (hI : Inv S) (G : GW Z (CW Z q S X ++ MW Z r S Y) (AL s) s.heap H locs) (h1 : vp_in (i + 1) L) (h2 : vp_in (i + 2) L) (h3 : vp_in (i + 3) L) (h4 : vp_in (i + 4) L) (hl : lv_has ls 4 [(0, .ref b), (1, .ref (q 0)), (2, .ref (r 0)), (3, .int i)]) (hf : cells + 1 ≤ room_1.cells ∧ slots + 2 ≤ room_1.slots) (kk : LK p l e s m args below meth c Q Z ls q r cells slots) : W p l e room_1 s m args below meth c H locs cells slots Q (F0 m 580 ls []) := by
  have hx := E.1.1
  have hb := E.1.2.1
  have hbA : ¬ AL s b := Nat.not_le.mpr hbl
  have hf0 : cells + 0 ≤ room_1.cells ∧ slots + 0 ≤ room_1.slots := ⟨Nat.le_trans (Nat.le_succ _) hf.1, Nat.le_trans (Nat.le_add_right _ 2) hf.2⟩
  refine lv_aload_n hx hb dL_law_580 rfl (lv_at hl 1 rfl) ?_
  refine lv_aload_n hx hb dL_law_581 rfl (lv_at hl 0 rfl) ?_
  refine lv_iload_n hx hb dL_law_582 rfl (lv_at hl 3 rfl) ?_
  refine lv_iconst (v := 1) hx hb dL_law_583 (by decide) ?_
  refine lv_iadd hx hb dL_law_584 ?_
  refine va_sld hx hb hX hbl hbA G.2.2.1 h1 dL_law_585 ?_
  refine lv_aload_n hx hb dL_law_586 rfl (lv_at hl 0 rfl) ?_
  refine lv_iload_n hx hb dL_law_587 rfl (lv_at hl 3 rfl) ?_
  refine lv_iconst (v := 2) hx hb dL_law_588 (by decide) ?_
  refine lv_iadd hx hb dL_law_589 ?_
  refine va_sld hx hb hX hbl hbA G.2.2.1 h2 dL_law_590 ?_
  refine lv_aload_n hx hb dL_law_591 rfl (lv_at hl 0 rfl) ?_
  refine lv_iload_n hx hb dL_law_592 rfl (lv_at hl 3 rfl) ?_
  refine lv_iconst (v := 3) hx hb dL_law_593 (by decide) ?_
  refine lv_iadd hx hb dL_law_594 ?_
  refine va_sld hx hb hX hbl hbA G.2.2.1 h3 dL_law_595 ?_
  refine lv_aload_n hx hb dL_law_596 rfl (lv_at hl 0 rfl) ?_
  refine lv_iload_n hx hb dL_law_597 rfl (lv_at hl 3 rfl) ?_
  refine lv_iconst (v := 4) hx hb dL_law_598 (by decide) ?_
  refine lv_iadd hx hb dL_law_599 ?_
  refine va_sld hx hb hX hbl hbA G.2.2.1 h4 dL_law_600 ?_
  refine r_VR [] E hN G.swap (CE.toN (c_X8_stop l Z q S X (xs (i + 1).toNatClampNeg) (xs (i + 2).toNatClampNeg) (xs (i + 3).toNatClampNeg) (xs (i + 4).toNatClampNeg) hI)) kX8_stop m_462 0 rfl rfl ⟨Nat.le_of_ble_eq_true rfl, Nat.le_of_ble_eq_true rfl⟩ hl dL_law_601 rfl rfl (Nat.le_of_ble_eq_true rfl) hf0 (fun rv w1 H locs hp G => ?_)
  obtain ⟨rfl, rfl⟩ := hp
  refine lv_aload_n hx hb dL_law_604 rfl (lv_at hl 2 rfl) ?_
  refine lv_aload_n hx hb dL_law_605 rfl (lv_at hl 0 rfl) ?_
  refine lv_iload_n hx hb dL_law_606 rfl (lv_at hl 3 rfl) ?_
  refine lv_iconst (v := 1) hx hb dL_law_607 (by decide) ?_
  refine lv_iadd hx hb dL_law_608 ?_
  refine va_sld hx hb hX hbl hbA G.2.2.1 h1 dL_law_609 ?_
  refine lv_aload_n hx hb dL_law_610 rfl (lv_at hl 0 rfl) ?_
  refine lv_iload_n hx hb dL_law_611 rfl (lv_at hl 3 rfl) ?_
  refine lv_iconst (v := 2) hx hb dL_law_612 (by decide) ?_
  refine lv_iadd hx hb dL_law_613 ?_
  refine va_sld hx hb hX hbl hbA G.2.2.1 h2 dL_law_614 ?_
  refine lv_aload_n hx hb dL_law_615 rfl (lv_at hl 0 rfl) ?_
  refine lv_iload_n hx hb dL_law_616 rfl (lv_at hl 3 rfl) ?_
  refine lv_iconst (v := 3) hx hb dL_law_617 (by decide) ?_
  refine lv_iadd hx hb dL_law_618 ?_
  refine va_sld hx hb hX hbl hbA G.2.2.1 h3 dL_law_619 ?_
  refine lv_aload_n hx hb dL_law_620 rfl (lv_at hl 0 rfl) ?_
  refine lv_iload_n hx hb dL_law_621 rfl (lv_at hl 3 rfl) ?_
  refine lv_iconst (v := 4) hx hb dL_law_622 (by decide) ?_
  refine lv_iadd hx hb dL_law_623 ?_
  refine va_sld hx hb hX hbl hbA G.2.2.1 h4 dL_law_624 ?_
  refine r_VR [.int (sp_stop S (xs (i + 1).toNatClampNeg) (xs (i + 2).toNatClampNeg) (xs (i + 3).toNatClampNeg) (xs (i + 4).toNatClampNeg)).1] E hN G.swap (CE.toN (c_X9_stop l Z r S Y (xs (i + 1).toNatClampNeg) (xs (i + 2).toNatClampNeg) (xs (i + 3).toNatClampNeg) (xs (i + 4).toNatClampNeg) hI)) kX9_stop m_846 0 rfl rfl ⟨Nat.le_of_ble_eq_true rfl, Nat.le_of_ble_eq_true rfl⟩ hl dL_law_625 rfl rfl (Nat.le_of_ble_eq_true rfl) hf0 (fun rv w1 H locs hp G => ?_)
  obtain ⟨rfl, Y2, rfl⟩ := hp
  refine lv_icmp_eq (tgt := 1141) hx hb dL_law_628 (by decide) (fun _ => ?_) (fun cc => absurd rfl cc)
  refine W.widen (k := cells + 1) (n := slots + 2) (by omega) (by omega) ?_
  exact kk q _ _ _ H locs rfl (hI.stop (xs (i + 1).toNatClampNeg) (xs (i + 2).toNatClampNeg) (xs (i + 3).toNatClampNeg) (xs (i + 4).toNatClampNeg)) G
set_option maxRecDepth 100000 in
theorem law_c13 (E : EW p m c cL_law 4 s args "ConeRoundsLaw" Z) (hN : KN s) (hX : va_X b L xs s s.heap) (hbl : b < s.heap.size) (hI : Inv S) (G : GW Z (CW Z q S X ++ MW Z r S Y) (AL s) s.heap H locs) (h1 : vp_in (i + 1) L) (h2 : vp_in (i + 2) L) (h3 : vp_in (i + 3) L) (h4 : vp_in (i + 4) L) (hl : lv_has ls 4 [(0, .ref b), (1, .ref (q 0)), (2, .ref (r 0)), (3, .int i)]) (hf : cells + 1 ≤ room_1.cells ∧ slots + 2 ≤ room_1.slots) (kk : LK p l e s m args below meth c Q Z ls q r cells slots) : W p l e room_1 s m args below meth c H locs cells slots Q (F0 m 633 ls []) := by
  have hx := E.1.1
  have hb := E.1.2.1
  have hbA : ¬ AL s b := Nat.not_le.mpr hbl
  have hf0 : cells + 0 ≤ room_1.cells ∧ slots + 0 ≤ room_1.slots := ⟨Nat.le_trans (Nat.le_succ _) hf.1, Nat.le_trans (Nat.le_add_right _ 2) hf.2⟩
  refine lv_aload_n hx hb dL_law_633 rfl (lv_at hl 1 rfl) ?_
  refine lv_aload_n hx hb dL_law_634 rfl (lv_at hl 0 rfl) ?_
  refine lv_iload_n hx hb dL_law_635 rfl (lv_at hl 3 rfl) ?_
  refine lv_iconst (v := 1) hx hb dL_law_636 (by decide) ?_
  refine lv_iadd hx hb dL_law_637 ?_
  refine va_sld hx hb hX hbl hbA G.2.2.1 h1 dL_law_638 ?_
  refine lv_aload_n hx hb dL_law_639 rfl (lv_at hl 0 rfl) ?_
  refine lv_iload_n hx hb dL_law_640 rfl (lv_at hl 3 rfl) ?_
  refine lv_iconst (v := 2) hx hb dL_law_641 (by decide) ?_
  refine lv_iadd hx hb dL_law_642 ?_
  refine va_sld hx hb hX hbl hbA G.2.2.1 h2 dL_law_643 ?_
  refine lv_aload_n hx hb dL_law_644 rfl (lv_at hl 0 rfl) ?_
  refine lv_iload_n hx hb dL_law_645 rfl (lv_at hl 3 rfl) ?_
  refine lv_iconst (v := 3) hx hb dL_law_646 (by decide) ?_
  refine lv_iadd hx hb dL_law_647 ?_
  refine va_sld hx hb hX hbl hbA G.2.2.1 h3 dL_law_648 ?_
  refine r_VR [] E hN G.swap (CE.toN (c_X8_left l Z q S X (xs (i + 1).toNatClampNeg) (xs (i + 2).toNatClampNeg) (xs (i + 3).toNatClampNeg) hI)) kX8_left m_471 0 rfl rfl ⟨Nat.le_of_ble_eq_true rfl, Nat.le_of_ble_eq_true rfl⟩ hl dL_law_649 rfl rfl (Nat.le_of_ble_eq_true rfl) hf0 (fun rv w1 H locs hp G => ?_)
  obtain ⟨rfl, rfl⟩ := hp
  refine lv_aload_n hx hb dL_law_652 rfl (lv_at hl 2 rfl) ?_
  refine lv_aload_n hx hb dL_law_653 rfl (lv_at hl 0 rfl) ?_
  refine lv_iload_n hx hb dL_law_654 rfl (lv_at hl 3 rfl) ?_
  refine lv_iconst (v := 1) hx hb dL_law_655 (by decide) ?_
  refine lv_iadd hx hb dL_law_656 ?_
  refine va_sld hx hb hX hbl hbA G.2.2.1 h1 dL_law_657 ?_
  refine lv_aload_n hx hb dL_law_658 rfl (lv_at hl 0 rfl) ?_
  refine lv_iload_n hx hb dL_law_659 rfl (lv_at hl 3 rfl) ?_
  refine lv_iconst (v := 2) hx hb dL_law_660 (by decide) ?_
  refine lv_iadd hx hb dL_law_661 ?_
  refine va_sld hx hb hX hbl hbA G.2.2.1 h2 dL_law_662 ?_
  refine lv_aload_n hx hb dL_law_663 rfl (lv_at hl 0 rfl) ?_
  refine lv_iload_n hx hb dL_law_664 rfl (lv_at hl 3 rfl) ?_
  refine lv_iconst (v := 3) hx hb dL_law_665 (by decide) ?_
  refine lv_iadd hx hb dL_law_666 ?_
  refine va_sld hx hb hX hbl hbA G.2.2.1 h3 dL_law_667 ?_
  refine r_VR [.int (sp_left S (xs (i + 1).toNatClampNeg) (xs (i + 2).toNatClampNeg) (xs (i + 3).toNatClampNeg)).1] E hN G.swap (CE.toN (c_X9_left l Z r S Y (xs (i + 1).toNatClampNeg) (xs (i + 2).toNatClampNeg) (xs (i + 3).toNatClampNeg) hI)) kX9_left m_850 0 rfl rfl ⟨Nat.le_of_ble_eq_true rfl, Nat.le_of_ble_eq_true rfl⟩ hl dL_law_668 rfl rfl (Nat.le_of_ble_eq_true rfl) hf0 (fun rv w1 H locs hp G => ?_)
  obtain ⟨rfl, Y2, rfl⟩ := hp
  refine lv_icmp_eq (tgt := 1141) hx hb dL_law_671 (by decide) (fun _ => ?_) (fun cc => absurd rfl cc)
  refine W.widen (k := cells + 1) (n := slots + 2) (by omega) (by omega) ?_
  exact kk q _ _ _ H locs rfl (hI.left (xs (i + 1).toNatClampNeg) (xs (i + 2).toNatClampNeg) (xs (i + 3).toNatClampNeg)) G
set_option maxRecDepth 100000 in
theorem law_c14 (E : EW p m c cL_law 4 s args "ConeRoundsLaw" Z) (hN : KN s) (hX : va_X b L xs s s.heap) (hbl : b < s.heap.size) (hI : Inv S) (G : GW Z (CW Z q S X ++ MW Z r S Y) (AL s) s.heap H locs) (h1 : vp_in (i + 1) L) (h2 : vp_in (i + 2) L) (h3 : vp_in (i + 3) L) (h4 : vp_in (i + 4) L) (hl : lv_has ls 4 [(0, .ref b), (1, .ref (q 0)), (2, .ref (r 0)), (3, .int i)]) (hf : cells + 1 ≤ room_1.cells ∧ slots + 2 ≤ room_1.slots) (kk : LK p l e s m args below meth c Q Z ls q r cells slots) : W p l e room_1 s m args below meth c H locs cells slots Q (F0 m 676 ls []) := by
  have hx := E.1.1
  have hb := E.1.2.1
  have hbA : ¬ AL s b := Nat.not_le.mpr hbl
  have hf0 : cells + 0 ≤ room_1.cells ∧ slots + 0 ≤ room_1.slots := ⟨Nat.le_trans (Nat.le_succ _) hf.1, Nat.le_trans (Nat.le_add_right _ 2) hf.2⟩
  refine lv_aload_n hx hb dL_law_676 rfl (lv_at hl 1 rfl) ?_
  refine lv_aload_n hx hb dL_law_677 rfl (lv_at hl 0 rfl) ?_
  refine lv_iload_n hx hb dL_law_678 rfl (lv_at hl 3 rfl) ?_
  refine lv_iconst (v := 1) hx hb dL_law_679 (by decide) ?_
  refine lv_iadd hx hb dL_law_680 ?_
  refine va_sld hx hb hX hbl hbA G.2.2.1 h1 dL_law_681 ?_
  refine lv_aload_n hx hb dL_law_682 rfl (lv_at hl 0 rfl) ?_
  refine lv_iload_n hx hb dL_law_683 rfl (lv_at hl 3 rfl) ?_
  refine lv_iconst (v := 2) hx hb dL_law_684 (by decide) ?_
  refine lv_iadd hx hb dL_law_685 ?_
  refine va_sld hx hb hX hbl hbA G.2.2.1 h2 dL_law_686 ?_
  refine lv_aload_n hx hb dL_law_687 rfl (lv_at hl 0 rfl) ?_
  refine lv_iload_n hx hb dL_law_688 rfl (lv_at hl 3 rfl) ?_
  refine lv_iconst (v := 3) hx hb dL_law_689 (by decide) ?_
  refine lv_iadd hx hb dL_law_690 ?_
  refine va_sld hx hb hX hbl hbA G.2.2.1 h3 dL_law_691 ?_
  refine r_VR [] E hN G.swap (CE.toN (c_X8_stand l Z q S X (xs (i + 1).toNatClampNeg) (xs (i + 2).toNatClampNeg) (xs (i + 3).toNatClampNeg) hI)) kX8_stand m_475 0 rfl rfl ⟨Nat.le_of_ble_eq_true rfl, Nat.le_of_ble_eq_true rfl⟩ hl dL_law_692 rfl rfl (Nat.le_of_ble_eq_true rfl) hf0 (fun rv w1 H locs hp G => ?_)
  obtain ⟨rfl, rfl⟩ := hp
  refine lv_aload_n hx hb dL_law_695 rfl (lv_at hl 2 rfl) ?_
  refine lv_aload_n hx hb dL_law_696 rfl (lv_at hl 0 rfl) ?_
  refine lv_iload_n hx hb dL_law_697 rfl (lv_at hl 3 rfl) ?_
  refine lv_iconst (v := 1) hx hb dL_law_698 (by decide) ?_
  refine lv_iadd hx hb dL_law_699 ?_
  refine va_sld hx hb hX hbl hbA G.2.2.1 h1 dL_law_700 ?_
  refine lv_aload_n hx hb dL_law_701 rfl (lv_at hl 0 rfl) ?_
  refine lv_iload_n hx hb dL_law_702 rfl (lv_at hl 3 rfl) ?_
  refine lv_iconst (v := 2) hx hb dL_law_703 (by decide) ?_
  refine lv_iadd hx hb dL_law_704 ?_
  refine va_sld hx hb hX hbl hbA G.2.2.1 h2 dL_law_705 ?_
  refine lv_aload_n hx hb dL_law_706 rfl (lv_at hl 0 rfl) ?_
  refine lv_iload_n hx hb dL_law_707 rfl (lv_at hl 3 rfl) ?_
  refine lv_iconst (v := 3) hx hb dL_law_708 (by decide) ?_
  refine lv_iadd hx hb dL_law_709 ?_
  refine va_sld hx hb hX hbl hbA G.2.2.1 h3 dL_law_710 ?_
  refine r_VR [.int (sp_stand S (xs (i + 1).toNatClampNeg) (xs (i + 2).toNatClampNeg) (xs (i + 3).toNatClampNeg)).1] E hN G.swap (CE.toN (c_X9_stand l Z r S Y (xs (i + 1).toNatClampNeg) (xs (i + 2).toNatClampNeg) (xs (i + 3).toNatClampNeg) hI)) kX9_stand m_854 0 rfl rfl ⟨Nat.le_of_ble_eq_true rfl, Nat.le_of_ble_eq_true rfl⟩ hl dL_law_711 rfl rfl (Nat.le_of_ble_eq_true rfl) hf0 (fun rv w1 H locs hp G => ?_)
  obtain ⟨rfl, rfl⟩ := hp
  refine lv_icmp_eq (tgt := 1141) hx hb dL_law_714 (by decide) (fun _ => ?_) (fun cc => absurd rfl cc)
  refine W.widen (k := cells + 1) (n := slots + 2) (by omega) (by omega) ?_
  exact kk q _ _ _ H locs rfl (hI.stand (xs (i + 1).toNatClampNeg) (xs (i + 2).toNatClampNeg) (xs (i + 3).toNatClampNeg)) G
set_option maxRecDepth 100000 in
theorem law_c15 (E : EW p m c cL_law 4 s args "ConeRoundsLaw" Z) (hN : KN s) (hX : va_X b L xs s s.heap) (hbl : b < s.heap.size) (hI : Inv S) (G : GW Z (CW Z q S X ++ MW Z r S Y) (AL s) s.heap H locs) (h1 : vp_in (i + 1) L) (h2 : vp_in (i + 2) L) (h3 : vp_in (i + 3) L) (h4 : vp_in (i + 4) L) (hl : lv_has ls 4 [(0, .ref b), (1, .ref (q 0)), (2, .ref (r 0)), (3, .int i)]) (hf : cells + 1 ≤ room_1.cells ∧ slots + 2 ≤ room_1.slots) (kk : LK p l e s m args below meth c Q Z ls q r cells slots) : W p l e room_1 s m args below meth c H locs cells slots Q (F0 m 719 ls []) := by
  have hx := E.1.1
  have hb := E.1.2.1
  have hbA : ¬ AL s b := Nat.not_le.mpr hbl
  have hf0 : cells + 0 ≤ room_1.cells ∧ slots + 0 ≤ room_1.slots := ⟨Nat.le_trans (Nat.le_succ _) hf.1, Nat.le_trans (Nat.le_add_right _ 2) hf.2⟩
  refine lv_aload_n hx hb dL_law_719 rfl (lv_at hl 1 rfl) ?_
  refine lv_aload_n hx hb dL_law_720 rfl (lv_at hl 0 rfl) ?_
  refine lv_iload_n hx hb dL_law_721 rfl (lv_at hl 3 rfl) ?_
  refine lv_iconst (v := 1) hx hb dL_law_722 (by decide) ?_
  refine lv_iadd hx hb dL_law_723 ?_
  refine va_sld hx hb hX hbl hbA G.2.2.1 h1 dL_law_724 ?_
  refine r_VR [] E hN G.swap (CE.toN (c_X8_wrong l Z q S X (xs (i + 1).toNatClampNeg) hI)) kX8_wrong m_495 0 rfl rfl ⟨Nat.le_of_ble_eq_true rfl, Nat.le_of_ble_eq_true rfl⟩ hl dL_law_725 rfl rfl (Nat.le_of_ble_eq_true rfl) hf0 (fun rv w1 H locs hp G => ?_)
  obtain ⟨rfl, rfl⟩ := hp
  refine lv_aload_n hx hb dL_law_728 rfl (lv_at hl 2 rfl) ?_
  refine lv_aload_n hx hb dL_law_729 rfl (lv_at hl 0 rfl) ?_
  refine lv_iload_n hx hb dL_law_730 rfl (lv_at hl 3 rfl) ?_
  refine lv_iconst (v := 1) hx hb dL_law_731 (by decide) ?_
  refine lv_iadd hx hb dL_law_732 ?_
  refine va_sld hx hb hX hbl hbA G.2.2.1 h1 dL_law_733 ?_
  refine r_VR [.int (sp_wrong S (xs (i + 1).toNatClampNeg)).1] E hN G.swap (CE.toN (c_X9_wrong l Z r S Y (xs (i + 1).toNatClampNeg) hI)) kX9_wrong m_862 0 rfl rfl ⟨Nat.le_of_ble_eq_true rfl, Nat.le_of_ble_eq_true rfl⟩ hl dL_law_734 rfl rfl (Nat.le_of_ble_eq_true rfl) hf0 (fun rv w1 H locs hp G => ?_)
  obtain ⟨rfl, rfl⟩ := hp
  refine lv_icmp_eq (tgt := 1141) hx hb dL_law_737 (by decide) (fun _ => ?_) (fun cc => absurd rfl cc)
  refine W.widen (k := cells + 1) (n := slots + 2) (by omega) (by omega) ?_
  exact kk q _ _ _ H locs rfl (hI.wrong (xs (i + 1).toNatClampNeg)) G
set_option maxRecDepth 100000 in
theorem law_c16 (E : EW p m c cL_law 4 s args "ConeRoundsLaw" Z) (hN : KN s) (hX : va_X b L xs s s.heap) (hbl : b < s.heap.size) (hI : Inv S) (G : GW Z (CW Z q S X ++ MW Z r S Y) (AL s) s.heap H locs) (h1 : vp_in (i + 1) L) (h2 : vp_in (i + 2) L) (h3 : vp_in (i + 3) L) (h4 : vp_in (i + 4) L) (hl : lv_has ls 4 [(0, .ref b), (1, .ref (q 0)), (2, .ref (r 0)), (3, .int i)]) (hf : cells + 1 ≤ room_1.cells ∧ slots + 2 ≤ room_1.slots) (kk : LK p l e s m args below meth c Q Z ls q r cells slots) : W p l e room_1 s m args below meth c H locs cells slots Q (F0 m 742 ls []) := by
  have hx := E.1.1
  have hb := E.1.2.1
  have hbA : ¬ AL s b := Nat.not_le.mpr hbl
  have hf0 : cells + 0 ≤ room_1.cells ∧ slots + 0 ≤ room_1.slots := ⟨Nat.le_trans (Nat.le_succ _) hf.1, Nat.le_trans (Nat.le_add_right _ 2) hf.2⟩
  refine lv_aload_n hx hb dL_law_742 rfl (lv_at hl 1 rfl) ?_
  refine r_VR [] E hN G.swap (CE.toN (c_X8_clear l Z q S X hI)) kX8_clear m_511 0 rfl rfl ⟨Nat.le_of_ble_eq_true rfl, Nat.le_of_ble_eq_true rfl⟩ hl dL_law_743 rfl rfl (Nat.le_of_ble_eq_true rfl) hf0 (fun rv w1 H locs hp G => ?_)
  obtain ⟨rfl, rfl⟩ := hp
  refine lv_aload_n hx hb dL_law_746 rfl (lv_at hl 2 rfl) ?_
  refine r_VR [.int (sp_clear S).1] E hN G.swap (CE.toN (c_X9_clear l Z r S Y hI)) kX9_clear m_870 0 rfl rfl ⟨Nat.le_of_ble_eq_true rfl, Nat.le_of_ble_eq_true rfl⟩ hl dL_law_747 rfl rfl (Nat.le_of_ble_eq_true rfl) hf0 (fun rv w1 H locs hp G => ?_)
  obtain ⟨rfl, rfl⟩ := hp
  refine lv_icmp_eq (tgt := 1141) hx hb dL_law_750 (by decide) (fun _ => ?_) (fun cc => absurd rfl cc)
  refine W.widen (k := cells + 1) (n := slots + 2) (by omega) (by omega) ?_
  exact kk q _ _ _ H locs rfl (hI.clear) G
set_option maxRecDepth 100000 in
theorem law_c17 (E : EW p m c cL_law 4 s args "ConeRoundsLaw" Z) (hN : KN s) (hX : va_X b L xs s s.heap) (hbl : b < s.heap.size) (hI : Inv S) (G : GW Z (CW Z q S X ++ MW Z r S Y) (AL s) s.heap H locs) (h1 : vp_in (i + 1) L) (h2 : vp_in (i + 2) L) (h3 : vp_in (i + 3) L) (h4 : vp_in (i + 4) L) (hl : lv_has ls 4 [(0, .ref b), (1, .ref (q 0)), (2, .ref (r 0)), (3, .int i)]) (hf : cells + 1 ≤ room_1.cells ∧ slots + 2 ≤ room_1.slots) (kk : LK p l e s m args below meth c Q Z ls q r cells slots) : W p l e room_1 s m args below meth c H locs cells slots Q (F0 m 755 ls []) := by
  have hx := E.1.1
  have hb := E.1.2.1
  have hbA : ¬ AL s b := Nat.not_le.mpr hbl
  have hf0 : cells + 0 ≤ room_1.cells ∧ slots + 0 ≤ room_1.slots := ⟨Nat.le_trans (Nat.le_succ _) hf.1, Nat.le_trans (Nat.le_add_right _ 2) hf.2⟩
  refine lv_aload_n hx hb dL_law_755 rfl (lv_at hl 1 rfl) ?_
  refine lv_aload_n hx hb dL_law_756 rfl (lv_at hl 0 rfl) ?_
  refine lv_iload_n hx hb dL_law_757 rfl (lv_at hl 3 rfl) ?_
  refine lv_iconst (v := 1) hx hb dL_law_758 (by decide) ?_
  refine lv_iadd hx hb dL_law_759 ?_
  refine va_sld hx hb hX hbl hbA G.2.2.1 h1 dL_law_760 ?_
  refine r_VR [] E hN G.swap (CE.toN (c_X8_holder l Z q S X (xs (i + 1).toNatClampNeg) hI)) kX8_holder m_515 0 rfl rfl ⟨Nat.le_of_ble_eq_true rfl, Nat.le_of_ble_eq_true rfl⟩ hl dL_law_761 rfl rfl (Nat.le_of_ble_eq_true rfl) hf0 (fun rv w1 H locs hp G => ?_)
  obtain ⟨rfl, rfl⟩ := hp
  refine lv_aload_n hx hb dL_law_764 rfl (lv_at hl 2 rfl) ?_
  refine lv_aload_n hx hb dL_law_765 rfl (lv_at hl 0 rfl) ?_
  refine lv_iload_n hx hb dL_law_766 rfl (lv_at hl 3 rfl) ?_
  refine lv_iconst (v := 1) hx hb dL_law_767 (by decide) ?_
  refine lv_iadd hx hb dL_law_768 ?_
  refine va_sld hx hb hX hbl hbA G.2.2.1 h1 dL_law_769 ?_
  refine r_VR [.int (sp_holder S (xs (i + 1).toNatClampNeg)).1] E hN G.swap (CE.toN (c_X9_holder l Z r S Y (xs (i + 1).toNatClampNeg) hI)) kX9_holder m_874 0 rfl rfl ⟨Nat.le_of_ble_eq_true rfl, Nat.le_of_ble_eq_true rfl⟩ hl dL_law_770 rfl rfl (Nat.le_of_ble_eq_true rfl) hf0 (fun rv w1 H locs hp G => ?_)
  obtain ⟨rfl, rfl⟩ := hp
  refine lv_icmp_eq (tgt := 1141) hx hb dL_law_773 (by decide) (fun _ => ?_) (fun cc => absurd rfl cc)
  refine W.widen (k := cells + 1) (n := slots + 2) (by omega) (by omega) ?_
  exact kk q _ _ _ H locs rfl (hI.holder (xs (i + 1).toNatClampNeg)) G
set_option maxRecDepth 100000 in
theorem law_c18 (E : EW p m c cL_law 4 s args "ConeRoundsLaw" Z) (hN : KN s) (hX : va_X b L xs s s.heap) (hbl : b < s.heap.size) (hI : Inv S) (G : GW Z (CW Z q S X ++ MW Z r S Y) (AL s) s.heap H locs) (h1 : vp_in (i + 1) L) (h2 : vp_in (i + 2) L) (h3 : vp_in (i + 3) L) (h4 : vp_in (i + 4) L) (hl : lv_has ls 4 [(0, .ref b), (1, .ref (q 0)), (2, .ref (r 0)), (3, .int i)]) (hf : cells + 1 ≤ room_1.cells ∧ slots + 2 ≤ room_1.slots) (kk : LK p l e s m args below meth c Q Z ls q r cells slots) : W p l e room_1 s m args below meth c H locs cells slots Q (F0 m 778 ls []) := by
  have hx := E.1.1
  have hb := E.1.2.1
  have hbA : ¬ AL s b := Nat.not_le.mpr hbl
  have hf0 : cells + 0 ≤ room_1.cells ∧ slots + 0 ≤ room_1.slots := ⟨Nat.le_trans (Nat.le_succ _) hf.1, Nat.le_trans (Nat.le_add_right _ 2) hf.2⟩
  refine lv_aload_n hx hb dL_law_778 rfl (lv_at hl 1 rfl) ?_
  refine lv_aload_n hx hb dL_law_779 rfl (lv_at hl 0 rfl) ?_
  refine lv_iload_n hx hb dL_law_780 rfl (lv_at hl 3 rfl) ?_
  refine lv_iconst (v := 1) hx hb dL_law_781 (by decide) ?_
  refine lv_iadd hx hb dL_law_782 ?_
  refine va_sld hx hb hX hbl hbA G.2.2.1 h1 dL_law_783 ?_
  refine lv_aload_n hx hb dL_law_784 rfl (lv_at hl 0 rfl) ?_
  refine lv_iload_n hx hb dL_law_785 rfl (lv_at hl 3 rfl) ?_
  refine lv_iconst (v := 2) hx hb dL_law_786 (by decide) ?_
  refine lv_iadd hx hb dL_law_787 ?_
  refine va_sld hx hb hX hbl hbA G.2.2.1 h2 dL_law_788 ?_
  refine lv_aload_n hx hb dL_law_789 rfl (lv_at hl 0 rfl) ?_
  refine lv_iload_n hx hb dL_law_790 rfl (lv_at hl 3 rfl) ?_
  refine lv_iconst (v := 3) hx hb dL_law_791 (by decide) ?_
  refine lv_iadd hx hb dL_law_792 ?_
  refine va_sld hx hb hX hbl hbA G.2.2.1 h3 dL_law_793 ?_
  refine lv_aload_n hx hb dL_law_794 rfl (lv_at hl 0 rfl) ?_
  refine lv_iload_n hx hb dL_law_795 rfl (lv_at hl 3 rfl) ?_
  refine lv_iconst (v := 4) hx hb dL_law_796 (by decide) ?_
  refine lv_iadd hx hb dL_law_797 ?_
  refine va_sld hx hb hX hbl hbA G.2.2.1 h4 dL_law_798 ?_
  refine r_VR [] E hN G.swap (CE.toN (c_X8_gets l Z q S X (xs (i + 1).toNatClampNeg) (xs (i + 2).toNatClampNeg) (xs (i + 3).toNatClampNeg) (xs (i + 4).toNatClampNeg) hI)) kX8_gets m_527 0 rfl rfl ⟨Nat.le_of_ble_eq_true rfl, Nat.le_of_ble_eq_true rfl⟩ hl dL_law_799 rfl rfl (Nat.le_of_ble_eq_true rfl) hf0 (fun rv w1 H locs hp G => ?_)
  obtain ⟨rfl, rfl⟩ := hp
  refine lv_aload_n hx hb dL_law_802 rfl (lv_at hl 2 rfl) ?_
  refine lv_aload_n hx hb dL_law_803 rfl (lv_at hl 0 rfl) ?_
  refine lv_iload_n hx hb dL_law_804 rfl (lv_at hl 3 rfl) ?_
  refine lv_iconst (v := 1) hx hb dL_law_805 (by decide) ?_
  refine lv_iadd hx hb dL_law_806 ?_
  refine va_sld hx hb hX hbl hbA G.2.2.1 h1 dL_law_807 ?_
  refine lv_aload_n hx hb dL_law_808 rfl (lv_at hl 0 rfl) ?_
  refine lv_iload_n hx hb dL_law_809 rfl (lv_at hl 3 rfl) ?_
  refine lv_iconst (v := 2) hx hb dL_law_810 (by decide) ?_
  refine lv_iadd hx hb dL_law_811 ?_
  refine va_sld hx hb hX hbl hbA G.2.2.1 h2 dL_law_812 ?_
  refine lv_aload_n hx hb dL_law_813 rfl (lv_at hl 0 rfl) ?_
  refine lv_iload_n hx hb dL_law_814 rfl (lv_at hl 3 rfl) ?_
  refine lv_iconst (v := 3) hx hb dL_law_815 (by decide) ?_
  refine lv_iadd hx hb dL_law_816 ?_
  refine va_sld hx hb hX hbl hbA G.2.2.1 h3 dL_law_817 ?_
  refine lv_aload_n hx hb dL_law_818 rfl (lv_at hl 0 rfl) ?_
  refine lv_iload_n hx hb dL_law_819 rfl (lv_at hl 3 rfl) ?_
  refine lv_iconst (v := 4) hx hb dL_law_820 (by decide) ?_
  refine lv_iadd hx hb dL_law_821 ?_
  refine va_sld hx hb hX hbl hbA G.2.2.1 h4 dL_law_822 ?_
  refine r_VR [.int (sp_gets S (xs (i + 1).toNatClampNeg) (xs (i + 2).toNatClampNeg) (xs (i + 3).toNatClampNeg) (xs (i + 4).toNatClampNeg)).1] E hN G.swap (CE.toN (c_X9_gets l Z r S Y (xs (i + 1).toNatClampNeg) (xs (i + 2).toNatClampNeg) (xs (i + 3).toNatClampNeg) (xs (i + 4).toNatClampNeg) hI)) kX9_gets m_882 0 rfl rfl ⟨Nat.le_of_ble_eq_true rfl, Nat.le_of_ble_eq_true rfl⟩ hl dL_law_823 rfl rfl (Nat.le_of_ble_eq_true rfl) hf0 (fun rv w1 H locs hp G => ?_)
  obtain ⟨rfl, rfl⟩ := hp
  refine lv_icmp_eq (tgt := 1141) hx hb dL_law_826 (by decide) (fun _ => ?_) (fun cc => absurd rfl cc)
  refine W.widen (k := cells + 1) (n := slots + 2) (by omega) (by omega) ?_
  exact kk q _ _ _ H locs rfl (hI.gets (xs (i + 1).toNatClampNeg) (xs (i + 2).toNatClampNeg) (xs (i + 3).toNatClampNeg) (xs (i + 4).toNatClampNeg)) G
set_option maxRecDepth 100000 in
theorem law_c19 (E : EW p m c cL_law 4 s args "ConeRoundsLaw" Z) (hN : KN s) (hX : va_X b L xs s s.heap) (hbl : b < s.heap.size) (hI : Inv S) (G : GW Z (CW Z q S X ++ MW Z r S Y) (AL s) s.heap H locs) (h1 : vp_in (i + 1) L) (h2 : vp_in (i + 2) L) (h3 : vp_in (i + 3) L) (h4 : vp_in (i + 4) L) (hl : lv_has ls 4 [(0, .ref b), (1, .ref (q 0)), (2, .ref (r 0)), (3, .int i)]) (hf : cells + 1 ≤ room_1.cells ∧ slots + 2 ≤ room_1.slots) (kk : LK p l e s m args below meth c Q Z ls q r cells slots) : W p l e room_1 s m args below meth c H locs cells slots Q (F0 m 831 ls []) := by
  have hx := E.1.1
  have hb := E.1.2.1
  have hbA : ¬ AL s b := Nat.not_le.mpr hbl
  have hf0 : cells + 0 ≤ room_1.cells ∧ slots + 0 ≤ room_1.slots := ⟨Nat.le_trans (Nat.le_succ _) hf.1, Nat.le_trans (Nat.le_add_right _ 2) hf.2⟩
  refine lv_aload_n hx hb dL_law_831 rfl (lv_at hl 1 rfl) ?_
  refine lv_aload_n hx hb dL_law_832 rfl (lv_at hl 0 rfl) ?_
  refine lv_iload_n hx hb dL_law_833 rfl (lv_at hl 3 rfl) ?_
  refine lv_iconst (v := 1) hx hb dL_law_834 (by decide) ?_
  refine lv_iadd hx hb dL_law_835 ?_
  refine va_sld hx hb hX hbl hbA G.2.2.1 h1 dL_law_836 ?_
  refine lv_aload_n hx hb dL_law_837 rfl (lv_at hl 0 rfl) ?_
  refine lv_iload_n hx hb dL_law_838 rfl (lv_at hl 3 rfl) ?_
  refine lv_iconst (v := 2) hx hb dL_law_839 (by decide) ?_
  refine lv_iadd hx hb dL_law_840 ?_
  refine va_sld hx hb hX hbl hbA G.2.2.1 h2 dL_law_841 ?_
  refine lv_aload_n hx hb dL_law_842 rfl (lv_at hl 0 rfl) ?_
  refine lv_iload_n hx hb dL_law_843 rfl (lv_at hl 3 rfl) ?_
  refine lv_iconst (v := 3) hx hb dL_law_844 (by decide) ?_
  refine lv_iadd hx hb dL_law_845 ?_
  refine va_sld hx hb hX hbl hbA G.2.2.1 h3 dL_law_846 ?_
  refine lv_aload_n hx hb dL_law_847 rfl (lv_at hl 0 rfl) ?_
  refine lv_iload_n hx hb dL_law_848 rfl (lv_at hl 3 rfl) ?_
  refine lv_iconst (v := 4) hx hb dL_law_849 (by decide) ?_
  refine lv_iadd hx hb dL_law_850 ?_
  refine va_sld hx hb hX hbl hbA G.2.2.1 h4 dL_law_851 ?_
  refine r_VR [] E hN G.swap (CE.toN (c_X8_balance l Z q S X (xs (i + 1).toNatClampNeg) (xs (i + 2).toNatClampNeg) (xs (i + 3).toNatClampNeg) (xs (i + 4).toNatClampNeg) hI)) kX8_balance m_539 0 rfl rfl ⟨Nat.le_of_ble_eq_true rfl, Nat.le_of_ble_eq_true rfl⟩ hl dL_law_852 rfl rfl (Nat.le_of_ble_eq_true rfl) hf0 (fun rv w1 H locs hp G => ?_)
  obtain ⟨rfl, rfl⟩ := hp
  refine lv_aload_n hx hb dL_law_855 rfl (lv_at hl 2 rfl) ?_
  refine lv_aload_n hx hb dL_law_856 rfl (lv_at hl 0 rfl) ?_
  refine lv_iload_n hx hb dL_law_857 rfl (lv_at hl 3 rfl) ?_
  refine lv_iconst (v := 1) hx hb dL_law_858 (by decide) ?_
  refine lv_iadd hx hb dL_law_859 ?_
  refine va_sld hx hb hX hbl hbA G.2.2.1 h1 dL_law_860 ?_
  refine lv_aload_n hx hb dL_law_861 rfl (lv_at hl 0 rfl) ?_
  refine lv_iload_n hx hb dL_law_862 rfl (lv_at hl 3 rfl) ?_
  refine lv_iconst (v := 2) hx hb dL_law_863 (by decide) ?_
  refine lv_iadd hx hb dL_law_864 ?_
  refine va_sld hx hb hX hbl hbA G.2.2.1 h2 dL_law_865 ?_
  refine lv_aload_n hx hb dL_law_866 rfl (lv_at hl 0 rfl) ?_
  refine lv_iload_n hx hb dL_law_867 rfl (lv_at hl 3 rfl) ?_
  refine lv_iconst (v := 3) hx hb dL_law_868 (by decide) ?_
  refine lv_iadd hx hb dL_law_869 ?_
  refine va_sld hx hb hX hbl hbA G.2.2.1 h3 dL_law_870 ?_
  refine lv_aload_n hx hb dL_law_871 rfl (lv_at hl 0 rfl) ?_
  refine lv_iload_n hx hb dL_law_872 rfl (lv_at hl 3 rfl) ?_
  refine lv_iconst (v := 4) hx hb dL_law_873 (by decide) ?_
  refine lv_iadd hx hb dL_law_874 ?_
  refine va_sld hx hb hX hbl hbA G.2.2.1 h4 dL_law_875 ?_
  refine r_VR [.int (sp_bal S (xs (i + 1).toNatClampNeg) (xs (i + 2).toNatClampNeg) (xs (i + 3).toNatClampNeg) (xs (i + 4).toNatClampNeg)).1] E hN G.swap (CE.toN (c_X9_balance l Z r S Y (xs (i + 1).toNatClampNeg) (xs (i + 2).toNatClampNeg) (xs (i + 3).toNatClampNeg) (xs (i + 4).toNatClampNeg) hI)) kX9_balance m_890 0 rfl rfl ⟨Nat.le_of_ble_eq_true rfl, Nat.le_of_ble_eq_true rfl⟩ hl dL_law_876 rfl rfl (Nat.le_of_ble_eq_true rfl) hf0 (fun rv w1 H locs hp G => ?_)
  obtain ⟨rfl, rfl⟩ := hp
  refine lv_icmp_eq (tgt := 1141) hx hb dL_law_879 (by decide) (fun _ => ?_) (fun cc => absurd rfl cc)
  refine W.widen (k := cells + 1) (n := slots + 2) (by omega) (by omega) ?_
  exact kk q _ _ _ H locs rfl (hI.balance (xs (i + 1).toNatClampNeg) (xs (i + 2).toNatClampNeg) (xs (i + 3).toNatClampNeg) (xs (i + 4).toNatClampNeg)) G
end LAW
