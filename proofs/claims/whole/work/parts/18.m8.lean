def hfY (Y : YM) (k : Int32) : Nat → Bool
  | 0 => false
  | j + 1 => hfY Y k j || (decide (y_rs Y j = ar (y_rs Y) k) && decide (ar (y_rh Y) k - y_rh Y j < 3))
def wdY (S : St) (Y : YM) (k : Int32) : Int32 := if hfY Y k k.toNatClampNeg then wor S (ar (y_rs Y) k) (ar (y_rh Y) k) / 2 else wor S (ar (y_rs Y) k) (ar (y_rh Y) k)
def hdY (S : St) (v : Int32) (Y : YM) (k : Int32) : Int32 := if k = 0 then ar (s_so S) v else ar (y_ke Y) (k - 1)
def saY (S : St) (v : Int32) (Y : YM) (k : Int32) : Int32 := if hdY S v Y k < mso S v (wdY S Y k) then hdY S v Y k else mso S v (wdY S Y k)
def pvY (Y : YM) (k : Int32) : Int32 := if k = 0 then 0 else ar (y_so Y) (k - 1)
def seY (S : St) (v : Int32) (Y : YM) (k : Int32) : YM := z_ke (z_so Y (au (y_so Y) k (pvY Y k + saY S v Y k))) (au (y_ke Y) k (hdY S v Y k - saY S v Y k - mel S v (hdY S v Y k - saY S v Y k)))
theorem ix_p {k : Int32} {n : Nat} (h0 : 0 ≤ k) (h : vp_in k n) (hk : ¬ k = 0) : vp_in (k - 1) n := by
  rw [vp_in_iff] at h ⊢
  have e := e_lit
  have h1 : ¬ k.toInt = 0 := fun z => hk (by rw [← Int32.toInt_inj, z]; rfl)
  have := i_rng k
  rw [i_sub (by omega) (by omega)]
  omega
theorem ix_12 {k : Int32} {n : Nat} (h0 : 0 ≤ k) (h1 : k < 12) (hn : 12 ≤ n) : vp_in k n := by
  have e := e_lit
  rw [i_le] at h0; rw [i_lt] at h1
  exact vp_of (by omega) (by omega)
theorem K12 {k : Int32} (h0 : 0 ≤ k) (h1 : k < 12) : k.toNatClampNeg < 12 := by
  obtain ⟨j, hj, e⟩ := nI_of (x := k) (Int32.not_lt.mpr h0)
  have e12 := e_lit
  rw [e, i_lt, nI_toInt hj] at h1
  rw [e, nI_clamp hj]
  omega
def noY (Y : YM) (m : Int32) : YM := if 0 < y_bm Y ∧ ar (y_so Y) (m - 1) ≤ y_bl Y then Y else z_bh (z_bs (z_bk (z_bl (z_bm Y m) (ar (y_so Y) (m - 1))) (ar (y_ke Y) (m - 1))) (cpA (y_rs Y) (y_bs Y) m.toNatClampNeg)) (cpA (y_rh Y) (y_bh Y) m.toNatClampNeg)
theorem noY_0 (Y : YM) (a b c : Int32) : z_bk (z_bl (z_bm Y a) b) c = z_bh (z_bs (z_bk (z_bl (z_bm Y a) b) c) (cpA (y_rs Y) (y_bs Y) 0)) (cpA (y_rh Y) (y_bh Y) 0) := by rw [cpA_0, cpA_0]; rfl
theorem noY_s (Y Y1 : YM) {k : Nat} (hk : k < 2 ^ 31) : z_bh (z_bs (z_bh (z_bs Y1 (cpA (y_rs Y) (y_bs Y) k)) (cpA (y_rh Y) (y_bh Y) k)) (au (cpA (y_rs Y) (y_bs Y) k) (nI k) (ar (y_rs Y) (nI k)))) (au (cpA (y_rh Y) (y_bh Y) k) (nI k) (ar (y_rh Y) (nI k))) = z_bh (z_bs Y1 (cpA (y_rs Y) (y_bs Y) (k + 1))) (cpA (y_rh Y) (y_bh Y) (k + 1)) := by rw [cpA_s _ _ hk, cpA_s _ _ hk]; rfl
def wnV (S : St) (v a n : Int32) : Int32 := if okP S v a n then (if may S v (a / 100) (ho a) then 0 else 3) else 1
set_option maxHeartbeats 4000000 in
set_option maxRecDepth 100000 in
theorem c_X9_sells (l : Launch) (Z : ZT) (q : Nat → Nat) (S : St) (Y : YM) (p1 p2 : Int32) (hI : Inv S) (hv : isVa S p1 = true) (h0 : 0 ≤ p2) (h1 : p2 < 12) (h2 : isSt S (ar (y_rs Y) p2) = true) (h3 : isHo (ar (y_rh Y) p2) = true) : CT l Z yX9_sells cX9_sells 9 none 2 [.ref (q 0), .int (p1), .int (p2)] (MW Z q S Y) none (MW Z q (S) (seY S p1 Y p2)) := by
  refine CE.mk rfl (Nat.le_of_ble_eq_true rfl) (fun p e s m args below meth c A Qx ls E hr hlk hnm hQ G hl => ?_)
  have hx := E.1.1
  have hb := E.1.2.1
  have hl : lv_has ls 9 [(0, .ref (q 0)), (1, .int (p1)), (2, .int (p2))] := hl
  have hk12 := K12 h0 h1
  refine lv_aload_n hx hb dX9_sells_0 rfl (lv_at hl 0 rfl) ?_
  refine lv_aload_n hx hb dX9_sells_1 rfl (lv_at hl 0 rfl) ?_
  refine gM_0_25 E G m_658 dX9_sells_2 ?_
  refine lv_iload_n hx hb dX9_sells_5 rfl (lv_at hl 2 rfl) ?_
  refine aM_16 E G (ix_12 h0 h1 (by decide)) dX9_sells_6 ?_
  refine lv_aload_n hx hb dX9_sells_7 rfl (lv_at hl 0 rfl) ?_
  refine gM_0_26 E G m_659 dX9_sells_8 ?_
  refine lv_iload_n hx hb dX9_sells_11 rfl (lv_at hl 2 rfl) ?_
  refine aM_17 E G (ix_12 h0 h1 (by decide)) dX9_sells_12 ?_
  refine r_V [] E G (c_X9_worthOf l Z q S Y (ar (y_rs Y) p2) (ar (y_rh Y) p2) hI h2 h3) kX9_worthOf m_814 0 rfl rfl ⟨Nat.le_of_ble_eq_true rfl, Nat.le_of_ble_eq_true rfl⟩ hl dX9_sells_13 rfl rfl (Nat.le_of_ble_eq_true rfl) ⟨Nat.zero_le _, Nat.zero_le _⟩ (fun H locs G => ?_)
  refine lv_istore_n (lv' := [(3, .int (wor S (ar (y_rs Y) p2) (ar (y_rh Y) p2))), (0, .ref (q 0)), (1, .int (p1)), (2, .int (p2))]) hx hb dX9_sells_16 rfl hl (by decide) rfl (fun ls hl => ?_)
  refine lv_iconst (v := 0) hx hb dX9_sells_17 (by decide) ?_
  refine lv_istore (lv' := [(4, .int (0)), (3, .int (wor S (ar (y_rs Y) p2) (ar (y_rh Y) p2))), (0, .ref (q 0)), (1, .int (p1)), (2, .int (p2))]) hx hb dX9_sells_18 hl (by decide) rfl (fun ls hl => ?_)
  refine lv_iconst (v := 0) hx hb dX9_sells_20 (by decide) ?_
  refine lv_istore (lv' := [(5, .int (0)), (4, .int (0)), (3, .int (wor S (ar (y_rs Y) p2) (ar (y_rh Y) p2))), (0, .ref (q 0)), (1, .int (p1)), (2, .int (p2))]) hx hb dX9_sells_21 hl (by decide) rfl (fun ls hl => ?_)
  have L23 : ∀ k : Nat, k ≤ p2.toNatClampNeg → (∀ (H : Heap) (locs : List Loc) (ls : Array Slot), GW Z (MW Z q S Y) A s.heap H locs → lv_has ls 9 [(0, .ref (q 0)), (1, .int (p1)), (2, .int (p2)), (3, .int (wor S (ar (y_rs Y) p2) (ar (y_rh Y) p2))), (4, .int (b01 (hfY Y p2 k))), (5, .int (nI k))] → W p l e (rmk 2 0 0) s m args below meth c H locs 0 0 Qx (F0 m 23 ls [])) := by
    refine up_in2 (P := fun k => (∀ (H : Heap) (locs : List Loc) (ls : Array Slot), GW Z (MW Z q S Y) A s.heap H locs → lv_has ls 9 [(0, .ref (q 0)), (1, .int (p1)), (2, .int (p2)), (3, .int (wor S (ar (y_rs Y) p2) (ar (y_rh Y) p2))), (4, .int (b01 (hfY Y p2 k))), (5, .int (nI k))] → W p l e (rmk 2 0 0) s m args below meth c H locs 0 0 Qx (F0 m 23 ls []))) (p2.toNatClampNeg) ?_
    intro k hkk ih23 H locs ls G hl
    refine lv_iload hx hb dX9_sells_23 (lv_at hl 5 rfl) ?_
    refine lv_iload_n hx hb dX9_sells_25 rfl (lv_at hl 2 rfl) ?_
    refine lv_icmp_ge (tgt := 81) hx hb dX9_sells_26 (by decide) (fun c_26 => ?_) (fun c_26 => ?_)
    · skip
      have c_26n := Int32.not_lt.mpr c_26
      have J93 : ∀ (H : Heap) (locs : List Loc) (ls : Array Slot), GW Z (MW Z q S Y) A s.heap H locs → lv_has ls 9 [(0, .ref (q 0)), (1, .int (p1)), (2, .int (p2))] → W p l e (rmk 2 0 0) s m args below meth c H locs 0 0 Qx (F0 m 93 ls [.int (wdY S Y p2)]) := by
        intro H locs ls G hl
        refine lv_istore (lv' := [(5, .int (wdY S Y p2)), (0, .ref (q 0)), (1, .int (p1)), (2, .int (p2))]) hx hb dX9_sells_93 hl (by decide) rfl (fun ls hl => ?_)
        have J119 : ∀ (H : Heap) (locs : List Loc) (ls : Array Slot), GW Z (MW Z q S Y) A s.heap H locs → lv_has ls 9 [(0, .ref (q 0)), (1, .int (p1)), (2, .int (p2))] → W p l e (rmk 2 0 0) s m args below meth c H locs 0 0 Qx (F0 m 119 ls [.int (mso S p1 (wdY S Y p2))]) := by
          intro H locs ls G hl
          refine lv_istore (lv' := [(5, .int (mso S p1 (wdY S Y p2))), (0, .ref (q 0)), (1, .int (p1)), (2, .int (p2))]) hx hb dX9_sells_119 hl (by decide) rfl (fun ls hl => ?_)
          have J142 : ∀ (H : Heap) (locs : List Loc) (ls : Array Slot), GW Z (MW Z q S Y) A s.heap H locs → lv_has ls 9 [(0, .ref (q 0)), (1, .int (p1)), (2, .int (p2)), (5, .int (mso S p1 (wdY S Y p2)))] → W p l e (rmk 2 0 0) s m args below meth c H locs 0 0 Qx (F0 m 142 ls [.int (hdY S p1 Y p2)]) := by
            intro H locs ls G hl
            refine lv_istore (lv' := [(6, .int (hdY S p1 Y p2)), (0, .ref (q 0)), (1, .int (p1)), (2, .int (p2)), (5, .int (mso S p1 (wdY S Y p2)))]) hx hb dX9_sells_142 hl (by decide) rfl (fun ls hl => ?_)
            have J158 : ∀ (H : Heap) (locs : List Loc) (ls : Array Slot), GW Z (MW Z q S Y) A s.heap H locs → lv_has ls 9 [(0, .ref (q 0)), (1, .int (p1)), (2, .int (p2)), (6, .int (hdY S p1 Y p2))] → W p l e (rmk 2 0 0) s m args below meth c H locs 0 0 Qx (F0 m 158 ls [.int (saY S p1 Y p2)]) := by
              intro H locs ls G hl
              refine lv_istore (lv' := [(7, .int (saY S p1 Y p2)), (0, .ref (q 0)), (1, .int (p1)), (2, .int (p2)), (6, .int (hdY S p1 Y p2))]) hx hb dX9_sells_158 hl (by decide) rfl (fun ls hl => ?_)
              refine lv_iload hx hb dX9_sells_160 (lv_at hl 4 rfl) ?_
              refine lv_iload hx hb dX9_sells_162 (lv_at hl 0 rfl) ?_
              refine lv_isub hx hb dX9_sells_164 ?_
              refine lv_istore (lv' := [(8, .int ((hdY S p1 Y p2) - (saY S p1 Y p2))), (7, .int (saY S p1 Y p2)), (0, .ref (q 0)), (1, .int (p1)), (2, .int (p2)), (6, .int (hdY S p1 Y p2))]) hx hb dX9_sells_165 hl (by decide) rfl (fun ls hl => ?_)
              have J188 : ∀ (H : Heap) (locs : List Loc) (ls : Array Slot), GW Z (MW Z q S Y) A s.heap H locs → lv_has ls 9 [(0, .ref (q 0)), (1, .int (p1)), (2, .int (p2)), (7, .int (saY S p1 Y p2)), (8, .int (hdY S p1 Y p2 - saY S p1 Y p2))] → W p l e (rmk 2 0 0) s m args below meth c H locs 0 0 Qx (F0 m 188 ls [.int (pvY Y p2), .int (p2), .ref (q 18)]) := by
                intro H locs ls G hl
                refine lv_iload hx hb dX9_sells_188 (lv_at hl 3 rfl) ?_
                refine lv_iadd hx hb dX9_sells_190 ?_
                refine tM_18 E G (ix_12 h0 h1 (by decide)) dX9_sells_191 (fun H locs G => ?_)
                have J235 : ∀ (H : Heap) (locs : List Loc) (ls : Array Slot), GW Z (MW Z q (S) (z_so Y (au (y_so Y) p2 ((pvY Y p2) + (saY S p1 Y p2))))) A s.heap H locs → lv_has ls 9 [(0, .ref (q 0)), (1, .int (p1)), (2, .int (p2))] → W p l e (rmk 2 0 0) s m args below meth c H locs 0 0 Qx (F0 m 235 ls [.int (mel S p1 (hdY S p1 Y p2 - saY S p1 Y p2)), .int (hdY S p1 Y p2 - saY S p1 Y p2), .int (p2), .ref (q 19)]) := by
                  intro H locs ls G hl
                  refine lv_isub hx hb dX9_sells_235 ?_
                  refine tM_19 E G (ix_12 h0 h1 (by decide)) dX9_sells_236 (fun H locs G => ?_)
                  have G := GW.cast (congrArg (fun f => MW Z q (S) (z_ke (z_so Y (au (y_so Y) p2 ((pvY Y p2) + (saY S p1 Y p2)))) (au f p2 ((hdY S p1 Y p2 - saY S p1 Y p2) - (mel S p1 (hdY S p1 Y p2 - saY S p1 Y p2)))))) (e_y_ke_so _ _)) G
                  have hs : (seY S p1 Y p2) = z_ke (z_so Y (au (y_so Y) p2 ((pvY Y p2) + (saY S p1 Y p2)))) (au (y_ke Y) p2 ((hdY S p1 Y p2 - saY S p1 Y p2) - (mel S p1 (hdY S p1 Y p2 - saY S p1 Y p2)))) := rfl
                  exact r_retv E G hr hlk hQ (by rw [hs]) dX9_sells_237
                refine lv_aload_n hx hb dX9_sells_192 rfl (lv_at hl 0 rfl) ?_
                refine gM_0_28 E G m_661 dX9_sells_193 ?_
                refine lv_iload_n hx hb dX9_sells_196 rfl (lv_at hl 2 rfl) ?_
                refine lv_iload hx hb dX9_sells_197 (lv_at hl 4 rfl) ?_
                refine lv_aload_n hx hb dX9_sells_199 rfl (lv_at hl 0 rfl) ?_
                refine gM_0_13 E G m_646 dX9_sells_200 ?_
                refine lv_iload_n hx hb dX9_sells_203 rfl (lv_at hl 1 rfl) ?_
                refine aM_4 E G (ix_va hI hv) dX9_sells_204 ?_
                refine lv_iconst (v := 1) hx hb dX9_sells_205 (by decide) ?_
                refine lv_icmp_ne (tgt := 216) hx hb dX9_sells_206 (by decide) (fun c_206 => ?_) (fun c_206 => ?_)
                · skip
                  refine lv_aload_n hx hb dX9_sells_216 rfl (lv_at hl 0 rfl) ?_
                  refine gM_0_13 E G m_646 dX9_sells_217 ?_
                  refine lv_iload_n hx hb dX9_sells_220 rfl (lv_at hl 1 rfl) ?_
                  refine aM_4 E G (ix_va hI hv) dX9_sells_221 ?_
                  refine lv_iconst (v := 2) hx hb dX9_sells_222 (by decide) ?_
                  refine lv_icmp_ne (tgt := 230) hx hb dX9_sells_223 (by decide) (fun c_223 => ?_) (fun c_223 => ?_)
                  · skip
                    refine lv_iload hx hb dX9_sells_230 (lv_at hl 4 rfl) ?_
                    refine lv_bipush (v := 10) hx hb dX9_sells_232 (by decide) ?_
                    refine lv_idiv hx hb dX9_sells_234 (by decide) ?_
                    refine lv_topc (y := mel S p1 (hdY S p1 Y p2 - saY S p1 Y p2)) (by simp [mel, c_26, c_26n, c_206, c_223]) ?_
                    exact J235 _ _ _ (GW.cast (rfl) G) (lv_cast (lv_sub (l' := [(0, .ref (q 0)), (1, .int (p1)), (2, .int (p2))]) hl [0, 1, 2] rfl) (rfl))
                  · skip
                    refine lv_iconst (v := 0) hx hb dX9_sells_226 (by decide) ?_
                    refine lv_goto (tgt := 235) hx hb dX9_sells_227 (by decide) ?_
                    refine lv_topc (y := mel S p1 (hdY S p1 Y p2 - saY S p1 Y p2)) (by simp [mel, c_26, c_26n, c_206, c_223]) ?_
                    exact J235 _ _ _ (GW.cast (rfl) G) (lv_cast (lv_sub (l' := [(0, .ref (q 0)), (1, .int (p1)), (2, .int (p2))]) hl [0, 1, 2] rfl) (rfl))
                · skip
                  refine lv_iload hx hb dX9_sells_209 (lv_at hl 4 rfl) ?_
                  refine lv_iconst (v := 5) hx hb dX9_sells_211 (by decide) ?_
                  refine lv_idiv hx hb dX9_sells_212 (by decide) ?_
                  refine lv_goto (tgt := 235) hx hb dX9_sells_213 (by decide) ?_
                  refine lv_topc (y := mel S p1 (hdY S p1 Y p2 - saY S p1 Y p2)) (by simp [mel, c_26, c_26n, c_206]) ?_
                  exact J235 _ _ _ (GW.cast (rfl) G) (lv_cast (lv_sub (l' := [(0, .ref (q 0)), (1, .int (p1)), (2, .int (p2))]) hl [0, 1, 2] rfl) (rfl))
              refine lv_aload_n hx hb dX9_sells_167 rfl (lv_at hl 2 rfl) ?_
              refine gM_0_27 E G m_660 dX9_sells_168 ?_
              refine lv_iload_n hx hb dX9_sells_171 rfl (lv_at hl 4 rfl) ?_
              refine lv_iload_n hx hb dX9_sells_172 rfl (lv_at hl 4 rfl) ?_
              refine lv_if_ne (tgt := 180) hx hb dX9_sells_173 (by decide) (fun c_173 => ?_) (fun c_173 => ?_)
              · skip
                refine lv_aload_n hx hb dX9_sells_180 rfl (lv_at hl 2 rfl) ?_
                refine gM_0_27 E G m_660 dX9_sells_181 ?_
                refine lv_iload_n hx hb dX9_sells_184 rfl (lv_at hl 4 rfl) ?_
                refine lv_iconst (v := 1) hx hb dX9_sells_185 (by decide) ?_
                refine lv_isub hx hb dX9_sells_186 ?_
                refine aM_18 E G (ix_p h0 (ix_12 h0 h1 (by decide)) c_173) dX9_sells_187 ?_
                refine lv_topc (y := pvY Y p2) (by simp [pvY, c_26, c_26n, c_173]) ?_
                exact J188 _ _ _ (GW.cast (rfl) G) (lv_cast (lv_sub (l' := [(0, .ref (q 0)), (1, .int (p1)), (2, .int (p2)), (7, .int (saY S p1 Y p2)), (8, .int ((hdY S p1 Y p2) - (saY S p1 Y p2)))]) hl [2, 3, 4, 1, 0] rfl) (rfl))
              · skip
                refine lv_iconst (v := 0) hx hb dX9_sells_176 (by decide) ?_
                refine lv_goto (tgt := 188) hx hb dX9_sells_177 (by decide) ?_
                refine lv_topc (y := pvY Y p2) (by simp [pvY, c_26, c_26n, c_173]) ?_
                exact J188 _ _ _ (GW.cast (rfl) G) (lv_cast (lv_sub (l' := [(0, .ref (q 0)), (1, .int (p1)), (2, .int (p2)), (7, .int (saY S p1 Y p2)), (8, .int ((hdY S p1 Y p2) - (saY S p1 Y p2)))]) hl [2, 3, 4, 1, 0] rfl) (rfl))
            refine lv_iload hx hb dX9_sells_144 (lv_at hl 0 rfl) ?_
            refine lv_iload hx hb dX9_sells_146 (lv_at hl 4 rfl) ?_
            refine lv_icmp_ge (tgt := 156) hx hb dX9_sells_148 (by decide) (fun c_148 => ?_) (fun c_148 => ?_)
            · skip
              have c_148n := Int32.not_lt.mpr c_148
              refine lv_iload hx hb dX9_sells_156 (lv_at hl 4 rfl) ?_
              refine lv_topc (y := saY S p1 Y p2) (by simp [saY, c_26, c_26n, c_148, c_148n]) ?_
              exact J158 _ _ _ (GW.cast (rfl) G) (lv_cast (lv_sub (l' := [(0, .ref (q 0)), (1, .int (p1)), (2, .int (p2)), (6, .int (hdY S p1 Y p2))]) hl [1, 2, 3, 0] rfl) (rfl))
            · skip
              have c_148n := Int32.not_le.mp c_148
              refine lv_iload hx hb dX9_sells_151 (lv_at hl 0 rfl) ?_
              refine lv_goto (tgt := 158) hx hb dX9_sells_153 (by decide) ?_
              refine lv_topc (y := saY S p1 Y p2) (by simp [saY, c_26, c_26n, c_148, c_148n]) ?_
              exact J158 _ _ _ (GW.cast (rfl) G) (lv_cast (lv_sub (l' := [(0, .ref (q 0)), (1, .int (p1)), (2, .int (p2)), (6, .int (hdY S p1 Y p2))]) hl [1, 2, 3, 0] rfl) (rfl))
          refine lv_iload_n hx hb dX9_sells_121 rfl (lv_at hl 3 rfl) ?_
          refine lv_if_ne (tgt := 134) hx hb dX9_sells_122 (by decide) (fun c_122 => ?_) (fun c_122 => ?_)
          · skip
            refine lv_aload_n hx hb dX9_sells_134 rfl (lv_at hl 1 rfl) ?_
            refine gM_0_28 E G m_661 dX9_sells_135 ?_
            refine lv_iload_n hx hb dX9_sells_138 rfl (lv_at hl 3 rfl) ?_
            refine lv_iconst (v := 1) hx hb dX9_sells_139 (by decide) ?_
            refine lv_isub hx hb dX9_sells_140 ?_
            refine aM_19 E G (ix_p h0 (ix_12 h0 h1 (by decide)) c_122) dX9_sells_141 ?_
            refine lv_topc (y := hdY S p1 Y p2) (by simp [hdY, c_26, c_26n, c_122]) ?_
            exact J142 _ _ _ (GW.cast (rfl) G) (lv_cast (lv_sub (l' := [(0, .ref (q 0)), (1, .int (p1)), (2, .int (p2)), (5, .int (mso S p1 (wdY S Y p2)))]) hl [1, 2, 3, 0] rfl) (rfl))
          · skip
            refine lv_aload_n hx hb dX9_sells_125 rfl (lv_at hl 1 rfl) ?_
            refine gM_0_14 E G m_647 dX9_sells_126 ?_
            refine lv_iload_n hx hb dX9_sells_129 rfl (lv_at hl 2 rfl) ?_
            refine aM_5 E G (ix_va hI hv) dX9_sells_130 ?_
            refine lv_goto (tgt := 142) hx hb dX9_sells_131 (by decide) ?_
            refine lv_topc (y := hdY S p1 Y p2) (by simp [hdY, c_26, c_26n, c_122]) ?_
            exact J142 _ _ _ (GW.cast (rfl) G) (lv_cast (lv_sub (l' := [(0, .ref (q 0)), (1, .int (p1)), (2, .int (p2)), (5, .int (mso S p1 (wdY S Y p2)))]) hl [1, 2, 3, 0] rfl) (rfl))
        refine lv_aload_n hx hb dX9_sells_95 rfl (lv_at hl 1 rfl) ?_
        refine gM_0_13 E G m_646 dX9_sells_96 ?_
        refine lv_iload_n hx hb dX9_sells_99 rfl (lv_at hl 2 rfl) ?_
        refine aM_4 E G (ix_va hI hv) dX9_sells_100 ?_
        refine lv_iconst (v := 1) hx hb dX9_sells_101 (by decide) ?_
        refine lv_icmp_ne (tgt := 117) hx hb dX9_sells_102 (by decide) (fun c_102 => ?_) (fun c_102 => ?_)
        · skip
          refine lv_iload hx hb dX9_sells_117 (lv_at hl 0 rfl) ?_
          refine lv_topc (y := mso S p1 (wdY S Y p2)) (by simp [mso, c_26, c_26n, c_102]) ?_
          exact J119 _ _ _ (GW.cast (rfl) G) (lv_cast (lv_sub (l' := [(0, .ref (q 0)), (1, .int (p1)), (2, .int (p2))]) hl [1, 2, 3] rfl) (rfl))
        · skip
          refine lv_iload hx hb dX9_sells_105 (lv_at hl 0 rfl) ?_
          refine lv_bipush (v := 30) hx hb dX9_sells_107 (by decide) ?_
          refine lv_icmp_le (tgt := 117) hx hb dX9_sells_109 (by decide) (fun c_109 => ?_) (fun c_109 => ?_)
          · skip
            have c_109n := Int32.not_lt.mpr c_109
            refine lv_iload hx hb dX9_sells_117 (lv_at hl 0 rfl) ?_
            refine lv_topc (y := mso S p1 (wdY S Y p2)) (by simp [mso, c_26, c_26n, c_102, c_109, c_109n]) ?_
            exact J119 _ _ _ (GW.cast (rfl) G) (lv_cast (lv_sub (l' := [(0, .ref (q 0)), (1, .int (p1)), (2, .int (p2))]) hl [1, 2, 3] rfl) (rfl))
          · skip
            have c_109n := Int32.not_le.mp c_109
            refine lv_bipush (v := 30) hx hb dX9_sells_112 (by decide) ?_
            refine lv_goto (tgt := 119) hx hb dX9_sells_114 (by decide) ?_
            refine lv_topc (y := mso S p1 (wdY S Y p2)) (by simp [mso, c_26, c_26n, c_102, c_109, c_109n]) ?_
            exact J119 _ _ _ (GW.cast (rfl) G) (lv_cast (lv_sub (l' := [(0, .ref (q 0)), (1, .int (p1)), (2, .int (p2))]) hl [1, 2, 3] rfl) (rfl))
      refine lv_iload hx hb dX9_sells_81 (lv_at hl 4 rfl) ?_
      refine r_eqb (tgt := 92) hx hb dX9_sells_83 (by decide) (fun c_83 => ?_) (fun c_83 => ?_)
      · skip
        refine lv_iload_n hx hb dX9_sells_92 rfl (lv_at hl 3 rfl) ?_
        refine lv_topc (y := wdY S Y p2) (by rw [lp_eq h0 hkk c_26] at c_83; simp [wdY, c_83]) ?_
        exact J93 _ _ _ (GW.cast (rfl) G) (lv_cast (lv_sub (l' := [(0, .ref (q 0)), (1, .int (p1)), (2, .int (p2))]) hl [0, 1, 2] rfl) (rfl))
      · skip
        refine lv_iload_n hx hb dX9_sells_86 rfl (lv_at hl 3 rfl) ?_
        refine lv_iconst (v := 2) hx hb dX9_sells_87 (by decide) ?_
        refine lv_idiv hx hb dX9_sells_88 (by decide) ?_
        refine lv_goto (tgt := 93) hx hb dX9_sells_89 (by decide) ?_
        refine lv_topc (y := wdY S Y p2) (by rw [lp_eq h0 hkk c_26] at c_83; simp [wdY, c_83]) ?_
        exact J93 _ _ _ (GW.cast (rfl) G) (lv_cast (lv_sub (l' := [(0, .ref (q 0)), (1, .int (p1)), (2, .int (p2))]) hl [0, 1, 2] rfl) (rfl))
    · skip
      have c_26n := Int32.not_le.mp c_26
      refine lv_iload hx hb dX9_sells_29 (lv_at hl 4 rfl) ?_
      refine r_neb (tgt := 68) hx hb dX9_sells_31 (by decide) (fun c_31 => ?_) (fun c_31 => ?_)
      · skip
        refine lv_iconst (v := 1) hx hb dX9_sells_68 (by decide) ?_
        refine lv_goto (tgt := 73) hx hb dX9_sells_69 (by decide) ?_
        refine lv_istore (lv' := [(4, .int (1)), (0, .ref (q 0)), (1, .int (p1)), (2, .int (p2)), (3, .int (wor S (ar (y_rs Y) p2) (ar (y_rh Y) p2))), (5, .int (nI k))]) hx hb dX9_sells_73 hl (by decide) rfl (fun ls hl => ?_)
        refine lv_iinc (v := (nI k) + 1) (lv' := [(5, .int ((nI k) + 1)), (4, .int (1)), (0, .ref (q 0)), (1, .int (p1)), (2, .int (p2)), (3, .int (wor S (ar (y_rs Y) p2) (ar (y_rh Y) p2)))]) hx hb dX9_sells_75 hl (k := 5) rfl rfl (by decide) rfl (fun ls hl => ?_)
        refine lv_goto (tgt := 23) hx hb dX9_sells_78 (by decide) ?_
        exact ih23 (lp_lt h0 hkk c_26) _ _ _ (GW.cast (rfl) G) (lv_cast (lv_sub (l' := [(0, .ref (q 0)), (1, .int (p1)), (2, .int (p2)), (3, .int (wor S (ar (y_rs Y) p2) (ar (y_rh Y) p2))), (4, .int (1)), (5, .int ((nI k) + 1))]) hl [2, 3, 4, 5, 1, 0] rfl) (by (try simp only [ar_nI _ (show k < 2 ^ 31 by omega)] at c_26 c_26n c_31); simp [nI_1, hfY, b01, c_26, c_26n, c_31]))
      · skip
        refine lv_aload_n hx hb dX9_sells_34 rfl (lv_at hl 0 rfl) ?_
        refine gM_0_25 E G m_658 dX9_sells_35 ?_
        refine lv_iload hx hb dX9_sells_38 (lv_at hl 5 rfl) ?_
        refine aM_16 E G (ix_k (lp_lt h0 hkk c_26) (Nat.le_of_lt hk12) (by decide)) dX9_sells_40 ?_
        refine lv_aload_n hx hb dX9_sells_41 rfl (lv_at hl 0 rfl) ?_
        refine gM_0_25 E G m_658 dX9_sells_42 ?_
        refine lv_iload_n hx hb dX9_sells_45 rfl (lv_at hl 2 rfl) ?_
        refine aM_16 E G (ix_12 h0 h1 (by decide)) dX9_sells_46 ?_
        refine lv_icmp_ne (tgt := 72) hx hb dX9_sells_47 (by decide) (fun c_47 => ?_) (fun c_47 => ?_)
        · skip
          refine lv_iconst (v := 0) hx hb dX9_sells_72 (by decide) ?_
          refine lv_istore (lv' := [(4, .int (0)), (0, .ref (q 0)), (1, .int (p1)), (2, .int (p2)), (3, .int (wor S (ar (y_rs Y) p2) (ar (y_rh Y) p2))), (5, .int (nI k))]) hx hb dX9_sells_73 hl (by decide) rfl (fun ls hl => ?_)
          refine lv_iinc (v := (nI k) + 1) (lv' := [(5, .int ((nI k) + 1)), (4, .int (0)), (0, .ref (q 0)), (1, .int (p1)), (2, .int (p2)), (3, .int (wor S (ar (y_rs Y) p2) (ar (y_rh Y) p2)))]) hx hb dX9_sells_75 hl (k := 5) rfl rfl (by decide) rfl (fun ls hl => ?_)
          refine lv_goto (tgt := 23) hx hb dX9_sells_78 (by decide) ?_
          exact ih23 (lp_lt h0 hkk c_26) _ _ _ (GW.cast (rfl) G) (lv_cast (lv_sub (l' := [(0, .ref (q 0)), (1, .int (p1)), (2, .int (p2)), (3, .int (wor S (ar (y_rs Y) p2) (ar (y_rh Y) p2))), (4, .int (0)), (5, .int ((nI k) + 1))]) hl [2, 3, 4, 5, 1, 0] rfl) (by (try simp only [ar_nI _ (show k < 2 ^ 31 by omega)] at c_26 c_26n c_31 c_47); simp [nI_1, hfY, b01, c_26, c_26n, c_31, c_47]))
        · skip
          refine lv_aload_n hx hb dX9_sells_50 rfl (lv_at hl 0 rfl) ?_
          refine gM_0_26 E G m_659 dX9_sells_51 ?_
          refine lv_iload_n hx hb dX9_sells_54 rfl (lv_at hl 2 rfl) ?_
          refine aM_17 E G (ix_12 h0 h1 (by decide)) dX9_sells_55 ?_
          refine lv_aload_n hx hb dX9_sells_56 rfl (lv_at hl 0 rfl) ?_
          refine gM_0_26 E G m_659 dX9_sells_57 ?_
          refine lv_iload hx hb dX9_sells_60 (lv_at hl 5 rfl) ?_
          refine aM_17 E G (ix_k (lp_lt h0 hkk c_26) (Nat.le_of_lt hk12) (by decide)) dX9_sells_62 ?_
          refine lv_isub hx hb dX9_sells_63 ?_
          refine lv_iconst (v := 3) hx hb dX9_sells_64 (by decide) ?_
          refine lv_icmp_ge (tgt := 72) hx hb dX9_sells_65 (by decide) (fun c_65 => ?_) (fun c_65 => ?_)
          · skip
            have c_65n := Int32.not_lt.mpr c_65
            refine lv_iconst (v := 0) hx hb dX9_sells_72 (by decide) ?_
            refine lv_istore (lv' := [(4, .int (0)), (0, .ref (q 0)), (1, .int (p1)), (2, .int (p2)), (3, .int (wor S (ar (y_rs Y) p2) (ar (y_rh Y) p2))), (5, .int (nI k))]) hx hb dX9_sells_73 hl (by decide) rfl (fun ls hl => ?_)
            refine lv_iinc (v := (nI k) + 1) (lv' := [(5, .int ((nI k) + 1)), (4, .int (0)), (0, .ref (q 0)), (1, .int (p1)), (2, .int (p2)), (3, .int (wor S (ar (y_rs Y) p2) (ar (y_rh Y) p2)))]) hx hb dX9_sells_75 hl (k := 5) rfl rfl (by decide) rfl (fun ls hl => ?_)
            refine lv_goto (tgt := 23) hx hb dX9_sells_78 (by decide) ?_
            exact ih23 (lp_lt h0 hkk c_26) _ _ _ (GW.cast (rfl) G) (lv_cast (lv_sub (l' := [(0, .ref (q 0)), (1, .int (p1)), (2, .int (p2)), (3, .int (wor S (ar (y_rs Y) p2) (ar (y_rh Y) p2))), (4, .int (0)), (5, .int ((nI k) + 1))]) hl [2, 3, 4, 5, 1, 0] rfl) (by (try simp only [ar_nI _ (show k < 2 ^ 31 by omega)] at c_26 c_26n c_31 c_47 c_65 c_65n); simp [nI_1, hfY, b01, c_26, c_26n, c_31, c_47, c_65, c_65n]))
          · skip
            have c_65n := Int32.not_le.mp c_65
            refine lv_iconst (v := 1) hx hb dX9_sells_68 (by decide) ?_
            refine lv_goto (tgt := 73) hx hb dX9_sells_69 (by decide) ?_
            refine lv_istore (lv' := [(4, .int (1)), (0, .ref (q 0)), (1, .int (p1)), (2, .int (p2)), (3, .int (wor S (ar (y_rs Y) p2) (ar (y_rh Y) p2))), (5, .int (nI k))]) hx hb dX9_sells_73 hl (by decide) rfl (fun ls hl => ?_)
            refine lv_iinc (v := (nI k) + 1) (lv' := [(5, .int ((nI k) + 1)), (4, .int (1)), (0, .ref (q 0)), (1, .int (p1)), (2, .int (p2)), (3, .int (wor S (ar (y_rs Y) p2) (ar (y_rh Y) p2)))]) hx hb dX9_sells_75 hl (k := 5) rfl rfl (by decide) rfl (fun ls hl => ?_)
            refine lv_goto (tgt := 23) hx hb dX9_sells_78 (by decide) ?_
            exact ih23 (lp_lt h0 hkk c_26) _ _ _ (GW.cast (rfl) G) (lv_cast (lv_sub (l' := [(0, .ref (q 0)), (1, .int (p1)), (2, .int (p2)), (3, .int (wor S (ar (y_rs Y) p2) (ar (y_rh Y) p2))), (4, .int (1)), (5, .int ((nI k) + 1))]) hl [2, 3, 4, 5, 1, 0] rfl) (by (try simp only [ar_nI _ (show k < 2 ^ 31 by omega)] at c_26 c_26n c_31 c_47 c_65 c_65n); simp [nI_1, hfY, b01, c_26, c_26n, c_31, c_47, c_65, c_65n]))
  exact L23 0 (Nat.zero_le _) _ _ _ (GW.cast (rfl) G) (lv_cast (lv_sub (l' := [(0, .ref (q 0)), (1, .int (p1)), (2, .int (p2)), (3, .int (wor S (ar (y_rs Y) p2) (ar (y_rh Y) p2))), (4, .int (0)), (5, .int (0))]) hl [3, 4, 5, 2, 1, 0] rfl) (by rw [nI_0]; rfl))
set_option maxHeartbeats 4000000 in
set_option maxRecDepth 100000 in
theorem c_X9_note (l : Launch) (Z : ZT) (q : Nat → Nat) (S : St) (Y : YM) (p1 : Int32) (h1 : 1 ≤ p1) (h6 : p1 ≤ 6) : CT l Z yX9_note cX9_note 3 none 1 [.ref (q 0), .int (p1)] (MW Z q S Y) none (MW Z q (S) (noY Y p1)) := by
  refine CE.mk rfl (Nat.le_of_ble_eq_true rfl) (fun p e s m args below meth c A Qx ls E hr hlk hnm hQ G hl => ?_)
  have hx := E.1.1
  have hb := E.1.2.1
  have hl : lv_has ls 3 [(0, .ref (q 0)), (1, .int (p1))] := hl
  have h0 : (0 : Int32) ≤ p1 := Int32.le_trans (by decide) h1
  have hz : ¬ p1 = 0 := fun e => by rw [e] at h1; exact absurd h1 (by decide)
  have hlt : p1 < 12 := by have e := e_lit; rw [i_le] at h6; rw [i_lt]; omega
  have hN : p1.toNatClampNeg ≤ 6 := cl_le h0 (by have := (i_le _ _).mp h6; have e := e_lit; omega)
  have J23 : ∀ (H : Heap) (locs : List Loc) (ls : Array Slot), ¬ (0 < y_bm Y ∧ ar (y_so Y) (p1 - 1) ≤ y_bl Y) → GW Z (MW Z q S Y) A s.heap H locs → lv_has ls 3 [(0, .ref (q 0)), (1, .int (p1))] → W p l e (rmk 1 0 0) s m args below meth c H locs 0 0 Qx (F0 m 23 ls []) := by
    intro H locs ls hC G hl
    refine lv_aload_n hx hb dX9_note_23 rfl (lv_at hl 0 rfl) ?_
    refine lv_iload_n hx hb dX9_note_24 rfl (lv_at hl 1 rfl) ?_
    refine pM_0_32 E G m_665 dX9_note_25 (fun H locs G => ?_)
    refine lv_aload_n hx hb dX9_note_28 rfl (lv_at hl 0 rfl) ?_
    refine lv_aload_n hx hb dX9_note_29 rfl (lv_at hl 0 rfl) ?_
    refine gM_0_27 E G m_660 dX9_note_30 ?_
    refine lv_iload_n hx hb dX9_note_33 rfl (lv_at hl 1 rfl) ?_
    refine lv_iconst (v := 1) hx hb dX9_note_34 (by decide) ?_
    refine lv_isub hx hb dX9_note_35 ?_
    refine aM_18 E G (ix_p h0 (ix_12 h0 hlt (by decide)) hz) dX9_note_36 ?_
    refine lv_topc (congrArg (fun f => ar f (p1 - 1)) (e_y_so_bm _ _)) ?_
    refine pM_0_33 E G m_666 dX9_note_37 (fun H locs G => ?_)
    refine lv_aload_n hx hb dX9_note_40 rfl (lv_at hl 0 rfl) ?_
    refine lv_aload_n hx hb dX9_note_41 rfl (lv_at hl 0 rfl) ?_
    refine gM_0_28 E G m_661 dX9_note_42 ?_
    refine lv_iload_n hx hb dX9_note_45 rfl (lv_at hl 1 rfl) ?_
    refine lv_iconst (v := 1) hx hb dX9_note_46 (by decide) ?_
    refine lv_isub hx hb dX9_note_47 ?_
    refine aM_19 E G (ix_p h0 (ix_12 h0 hlt (by decide)) hz) dX9_note_48 ?_
    refine lv_topc (congrArg (fun f => ar f (p1 - 1)) ((e_y_ke_bl _ _).trans (e_y_ke_bm _ _))) ?_
    refine pM_0_34 E G m_667 dX9_note_49 (fun H locs G => ?_)
    refine lv_iconst (v := 0) hx hb dX9_note_52 (by decide) ?_
    refine lv_istore_n (lv' := [(2, .int (0)), (0, .ref (q 0)), (1, .int (p1))]) hx hb dX9_note_53 rfl hl (by decide) rfl (fun ls hl => ?_)
    have L54 : ∀ k : Nat, k ≤ p1.toNatClampNeg → (∀ (H : Heap) (locs : List Loc) (ls : Array Slot), GW Z (MW Z q (S) (z_bh (z_bs (z_bk (z_bl (z_bm Y p1) (ar (y_so Y) (p1 - 1))) (ar (y_ke Y) (p1 - 1))) (cpA (y_rs Y) (y_bs Y) k)) (cpA (y_rh Y) (y_bh Y) k))) A s.heap H locs → lv_has ls 3 [(0, .ref (q 0)), (1, .int (p1)), (2, .int (nI k))] → W p l e (rmk 1 0 0) s m args below meth c H locs 0 0 Qx (F0 m 54 ls [])) := by
      refine up_in2 (P := fun k => (∀ (H : Heap) (locs : List Loc) (ls : Array Slot), GW Z (MW Z q (S) (z_bh (z_bs (z_bk (z_bl (z_bm Y p1) (ar (y_so Y) (p1 - 1))) (ar (y_ke Y) (p1 - 1))) (cpA (y_rs Y) (y_bs Y) k)) (cpA (y_rh Y) (y_bh Y) k))) A s.heap H locs → lv_has ls 3 [(0, .ref (q 0)), (1, .int (p1)), (2, .int (nI k))] → W p l e (rmk 1 0 0) s m args below meth c H locs 0 0 Qx (F0 m 54 ls []))) (p1.toNatClampNeg) ?_
      intro k hkk ih54 H locs ls G hl
      refine lv_iload_n hx hb dX9_note_54 rfl (lv_at hl 2 rfl) ?_
      refine lv_iload_n hx hb dX9_note_55 rfl (lv_at hl 1 rfl) ?_
      refine lv_icmp_ge (tgt := 89) hx hb dX9_note_56 (by decide) (fun c_56 => ?_) (fun c_56 => ?_)
      · skip
        have c_56n := Int32.not_lt.mpr c_56
        have hs : (noY Y p1) = z_bh (z_bs (z_bk (z_bl (z_bm Y p1) (ar (y_so Y) (p1 - 1))) (ar (y_ke Y) (p1 - 1))) (cpA (y_rs Y) (y_bs Y) k)) (cpA (y_rh Y) (y_bh Y) k) := by unfold noY; rw [if_neg hC, lp_eq h0 hkk c_56]
        exact r_retv E G hr hlk hQ (by rw [hs]) dX9_note_89
      · skip
        have c_56n := Int32.not_le.mp c_56
        refine lv_aload_n hx hb dX9_note_59 rfl (lv_at hl 0 rfl) ?_
        refine gM_0_30 E G m_663 dX9_note_60 ?_
        refine lv_iload_n hx hb dX9_note_63 rfl (lv_at hl 2 rfl) ?_
        refine lv_aload_n hx hb dX9_note_64 rfl (lv_at hl 0 rfl) ?_
        refine gM_0_25 E G m_658 dX9_note_65 ?_
        refine lv_iload_n hx hb dX9_note_68 rfl (lv_at hl 2 rfl) ?_
        refine aM_16 E G (ix_k (lp_lt h0 hkk c_56) (by omega) (by decide)) dX9_note_69 ?_
        refine lv_topc (congrArg (fun f => ar f (nI k)) ((e_y_rs_bh _ _).trans ((e_y_rs_bs _ _).trans ((e_y_rs_bk _ _).trans ((e_y_rs_bl _ _).trans (e_y_rs_bm _ _)))))) ?_
        refine tM_21 E G (ix_k (lp_lt h0 hkk c_56) (by omega) (by decide)) dX9_note_70 (fun H locs G => ?_)
        have G := GW.cast (congrArg (fun f => MW Z q (S) (z_bs (z_bh (z_bs (z_bk (z_bl (z_bm Y p1) (ar (y_so Y) (p1 - 1))) (ar (y_ke Y) (p1 - 1))) (cpA (y_rs Y) (y_bs Y) k)) (cpA (y_rh Y) (y_bh Y) k)) (au f (nI k) (ar (y_rs Y) (nI k))))) ((e_y_bs_bh _ _).trans (es_y_bs _ _))) G
        refine lv_aload_n hx hb dX9_note_71 rfl (lv_at hl 0 rfl) ?_
        refine gM_0_31 E G m_664 dX9_note_72 ?_
        refine lv_iload_n hx hb dX9_note_75 rfl (lv_at hl 2 rfl) ?_
        refine lv_aload_n hx hb dX9_note_76 rfl (lv_at hl 0 rfl) ?_
        refine gM_0_26 E G m_659 dX9_note_77 ?_
        refine lv_iload_n hx hb dX9_note_80 rfl (lv_at hl 2 rfl) ?_
        refine aM_17 E G (ix_k (lp_lt h0 hkk c_56) (by omega) (by decide)) dX9_note_81 ?_
        refine lv_topc (congrArg (fun f => ar f (nI k)) ((e_y_rh_bs _ _).trans ((e_y_rh_bh _ _).trans ((e_y_rh_bs _ _).trans ((e_y_rh_bk _ _).trans ((e_y_rh_bl _ _).trans (e_y_rh_bm _ _))))))) ?_
        refine tM_22 E G (ix_k (lp_lt h0 hkk c_56) (by omega) (by decide)) dX9_note_82 (fun H locs G => ?_)
        have G := GW.cast (congrArg (fun f => MW Z q (S) (z_bh (z_bs (z_bh (z_bs (z_bk (z_bl (z_bm Y p1) (ar (y_so Y) (p1 - 1))) (ar (y_ke Y) (p1 - 1))) (cpA (y_rs Y) (y_bs Y) k)) (cpA (y_rh Y) (y_bh Y) k)) (au (cpA (y_rs Y) (y_bs Y) k) (nI k) (ar (y_rs Y) (nI k)))) (au f (nI k) (ar (y_rh Y) (nI k))))) ((e_y_bh_bs _ _).trans (es_y_bh _ _))) G
        refine lv_iinc (v := (nI k) + 1) (lv' := [(2, .int ((nI k) + 1)), (0, .ref (q 0)), (1, .int (p1))]) hx hb dX9_note_83 hl (k := 2) rfl rfl (by decide) rfl (fun ls hl => ?_)
        refine lv_goto (tgt := 54) hx hb dX9_note_86 (by decide) ?_
        exact ih54 (lp_lt h0 hkk c_56) _ _ _ (GW.cast (congrArg (fun T => MW Z q S T) (noY_s Y _ (show k < 2 ^ 31 by omega))) G) (lv_cast (lv_sub (l' := [(0, .ref (q 0)), (1, .int (p1)), (2, .int ((nI k) + 1))]) hl [1, 2, 0] rfl) (by rw [nI_1]))
    exact L54 0 (Nat.zero_le _) _ _ _ (GW.cast (congrArg (fun T => MW Z q S T) (noY_0 Y _ _ _)) G) (lv_cast (lv_sub (l' := [(0, .ref (q 0)), (1, .int (p1)), (2, .int (0))]) hl [1, 2, 0] rfl) (by rw [nI_0]))
  refine lv_aload_n hx hb dX9_note_0 rfl (lv_at hl 0 rfl) ?_
  refine gM_0_32 E G m_665 dX9_note_1 ?_
  refine lv_if_le (tgt := 23) hx hb dX9_note_4 (by decide) (fun c_4 => ?_) (fun c_4 => ?_)
  · skip
    have c_4n := Int32.not_lt.mpr c_4
    exact J23 _ _ _ (fun hh => by first | exact absurd hh.1 c_4n | exact absurd hh.2 c_19n) (GW.cast (rfl) G) (lv_cast (lv_sub (l' := [(0, .ref (q 0)), (1, .int (p1))]) hl [0, 1] rfl) (rfl))
  · skip
    have c_4n := Int32.not_le.mp c_4
    refine lv_aload_n hx hb dX9_note_7 rfl (lv_at hl 0 rfl) ?_
    refine gM_0_27 E G m_660 dX9_note_8 ?_
    refine lv_iload_n hx hb dX9_note_11 rfl (lv_at hl 1 rfl) ?_
    refine lv_iconst (v := 1) hx hb dX9_note_12 (by decide) ?_
    refine lv_isub hx hb dX9_note_13 ?_
    refine aM_18 E G (ix_p h0 (ix_12 h0 hlt (by decide)) hz) dX9_note_14 ?_
    refine lv_aload_n hx hb dX9_note_15 rfl (lv_at hl 0 rfl) ?_
    refine gM_0_33 E G m_666 dX9_note_16 ?_
    refine lv_icmp_gt (tgt := 23) hx hb dX9_note_19 (by decide) (fun c_19 => ?_) (fun c_19 => ?_)
    · skip
      have c_19n := Int32.not_le.mpr c_19
      exact J23 _ _ _ (fun hh => by first | exact absurd hh.1 c_4n | exact absurd hh.2 c_19n) (GW.cast (rfl) G) (lv_cast (lv_sub (l' := [(0, .ref (q 0)), (1, .int (p1))]) hl [0, 1] rfl) (rfl))
    · skip
      have c_19n := Int32.not_lt.mp c_19
      have hs : (noY Y p1) = Y := by unfold noY; rw [if_pos ⟨c_4n, c_19n⟩]
      exact r_retv E G hr hlk hQ (by rw [hs]) dX9_note_22
set_option maxHeartbeats 4000000 in
set_option maxRecDepth 100000 in
theorem c_X9_whyNot (l : Launch) (Z : ZT) (q : Nat → Nat) (S : St) (Y : YM) (p1 p2 p3 : Int32) (hI : Inv S) : CT l Z yX9_whyNot cX9_whyNot 4 (some .int) 4 [.ref (q 0), .int (p1), .int (p2), .int (p3)] (MW Z q S Y) (some (.int (wnV S p1 p2 p3))) (MW Z q S Y) := by
  refine CE.mk rfl (Nat.le_of_ble_eq_true rfl) (fun p e s m args below meth c A Qx ls E hr hlk hnm hQ G hl => ?_)
  have hx := E.1.1
  have hb := E.1.2.1
  have hl : lv_has ls 4 [(0, .ref (q 0)), (1, .int (p1)), (2, .int (p2)), (3, .int (p3))] := hl
  refine lv_aload_n hx hb dX9_whyNot_0 rfl (lv_at hl 0 rfl) ?_
  refine lv_iload_n hx hb dX9_whyNot_1 rfl (lv_at hl 1 rfl) ?_
  refine r_V [] E G (c_X9_isVan l Z q S Y p1 hI) kX9_isVan m_778 0 rfl rfl ⟨Nat.le_of_ble_eq_true rfl, Nat.le_of_ble_eq_true rfl⟩ hl dX9_whyNot_2 rfl rfl (Nat.le_of_ble_eq_true rfl) ⟨Nat.zero_le _, Nat.zero_le _⟩ (fun H locs G => ?_)
  refine r_eqb (tgt := 26) hx hb dX9_whyNot_5 (by decide) (fun c_5 => ?_) (fun c_5 => ?_)
  · skip
    refine lv_iconst (v := 1) hx hb dX9_whyNot_26 (by decide) ?_
    have hs : (wnV S p1 p2 p3) = 1 := by first | rfl | (simp [wnV, okP, ho, c_5]; done) | (simp_all [wnV, okP, ho]; done)
    exact r_ret E G hr hlk hQ (congrArg (fun t => some (Value.int t)) hs) rfl dX9_whyNot_27
  · skip
    refine lv_aload_n hx hb dX9_whyNot_8 rfl (lv_at hl 0 rfl) ?_
    refine lv_iload_n hx hb dX9_whyNot_9 rfl (lv_at hl 2 rfl) ?_
    refine r_V [] E G (c_X9_isAt l Z q S Y p2 hI) kX9_isAt m_826 0 rfl rfl ⟨Nat.le_of_ble_eq_true rfl, Nat.le_of_ble_eq_true rfl⟩ hl dX9_whyNot_10 rfl rfl (Nat.le_of_ble_eq_true rfl) ⟨Nat.zero_le _, Nat.zero_le _⟩ (fun H locs G => ?_)
    refine r_eqb (tgt := 26) hx hb dX9_whyNot_13 (by decide) (fun c_13 => ?_) (fun c_13 => ?_)
    · skip
      refine lv_iconst (v := 1) hx hb dX9_whyNot_26 (by decide) ?_
      have hs : (wnV S p1 p2 p3) = 1 := by first | rfl | (simp [wnV, okP, ho, c_5, c_13]; done) | (simp_all [wnV, okP, ho]; done)
      exact r_ret E G hr hlk hQ (congrArg (fun t => some (Value.int t)) hs) rfl dX9_whyNot_27
    · skip
      refine lv_iload_n hx hb dX9_whyNot_16 rfl (lv_at hl 3 rfl) ?_
      refine lv_iconst (v := 1) hx hb dX9_whyNot_17 (by decide) ?_
      refine lv_bipush (v := 6) hx hb dX9_whyNot_18 (by decide) ?_
      refine r_S [] E G (c_X9_in l Z q S Y p3 1 6) kX9_in m_743 ⟨Nat.le_of_ble_eq_true rfl, Nat.le_of_ble_eq_true rfl⟩ hl dX9_whyNot_20 rfl rfl (Nat.le_of_ble_eq_true rfl) ⟨Nat.zero_le _, Nat.zero_le _⟩ (fun H locs G => ?_)
      refine r_neb (tgt := 28) hx hb dX9_whyNot_23 (by decide) (fun c_23 => ?_) (fun c_23 => ?_)
      · skip
        refine lv_aload_n hx hb dX9_whyNot_28 rfl (lv_at hl 0 rfl) ?_
        refine lv_iload_n hx hb dX9_whyNot_29 rfl (lv_at hl 1 rfl) ?_
        refine lv_iload_n hx hb dX9_whyNot_30 rfl (lv_at hl 2 rfl) ?_
        refine lv_bipush (v := 100) hx hb dX9_whyNot_31 (by decide) ?_
        refine lv_idiv hx hb dX9_whyNot_33 (by decide) ?_
        refine lv_iload_n hx hb dX9_whyNot_34 rfl (lv_at hl 2 rfl) ?_
        refine lv_bipush (v := 100) hx hb dX9_whyNot_35 (by decide) ?_
        refine lv_irem hx hb dX9_whyNot_37 (by decide) ?_
        refine r_V [] E G (c_X9_mayStand l Z q S Y p1 (p2 / 100) (p2 - p2 / 100 * 100) hI c_5 (at_st c_13)) kX9_mayStand m_798 0 rfl rfl ⟨Nat.le_of_ble_eq_true rfl, Nat.le_of_ble_eq_true rfl⟩ hl dX9_whyNot_38 rfl rfl (Nat.le_of_ble_eq_true rfl) ⟨Nat.zero_le _, Nat.zero_le _⟩ (fun H locs G => ?_)
        refine r_eqb (tgt := 48) hx hb dX9_whyNot_41 (by decide) (fun c_41 => ?_) (fun c_41 => ?_)
        · skip
          refine lv_iconst (v := 3) hx hb dX9_whyNot_48 (by decide) ?_
          have hs : (wnV S p1 p2 p3) = 3 := by first | rfl | (simp [wnV, okP, ho, c_5, c_13, c_23, c_41]; done) | (simp_all [wnV, okP, ho]; done)
          exact r_ret E G hr hlk hQ (congrArg (fun t => some (Value.int t)) hs) rfl dX9_whyNot_49
        · skip
          refine lv_iconst (v := 0) hx hb dX9_whyNot_44 (by decide) ?_
          refine lv_goto (tgt := 49) hx hb dX9_whyNot_45 (by decide) ?_
          have hs : (wnV S p1 p2 p3) = 0 := by first | rfl | (simp [wnV, okP, ho, c_5, c_13, c_23, c_41]; done) | (simp_all [wnV, okP, ho]; done)
          exact r_ret E G hr hlk hQ (congrArg (fun t => some (Value.int t)) hs) rfl dX9_whyNot_49
      · skip
        refine lv_iconst (v := 1) hx hb dX9_whyNot_26 (by decide) ?_
        have hs : (wnV S p1 p2 p3) = 1 := by first | rfl | (simp [wnV, okP, ho, c_5, c_13, c_23]; done) | (simp_all [wnV, okP, ho]; done)
        exact r_ret E G hr hlk hQ (congrArg (fun t => some (Value.int t)) hs) rfl dX9_whyNot_27
