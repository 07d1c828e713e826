section LAW
variable {p : Program} {l : Launch} {e : Env} {s : State} {m : MethodId} {args : Array Value} {below : List Frame} {meth : Method} {c : Code} {H : Heap} {locs : List Loc} {cells slots : Nat} {Q : State → Prop} {Z : ZT} {ls : Array Slot} {q r : Nat → Nat} {S : St} {X : XC} {Y : YM} {b L : Nat} {xs : Nat → Int32} {i : Int32}
set_option maxRecDepth 100000 in
theorem law_c0 (E : EW p m c cL_law 4 s args "ConeRoundsLaw" Z) (hN : KN s) (hX : va_X b L xs s s.heap) (hbl : b < s.heap.size) (hI : Inv S) (G : GW Z (CW Z q S X ++ MW Z r S Y) (AL s) s.heap H locs) (h1 : vp_in (i + 1) L) (h2 : vp_in (i + 2) L) (h3 : vp_in (i + 3) L) (h4 : vp_in (i + 4) L) (hl : lv_has ls 4 [(0, .ref b), (1, .ref (q 0)), (2, .ref (r 0)), (3, .int i)]) (hf : cells + 1 ≤ room_1.cells ∧ slots + 2 ≤ room_1.slots) (kk : LK p l e s m args below meth c Q Z ls q r cells slots) : W p l e room_1 s m args below meth c H locs cells slots Q (F0 m 164 ls []) := by
  have hx := E.1.1
  have hb := E.1.2.1
  have hbA : ¬ AL s b := Nat.not_le.mpr hbl
  have hf0 : cells + 0 ≤ room_1.cells ∧ slots + 0 ≤ room_1.slots := ⟨Nat.le_trans (Nat.le_succ _) hf.1, Nat.le_trans (Nat.le_add_right _ 2) hf.2⟩
  refine lv_aload_n hx hb dL_law_164 rfl (lv_at hl 1 rfl) ?_
  refine lv_aload_n hx hb dL_law_165 rfl (lv_at hl 0 rfl) ?_
  refine lv_iload_n hx hb dL_law_166 rfl (lv_at hl 3 rfl) ?_
  refine lv_iconst (v := 1) hx hb dL_law_167 (by decide) ?_
  refine lv_iadd hx hb dL_law_168 ?_
  refine va_sld hx hb hX hbl hbA G.2.2.1 h1 dL_law_169 ?_
  refine r_VR [] E hN G.swap (CE.toN (c_X8_street l Z q S X (xs (i + 1).toNatClampNeg) hI)) kX8_street m_222 0 rfl rfl ⟨Nat.le_of_ble_eq_true rfl, Nat.le_of_ble_eq_true rfl⟩ hl dL_law_170 rfl rfl (Nat.le_of_ble_eq_true rfl) hf0 (fun rv w1 H locs hp G => ?_)
  obtain ⟨rfl, rfl⟩ := hp
  refine lv_aload_n hx hb dL_law_173 rfl (lv_at hl 2 rfl) ?_
  refine lv_aload_n hx hb dL_law_174 rfl (lv_at hl 0 rfl) ?_
  refine lv_iload_n hx hb dL_law_175 rfl (lv_at hl 3 rfl) ?_
  refine lv_iconst (v := 1) hx hb dL_law_176 (by decide) ?_
  refine lv_iadd hx hb dL_law_177 ?_
  refine va_sld hx hb hX hbl hbA G.2.2.1 h1 dL_law_178 ?_
  refine r_VR [.int (sp_street S (xs (i + 1).toNatClampNeg)).1] E hN G.swap (CE.toN (c_X9_street l Z r S Y (xs (i + 1).toNatClampNeg) hI)) kX9_street m_739 0 rfl rfl ⟨Nat.le_of_ble_eq_true rfl, Nat.le_of_ble_eq_true rfl⟩ hl dL_law_179 rfl rfl (Nat.le_of_ble_eq_true rfl) hf0 (fun rv w1 H locs hp G => ?_)
  obtain ⟨rfl, rfl⟩ := hp
  refine lv_icmp_eq (tgt := 1141) hx hb dL_law_182 (by decide) (fun _ => ?_) (fun cc => absurd rfl cc)
  refine W.widen (k := cells + 1) (n := slots + 2) (by omega) (by omega) ?_
  exact kk q _ _ _ H locs rfl (hI.street (xs (i + 1).toNatClampNeg)) G
set_option maxRecDepth 100000 in
theorem law_c1 (E : EW p m c cL_law 4 s args "ConeRoundsLaw" Z) (hN : KN s) (hX : va_X b L xs s s.heap) (hbl : b < s.heap.size) (hI : Inv S) (G : GW Z (CW Z q S X ++ MW Z r S Y) (AL s) s.heap H locs) (h1 : vp_in (i + 1) L) (h2 : vp_in (i + 2) L) (h3 : vp_in (i + 3) L) (h4 : vp_in (i + 4) L) (hl : lv_has ls 4 [(0, .ref b), (1, .ref (q 0)), (2, .ref (r 0)), (3, .int i)]) (hf : cells + 1 ≤ room_1.cells ∧ slots + 2 ≤ room_1.slots) (kk : LK p l e s m args below meth c Q Z ls q r cells slots) : W p l e room_1 s m args below meth c H locs cells slots Q (F0 m 187 ls []) := by
  have hx := E.1.1
  have hb := E.1.2.1
  have hbA : ¬ AL s b := Nat.not_le.mpr hbl
  have hf0 : cells + 0 ≤ room_1.cells ∧ slots + 0 ≤ room_1.slots := ⟨Nat.le_trans (Nat.le_succ _) hf.1, Nat.le_trans (Nat.le_add_right _ 2) hf.2⟩
  refine lv_aload_n hx hb dL_law_187 rfl (lv_at hl 1 rfl) ?_
  refine lv_aload_n hx hb dL_law_188 rfl (lv_at hl 0 rfl) ?_
  refine lv_iload_n hx hb dL_law_189 rfl (lv_at hl 3 rfl) ?_
  refine lv_iconst (v := 1) hx hb dL_law_190 (by decide) ?_
  refine lv_iadd hx hb dL_law_191 ?_
  refine va_sld hx hb hX hbl hbA G.2.2.1 h1 dL_law_192 ?_
  refine lv_aload_n hx hb dL_law_193 rfl (lv_at hl 0 rfl) ?_
  refine lv_iload_n hx hb dL_law_194 rfl (lv_at hl 3 rfl) ?_
  refine lv_iconst (v := 2) hx hb dL_law_195 (by decide) ?_
  refine lv_iadd hx hb dL_law_196 ?_
  refine va_sld hx hb hX hbl hbA G.2.2.1 h2 dL_law_197 ?_
  refine lv_aload_n hx hb dL_law_198 rfl (lv_at hl 0 rfl) ?_
  refine lv_iload_n hx hb dL_law_199 rfl (lv_at hl 3 rfl) ?_
  refine lv_iconst (v := 3) hx hb dL_law_200 (by decide) ?_
  refine lv_iadd hx hb dL_law_201 ?_
  refine va_sld hx hb hX hbl hbA G.2.2.1 h3 dL_law_202 ?_
  refine r_VR [] E hN G.swap (CE.toN (c_X8_way l Z q S X (xs (i + 1).toNatClampNeg) (xs (i + 2).toNatClampNeg) (xs (i + 3).toNatClampNeg) hI)) kX8_way m_241 0 rfl rfl ⟨Nat.le_of_ble_eq_true rfl, Nat.le_of_ble_eq_true rfl⟩ hl dL_law_203 rfl rfl (Nat.le_of_ble_eq_true rfl) hf0 (fun rv w1 H locs hp G => ?_)
  obtain ⟨rfl, rfl⟩ := hp
  refine lv_aload_n hx hb dL_law_206 rfl (lv_at hl 2 rfl) ?_
  refine lv_aload_n hx hb dL_law_207 rfl (lv_at hl 0 rfl) ?_
  refine lv_iload_n hx hb dL_law_208 rfl (lv_at hl 3 rfl) ?_
  refine lv_iconst (v := 1) hx hb dL_law_209 (by decide) ?_
  refine lv_iadd hx hb dL_law_210 ?_
  refine va_sld hx hb hX hbl hbA G.2.2.1 h1 dL_law_211 ?_
  refine lv_aload_n hx hb dL_law_212 rfl (lv_at hl 0 rfl) ?_
  refine lv_iload_n hx hb dL_law_213 rfl (lv_at hl 3 rfl) ?_
  refine lv_iconst (v := 2) hx hb dL_law_214 (by decide) ?_
  refine lv_iadd hx hb dL_law_215 ?_
  refine va_sld hx hb hX hbl hbA G.2.2.1 h2 dL_law_216 ?_
  refine lv_aload_n hx hb dL_law_217 rfl (lv_at hl 0 rfl) ?_
  refine lv_iload_n hx hb dL_law_218 rfl (lv_at hl 3 rfl) ?_
  refine lv_iconst (v := 3) hx hb dL_law_219 (by decide) ?_
  refine lv_iadd hx hb dL_law_220 ?_
  refine va_sld hx hb hX hbl hbA G.2.2.1 h3 dL_law_221 ?_
  refine r_VR [.int (sp_way S (xs (i + 1).toNatClampNeg) (xs (i + 2).toNatClampNeg) (xs (i + 3).toNatClampNeg)).1] E hN G.swap (CE.toN (c_X9_way l Z r S Y (xs (i + 1).toNatClampNeg) (xs (i + 2).toNatClampNeg) (xs (i + 3).toNatClampNeg) hI)) kX9_way m_751 0 rfl rfl ⟨Nat.le_of_ble_eq_true rfl, Nat.le_of_ble_eq_true rfl⟩ hl dL_law_222 rfl rfl (Nat.le_of_ble_eq_true rfl) hf0 (fun rv w1 H locs hp G => ?_)
  obtain ⟨rfl, rfl⟩ := hp
  refine lv_icmp_eq (tgt := 1141) hx hb dL_law_225 (by decide) (fun _ => ?_) (fun cc => absurd rfl cc)
  refine W.widen (k := cells + 1) (n := slots + 2) (by omega) (by omega) ?_
  exact kk q _ _ _ H locs rfl (hI.way (xs (i + 1).toNatClampNeg) (xs (i + 2).toNatClampNeg) (xs (i + 3).toNatClampNeg)) G
set_option maxRecDepth 100000 in
theorem law_c2 (E : EW p m c cL_law 4 s args "ConeRoundsLaw" Z) (hN : KN s) (hX : va_X b L xs s s.heap) (hbl : b < s.heap.size) (hI : Inv S) (G : GW Z (CW Z q S X ++ MW Z r S Y) (AL s) s.heap H locs) (h1 : vp_in (i + 1) L) (h2 : vp_in (i + 2) L) (h3 : vp_in (i + 3) L) (h4 : vp_in (i + 4) L) (hl : lv_has ls 4 [(0, .ref b), (1, .ref (q 0)), (2, .ref (r 0)), (3, .int i)]) (hf : cells + 1 ≤ room_1.cells ∧ slots + 2 ≤ room_1.slots) (kk : LK p l e s m args below meth c Q Z ls q r cells slots) : W p l e room_1 s m args below meth c H locs cells slots Q (F0 m 230 ls []) := by
  have hx := E.1.1
  have hb := E.1.2.1
  have hbA : ¬ AL s b := Nat.not_le.mpr hbl
  have hf0 : cells + 0 ≤ room_1.cells ∧ slots + 0 ≤ room_1.slots := ⟨Nat.le_trans (Nat.le_succ _) hf.1, Nat.le_trans (Nat.le_add_right _ 2) hf.2⟩
  refine lv_aload_n hx hb dL_law_230 rfl (lv_at hl 1 rfl) ?_
  refine lv_aload_n hx hb dL_law_231 rfl (lv_at hl 0 rfl) ?_
  refine lv_iload_n hx hb dL_law_232 rfl (lv_at hl 3 rfl) ?_
  refine lv_iconst (v := 1) hx hb dL_law_233 (by decide) ?_
  refine lv_iadd hx hb dL_law_234 ?_
  refine va_sld hx hb hX hbl hbA G.2.2.1 h1 dL_law_235 ?_
  refine lv_aload_n hx hb dL_law_236 rfl (lv_at hl 0 rfl) ?_
  refine lv_iload_n hx hb dL_law_237 rfl (lv_at hl 3 rfl) ?_
  refine lv_iconst (v := 2) hx hb dL_law_238 (by decide) ?_
  refine lv_iadd hx hb dL_law_239 ?_
  refine va_sld hx hb hX hbl hbA G.2.2.1 h2 dL_law_240 ?_
  refine lv_aload_n hx hb dL_law_241 rfl (lv_at hl 0 rfl) ?_
  refine lv_iload_n hx hb dL_law_242 rfl (lv_at hl 3 rfl) ?_
  refine lv_iconst (v := 3) hx hb dL_law_243 (by decide) ?_
  refine lv_iadd hx hb dL_law_244 ?_
  refine va_sld hx hb hX hbl hbA G.2.2.1 h3 dL_law_245 ?_
  refine r_VR [] E hN G.swap (CE.toN (c_X8_wish l Z q S X (xs (i + 1).toNatClampNeg) (xs (i + 2).toNatClampNeg) (xs (i + 3).toNatClampNeg) hI)) kX8_wish m_260 0 rfl rfl ⟨Nat.le_of_ble_eq_true rfl, Nat.le_of_ble_eq_true rfl⟩ hl dL_law_246 rfl rfl (Nat.le_of_ble_eq_true rfl) hf0 (fun rv w1 H locs hp G => ?_)
  obtain ⟨rfl, rfl⟩ := hp
  refine lv_aload_n hx hb dL_law_249 rfl (lv_at hl 2 rfl) ?_
  refine lv_aload_n hx hb dL_law_250 rfl (lv_at hl 0 rfl) ?_
  refine lv_iload_n hx hb dL_law_251 rfl (lv_at hl 3 rfl) ?_
  refine lv_iconst (v := 1) hx hb dL_law_252 (by decide) ?_
  refine lv_iadd hx hb dL_law_253 ?_
  refine va_sld hx hb hX hbl hbA G.2.2.1 h1 dL_law_254 ?_
  refine lv_aload_n hx hb dL_law_255 rfl (lv_at hl 0 rfl) ?_
  refine lv_iload_n hx hb dL_law_256 rfl (lv_at hl 3 rfl) ?_
  refine lv_iconst (v := 2) hx hb dL_law_257 (by decide) ?_
  refine lv_iadd hx hb dL_law_258 ?_
  refine va_sld hx hb hX hbl hbA G.2.2.1 h2 dL_law_259 ?_
  refine lv_aload_n hx hb dL_law_260 rfl (lv_at hl 0 rfl) ?_
  refine lv_iload_n hx hb dL_law_261 rfl (lv_at hl 3 rfl) ?_
  refine lv_iconst (v := 3) hx hb dL_law_262 (by decide) ?_
  refine lv_iadd hx hb dL_law_263 ?_
  refine va_sld hx hb hX hbl hbA G.2.2.1 h3 dL_law_264 ?_
  refine r_VR [.int (sp_wish S (xs (i + 1).toNatClampNeg) (xs (i + 2).toNatClampNeg) (xs (i + 3).toNatClampNeg)).1] E hN G.swap (CE.toN (c_X9_wish l Z r S Y (xs (i + 1).toNatClampNeg) (xs (i + 2).toNatClampNeg) (xs (i + 3).toNatClampNeg) hI)) kX9_wish m_759 0 rfl rfl ⟨Nat.le_of_ble_eq_true rfl, Nat.le_of_ble_eq_true rfl⟩ hl dL_law_265 rfl rfl (Nat.le_of_ble_eq_true rfl) hf0 (fun rv w1 H locs hp G => ?_)
  obtain ⟨rfl, rfl⟩ := hp
  refine lv_icmp_eq (tgt := 1141) hx hb dL_law_268 (by decide) (fun _ => ?_) (fun cc => absurd rfl cc)
  refine W.widen (k := cells + 1) (n := slots + 2) (by omega) (by omega) ?_
  exact kk q _ _ _ H locs rfl (hI.wish (xs (i + 1).toNatClampNeg) (xs (i + 2).toNatClampNeg) (xs (i + 3).toNatClampNeg)) G
set_option maxRecDepth 100000 in
theorem law_c3 (E : EW p m c cL_law 4 s args "ConeRoundsLaw" Z) (hN : KN s) (hX : va_X b L xs s s.heap) (hbl : b < s.heap.size) (hI : Inv S) (G : GW Z (CW Z q S X ++ MW Z r S Y) (AL s) s.heap H locs) (h1 : vp_in (i + 1) L) (h2 : vp_in (i + 2) L) (h3 : vp_in (i + 3) L) (h4 : vp_in (i + 4) L) (hl : lv_has ls 4 [(0, .ref b), (1, .ref (q 0)), (2, .ref (r 0)), (3, .int i)]) (hf : cells + 1 ≤ room_1.cells ∧ slots + 2 ≤ room_1.slots) (kk : LK p l e s m args below meth c Q Z ls q r cells slots) : W p l e room_1 s m args below meth c H locs cells slots Q (F0 m 273 ls []) := by
  have hx := E.1.1
  have hb := E.1.2.1
  have hbA : ¬ AL s b := Nat.not_le.mpr hbl
  have hf0 : cells + 0 ≤ room_1.cells ∧ slots + 0 ≤ room_1.slots := ⟨Nat.le_trans (Nat.le_succ _) hf.1, Nat.le_trans (Nat.le_add_right _ 2) hf.2⟩
  refine lv_aload_n hx hb dL_law_273 rfl (lv_at hl 1 rfl) ?_
  refine lv_aload_n hx hb dL_law_274 rfl (lv_at hl 0 rfl) ?_
  refine lv_iload_n hx hb dL_law_275 rfl (lv_at hl 3 rfl) ?_
  refine lv_iconst (v := 1) hx hb dL_law_276 (by decide) ?_
  refine lv_iadd hx hb dL_law_277 ?_
  refine va_sld hx hb hX hbl hbA G.2.2.1 h1 dL_law_278 ?_
  refine r_VR [] E hN G.swap (CE.toN (c_X8_heat l Z q S X (xs (i + 1).toNatClampNeg) hI)) kX8_heat m_275 0 rfl rfl ⟨Nat.le_of_ble_eq_true rfl, Nat.le_of_ble_eq_true rfl⟩ hl dL_law_279 rfl rfl (Nat.le_of_ble_eq_true rfl) hf0 (fun rv w1 H locs hp G => ?_)
  obtain ⟨rfl, rfl⟩ := hp
  refine lv_aload_n hx hb dL_law_282 rfl (lv_at hl 2 rfl) ?_
  refine lv_aload_n hx hb dL_law_283 rfl (lv_at hl 0 rfl) ?_
  refine lv_iload_n hx hb dL_law_284 rfl (lv_at hl 3 rfl) ?_
  refine lv_iconst (v := 1) hx hb dL_law_285 (by decide) ?_
  refine lv_iadd hx hb dL_law_286 ?_
  refine va_sld hx hb hX hbl hbA G.2.2.1 h1 dL_law_287 ?_
  refine r_VR [.int (sp_heat S (xs (i + 1).toNatClampNeg)).1] E hN G.swap (CE.toN (c_X9_heat l Z r S Y (xs (i + 1).toNatClampNeg) hI)) kX9_heat m_766 0 rfl rfl ⟨Nat.le_of_ble_eq_true rfl, Nat.le_of_ble_eq_true rfl⟩ hl dL_law_288 rfl rfl (Nat.le_of_ble_eq_true rfl) hf0 (fun rv w1 H locs hp G => ?_)
  obtain ⟨rfl, rfl⟩ := hp
  refine lv_icmp_eq (tgt := 1141) hx hb dL_law_291 (by decide) (fun _ => ?_) (fun cc => absurd rfl cc)
  refine W.widen (k := cells + 1) (n := slots + 2) (by omega) (by omega) ?_
  exact kk q _ _ _ H locs rfl (hI.heat (xs (i + 1).toNatClampNeg)) G
set_option maxRecDepth 100000 in
theorem law_c4 (E : EW p m c cL_law 4 s args "ConeRoundsLaw" Z) (hN : KN s) (hX : va_X b L xs s s.heap) (hbl : b < s.heap.size) (hI : Inv S) (G : GW Z (CW Z q S X ++ MW Z r S Y) (AL s) s.heap H locs) (h1 : vp_in (i + 1) L) (h2 : vp_in (i + 2) L) (h3 : vp_in (i + 3) L) (h4 : vp_in (i + 4) L) (hl : lv_has ls 4 [(0, .ref b), (1, .ref (q 0)), (2, .ref (r 0)), (3, .int i)]) (hf : cells + 1 ≤ room_1.cells ∧ slots + 2 ≤ room_1.slots) (kk : LK p l e s m args below meth c Q Z ls q r cells slots) : W p l e room_1 s m args below meth c H locs cells slots Q (F0 m 296 ls []) := by
  have hx := E.1.1
  have hb := E.1.2.1
  have hbA : ¬ AL s b := Nat.not_le.mpr hbl
  have hf0 : cells + 0 ≤ room_1.cells ∧ slots + 0 ≤ room_1.slots := ⟨Nat.le_trans (Nat.le_succ _) hf.1, Nat.le_trans (Nat.le_add_right _ 2) hf.2⟩
  refine lv_aload_n hx hb dL_law_296 rfl (lv_at hl 1 rfl) ?_
  refine lv_aload_n hx hb dL_law_297 rfl (lv_at hl 0 rfl) ?_
  refine lv_iload_n hx hb dL_law_298 rfl (lv_at hl 3 rfl) ?_
  refine lv_iconst (v := 1) hx hb dL_law_299 (by decide) ?_
  refine lv_iadd hx hb dL_law_300 ?_
  refine va_sld hx hb hX hbl hbA G.2.2.1 h1 dL_law_301 ?_
  refine r_VR [] E hN G.swap (c_X8_van l Z q S X (xs (i + 1).toNatClampNeg) hI) kX8_van m_279 0 rfl rfl ⟨Nat.le_of_ble_eq_true rfl, Nat.le_of_ble_eq_true rfl⟩ hl dL_law_302 rfl rfl (Nat.le_of_ble_eq_true rfl) hf (fun rv w1 H locs hp G => ?_)
  obtain ⟨rfl, q2, hq2, rfl⟩ := hp
  refine lv_aload_n hx hb dL_law_305 rfl (lv_at hl 2 rfl) ?_
  refine lv_aload_n hx hb dL_law_306 rfl (lv_at hl 0 rfl) ?_
  refine lv_iload_n hx hb dL_law_307 rfl (lv_at hl 3 rfl) ?_
  refine lv_iconst (v := 1) hx hb dL_law_308 (by decide) ?_
  refine lv_iadd hx hb dL_law_309 ?_
  refine va_sld hx hb hX hbl hbA G.2.2.1 h1 dL_law_310 ?_
  refine r_VR [.int (sp_van S (xs (i + 1).toNatClampNeg)).1] E hN G.swap (CE.toN (c_X9_van l Z r S Y (xs (i + 1).toNatClampNeg) hI)) kX9_van m_770 0 rfl rfl ⟨Nat.le_of_ble_eq_true rfl, Nat.le_of_ble_eq_true rfl⟩ hl dL_law_311 rfl rfl (Nat.le_of_ble_eq_true rfl) hf (fun rv w1 H locs hp G => ?_)
  obtain ⟨rfl, rfl⟩ := hp
  refine lv_icmp_eq (tgt := 1141) hx hb dL_law_314 (by decide) (fun _ => ?_) (fun cc => absurd rfl cc)
  refine W.widen (k := cells + 1) (n := slots + 2) (by omega) (by omega) ?_
  exact kk q2 _ _ _ H locs hq2 (hI.van (xs (i + 1).toNatClampNeg)) G
set_option maxRecDepth 100000 in
theorem law_c5 (E : EW p m c cL_law 4 s args "ConeRoundsLaw" Z) (hN : KN s) (hX : va_X b L xs s s.heap) (hbl : b < s.heap.size) (hI : Inv S) (G : GW Z (CW Z q S X ++ MW Z r S Y) (AL s) s.heap H locs) (h1 : vp_in (i + 1) L) (h2 : vp_in (i + 2) L) (h3 : vp_in (i + 3) L) (h4 : vp_in (i + 4) L) (hl : lv_has ls 4 [(0, .ref b), (1, .ref (q 0)), (2, .ref (r 0)), (3, .int i)]) (hf : cells + 1 ≤ room_1.cells ∧ slots + 2 ≤ room_1.slots) (kk : LK p l e s m args below meth c Q Z ls q r cells slots) : W p l e room_1 s m args below meth c H locs cells slots Q (F0 m 319 ls []) := by
  have hx := E.1.1
  have hb := E.1.2.1
  have hbA : ¬ AL s b := Nat.not_le.mpr hbl
  have hf0 : cells + 0 ≤ room_1.cells ∧ slots + 0 ≤ room_1.slots := ⟨Nat.le_trans (Nat.le_succ _) hf.1, Nat.le_trans (Nat.le_add_right _ 2) hf.2⟩
  refine lv_aload_n hx hb dL_law_319 rfl (lv_at hl 1 rfl) ?_
  refine lv_aload_n hx hb dL_law_320 rfl (lv_at hl 0 rfl) ?_
  refine lv_iload_n hx hb dL_law_321 rfl (lv_at hl 3 rfl) ?_
  refine lv_iconst (v := 1) hx hb dL_law_322 (by decide) ?_
  refine lv_iadd hx hb dL_law_323 ?_
  refine va_sld hx hb hX hbl hbA G.2.2.1 h1 dL_law_324 ?_
  refine lv_aload_n hx hb dL_law_325 rfl (lv_at hl 0 rfl) ?_
  refine lv_iload_n hx hb dL_law_326 rfl (lv_at hl 3 rfl) ?_
  refine lv_iconst (v := 2) hx hb dL_law_327 (by decide) ?_
  refine lv_iadd hx hb dL_law_328 ?_
  refine va_sld hx hb hX hbl hbA G.2.2.1 h2 dL_law_329 ?_
  refine r_VR [] E hN G.swap (CE.toN (c_X8_as l Z q S X (xs (i + 1).toNatClampNeg) (xs (i + 2).toNatClampNeg) hI)) kX8_as m_321 0 rfl rfl ⟨Nat.le_of_ble_eq_true rfl, Nat.le_of_ble_eq_true rfl⟩ hl dL_law_330 rfl rfl (Nat.le_of_ble_eq_true rfl) hf0 (fun rv w1 H locs hp G => ?_)
  obtain ⟨rfl, rfl⟩ := hp
  refine lv_aload_n hx hb dL_law_333 rfl (lv_at hl 2 rfl) ?_
  refine lv_aload_n hx hb dL_law_334 rfl (lv_at hl 0 rfl) ?_
  refine lv_iload_n hx hb dL_law_335 rfl (lv_at hl 3 rfl) ?_
  refine lv_iconst (v := 1) hx hb dL_law_336 (by decide) ?_
  refine lv_iadd hx hb dL_law_337 ?_
  refine va_sld hx hb hX hbl hbA G.2.2.1 h1 dL_law_338 ?_
  refine lv_aload_n hx hb dL_law_339 rfl (lv_at hl 0 rfl) ?_
  refine lv_iload_n hx hb dL_law_340 rfl (lv_at hl 3 rfl) ?_
  refine lv_iconst (v := 2) hx hb dL_law_341 (by decide) ?_
  refine lv_iadd hx hb dL_law_342 ?_
  refine va_sld hx hb hX hbl hbA G.2.2.1 h2 dL_law_343 ?_
  refine r_VR [.int (sp_as S (xs (i + 1).toNatClampNeg) (xs (i + 2).toNatClampNeg)).1] E hN G.swap (CE.toN (c_X9_as l Z r S Y (xs (i + 1).toNatClampNeg) (xs (i + 2).toNatClampNeg) hI)) kX9_as m_774 0 rfl rfl ⟨Nat.le_of_ble_eq_true rfl, Nat.le_of_ble_eq_true rfl⟩ hl dL_law_344 rfl rfl (Nat.le_of_ble_eq_true rfl) hf0 (fun rv w1 H locs hp G => ?_)
  obtain ⟨rfl, rfl⟩ := hp
  refine lv_icmp_eq (tgt := 1141) hx hb dL_law_347 (by decide) (fun _ => ?_) (fun cc => absurd rfl cc)
  refine W.widen (k := cells + 1) (n := slots + 2) (by omega) (by omega) ?_
  exact kk q _ _ _ H locs rfl (hI.as (xs (i + 1).toNatClampNeg) (xs (i + 2).toNatClampNeg)) G
set_option maxRecDepth 100000 in
theorem law_c6 (E : EW p m c cL_law 4 s args "ConeRoundsLaw" Z) (hN : KN s) (hX : va_X b L xs s s.heap) (hbl : b < s.heap.size) (hI : Inv S) (G : GW Z (CW Z q S X ++ MW Z r S Y) (AL s) s.heap H locs) (h1 : vp_in (i + 1) L) (h2 : vp_in (i + 2) L) (h3 : vp_in (i + 3) L) (h4 : vp_in (i + 4) L) (hl : lv_has ls 4 [(0, .ref b), (1, .ref (q 0)), (2, .ref (r 0)), (3, .int i)]) (hf : cells + 1 ≤ room_1.cells ∧ slots + 2 ≤ room_1.slots) (kk : LK p l e s m args below meth c Q Z ls q r cells slots) : W p l e room_1 s m args below meth c H locs cells slots Q (F0 m 352 ls []) := by
  have hx := E.1.1
  have hb := E.1.2.1
  have hbA : ¬ AL s b := Nat.not_le.mpr hbl
  have hf0 : cells + 0 ≤ room_1.cells ∧ slots + 0 ≤ room_1.slots := ⟨Nat.le_trans (Nat.le_succ _) hf.1, Nat.le_trans (Nat.le_add_right _ 2) hf.2⟩
  refine lv_aload_n hx hb dL_law_352 rfl (lv_at hl 1 rfl) ?_
  refine lv_aload_n hx hb dL_law_353 rfl (lv_at hl 0 rfl) ?_
  refine lv_iload_n hx hb dL_law_354 rfl (lv_at hl 3 rfl) ?_
  refine lv_iconst (v := 1) hx hb dL_law_355 (by decide) ?_
  refine lv_iadd hx hb dL_law_356 ?_
  refine va_sld hx hb hX hbl hbA G.2.2.1 h1 dL_law_357 ?_
  refine lv_aload_n hx hb dL_law_358 rfl (lv_at hl 0 rfl) ?_
  refine lv_iload_n hx hb dL_law_359 rfl (lv_at hl 3 rfl) ?_
  refine lv_iconst (v := 2) hx hb dL_law_360 (by decide) ?_
  refine lv_iadd hx hb dL_law_361 ?_
  refine va_sld hx hb hX hbl hbA G.2.2.1 h2 dL_law_362 ?_
  refine r_VR [] E hN G.swap (CE.toN (c_X8_stock l Z q S X (xs (i + 1).toNatClampNeg) (xs (i + 2).toNatClampNeg) hI)) kX8_stock m_333 0 rfl rfl ⟨Nat.le_of_ble_eq_true rfl, Nat.le_of_ble_eq_true rfl⟩ hl dL_law_363 rfl rfl (Nat.le_of_ble_eq_true rfl) hf0 (fun rv w1 H locs hp G => ?_)
  obtain ⟨rfl, rfl⟩ := hp
  refine lv_aload_n hx hb dL_law_366 rfl (lv_at hl 2 rfl) ?_
  refine lv_aload_n hx hb dL_law_367 rfl (lv_at hl 0 rfl) ?_
  refine lv_iload_n hx hb dL_law_368 rfl (lv_at hl 3 rfl) ?_
  refine lv_iconst (v := 1) hx hb dL_law_369 (by decide) ?_
  refine lv_iadd hx hb dL_law_370 ?_
  refine va_sld hx hb hX hbl hbA G.2.2.1 h1 dL_law_371 ?_
  refine lv_aload_n hx hb dL_law_372 rfl (lv_at hl 0 rfl) ?_
  refine lv_iload_n hx hb dL_law_373 rfl (lv_at hl 3 rfl) ?_
  refine lv_iconst (v := 2) hx hb dL_law_374 (by decide) ?_
  refine lv_iadd hx hb dL_law_375 ?_
  refine va_sld hx hb hX hbl hbA G.2.2.1 h2 dL_law_376 ?_
  refine r_VR [.int (sp_stock S (xs (i + 1).toNatClampNeg) (xs (i + 2).toNatClampNeg)).1] E hN G.swap (CE.toN (c_X9_stock l Z r S Y (xs (i + 1).toNatClampNeg) (xs (i + 2).toNatClampNeg) hI)) kX9_stock m_782 0 rfl rfl ⟨Nat.le_of_ble_eq_true rfl, Nat.le_of_ble_eq_true rfl⟩ hl dL_law_377 rfl rfl (Nat.le_of_ble_eq_true rfl) hf0 (fun rv w1 H locs hp G => ?_)
  obtain ⟨rfl, rfl⟩ := hp
  refine lv_icmp_eq (tgt := 1141) hx hb dL_law_380 (by decide) (fun _ => ?_) (fun cc => absurd rfl cc)
  refine W.widen (k := cells + 1) (n := slots + 2) (by omega) (by omega) ?_
  exact kk q _ _ _ H locs rfl (hI.stock (xs (i + 1).toNatClampNeg) (xs (i + 2).toNatClampNeg)) G
set_option maxRecDepth 100000 in
theorem law_c7 (E : EW p m c cL_law 4 s args "ConeRoundsLaw" Z) (hN : KN s) (hX : va_X b L xs s s.heap) (hbl : b < s.heap.size) (hI : Inv S) (G : GW Z (CW Z q S X ++ MW Z r S Y) (AL s) s.heap H locs) (h1 : vp_in (i + 1) L) (h2 : vp_in (i + 2) L) (h3 : vp_in (i + 3) L) (h4 : vp_in (i + 4) L) (hl : lv_has ls 4 [(0, .ref b), (1, .ref (q 0)), (2, .ref (r 0)), (3, .int i)]) (hf : cells + 1 ≤ room_1.cells ∧ slots + 2 ≤ room_1.slots) (kk : LK p l e s m args below meth c Q Z ls q r cells slots) : W p l e room_1 s m args below meth c H locs cells slots Q (F0 m 385 ls []) := by
  have hx := E.1.1
  have hb := E.1.2.1
  have hbA : ¬ AL s b := Nat.not_le.mpr hbl
  have hf0 : cells + 0 ≤ room_1.cells ∧ slots + 0 ≤ room_1.slots := ⟨Nat.le_trans (Nat.le_succ _) hf.1, Nat.le_trans (Nat.le_add_right _ 2) hf.2⟩
  refine lv_aload_n hx hb dL_law_385 rfl (lv_at hl 1 rfl) ?_
  refine lv_aload_n hx hb dL_law_386 rfl (lv_at hl 0 rfl) ?_
  refine lv_iload_n hx hb dL_law_387 rfl (lv_at hl 3 rfl) ?_
  refine lv_iconst (v := 1) hx hb dL_law_388 (by decide) ?_
  refine lv_iadd hx hb dL_law_389 ?_
  refine va_sld hx hb hX hbl hbA G.2.2.1 h1 dL_law_390 ?_
  refine lv_aload_n hx hb dL_law_391 rfl (lv_at hl 0 rfl) ?_
  refine lv_iload_n hx hb dL_law_392 rfl (lv_at hl 3 rfl) ?_
  refine lv_iconst (v := 2) hx hb dL_law_393 (by decide) ?_
  refine lv_iadd hx hb dL_law_394 ?_
  refine va_sld hx hb hX hbl hbA G.2.2.1 h2 dL_law_395 ?_
  refine r_VR [] E hN G.swap (CE.toN (c_X8_licence l Z q S X (xs (i + 1).toNatClampNeg) (xs (i + 2).toNatClampNeg) hI)) kX8_licence m_337 0 rfl rfl ⟨Nat.le_of_ble_eq_true rfl, Nat.le_of_ble_eq_true rfl⟩ hl dL_law_396 rfl rfl (Nat.le_of_ble_eq_true rfl) hf0 (fun rv w1 H locs hp G => ?_)
  obtain ⟨rfl, rfl⟩ := hp
  refine lv_aload_n hx hb dL_law_399 rfl (lv_at hl 2 rfl) ?_
  refine lv_aload_n hx hb dL_law_400 rfl (lv_at hl 0 rfl) ?_
  refine lv_iload_n hx hb dL_law_401 rfl (lv_at hl 3 rfl) ?_
  refine lv_iconst (v := 1) hx hb dL_law_402 (by decide) ?_
  refine lv_iadd hx hb dL_law_403 ?_
  refine va_sld hx hb hX hbl hbA G.2.2.1 h1 dL_law_404 ?_
  refine lv_aload_n hx hb dL_law_405 rfl (lv_at hl 0 rfl) ?_
  refine lv_iload_n hx hb dL_law_406 rfl (lv_at hl 3 rfl) ?_
  refine lv_iconst (v := 2) hx hb dL_law_407 (by decide) ?_
  refine lv_iadd hx hb dL_law_408 ?_
  refine va_sld hx hb hX hbl hbA G.2.2.1 h2 dL_law_409 ?_
  refine r_VR [.int (sp_licence S (xs (i + 1).toNatClampNeg) (xs (i + 2).toNatClampNeg)).1] E hN G.swap (CE.toN (c_X9_licence l Z r S Y (xs (i + 1).toNatClampNeg) (xs (i + 2).toNatClampNeg) hI)) kX9_licence m_786 0 rfl rfl ⟨Nat.le_of_ble_eq_true rfl, Nat.le_of_ble_eq_true rfl⟩ hl dL_law_410 rfl rfl (Nat.le_of_ble_eq_true rfl) hf0 (fun rv w1 H locs hp G => ?_)
  obtain ⟨rfl, rfl⟩ := hp
  refine lv_icmp_eq (tgt := 1141) hx hb dL_law_413 (by decide) (fun _ => ?_) (fun cc => absurd rfl cc)
  refine W.widen (k := cells + 1) (n := slots + 2) (by omega) (by omega) ?_
  exact kk q _ _ _ H locs rfl (hI.licence (xs (i + 1).toNatClampNeg) (xs (i + 2).toNatClampNeg)) G
set_option maxRecDepth 100000 in
theorem law_c8 (E : EW p m c cL_law 4 s args "ConeRoundsLaw" Z) (hN : KN s) (hX : va_X b L xs s s.heap) (hbl : b < s.heap.size) (hI : Inv S) (G : GW Z (CW Z q S X ++ MW Z r S Y) (AL s) s.heap H locs) (h1 : vp_in (i + 1) L) (h2 : vp_in (i + 2) L) (h3 : vp_in (i + 3) L) (h4 : vp_in (i + 4) L) (hl : lv_has ls 4 [(0, .ref b), (1, .ref (q 0)), (2, .ref (r 0)), (3, .int i)]) (hf : cells + 1 ≤ room_1.cells ∧ slots + 2 ≤ room_1.slots) (kk : LK p l e s m args below meth c Q Z ls q r cells slots) : W p l e room_1 s m args below meth c H locs cells slots Q (F0 m 418 ls []) := by
  have hx := E.1.1
  have hb := E.1.2.1
  have hbA : ¬ AL s b := Nat.not_le.mpr hbl
  have hf0 : cells + 0 ≤ room_1.cells ∧ slots + 0 ≤ room_1.slots := ⟨Nat.le_trans (Nat.le_succ _) hf.1, Nat.le_trans (Nat.le_add_right _ 2) hf.2⟩
  refine lv_aload_n hx hb dL_law_418 rfl (lv_at hl 1 rfl) ?_
  refine lv_aload_n hx hb dL_law_419 rfl (lv_at hl 0 rfl) ?_
  refine lv_iload_n hx hb dL_law_420 rfl (lv_at hl 3 rfl) ?_
  refine lv_iconst (v := 1) hx hb dL_law_421 (by decide) ?_
  refine lv_iadd hx hb dL_law_422 ?_
  refine va_sld hx hb hX hbl hbA G.2.2.1 h1 dL_law_423 ?_
  refine lv_aload_n hx hb dL_law_424 rfl (lv_at hl 0 rfl) ?_
  refine lv_iload_n hx hb dL_law_425 rfl (lv_at hl 3 rfl) ?_
  refine lv_iconst (v := 2) hx hb dL_law_426 (by decide) ?_
  refine lv_iadd hx hb dL_law_427 ?_
  refine va_sld hx hb hX hbl hbA G.2.2.1 h2 dL_law_428 ?_
  refine lv_aload_n hx hb dL_law_429 rfl (lv_at hl 0 rfl) ?_
  refine lv_iload_n hx hb dL_law_430 rfl (lv_at hl 3 rfl) ?_
  refine lv_iconst (v := 3) hx hb dL_law_431 (by decide) ?_
  refine lv_iadd hx hb dL_law_432 ?_
  refine va_sld hx hb hX hbl hbA G.2.2.1 h3 dL_law_433 ?_
  refine r_VR [] E hN G.swap (CE.toN (c_X8_law l Z q S X (xs (i + 1).toNatClampNeg) (xs (i + 2).toNatClampNeg) (xs (i + 3).toNatClampNeg) hI)) kX8_law m_341 0 rfl rfl ⟨Nat.le_of_ble_eq_true rfl, Nat.le_of_ble_eq_true rfl⟩ hl dL_law_434 rfl rfl (Nat.le_of_ble_eq_true rfl) hf0 (fun rv w1 H locs hp G => ?_)
  obtain ⟨rfl, rfl⟩ := hp
  refine lv_aload_n hx hb dL_law_437 rfl (lv_at hl 2 rfl) ?_
  refine lv_aload_n hx hb dL_law_438 rfl (lv_at hl 0 rfl) ?_
  refine lv_iload_n hx hb dL_law_439 rfl (lv_at hl 3 rfl) ?_
  refine lv_iconst (v := 1) hx hb dL_law_440 (by decide) ?_
  refine lv_iadd hx hb dL_law_441 ?_
  refine va_sld hx hb hX hbl hbA G.2.2.1 h1 dL_law_442 ?_
  refine lv_aload_n hx hb dL_law_443 rfl (lv_at hl 0 rfl) ?_
  refine lv_iload_n hx hb dL_law_444 rfl (lv_at hl 3 rfl) ?_
  refine lv_iconst (v := 2) hx hb dL_law_445 (by decide) ?_
  refine lv_iadd hx hb dL_law_446 ?_
  refine va_sld hx hb hX hbl hbA G.2.2.1 h2 dL_law_447 ?_
  refine lv_aload_n hx hb dL_law_448 rfl (lv_at hl 0 rfl) ?_
  refine lv_iload_n hx hb dL_law_449 rfl (lv_at hl 3 rfl) ?_
  refine lv_iconst (v := 3) hx hb dL_law_450 (by decide) ?_
  refine lv_iadd hx hb dL_law_451 ?_
  refine va_sld hx hb hX hbl hbA G.2.2.1 h3 dL_law_452 ?_
  refine r_VR [.int (sp_law S (xs (i + 1).toNatClampNeg) (xs (i + 2).toNatClampNeg) (xs (i + 3).toNatClampNeg)).1] E hN G.swap (CE.toN (c_X9_law l Z r S Y (xs (i + 1).toNatClampNeg) (xs (i + 2).toNatClampNeg) (xs (i + 3).toNatClampNeg) hI)) kX9_law m_790 0 rfl rfl ⟨Nat.le_of_ble_eq_true rfl, Nat.le_of_ble_eq_true rfl⟩ hl dL_law_453 rfl rfl (Nat.le_of_ble_eq_true rfl) hf0 (fun rv w1 H locs hp G => ?_)
  obtain ⟨rfl, rfl⟩ := hp
  refine lv_icmp_eq (tgt := 1141) hx hb dL_law_456 (by decide) (fun _ => ?_) (fun cc => absurd rfl cc)
  refine W.widen (k := cells + 1) (n := slots + 2) (by omega) (by omega) ?_
  exact kk q _ _ _ H locs rfl (hI.law (xs (i + 1).toNatClampNeg) (xs (i + 2).toNatClampNeg) (xs (i + 3).toNatClampNeg)) G
set_option maxRecDepth 100000 in
theorem law_c9 (E : EW p m c cL_law 4 s args "ConeRoundsLaw" Z) (hN : KN s) (hX : va_X b L xs s s.heap) (hbl : b < s.heap.size) (hI : Inv S) (G : GW Z (CW Z q S X ++ MW Z r S Y) (AL s) s.heap H locs) (h1 : vp_in (i + 1) L) (h2 : vp_in (i + 2) L) (h3 : vp_in (i + 3) L) (h4 : vp_in (i + 4) L) (hl : lv_has ls 4 [(0, .ref b), (1, .ref (q 0)), (2, .ref (r 0)), (3, .int i)]) (hf : cells + 1 ≤ room_1.cells ∧ slots + 2 ≤ room_1.slots) (kk : LK p l e s m args below meth c Q Z ls q r cells slots) : W p l e room_1 s m args below meth c H locs cells slots Q (F0 m 461 ls []) := by
  have hx := E.1.1
  have hb := E.1.2.1
  have hbA : ¬ AL s b := Nat.not_le.mpr hbl
  have hf0 : cells + 0 ≤ room_1.cells ∧ slots + 0 ≤ room_1.slots := ⟨Nat.le_trans (Nat.le_succ _) hf.1, Nat.le_trans (Nat.le_add_right _ 2) hf.2⟩
  refine lv_aload_n hx hb dL_law_461 rfl (lv_at hl 1 rfl) ?_
  refine lv_aload_n hx hb dL_law_462 rfl (lv_at hl 0 rfl) ?_
  refine lv_iload_n hx hb dL_law_463 rfl (lv_at hl 3 rfl) ?_
  refine lv_iconst (v := 1) hx hb dL_law_464 (by decide) ?_
  refine lv_iadd hx hb dL_law_465 ?_
  refine va_sld hx hb hX hbl hbA G.2.2.1 h1 dL_law_466 ?_
  refine lv_aload_n hx hb dL_law_467 rfl (lv_at hl 0 rfl) ?_
  refine lv_iload_n hx hb dL_law_468 rfl (lv_at hl 3 rfl) ?_
  refine lv_iconst (v := 2) hx hb dL_law_469 (by decide) ?_
  refine lv_iadd hx hb dL_law_470 ?_
  refine va_sld hx hb hX hbl hbA G.2.2.1 h2 dL_law_471 ?_
  refine lv_aload_n hx hb dL_law_472 rfl (lv_at hl 0 rfl) ?_
  refine lv_iload_n hx hb dL_law_473 rfl (lv_at hl 3 rfl) ?_
  refine lv_iconst (v := 3) hx hb dL_law_474 (by decide) ?_
  refine lv_iadd hx hb dL_law_475 ?_
  refine va_sld hx hb hX hbl hbA G.2.2.1 h3 dL_law_476 ?_
  refine r_VR [] E hN G.swap (CE.toN (c_X8_may l Z q S X (xs (i + 1).toNatClampNeg) (xs (i + 2).toNatClampNeg) (xs (i + 3).toNatClampNeg) hI)) kX8_may m_345 0 rfl rfl ⟨Nat.le_of_ble_eq_true rfl, Nat.le_of_ble_eq_true rfl⟩ hl dL_law_477 rfl rfl (Nat.le_of_ble_eq_true rfl) hf0 (fun rv w1 H locs hp G => ?_)
  obtain ⟨rfl, rfl⟩ := hp
  refine lv_aload_n hx hb dL_law_480 rfl (lv_at hl 2 rfl) ?_
  refine lv_aload_n hx hb dL_law_481 rfl (lv_at hl 0 rfl) ?_
  refine lv_iload_n hx hb dL_law_482 rfl (lv_at hl 3 rfl) ?_
  refine lv_iconst (v := 1) hx hb dL_law_483 (by decide) ?_
  refine lv_iadd hx hb dL_law_484 ?_
  refine va_sld hx hb hX hbl hbA G.2.2.1 h1 dL_law_485 ?_
  refine lv_aload_n hx hb dL_law_486 rfl (lv_at hl 0 rfl) ?_
  refine lv_iload_n hx hb dL_law_487 rfl (lv_at hl 3 rfl) ?_
  refine lv_iconst (v := 2) hx hb dL_law_488 (by decide) ?_
  refine lv_iadd hx hb dL_law_489 ?_
  refine va_sld hx hb hX hbl hbA G.2.2.1 h2 dL_law_490 ?_
  refine lv_aload_n hx hb dL_law_491 rfl (lv_at hl 0 rfl) ?_
  refine lv_iload_n hx hb dL_law_492 rfl (lv_at hl 3 rfl) ?_
  refine lv_iconst (v := 3) hx hb dL_law_493 (by decide) ?_
  refine lv_iadd hx hb dL_law_494 ?_
  refine va_sld hx hb hX hbl hbA G.2.2.1 h3 dL_law_495 ?_
  refine r_VR [.int (sp_may S (xs (i + 1).toNatClampNeg) (xs (i + 2).toNatClampNeg) (xs (i + 3).toNatClampNeg)).1] E hN G.swap (CE.toN (c_X9_may l Z r S Y (xs (i + 1).toNatClampNeg) (xs (i + 2).toNatClampNeg) (xs (i + 3).toNatClampNeg) hI)) kX9_may m_794 0 rfl rfl ⟨Nat.le_of_ble_eq_true rfl, Nat.le_of_ble_eq_true rfl⟩ hl dL_law_496 rfl rfl (Nat.le_of_ble_eq_true rfl) hf0 (fun rv w1 H locs hp G => ?_)
  obtain ⟨rfl, rfl⟩ := hp
  refine lv_icmp_eq (tgt := 1141) hx hb dL_law_499 (by decide) (fun _ => ?_) (fun cc => absurd rfl cc)
  refine W.widen (k := cells + 1) (n := slots + 2) (by omega) (by omega) ?_
  exact kk q _ _ _ H locs rfl (hI.may (xs (i + 1).toNatClampNeg) (xs (i + 2).toNatClampNeg) (xs (i + 3).toNatClampNeg)) G
end LAW
