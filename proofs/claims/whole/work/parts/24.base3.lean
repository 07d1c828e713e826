-- nest mates' constructors and the array of vans, as the tables have them
def KN (U : State) : Prop := (va_Nw (.methodLinkNest "ConeRounds" 232 yX0_init hostC) U ∧ va_Nw (.methodLinkNest "ConeRounds$Bike" 1 yX7_init hostC) U ∧ va_Nw (.methodLinkNest "ConeRounds" 235 yX2_init hostC) U ∧ va_Nw (.methodLinkNest "ConeRounds$Cart" 1 yX7_init hostC) U ∧ va_Nw (.methodLinkNest "ConeRounds" 236 yX7_init hostC) U) ∧ (va_Nw (.methodLinkNest "ConeRounds" 15 yX5_init hostC) U ∧ va_Nw (.methodLinkNest "ConeRounds" 22 yX3_init hostC) U ∧ va_Nw (.methodLinkNest "ConeRounds" 39 yX6_init hostC) U ∧ va_Nw (.methodLinkNest "ConeRounds" 49 yX4_init hostC) U ∧ va_Nw (.methodLinkNest "ConeRounds" 56 yX1_init hostC) U) ∧ va_AO "ConeRounds$Van" U
theorem KN.same {u U : State} (h : u.vm = U.vm) (k : KN u) : KN U := by
  obtain ⟨⟨a1, a2, a3, a4, a5⟩, ⟨b1, b2, b3, b4, b5⟩, c⟩ := k
  have al : u.vm.Alike U.vm := by rw [h]; exact Vm.Alike.refl _
  exact ⟨⟨a1.same rfl h, a2.same rfl h, a3.same rfl h, a4.same rfl h, a5.same rfl h⟩, ⟨b1.same rfl h, b2.same rfl h, b3.same rfl h, b4.same rfl h, b5.same rfl h⟩, c.moved al⟩
theorem KN.warm {s U : State} (hW : s.WarmedH U.vm) (k : KN s) : KN U := by
  obtain ⟨⟨a1, a2, a3, a4, a5⟩, ⟨b1, b2, b3, b4, b5⟩, c⟩ := k
  exact ⟨⟨a1.warmM hW, a2.warmM hW, a3.warmM hW, a4.warmM hW, a5.warmM hW⟩, ⟨b1.warmM hW, b2.warmM hW, b3.warmM hW, b4.warmM hW, b5.warmM hW⟩, c.moved hW.alike⟩
def PWn (Z : ZT) (w : va_W) (sz : Nat) (av : List Value) : Array Value → State → Prop := va_Pc av (fun U => U.heap.size = sz ∧ (KW Z U ∧ KN U) ∧ va_P Z.1 vwC w U.heap ∧ va_D (fun _ => True) w)
/-- a contract whose callers know the nest mates too -/
def CEn (l : Launch) (Z : ZT) (y : MethodName) (b : ByteArray) (mL : Nat) (ret : Option FieldType) (k mc ms : Nat) (av : List Value) (w : va_W) (post : Option Value → va_W → Prop) : Prop := ∀ sz : Nat, Met l y (Cond.code y b mL ret :: wU) (rmk k mc ms) (PWn Z w sz av) (QA Z (va_A w sz) post) mc ms (va_A w sz)
theorem CE.toN {l : Launch} {Z : ZT} {y : MethodName} {b : ByteArray} {mL : Nat} {ret : Option FieldType} {k mc ms : Nat} {av : List Value} {w : va_W} {post : Option Value → va_W → Prop} (h : CE l Z y b mL ret k mc ms av w post) : CEn l Z y b mL ret k mc ms av w post := by
  intro sz p e ha hc hk s m args below hf happ hP tr
  exact h sz p e ha hc hk s m args below hf happ ⟨hP.1, hP.2.1, hP.2.2.1.1, hP.2.2.2⟩ tr
theorem CEn.mk {l : Launch} {Z : ZT} {y : MethodName} {b : ByteArray} {mL : Nat} {ret : Option FieldType} {k mc ms : Nat} {av : List Value} {w : va_W} {post : Option Value → va_W → Prop} (hy : plainName y.cls = true) (hlen : (lg_sl av).length ≤ mL)
    (body : ∀ (p : Program) (e : Env) (s : State) (m : MethodId) (args : Array Value) (below : List Frame) (meth : Method) (c : Code) (A : Nat → Prop) (Qx : State → Prop) (ls : Array Slot), EW p m c b mL s args y.cls Z → KN s → meth.sig.returnType = ret → meth.locks = false → meth.name = y.name → Qx = MQ below (QA Z A post) args s mc ms A → GW Z w A s.heap s.heap [] → lv_has ls mL (lv_args 0 av) → W p l e (rmk k mc ms) s m args below meth c s.heap [] 0 0 Qx (F0 m 0 ls [])) : CEn l Z y b mL ret k mc ms av w post := by
  intro sz
  refine Met.ofW (cc := b) (maxL := mL) (ret := ret) hy rfl ?_
  intro p e s m args below meth c s₁ B hml hv
  obtain ⟨rfl, hsz, hK, hP, hD0⟩ := hv
  subst hsz
  have hts := atoms_spec (ws := Cond.code y b mL ret :: wU) B.pre
  rw [lg_entry_eq]
  exact body p e s m _ below meth c (va_A w s.heap.size) _ _ ⟨⟨B.exec, B.bytes, hml, findClass_of_methodNamed B.named, fun w h => hts w (List.mem_cons_of_mem _ h)⟩, hK.1⟩ hK.2 B.returns B.notSynchronized (name_of_methodNamed B.named B.method).1 rfl ⟨hP, hD0.self, va_S.rf, fun q h => Or.inr h⟩ (lv_entry av hlen)
theorem PWn.blind {Z : ZT} {w : va_W} {sz : Nat} {av : List Value} : FrameBlind (PWn Z w sz av) := fun a U g mk h => ⟨h.1, h.2.1, ⟨KW.same (u := U) (U := U.calling g mk a) rfl h.2.2.1.1, KN.same (u := U) (U := U.calling g mk a) rfl h.2.2.1.2⟩, h.2.2.2⟩
-- a world of two parts
theorem ap_l {α : Type} {a b : List α} {i : Nat} {x : α} (h : a[i]? = some x) : (a ++ b)[i]? = some x := by
  rw [List.getElem?_append_left (List.getElem?_eq_some_iff.mp h).1]; exact h
theorem ap_r {α : Type} {a b : List α} {i : Nat} {x : α} (h : b[i]? = some x) : (a ++ b)[a.length + i]? = some x := by
  rw [List.getElem?_append_right (Nat.le_add_right _ _), Nat.add_sub_cancel_left]; exact h
theorem DW.l {A : Nat → Prop} {a b : va_W} (h : va_D A (a ++ b)) : va_D A a := ⟨fun i j p q hi hj e => h.1 i j p q (ap_l hi) (ap_l hj) e, fun k q hk => h.2 k q (ap_l hk)⟩
theorem DW.r {A : Nat → Prop} {a b : va_W} (h : va_D A (a ++ b)) : va_D A b := ⟨fun i j p q hi hj e => by have := h.1 _ _ p q (ap_r hi) (ap_r hj) e; omega, fun k q hk => h.2 _ q (ap_r hk)⟩
theorem DW.x {A : Nat → Prop} {a b : va_W} (h : va_D A (a ++ b)) : ∀ (i j : Nat) (p q : Nat × va_E), a[i]? = some p → b[j]? = some q → p.1 ≠ q.1 := by
  intro i j p q hi hj e
  have h1 := h.1 _ _ p q (ap_l hi) (ap_r hj) e
  have h2 := (List.getElem?_eq_some_iff.mp hi).1
  omega
theorem PV.l {D : va_G} {cl : List vw_C} {a b : va_W} {H : Heap} (h : va_P D cl (a ++ b) H) : va_P D cl a H := fun k q hk => h k q (ap_l hk)
theorem PV.r {D : va_G} {cl : List vw_C} {a b : va_W} {H : Heap} (h : va_P D cl (a ++ b) H) : va_P D cl b H := fun k q hk => h _ q (ap_r hk)
theorem GW.swap {Z : ZT} {a b : va_W} {A : Nat → Prop} {H0 H : Heap} {locs : List Loc} (G : GW Z (a ++ b) A H0 H locs) : GW Z (b ++ a) A H0 H locs :=
  ⟨va_P.app (PV.r G.1) (PV.l G.1), va_D.app (DW.r G.2.1) (DW.l G.2.1) (fun i j p q hi hj e => DW.x G.2.1 j i q p hj hi e.symm), G.2.2⟩
section BN
variable {p : Program} {l : Launch} {e : Env} {R : Room} {s : State} {m : MethodId} {args : Array Value} {below : List Frame} {meth : Method} {c : Code} {H H0 : Heap} {locs : List Loc} {cells slots : Nat} {Q : State → Prop}
variable {cc : ByteArray} {nL pc : Nat} {own : String} {Z : ZT} {w wc : va_W} {A : Nat → Prop} {ls : Array Slot} {rest : List Value} {a : Nat}
theorem PWn.pre (hK : KW Z s) (hN : KN s) (hP : va_P Z.1 vwC wc H) (hD : va_D A wc) {av : List Value} : ∀ U : State, U.heap = H → s.WarmedH U.vm → PWn Z wc H.size av av.toArray U := fun U hU hW => ⟨rfl, by rw [hU], ⟨hK.warm hW, hN.warm hW⟩, by rw [hU]; exact hP, hD.weaken (fun _ _ _ _ => trivial)⟩
/-- behind a call on the right part of the world -/
theorem r_backR (G : GW Z (w ++ wc) A s.heap H locs) {mc ms : Nat} {st0 : List Value} {a : Array Value} {post : Option Value → va_W → Prop} (hr : va_Run p l e R s m args below meth c H locs cells slots mc ms (F0 m pc ls st0) rest (QA Z (va_A wc H.size) post a) (va_A wc H.size))
    (kk : ∀ (rv : Option Value) (w' : va_W) (H1 : Heap) (locs1 : List Loc), post rv w' → GW Z (w ++ w') A s.heap H1 locs1 → W p l e R s m args below meth c H1 locs1 (cells + mc) (slots + ms) Q (F0 m (pc + 3) ls (rv.toList ++ rest))) : W p l e R s m args below meth c H locs cells slots Q (F0 m pc ls st0) := by
  intro T hT X
  obtain ⟨v, st₀, t, T', L, h0, X', hL, e1, e2, ⟨⟨rv, w', hv, hp, hP1, hD1⟩, hz, hk⟩, st⟩ := hr T hT X
  cases hv
  rw [h0] at hz hk
  have hF : ∀ q, va_A wc H.size q → A q := by
    intro q h
    rcases h with ⟨k, e, h⟩ | h
    · exact G.2.1.2 _ _ (ap_r h)
    · exact G.2.2.2 q (Nat.le_trans G.2.2.1.1 h)
  have hN : ∀ (k : Nat) (q : Nat × va_E), w[k]? = some q → q.1 < H.size ∧ ¬ va_A wc H.size q.1 := by
    intro k q hq
    have hl := (G.1 k q (ap_l hq)).lt
    refine ⟨hl, fun h => ?_⟩
    rcases h with ⟨k2, e, h⟩ | h
    · exact DW.x G.2.1 k k2 q (q.1, e) hq h rfl
    · omega
  have hPn : va_P Z.1 vwC (w ++ w') T'.heap := va_P.app (fun k q hq => (G.1 k q (ap_l hq)).kept (by rw [e1]; exact hk q.1 (hN k q hq).1 (hN k q hq).2)) (by rw [e1]; exact hP1)
  have hDn : va_D A (w ++ w') := va_D.app (DW.l G.2.1) (hD1.weaken (fun _ q _ h => hF q.1 h)) (fun i j x y hx hy hxy => (hN i x hx).2 (by rw [hxy]; exact hD1.2 j y hy))
  obtain ⟨t2, a1, b1⟩ := kk v w' T'.heap (locs ++ L) hp ⟨hPn, hDn, ⟨Nat.le_trans G.2.2.1.1 (by rw [e1]; exact hz), fun q h1 h2 => by rw [e1, hk q (Nat.lt_of_lt_of_le h1 G.2.2.1.1) (fun z => h2 (hF q z))]; exact G.2.2.1.2.1 q h1 h2, fun q hq => by
      rcases List.mem_append.mp hq with h | h
      · exact G.2.2.1.2.2 q h
      · exact hF _ (hL q h)⟩, G.2.2.2⟩ T' rfl X'
  exact ⟨t2, st t2 a1, b1⟩
variable {y : MethodName} {b : ByteArray} {mL k n idx : Nat} {ret : Option FieldType}
theorem r_VR {mc ms : Nat} {As : List Value} {post : Option Value → va_W → Prop} (rest : List Value) (E : EW p m c cc nL s args own Z) (hN : KN s) (G : GW Z (w ++ wc) A s.heap H locs) (hM : CEn l Z y b mL ret k mc ms (.ref a :: As) wc post) (ky : KV y b mL ret n) (hl : Cond.methodLink own idx y ∈ wU) (j : Nat) {ci : Nat} {fs : List Value} {T : u_T} {N : Nat} (hj : wc[j]? = some (a, .inr (ci, fs))) (hcl : vwC[ci]? = some (y.cls, T, N)) (hR : k + 1 ≤ R.frames ∧ 8 + (mL + 11) + 100 * k ≤ R.locals) {st0 : List Value} {lv : List (Nat × Value)} (hl2 : lv_has ls nL lv) (hdg : decode cc pc = .ok (.invokevirtual idx, 3)) (hst : st0 = As.reverse ++ .ref a :: rest) (hn : As.length = n) (hsum : (rest.map fun v => v.category).sum ≤ 8) (hf : cells + mc ≤ R.cells ∧ slots + ms ≤ R.slots)
    (kk : ∀ (rv : Option Value) (w' : va_W) (H1 : Heap) (locs1 : List Loc), post rv w' → GW Z (w ++ w') A s.heap H1 locs1 → W p l e R s m args below meth c H1 locs1 (cells + mc) (slots + ms) Q (F0 m (pc + 3) ls (rv.toList ++ rest))) : W p l e R s m args below meth c H locs cells slots Q (F0 m pc ls st0) := by
  obtain ⟨⟨h1, h2, h3, h4⟩, h5, h6, h7⟩ := ky
  have hts := E.1.2.2.2.2
  exact r_backR G (va_runV (As := As) (rest := rest) E.1 (hM H.size) (bytes := b) (maxL := mL) (ret := ret) (n := n) (C := y.cls)
    ⟨callB_of n hts (wU_G h4) rfl rfl rfl (hts _ h3) (hts _ hl) ⟨h5, h6, h7⟩ hR, hts _ h1, hts _ h2⟩
    ⟨PWn.blind, va_recv E.2.1 (PV.r G.1) hcl hj, PWn.pre E.2 hN (PV.r G.1) (DW.r G.2.1)⟩ rfl hn hl2.1 hst (lv_room hsum) hdg hf) kk
theorem r_SR {mc ms : Nat} {As : List Value} {post : Option Value → va_W → Prop} (rest : List Value) (E : EW p m c cc nL s args own Z) (hN : KN s) (G : GW Z (w ++ wc) A s.heap H locs) (hM : CEn l Z y b mL ret k mc ms As wc post) (ky : KS y b mL ret n) (hl : Cond.methodLink own idx y ∈ wU) (hR : k + 1 ≤ R.frames ∧ 8 + (mL + 11) + 100 * k ≤ R.locals) {st0 : List Value} {lv : List (Nat × Value)} (hl2 : lv_has ls nL lv) (hdg : decode cc pc = .ok (.invokestatic idx, 3)) (hst : st0 = As.reverse ++ rest) (hn : As.length = n) (hsum : (rest.map fun v => v.category).sum ≤ 8) (hf : cells + mc ≤ R.cells ∧ slots + ms ≤ R.slots)
    (kk : ∀ (rv : Option Value) (w' : va_W) (H1 : Heap) (locs1 : List Loc), post rv w' → GW Z (w ++ w') A s.heap H1 locs1 → W p l e R s m args below meth c H1 locs1 (cells + mc) (slots + ms) Q (F0 m (pc + 3) ls (rv.toList ++ rest))) : W p l e R s m args below meth c H locs cells slots Q (F0 m pc ls st0) := by
  obtain ⟨⟨h1, h3, h4⟩, h5, h6, h7⟩ := ky
  have hts := E.1.2.2.2.2
  exact r_backR G (va_runS (As := As) (rest := rest) E.1 (hM H.size) (bytes := b) (maxL := mL) (ret := ret) (n := n)
    ⟨callB_of n hts (wU_G h4) rfl rfl rfl (hts _ h3) (hts _ hl) ⟨h5, h6, h7⟩ hR, hts _ h1⟩
    ⟨PWn.blind, PWn.pre E.2 hN (PV.r G.1) (DW.r G.2.1)⟩ rfl hn hl2.1 hst (lv_room hsum) hdg hf) kk
def KI (y : MethodName) (b : ByteArray) : Prop := (Cond.instanceMethod y ∈ wU ∧ Cond.initialized y.cls ∈ wU ∧ Cond.code y b 1 none ∈ wU) ∧ (y.cls ≠ "java/lang/invoke/MethodHandle" ∧ y.cls ≠ "java/lang/invoke/VarHandle" ∧ (parseMethodDescriptor y.desc).map (fun d => d.parameters.length) = some 0) ∧ y.name = "<init>"
/-- a constructor without arguments, by its own link -/
theorem r_IR {mc ms : Nat} {post : Option Value → va_W → Prop} (rest : List Value) (E : EW p m c cc nL s args own Z) (hN : KN s) (G : GW Z (w ++ wc) A s.heap H locs) (hM : CEn l Z y b 1 none k mc ms [.ref a] wc post) (ky : KI y b) (hl : Cond.methodLink own idx y ∈ wU) (hR : k + 1 ≤ R.frames ∧ 8 + (1 + 11) + 100 * k ≤ R.locals) {lv : List (Nat × Value)} (hl2 : lv_has ls nL lv) (hdg : decode cc pc = .ok (.invokespecial idx, 3)) (hsum : (rest.map fun v => v.category).sum ≤ 8) (hf : cells + mc ≤ R.cells ∧ slots + ms ≤ R.slots)
    (kk : ∀ (rv : Option Value) (w' : va_W) (H1 : Heap) (locs1 : List Loc), post rv w' → GW Z (w ++ w') A s.heap H1 locs1 → W p l e R s m args below meth c H1 locs1 (cells + mc) (slots + ms) Q (F0 m (pc + 3) ls (rv.toList ++ rest))) : W p l e R s m args below meth c H locs cells slots Q (F0 m pc ls (.ref a :: rest)) := by
  obtain ⟨⟨h1, h3, h4⟩, ⟨h5, h6, h7⟩, h8⟩ := ky
  have hts := E.1.2.2.2.2
  exact r_backR G (va_runI (As := []) (rest := rest) E.1 (hM H.size) (bytes := b) (maxL := 1) (n := 0)
    ⟨callB_of 0 hts (wU_G h4) rfl rfl rfl (hts _ h3) (hts _ hl) ⟨h5, h6, h7⟩ hR, h8, hts _ h1⟩
    ⟨PWn.blind, PWn.pre E.2 hN (PV.r G.1) (DW.r G.2.1)⟩ rfl rfl hl2.1 rfl (lv_room hsum) hdg hf) kk
/-- a nest mate's constructor without arguments -/
theorem r_INR {mc ms : Nat} {post : Option Value → va_W → Prop} (rest : List Value) (E : EW p m c cc nL s args own Z) (hN : KN s) (G : GW Z (w ++ wc) A s.heap H locs) (hM : CEn l Z y b 1 none k mc ms [.ref a] wc post) (ky : KI y b) (hl : va_Nw (.methodLinkNest own idx y hostC) s) (hR : k + 1 ≤ R.frames ∧ 8 + (1 + 11) + 100 * k ≤ R.locals) {lv : List (Nat × Value)} (hl2 : lv_has ls nL lv) (hdg : decode cc pc = .ok (.invokespecial idx, 3)) (hsum : (rest.map fun v => v.category).sum ≤ 8) (hf : cells + mc ≤ R.cells ∧ slots + ms ≤ R.slots)
    (kk : ∀ (rv : Option Value) (w' : va_W) (H1 : Heap) (locs1 : List Loc), post rv w' → GW Z (w ++ w') A s.heap H1 locs1 → W p l e R s m args below meth c H1 locs1 (cells + mc) (slots + ms) Q (F0 m (pc + 3) ls (rv.toList ++ rest))) : W p l e R s m args below meth c H locs cells slots Q (F0 m pc ls (.ref a :: rest)) := by
  obtain ⟨⟨h1, h3, h4⟩, ⟨h5, h6, h7⟩, h8⟩ := ky
  have hts := E.1.2.2.2.2
  exact r_backR G (va_runIN (As := []) (rest := rest) E.1 (hM H.size) (bytes := b) (maxL := 1) (n := 0)
    ⟨va_cnB 0 hts (wU_G h4) rfl rfl rfl hl (hts _ h3) ⟨h5, h6, h7⟩ hR, h8, hts _ h1⟩
    ⟨PWn.blind, PWn.pre E.2 hN (PV.r G.1) (DW.r G.2.1)⟩ rfl rfl hl2.1 rfl (lv_room hsum) hdg hf) kk
-- making
theorem r_newI (E : EW p m c cc nL s args own Z) (G : GW Z w A H0 H locs) {n : Int32} {N : Nat} (hn : ¬ n < 0) (hN : n.toNatClampNeg = N) (hby : N * componentBytes .int ≤ 536870912) (hc : cells + 1 ≤ R.cells) (hs : slots + N ≤ R.slots) (hdg : decode cc pc = .ok (.newarray .int, 2))
    (kk : ∀ (q : Nat) (H1 : Heap), GW Z (w ++ [(q, .inl (Z.2.1, N, .inl (fun _ => 0)))]) A H0 H1 locs → W p l e R s m args below meth c H1 locs (cells + 1) (slots + N) Q (F0 m (pc + 2) ls (.ref q :: rest))) : W p l e R s m args below meth c H locs cells slots Q (F0 m pc ls (.int n :: rest)) := by
  refine va_newa (atype := .int) (ty := .int) (a0 := (N, .inl (fun _ => 0))) (tys := tysZ Z) E.1.1 E.1.2.1 (E.1.2.2.2.2 _ m_86) rfl E.2.1 G.1 G.2.1 G.2.2.1 G.2.2.2 (fun cA => rfl) hn hN hby hc hs hdg (fun q cA H1 hK hP hD hS => ?_)
  have h1 : s.vm.findClass ("[" ++ FieldType.int.toString) = some cA := (hK.2 3 (cA, .int) rfl).2
  have h2 : s.vm.findClass ("[" ++ FieldType.int.toString) = some Z.2.1 := (E.2.1.2 0 (Z.2.1, .int) rfl).2
  cases h2.symm.trans h1
  exact kk q H1 ⟨hP, hD, hS, G.2.2.2⟩
theorem r_newZ (E : EW p m c cc nL s args own Z) (G : GW Z w A H0 H locs) {n : Int32} {N : Nat} (hn : ¬ n < 0) (hN : n.toNatClampNeg = N) (hby : N * componentBytes .boolean ≤ 536870912) (hc : cells + 1 ≤ R.cells) (hs : slots + N ≤ R.slots) (hdg : decode cc pc = .ok (.newarray .boolean, 2))
    (kk : ∀ (q : Nat) (H1 : Heap), GW Z (w ++ [(q, .inl (Z.2.2.1, N, .inl (fun _ => 0)))]) A H0 H1 locs → W p l e R s m args below meth c H1 locs (cells + 1) (slots + N) Q (F0 m (pc + 2) ls (.ref q :: rest))) : W p l e R s m args below meth c H locs cells slots Q (F0 m pc ls (.int n :: rest)) := by
  refine va_newa (atype := .boolean) (ty := .boolean) (a0 := (N, .inl (fun _ => 0))) (tys := tysZ Z) E.1.1 E.1.2.1 (E.1.2.2.2.2 _ m_87) rfl E.2.1 G.1 G.2.1 G.2.2.1 G.2.2.2 (fun cA => rfl) hn hN hby hc hs hdg (fun q cA H1 hK hP hD hS => ?_)
  have h1 : s.vm.findClass ("[" ++ FieldType.boolean.toString) = some cA := (hK.2 3 (cA, .boolean) rfl).2
  have h2 : s.vm.findClass ("[" ++ FieldType.boolean.toString) = some Z.2.2.1 := (E.2.1.2 1 (Z.2.2.1, .boolean) rfl).2
  cases h2.symm.trans h1
  exact kk q H1 ⟨hP, hD, hS, G.2.2.2⟩
theorem r_newV (E : EW p m c cc nL s args own Z) (hNk : KN s) (G : GW Z w A H0 H locs) {n : Int32} {N : Nat} (hn : ¬ n < 0) (hN : n.toNatClampNeg = N) (hby : N * 4 ≤ 536870912) (hc : cells + 1 ≤ R.cells) (hs : slots + N ≤ R.slots) (hl : Cond.classLink own idx "ConeRounds$Van" ∈ wU) (hdg : decode cc pc = .ok (.anewarray idx, 3))
    (kk : ∀ (q : Nat) (H1 : Heap), GW Z (w ++ [(q, .inl (Z.2.2.2, N, .inr (.inr (.inr (.inr (fun _ => none))))))]) A H0 H1 locs → W p l e R s m args below meth c H1 locs (cells + 1) (slots + N) Q (F0 m (pc + 3) ls (.ref q :: rest))) : W p l e R s m args below meth c H locs cells slots Q (F0 m pc ls (.int n :: rest)) := by
  refine va_newq (tys := tysZ Z) E.1.1 E.1.2.1 E.1.2.2.2.1 (E.1.2.2.2.2 _ hl) hNk.2.2 E.2.1 G.1 G.2.1 G.2.2.1 G.2.2.2 hn hN hby hc hs hdg (fun q cA H1 hK hP hD hS => ?_)
  obtain ⟨-, -, -, -, -, h1⟩ := (hK.2 3 (cA, .object "ConeRounds$Van") rfl).2
  obtain ⟨-, -, -, -, -, h2⟩ := (E.2.1.2 2 (Z.2.2.2, .object "ConeRounds$Van") rfl).2
  cases h2.symm.trans h1
  exact kk q H1 ⟨hP, hD, hS, G.2.2.2⟩
theorem r_new (E : EW p m c cc nL s args own Z) (G : GW Z w A H0 H locs) {C : String} {T : u_T} {N ci : Nat} (hcl : vwC[ci]? = some (C, T, N)) (hin : ∀ x ∈ u_ws C T N, x ∈ wU) {ty0 : Nat → FieldType} (hty : ∀ k, k < N → parseFieldDescriptor (T k).2.2.1 = some (ty0 k)) (hl : Cond.classLink own idx C ∈ wU) (hi : Cond.instantiable C N ∈ wU) (hini : Cond.initialized C ∈ wU) {fs : List Value} (hfs : ∀ j, j < N → defaultValue (ty0 j) = vp_V fs j) (hc : cells + 1 ≤ R.cells) (hs : slots + N ≤ R.slots) (hdg : decode cc pc = .ok (.new idx, 3))
    (kk : ∀ (q : Nat) (H1 : Heap), GW Z (w ++ [(q, .inr (ci, fs))]) A H0 H1 locs → W p l e R s m args below meth c H1 locs (cells + 1) (slots + N) Q (F0 m (pc + 3) ls (.ref q :: rest))) : W p l e R s m args below meth c H locs cells slots Q (F0 m pc ls rest) :=
  va_new E.1.1 E.1.2.1 E.1.2.2.2.2 hin ty0 hty E.1.2.2.2.1 (E.1.2.2.2.2 _ hl) (E.1.2.2.2.2 _ hi) (E.1.2.2.2.2 _ hini) E.2.1 G.1 G.2.1 G.2.2.1 G.2.2.2 hcl hfs hc hs hdg (fun q H1 hP hD hS => kk q H1 ⟨hP, hD, hS, G.2.2.2⟩)
theorem r_putF (E : EW p m c cc nL s args own Z) (G : GW Z w A H0 H locs) (hnm : meth.name = "<init>") (j : Nat) {ci : Nat} {fs : List Value} (he : w[j]? = some (a, .inr (ci, fs))) {C : String} {T : u_T} {N : Nat} (hc : vwC[ci]? = some (C, T, N)) (hin : ∀ x ∈ u_ws C T N, x ∈ wU) {ty0 : Nat → FieldType} (hty : ∀ k, k < N → parseFieldDescriptor (T k).2.2.1 = some (ty0 k)) (hnx : ∀ a, a < N → ∀ b, b < N → a ≠ b → (T a).2.1 ≠ (T b).2.1) (k : Nat) (hk : k < N) {idx : Nat} {ref : String} (hl : Cond.fieldLink own idx ref (T k).2.1 (T k).2.2.1 ∈ wU) (href : (T k).1 = ref) (hfin : (T k).2.2.2 = true) (hdecl : (T k).1 = own) {ty : FieldType} {v : Value} (hd : parseFieldDescriptor (T k).2.2.1 = some ty) (hn : narrow ty v = v) (hfit : fits ty v = true) (hlk : k < fs.length) {w' : va_W} (hw : w.set j (a, .inr (ci, fs.set k v)) = w') (hdg : decode cc pc = .ok (.putfield idx, 3))
    (kk : ∀ (H1 : Heap) (locs1 : List Loc), GW Z w' A H0 H1 locs1 → W p l e R s m args below meth c H1 locs1 cells slots Q (F0 m (pc + 3) ls rest)) : W p l e R s m args below meth c H locs cells slots Q (F0 m pc ls (v :: .ref a :: rest)) := by
  subst href
  subst hw
  exact va_putF (ty := ty) E.1.1 E.1.2.1 E.1.2.2.2.2 hin ty0 hty hnx E.1.2.2.2.1 E.2.1 G.1 G.2.1 G.2.2.1 j he hc k hk (E.1.2.2.2.2 _ hl) (fun _ h => h) hfin hnm hdecl hd hn hfit hlk hdg (fun H1 locs1 h1 h2 h3 => kk H1 locs1 ⟨h1, h2, h3, G.2.2.2⟩)
theorem r_obj (E : EW p m c cc nL s args own Z) {lv : List (Nat × Value)} (hl2 : lv_has ls nL lv) (hl : Cond.methodLink own idx ⟨"java/lang/Object", "<init>", "()V"⟩ ∈ wU) (hdg : decode cc pc = .ok (.invokespecial idx, 3)) (hfr : 1 ≤ R.frames) (hlo : 12 ≤ R.locals) (kk : W p l e R s m args below meth c H locs cells slots Q (F0 m (pc + 3) ls [])) : W p l e R s m args below meth c H locs cells slots Q (F0 m pc ls [.ref a]) :=
  W.objInit E.1.1 E.1.2.1 E.1.2.2.2.1 (E.1.2.2.2.2 _ hl) (E.1.2.2.2.2 _ m_59) (E.1.2.2.2.2 _ m_60) rfl (by rw [E.1.2.2.1]; exact hl2.1) rfl hdg hfr hlo kk
theorem r_retvP {post : Option Value → va_W → Prop} (E : EW p m c cc nL s args own Z) (G : GW Z w A s.heap H locs) (hr : meth.sig.returnType = none) (hlk : meth.locks = false) (hQ : Q = MQ below (QA Z A post) args s cells slots A) (hp : post none w) (hdg : decode cc pc = .ok (.return_, 1)) : W p l e R s m args below meth c H locs cells slots Q (F0 m pc ls []) := by
  subst hQ
  exact W.vret E.1.1 E.1.2.1 hr (fun t ht _ => ⟨⟨none, w, rfl, hp, by rw [ht]; exact G.1, G.2.1⟩, G.2.2.1.F ht⟩) G.2.2.1.2.2 hdg hlk
theorem r_retP {post : Option Value → va_W → Prop} (E : EW p m c cc nL s args own Z) (G : GW Z w A s.heap H locs) (hr : meth.sig.returnType = some .int) (hlk : meth.locks = false) (hQ : Q = MQ below (QA Z A post) args s cells slots A) {v : Int32} (hp : post (some (.int v)) w) (hdg : decode cc pc = .ok (.ireturn, 1)) : W p l e R s m args below meth c H locs cells slots Q (F0 m pc ls [.int v]) := by
  subst hQ
  exact W.iret E.1.1 E.1.2.1 hr (fun t ht _ => ⟨⟨some (.int v), w, rfl, hp, by rw [ht]; exact G.1, G.2.1⟩, G.2.2.1.F ht⟩) G.2.2.1.2.2 hdg hlk
end BN
