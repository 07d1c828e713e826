theorem sub_sub0 {L k : Int32} (hL : L.toInt = -1000000) (h1 : 1 ≤ k.toInt ∧ k.toInt ≤ 5) : L - (L - k) = k := by
  have h2 : (L - k).toInt = L.toInt - k.toInt := i_sub (by omega) (by omega)
  have h3 : (L - (L - k)).toInt = L.toInt - (L - k).toInt := i_sub (by omega) (by omega)
  rw [← Int32.toInt_inj]
  omega
theorem sub_sub {k : Int32} (h : inr k 1 5 = true) : -1000000 - (-1000000 - k) = k := by
  have h1 := in_of h
  have e := e_lit
  exact sub_sub0 (by decide) (by omega)
theorem ar_au {f : Nat → Int32} {i x : Int32} : ar (au f i x) i = x := pk_us
theorem cm6 (a : Int32) : 6 * a = a * 6 := Int32.mul_comm _ _
theorem cm12 (a : Int32) : 12 * a = a * 12 := Int32.mul_comm _ _
theorem lt_lim {x y : Int32} (h : x ≤ y) (g : ¬ y ≤ x) : x < y := Int32.not_le.mp g
theorem ne_lim {x y : Int32} (h : x ≤ y) (g : ¬ x = y) : x < y := Int32.not_le.mp (fun k => g (Int32.le_antisymm h k))
theorem ix_1 {x : Int32} {n : Nat} (h : vp_in x n) : vp_in x n := h
-- stands
def adS (S : St) (v a h c : Int32) : Int32 × St := (s_sd S + 1 - 1, u_sd (u_sm (u_sh (u_ss (u_sv S (au (s_sv S) (s_sd S) v)) (au (s_ss S) (s_sd S) a)) (au (s_sh S) (s_sd S) h)) (au (s_sm S) (s_sd S) c)) (s_sd S + 1))
def adB (S : St) (c d : Int32) : Int32 × St := (s_bi S + 1 - 1, u_bi (u_du (u_bd (u_le S (au (s_le S) (s_bi S) c)) (au (s_bd S) (s_bi S) d)) (au (s_du S) (s_bi S) (d + s_cr S))) (s_bi S + 1))
def owS (S : St) (n d : Int32) : Int32 := if d < ar (s_bd S) n then 0 else ar (s_le S) n + (if d - ar (s_du S) n < 0 then 0 else d - ar (s_du S) n) / 7 * (ar (s_le S) n / 50)
def owA (S : St) (d : Int32) : Nat → Int32
  | 0 => 0
  | k + 1 => owA S d k + owS S (nI k) d
-- who holds a street
def hoS (S : St) (a : Int32) : Nat → Int32 × Int32
  | 0 => (-1, 0)
  | k + 1 => if (hoS S a k).2 < coS S (nI k) a (s_sd S).toNatClampNeg then (nI k, coS S (nI k) a (s_sd S).toNatClampNeg) else hoS S a k
def hol (S : St) (a : Int32) : Int32 := (hoS S a (s_va S).toNatClampNeg).1
def geS (S : St) (a b s t h : Int32) : Int32 := if s = t then (if hol S s = a then wor S s h * 2 / 3 else if hol S s = b then wor S s h / 3 else wor S s h / 2) else wor S s h
-- wrong
def soon (S : St) (n : Int32) : Bool := decide (0 ≤ laS S (ar (s_sv S) n) n.toNatClampNeg) && decide (ar (s_sh S) n < ar (s_sh S) (laS S (ar (s_sv S) n) n.toNatClampNeg) + lat S (ar (s_sv S) n) (ar (s_ss S) (laS S (ar (s_sv S) n) n.toNatClampNeg)) (ar (s_ss S) n))
def wrS (S : St) (n : Int32) : Int32 := if isLi S (ar (s_sv S) n) (ar (s_ss S) n) then (if isBa S (ar (s_ss S) n) (ar (s_sh S) n) then 2 else if s_cm S < ar (s_sm S) n then 3 else if soon S n then 4 else if taS S (ar (s_ss S) n) (ar (s_sh S) n) n.toNatClampNeg then 5 else 0) else 1
def clS (S : St) : Nat → Int32
  | 0 => 0
  | k + 1 => if wrS S (nI k) = 0 then clS S k else clS S k + 1
def soA (S : St) : Nat → Int32
  | 0 => 0
  | k + 1 => soA S k + s_so S k
-- the calls
def sp_street (S : St) (k : Int32) : Int32 × St := if inr k 0 1 then (if s_st S = 6 then fnd S (-1000004) else (s_st S + 1 - 1, u_st (u_sc S (au (s_sc S) (s_st S) k)) (s_st S + 1))) else fnd S (-1000001)
def sp_way (S : St) (a b v : Int32) : Int32 × St := if isSt S a && (isSt S b && (!decide (a = b) && inr v 0 3)) then (ar (s_wy S) (a * 6 + b), u_wy S (au (au (s_wy S) (a * 6 + b) v) (b * 6 + a) v)) else fnd S (-1000001)
def sp_wish (S : St) (s h v : Int32) : Int32 × St := if isSt S s && (isHo h && inr v 0 200) then (ar (s_wi S) (s * 12 + h), u_wi S (au (s_wi S) (s * 12 + h) v)) else fnd S (-1000001)
def sp_heat (S : St) (v : Int32) : Int32 × St := if inr v 0 4 then (s_he S, u_he S v) else fnd S (-1000001)
def sp_as (S : St) (v k : Int32) : Int32 × St := if isVa S v && isKi k then (if k = 0 ∨ ar (s_ki S) v = k then (ar (s_so S) v, S) else fnd S (-1000005)) else fnd S (-1000001)
def sp_stock (S : St) (v n : Int32) : Int32 × St := if isVa S v && inr n 0 2000 then (ar (s_so S) v, u_so S (au (s_so S) v n)) else fnd S (-1000001)
def sp_licence (S : St) (v n : Int32) : Int32 × St := if isVa S v && inr n 0 63 then (ar (s_li S) v, u_li S (au (s_li S) v n)) else fnd S (-1000001)
def sp_law (S : St) (a b c : Int32) : Int32 × St := if isHo a && (isHo b && inr c 0 60) then (1, u_cm (u_bt (u_bf S a) b) c) else fnd S (-1000001)
def sp_may (S : St) (v s h : Int32) : Int32 × St := if isVa S v && (isSt S s && isHo h) then (b01 (may S v s h), S) else fnd S (-1000001)
def sp_worth (S : St) (s h : Int32) : Int32 × St := if isSt S s && isHo h then (wor S s h, S) else fnd S (-1000001)
def sp_stand (S : St) (v a c : Int32) : Int32 × St := if isVa S v && (isAt S a && inr c 0 99) then (if isSd S (laS S v (s_sd S).toNatClampNeg) && decide (ho a ≤ ar (s_sh S) (laS S v (s_sd S).toNatClampNeg)) then fnd S (-1000003) else if s_sd S = 24 then fnd S (-1000004) else adS S v (a / 100) (ho a) c) else fnd S (-1000001)
def sp_wrong (S : St) (n : Int32) : Int32 × St := if isSd S n then (wrS S n, S) else fnd S (-1000001)
def sp_clear (S : St) : Int32 × St := (clS S (s_sd S).toNatClampNeg, u_sd S 0)
def sp_holder (S : St) (s : Int32) : Int32 × St := if isSt S s then (if hol S s = -1 then fnd S (-1000002) else (hol S s, S)) else fnd S (-1000001)
def sp_gets (S : St) (a b s h : Int32) : Int32 × St := if isVa S a && (isVa S b && (!decide (a = b) && (isPr S s && isHo h))) then (if may S a (s / 10) h && may S b (re10 s) h then (geS S a b (s / 10) (re10 s) h, S) else fnd S (-1000003)) else fnd S (-1000001)
def sp_credit (S : St) (d : Int32) : Int32 × St := if inr d 0 60 then (s_cr S, u_cr S d) else fnd S (-1000001)
def sp_bill (S : St) (c d : Int32) : Int32 × St := if inr c 1 10000 && inr d 0 1000 then (if s_bi S = 12 then fnd S (-1000004) else adB S c d) else fnd S (-1000001)
def sp_pay (S : St) (n c : Int32) : Int32 × St := if isBi S n && decide (1 ≤ c) then (if ar (s_le S) n < c then fnd S (-1000003) else (ar (s_le S) n - c, u_le S (au (s_le S) n (ar (s_le S) n - c)))) else fnd S (-1000001)
def sp_owed (S : St) (n d : Int32) : Int32 × St := if (decide (n = -1) || isBi S n) && inr d 0 2000 then (if n = -1 then owA S d (s_bi S).toNatClampNeg else owS S n d, S) else fnd S (-1000001)
def sp_tell (S : St) (v : Int32) : Int32 × St := if s_wa S = 12 then fnd S (-1000004) else (s_wa S + 1, u_wa (u_wt S (au (s_wt S) (s_wa S) v)) (s_wa S + 1))
def sp_count (S : St) (w : Int32) : Int32 × St := if w = 0 then (s_st S, S) else if w = 1 then (s_va S, S) else if w = 2 then (s_sd S, S) else if w = 3 then (s_bi S, S) else if w = 4 then (s_wa S, S) else if w = 5 then (soA S (s_va S).toNatClampNeg, S) else if w = 6 then (s_he S, S) else fnd S (-1000001)
def sp_found (S : St) (k : Int32) : Int32 × St := if inr k 1 5 then (ar (s_co S) k, S) else fnd S (-1000001)
-- calls of a van's methods, by its kind
section BU
variable {p : Program} {l : Launch} {e : Env} {R : Room} {s : State} {m : MethodId} {args : Array Value} {below : List Frame} {meth : Method} {c : Code} {H H0 : Heap} {locs : List Loc} {cells slots : Nat} {Q : State → Prop}
variable {cc : ByteArray} {nL pc : Nat} {own : String} {Z : ZT} {w : va_W} {A : Nat → Prop} {ls : Array Slot} {a : Nat}
variable {x y : MethodName} {b b0 : ByteArray} {mL m0 k n idx : Nat} {ret r0 : Option FieldType} {C : String}
theorem r_U {As : List Value} {w' : va_W} {v : Value} (rest : List Value) (E : EW p m c cc nL s args own Z) (G : GW Z w A s.heap H locs) (hM : CT l Z y b mL ret k (.ref a :: As) w (some v) w') (hl : Cond.methodLink own idx x ∈ wU) (hs : Cond.sameMethod x.cls x.cls x.name x.desc ∈ wU) (hse : Cond.selects C x y ∈ wU) (hin : Cond.instanceMethod y ∈ wU) (hxi : Cond.instanceMethod x ∈ wU) (hini : Cond.initialized y.cls ∈ wU) (hco : Cond.code y b mL ret ∈ wU) (hc0 : Cond.code x b0 m0 r0 ∈ wU) (hd : x.cls ≠ "java/lang/invoke/MethodHandle" ∧ x.cls ≠ "java/lang/invoke/VarHandle" ∧ (parseMethodDescriptor x.desc).map (fun d => d.parameters.length) = some n) (j : Nat) {ci : Nat} {fs : List Value} {T : u_T} {N : Nat} (hj : w[j]? = some (a, .inr (ci, fs))) (hcl : vwC[ci]? = some (C, T, N)) (hR : k + 1 ≤ R.frames ∧ 8 + (mL + 11) + 100 * k ≤ R.locals) {st0 : List Value} {lv : List (Nat × Value)} (hl2 : lv_has ls nL lv) (hdg : decode cc pc = .ok (.invokevirtual idx, 3)) (hst : st0 = As.reverse ++ .ref a :: rest) (hn : As.length = n) (hsum : (rest.map fun v => v.category).sum ≤ 8) (hf : cells ≤ R.cells ∧ slots ≤ R.slots)
    (kk : ∀ (H1 : Heap) (locs1 : List Loc), GW Z w' A s.heap H1 locs1 → W p l e R s m args below meth c H1 locs1 cells slots Q (F0 m (pc + 3) ls (v :: rest))) : W p l e R s m args below meth c H locs cells slots Q (F0 m pc ls st0) := by
  have hts := E.1.2.2.2.2
  have hG : GoodIn wU (va_wsO own idx C x.cls x y (Cond.code y b mL ret :: wU)) := by
    intro w hw
    have hm : w ∈ wU := by
      unfold va_wsO at hw
      simp only [List.cons_append, List.nil_append, List.mem_cons] at hw
      rcases hw with h | h | h | h | h | h | h | h
      · rw [h]; exact hl
      · rw [h]; exact hs
      · rw [h]; exact hxi
      · rw [h]; exact hse
      · rw [h]; exact hin
      · rw [h]; exact hini
      · rw [h]; exact hco
      · exact h
    exact ⟨hm, good_of_word (wU_good hm)⟩
  refine r_back G (va_runU (As := As) (rest := rest) E.1 (hM H.size) (bytes := b) (maxL := mL) (ret := ret) (n := n) (C := C) (va_cwO n hts hG rfl rfl rfl hc0 hd hR) ⟨PW.blind, va_recv E.2.1 G.1 hcl hj, PW.pre E.2 G⟩ rfl hn hl2.1 hst (lv_room hsum) hdg hf) (fun rv x H1 locs1 hp hG => by obtain ⟨rfl, rfl⟩ := hp; exact kk H1 locs1 hG)
end BU
theorem ix_fd {a : Int32} (h : inr a 1 5 = true) : vp_in a 6 := by
  have h1 := in_of h
  have e := e_lit
  exact vp_of (by omega) (by omega)
