def TX0 : u_T := fun k => match k with
  | 0 => ("ConeRounds$Van", "stock", "I", false)
  | _ => ("ConeRounds$Van", "licence", "I", false)
def tyX0 : Nat → FieldType := fun k => match k with
  | 0 => .int
  | _ => .int
theorem nmX0 : ∀ a, a < 2 → ∀ b, b < 2 → a ≠ b → (TX0 a).2.1 ≠ (TX0 b).2.1 := by decide +kernel
theorem tyX0_ok : ∀ k, k < 2 → parseFieldDescriptor (TX0 k).2.2.1 = some (tyX0 k) := by decide +kernel
def TX1 : u_T := fun k => match k with
  | 0 => ("ConeRounds$Bills", "coins", "[I", true)
  | 1 => ("ConeRounds$Bills", "days", "[I", true)
  | 2 => ("ConeRounds$Bills", "dues", "[I", true)
  | 3 => ("ConeRounds$Bills", "size", "I", false)
  | _ => ("ConeRounds$Bills", "credit", "I", false)
def tyX1 : Nat → FieldType := fun k => match k with
  | 0 => .array .int
  | 1 => .array .int
  | 2 => .array .int
  | 3 => .int
  | _ => .int
theorem nmX1 : ∀ a, a < 5 → ∀ b, b < 5 → a ≠ b → (TX1 a).2.1 ≠ (TX1 b).2.1 := by decide +kernel
theorem tyX1_ok : ∀ k, k < 5 → parseFieldDescriptor (TX1 k).2.2.1 = some (tyX1 k) := by decide +kernel
def TX2 : u_T := fun k => match k with
  | 0 => ("ConeRounds$Van", "stock", "I", false)
  | _ => ("ConeRounds$Van", "licence", "I", false)
def tyX2 : Nat → FieldType := fun k => match k with
  | 0 => .int
  | _ => .int
theorem nmX2 : ∀ a, a < 2 → ∀ b, b < 2 → a ≠ b → (TX2 a).2.1 ≠ (TX2 b).2.1 := by decide +kernel
theorem tyX2_ok : ∀ k, k < 2 → parseFieldDescriptor (TX2 k).2.2.1 = some (tyX2 k) := by decide +kernel
def TX3 : u_T := fun k => match k with
  | 0 => ("ConeRounds$Law", "from", "I", false)
  | 1 => ("ConeRounds$Law", "to", "I", false)
  | _ => ("ConeRounds$Law", "seconds", "I", false)
def tyX3 : Nat → FieldType := fun k => match k with
  | 0 => .int
  | 1 => .int
  | _ => .int
theorem nmX3 : ∀ a, a < 3 → ∀ b, b < 3 → a ≠ b → (TX3 a).2.1 ≠ (TX3 b).2.1 := by decide +kernel
theorem tyX3_ok : ∀ k, k < 3 → parseFieldDescriptor (TX3 k).2.2.1 = some (tyX3 k) := by decide +kernel
def TX4 : u_T := fun k => match k with
  | 0 => ("ConeRounds$Stands", "vans", "[I", true)
  | 1 => ("ConeRounds$Stands", "streets", "[I", true)
  | 2 => ("ConeRounds$Stands", "hours", "[I", true)
  | 3 => ("ConeRounds$Stands", "chimes", "[I", true)
  | _ => ("ConeRounds$Stands", "size", "I", false)
def tyX4 : Nat → FieldType := fun k => match k with
  | 0 => .array .int
  | 1 => .array .int
  | 2 => .array .int
  | 3 => .array .int
  | _ => .int
theorem nmX4 : ∀ a, a < 5 → ∀ b, b < 5 → a ≠ b → (TX4 a).2.1 ≠ (TX4 b).2.1 := by decide +kernel
theorem tyX4_ok : ∀ k, k < 5 → parseFieldDescriptor (TX4 k).2.2.1 = some (tyX4 k) := by decide +kernel
def TX5 : u_T := fun k => match k with
  | 0 => ("ConeRounds$Town", "schools", "[Z", true)
  | 1 => ("ConeRounds$Town", "ways", "[I", true)
  | 2 => ("ConeRounds$Town", "wishes", "[I", true)
  | 3 => ("ConeRounds$Town", "size", "I", false)
  | _ => ("ConeRounds$Town", "heat", "I", false)
def tyX5 : Nat → FieldType := fun k => match k with
  | 0 => .array .boolean
  | 1 => .array .int
  | 2 => .array .int
  | 3 => .int
  | _ => .int
theorem nmX5 : ∀ a, a < 5 → ∀ b, b < 5 → a ≠ b → (TX5 a).2.1 ≠ (TX5 b).2.1 := by decide +kernel
theorem tyX5_ok : ∀ k, k < 5 → parseFieldDescriptor (TX5 k).2.2.1 = some (tyX5 k) := by decide +kernel
def TX6 : u_T := fun k => match k with
  | 0 => ("ConeRounds$Trail", "streets", "[I", true)
  | 1 => ("ConeRounds$Trail", "hours", "[I", true)
  | 2 => ("ConeRounds$Trail", "size", "I", false)
  | 3 => ("ConeRounds$Trail", "stock", "I", false)
  | _ => ("ConeRounds$Trail", "sold", "I", false)
def tyX6 : Nat → FieldType := fun k => match k with
  | 0 => .array .int
  | 1 => .array .int
  | 2 => .int
  | 3 => .int
  | _ => .int
theorem nmX6 : ∀ a, a < 5 → ∀ b, b < 5 → a ≠ b → (TX6 a).2.1 ≠ (TX6 b).2.1 := by decide +kernel
theorem tyX6_ok : ∀ k, k < 5 → parseFieldDescriptor (TX6 k).2.2.1 = some (tyX6 k) := by decide +kernel
def TX7 : u_T := fun k => match k with
  | 0 => ("ConeRounds$Van", "stock", "I", false)
  | _ => ("ConeRounds$Van", "licence", "I", false)
def tyX7 : Nat → FieldType := fun k => match k with
  | 0 => .int
  | _ => .int
theorem nmX7 : ∀ a, a < 2 → ∀ b, b < 2 → a ≠ b → (TX7 a).2.1 ≠ (TX7 b).2.1 := by decide +kernel
theorem tyX7_ok : ∀ k, k < 2 → parseFieldDescriptor (TX7 k).2.2.1 = some (tyX7 k) := by decide +kernel
def TX8 : u_T := fun k => match k with
  | 0 => ("ConeRounds", "findings", "[I", true)
  | 1 => ("ConeRounds", "town", "LConeRounds$Town;", true)
  | 2 => ("ConeRounds", "rules", "LConeRounds$Law;", true)
  | 3 => ("ConeRounds", "vans", "[LConeRounds$Van;", true)
  | 4 => ("ConeRounds", "vanCount", "I", false)
  | 5 => ("ConeRounds", "trail", "LConeRounds$Trail;", true)
  | 6 => ("ConeRounds", "best", "LConeRounds$Trail;", true)
  | 7 => ("ConeRounds", "stands", "LConeRounds$Stands;", true)
  | 8 => ("ConeRounds", "bills", "LConeRounds$Bills;", true)
  | 9 => ("ConeRounds", "waiting", "[I", true)
  | _ => ("ConeRounds", "waitingCount", "I", false)
def tyX8 : Nat → FieldType := fun k => match k with
  | 0 => .array .int
  | 1 => .object "ConeRounds$Town"
  | 2 => .object "ConeRounds$Law"
  | 3 => .array (.object "ConeRounds$Van")
  | 4 => .int
  | 5 => .object "ConeRounds$Trail"
  | 6 => .object "ConeRounds$Trail"
  | 7 => .object "ConeRounds$Stands"
  | 8 => .object "ConeRounds$Bills"
  | 9 => .array .int
  | _ => .int
theorem nmX8 : ∀ a, a < 11 → ∀ b, b < 11 → a ≠ b → (TX8 a).2.1 ≠ (TX8 b).2.1 := by decide +kernel
theorem tyX8_ok : ∀ k, k < 11 → parseFieldDescriptor (TX8 k).2.2.1 = some (tyX8 k) := by decide +kernel
def TX9 : u_T := fun k => match k with
  | 0 => ("ConeRoundsModel", "streets", "I", false)
  | 1 => ("ConeRoundsModel", "vans", "I", false)
  | 2 => ("ConeRoundsModel", "stands", "I", false)
  | 3 => ("ConeRoundsModel", "bills", "I", false)
  | 4 => ("ConeRoundsModel", "waiting", "I", false)
  | 5 => ("ConeRoundsModel", "heatNow", "I", false)
  | 6 => ("ConeRoundsModel", "barFrom", "I", false)
  | 7 => ("ConeRoundsModel", "barTo", "I", false)
  | 8 => ("ConeRoundsModel", "chimeMost", "I", false)
  | 9 => ("ConeRoundsModel", "creditNow", "I", false)
  | 10 => ("ConeRoundsModel", "school", "[I", true)
  | 11 => ("ConeRoundsModel", "ways", "[I", true)
  | 12 => ("ConeRoundsModel", "wishes", "[I", true)
  | 13 => ("ConeRoundsModel", "kind", "[I", true)
  | 14 => ("ConeRoundsModel", "stocks", "[I", true)
  | 15 => ("ConeRoundsModel", "licences", "[I", true)
  | 16 => ("ConeRoundsModel", "standVan", "[I", true)
  | 17 => ("ConeRoundsModel", "standStreet", "[I", true)
  | 18 => ("ConeRoundsModel", "standHour", "[I", true)
  | 19 => ("ConeRoundsModel", "standChime", "[I", true)
  | 20 => ("ConeRoundsModel", "left0", "[I", true)
  | 21 => ("ConeRoundsModel", "billDay", "[I", true)
  | 22 => ("ConeRoundsModel", "due", "[I", true)
  | 23 => ("ConeRoundsModel", "waits", "[I", true)
  | 24 => ("ConeRoundsModel", "counted", "[I", true)
  | 25 => ("ConeRoundsModel", "rowStreet", "[I", true)
  | 26 => ("ConeRoundsModel", "rowHour", "[I", true)
  | 27 => ("ConeRoundsModel", "sold", "[I", true)
  | 28 => ("ConeRoundsModel", "kept", "[I", true)
  | 29 => ("ConeRoundsModel", "tried", "[I", true)
  | 30 => ("ConeRoundsModel", "bestStreet", "[I", true)
  | 31 => ("ConeRoundsModel", "bestHour", "[I", true)
  | 32 => ("ConeRoundsModel", "bestMany", "I", false)
  | 33 => ("ConeRoundsModel", "bestSold", "I", false)
  | _ => ("ConeRoundsModel", "bestKept", "I", false)
def tyX9 : Nat → FieldType := fun k => match k with
  | 0 => .int
  | 1 => .int
  | 2 => .int
  | 3 => .int
  | 4 => .int
  | 5 => .int
  | 6 => .int
  | 7 => .int
  | 8 => .int
  | 9 => .int
  | 10 => .array .int
  | 11 => .array .int
  | 12 => .array .int
  | 13 => .array .int
  | 14 => .array .int
  | 15 => .array .int
  | 16 => .array .int
  | 17 => .array .int
  | 18 => .array .int
  | 19 => .array .int
  | 20 => .array .int
  | 21 => .array .int
  | 22 => .array .int
  | 23 => .array .int
  | 24 => .array .int
  | 25 => .array .int
  | 26 => .array .int
  | 27 => .array .int
  | 28 => .array .int
  | 29 => .array .int
  | 30 => .array .int
  | 31 => .array .int
  | 32 => .int
  | 33 => .int
  | _ => .int
theorem nmX9 : ∀ a, a < 35 → ∀ b, b < 35 → a ≠ b → (TX9 a).2.1 ≠ (TX9 b).2.1 := by decide +kernel
theorem tyX9_ok : ∀ k, k < 35 → parseFieldDescriptor (TX9 k).2.2.1 = some (tyX9 k) := by decide +kernel
abbrev vwC : List vw_C := [("ConeRounds$Bike", TX0, 2), ("ConeRounds$Bills", TX1, 5), ("ConeRounds$Cart", TX2, 2), ("ConeRounds$Law", TX3, 3), ("ConeRounds$Stands", TX4, 5), ("ConeRounds$Town", TX5, 5), ("ConeRounds$Trail", TX6, 5), ("ConeRounds$Van", TX7, 2), ("ConeRounds", TX8, 11), ("ConeRoundsModel", TX9, 35)]
theorem inU0 : ∀ w ∈ u_ws "ConeRounds$Bike" TX0 2, w ∈ wU := by
  intro w hw
  obtain ⟨k, hk, rfl⟩ := List.mem_map.mp hw
  have hk := List.mem_range.mp hk
  match k, hk with
  | 0, _ => exact m_302
  | 1, _ => exact m_304
  | k + 2, hk => exact absurd hk (by omega)
theorem inU1 : ∀ w ∈ u_ws "ConeRounds$Bills" TX1 5, w ∈ wU := by
  intro w hw
  obtain ⟨k, hk, rfl⟩ := List.mem_map.mp hw
  have hk := List.mem_range.mp hk
  match k, hk with
  | 0, _ => exact m_177
  | 1, _ => exact m_179
  | 2, _ => exact m_181
  | 3, _ => exact m_183
  | 4, _ => exact m_185
  | k + 5, hk => exact absurd hk (by omega)
theorem inU2 : ∀ w ∈ u_ws "ConeRounds$Cart" TX2 2, w ∈ wU := by
  intro w hw
  obtain ⟨k, hk, rfl⟩ := List.mem_map.mp hw
  have hk := List.mem_range.mp hk
  match k, hk with
  | 0, _ => exact m_313
  | 1, _ => exact m_314
  | k + 2, hk => exact absurd hk (by omega)
theorem inU3 : ∀ w ∈ u_ws "ConeRounds$Law" TX3 3, w ∈ wU := by
  intro w hw
  obtain ⟨k, hk, rfl⟩ := List.mem_map.mp hw
  have hk := List.mem_range.mp hk
  match k, hk with
  | 0, _ => exact m_100
  | 1, _ => exact m_102
  | 2, _ => exact m_104
  | k + 3, hk => exact absurd hk (by omega)
theorem inU4 : ∀ w ∈ u_ws "ConeRounds$Stands" TX4 5, w ∈ wU := by
  intro w hw
  obtain ⟨k, hk, rfl⟩ := List.mem_map.mp hw
  have hk := List.mem_range.mp hk
  match k, hk with
  | 0, _ => exact m_152
  | 1, _ => exact m_154
  | 2, _ => exact m_156
  | 3, _ => exact m_158
  | 4, _ => exact m_160
  | k + 5, hk => exact absurd hk (by omega)
theorem inU5 : ∀ w ∈ u_ws "ConeRounds$Town" TX5 5, w ∈ wU := by
  intro w hw
  obtain ⟨k, hk, rfl⟩ := List.mem_map.mp hw
  have hk := List.mem_range.mp hk
  match k, hk with
  | 0, _ => exact m_75
  | 1, _ => exact m_77
  | 2, _ => exact m_79
  | 3, _ => exact m_81
  | 4, _ => exact m_83
  | k + 5, hk => exact absurd hk (by omega)
theorem inU6 : ∀ w ∈ u_ws "ConeRounds$Trail" TX6 5, w ∈ wU := by
  intro w hw
  obtain ⟨k, hk, rfl⟩ := List.mem_map.mp hw
  have hk := List.mem_range.mp hk
  match k, hk with
  | 0, _ => exact m_125
  | 1, _ => exact m_127
  | 2, _ => exact m_129
  | 3, _ => exact m_131
  | 4, _ => exact m_133
  | k + 5, hk => exact absurd hk (by omega)
theorem inU7 : ∀ w ∈ u_ws "ConeRounds$Van" TX7 2, w ∈ wU := by
  intro w hw
  obtain ⟨k, hk, rfl⟩ := List.mem_map.mp hw
  have hk := List.mem_range.mp hk
  match k, hk with
  | 0, _ => exact m_318
  | 1, _ => exact m_319
  | k + 2, hk => exact absurd hk (by omega)
theorem inU8 : ∀ w ∈ u_ws "ConeRounds" TX8 11, w ∈ wU := by
  intro w hw
  obtain ⟨k, hk, rfl⟩ := List.mem_map.mp hw
  have hk := List.mem_range.mp hk
  match k, hk with
  | 0, _ => exact m_199
  | 1, _ => exact m_201
  | 2, _ => exact m_203
  | 3, _ => exact m_205
  | 4, _ => exact m_207
  | 5, _ => exact m_209
  | 6, _ => exact m_211
  | 7, _ => exact m_213
  | 8, _ => exact m_215
  | 9, _ => exact m_217
  | 10, _ => exact m_219
  | k + 11, hk => exact absurd hk (by omega)
theorem inU9 : ∀ w ∈ u_ws "ConeRoundsModel" TX9 35, w ∈ wU := by
  intro w hw
  obtain ⟨k, hk, rfl⟩ := List.mem_map.mp hw
  have hk := List.mem_range.mp hk
  match k, hk with
  | 0, _ => exact m_668
  | 1, _ => exact m_670
  | 2, _ => exact m_672
  | 3, _ => exact m_674
  | 4, _ => exact m_676
  | 5, _ => exact m_678
  | 6, _ => exact m_680
  | 7, _ => exact m_682
  | 8, _ => exact m_684
  | 9, _ => exact m_686
  | 10, _ => exact m_688
  | 11, _ => exact m_690
  | 12, _ => exact m_692
  | 13, _ => exact m_694
  | 14, _ => exact m_696
  | 15, _ => exact m_698
  | 16, _ => exact m_700
  | 17, _ => exact m_702
  | 18, _ => exact m_704
  | 19, _ => exact m_706
  | 20, _ => exact m_708
  | 21, _ => exact m_710
  | 22, _ => exact m_712
  | 23, _ => exact m_714
  | 24, _ => exact m_716
  | 25, _ => exact m_718
  | 26, _ => exact m_720
  | 27, _ => exact m_722
  | 28, _ => exact m_724
  | 29, _ => exact m_726
  | 30, _ => exact m_728
  | 31, _ => exact m_730
  | 32, _ => exact m_732
  | 33, _ => exact m_734
  | 34, _ => exact m_736
  | k + 35, hk => exact absurd hk (by omega)
abbrev ZT : Type := va_G × ClassId × ClassId × ClassId
abbrev hostC : String := "ConeRounds"
-- what the tables say beside wU's words: castings, nest mates' constructors, the array of vans
def KX (U : State) : Prop := (va_Nw (.castable "ConeRounds$Bike" "ConeRounds$Van") U ∧ va_Nw (.castable "ConeRounds$Cart" "ConeRounds$Van") U) ∧ (va_Nc "ConeRounds$Van" "ConeRounds$Bike" U ∧ va_Nc "ConeRounds$Cart" "ConeRounds$Bike" U ∧ va_Nc "ConeRounds$Van" "ConeRounds$Cart" U ∧ va_Nc "ConeRounds$Bike" "ConeRounds$Cart" U)
theorem KX.same {u U : State} (h : u.vm = U.vm) (k : KX u) : KX U := by
  obtain ⟨⟨a, b⟩, c, d, e, f⟩ := k
  have al : u.vm.Alike U.vm := by rw [h]; exact Vm.Alike.refl _
  exact ⟨⟨a.same rfl h, b.same rfl h⟩, c.moved al, d.moved al, e.moved al, f.moved al⟩
theorem KX.warm {s U : State} (hW : s.WarmedH U.vm) (k : KX s) : KX U := by
  obtain ⟨⟨a, b⟩, c, d, e, f⟩ := k
  exact ⟨⟨a.warmC hW, b.warmC hW⟩, c.moved hW.alike, d.moved hW.alike, e.moved hW.alike, f.moved hW.alike⟩
abbrev tysZ (Z : ZT) : List (ClassId × FieldType) := [(Z.2.1, .int), (Z.2.2.1, .boolean), (Z.2.2.2, .object "ConeRounds$Van")]
def KW (Z : ZT) (U : State) : Prop := va_K Z.1 vwC (tysZ Z) U ∧ KX U
theorem KW.same {Z : ZT} {u U : State} (h : u.vm = U.vm) (k : KW Z u) : KW Z U := ⟨va_K.moved (by rw [h]; exact Vm.Alike.refl _) k.1, k.2.same h⟩
theorem KW.warm {Z : ZT} {s U : State} (hW : s.WarmedH U.vm) (k : KW Z s) : KW Z U := ⟨va_K.moved hW.alike k.1, k.2.warm hW⟩
def EW (p : Program) (m : MethodId) (c : Code) (cc : ByteArray) (nL : Nat) (s : State) (args : Array Value) (own : String) (Z : ZT) : Prop := CallFix p m c cc nL s args wU own ∧ KW Z s
def GW (Z : ZT) (w : va_W) (A : Nat → Prop) (H0 H : Heap) (locs : List Loc) : Prop := va_P Z.1 vwC w H ∧ va_D A w ∧ va_S A H0 H locs ∧ ∀ q, H0.size ≤ q → A q
def PW (Z : ZT) (w : va_W) (sz : Nat) (av : List Value) : Array Value → State → Prop := va_Pc av (fun U => U.heap.size = sz ∧ KW Z U ∧ va_P Z.1 vwC w U.heap ∧ va_D (fun _ => True) w)
def QA (Z : ZT) (A : Nat → Prop) (post : Option Value → va_W → Prop) : Array Value → State → Outcome → State → Prop := fun _ st oc t => (∃ (rv : Option Value) (w' : va_W), oc = .returned rv ∧ post rv w' ∧ va_P Z.1 vwC w' t.heap ∧ va_D A w') ∧ va_F A st t
/-- a contract: from the world w the method ends; its answer and the world behind it are as post says -/
def CE (l : Launch) (Z : ZT) (y : MethodName) (b : ByteArray) (mL : Nat) (ret : Option FieldType) (k mc ms : Nat) (av : List Value) (w : va_W) (post : Option Value → va_W → Prop) : Prop := ∀ sz : Nat, Met l y (Cond.code y b mL ret :: wU) (rmk k mc ms) (PW Z w sz av) (QA Z (va_A w sz) post) mc ms (va_A w sz)
def CT (l : Launch) (Z : ZT) (y : MethodName) (b : ByteArray) (mL : Nat) (ret : Option FieldType) (k : Nat) (av : List Value) (w : va_W) (rv : Option Value) (w' : va_W) : Prop := CE l Z y b mL ret k 0 0 av w (fun r x => r = rv ∧ x = w')
theorem CE.mk {l : Launch} {Z : ZT} {y : MethodName} {b : ByteArray} {mL : Nat} {ret : Option FieldType} {k mc ms : Nat} {av : List Value} {w : va_W} {post : Option Value → va_W → Prop} (hy : plainName y.cls = true) (hlen : (lg_sl av).length ≤ mL)
    (body : ∀ (p : Program) (e : Env) (s : State) (m : MethodId) (args : Array Value) (below : List Frame) (meth : Method) (c : Code) (A : Nat → Prop) (Qx : State → Prop) (ls : Array Slot), EW p m c b mL s args y.cls Z → meth.sig.returnType = ret → meth.locks = false → meth.name = y.name → Qx = MQ below (QA Z A post) args s mc ms A → GW Z w A s.heap s.heap [] → lv_has ls mL (lv_args 0 av) → W p l e (rmk k mc ms) s m args below meth c s.heap [] 0 0 Qx (F0 m 0 ls [])) : CE l Z y b mL ret k mc ms av w post := by
  intro sz
  refine Met.ofW (cc := b) (maxL := mL) (ret := ret) hy rfl ?_
  intro p e s m args below meth c s₁ B hml hv
  obtain ⟨rfl, hsz, hK, hP, hD0⟩ := hv
  subst hsz
  have hts := atoms_spec (ws := Cond.code y b mL ret :: wU) B.pre
  rw [lg_entry_eq]
  exact body p e s m _ below meth c (va_A w s.heap.size) _ _ ⟨⟨B.exec, B.bytes, hml, findClass_of_methodNamed B.named, fun w h => hts w (List.mem_cons_of_mem _ h)⟩, hK⟩ B.returns B.notSynchronized (name_of_methodNamed B.named B.method).1 rfl ⟨hP, hD0.self, va_S.rf, fun q h => Or.inr h⟩ (lv_entry av hlen)
section BW
variable {p : Program} {l : Launch} {e : Env} {R : Room} {s : State} {m : MethodId} {args : Array Value} {below : List Frame} {meth : Method} {c : Code} {H H0 : Heap} {locs : List Loc} {cells slots : Nat} {Q : State → Prop}
variable {cc : ByteArray} {nL pc : Nat} {own : String} {Z : ZT} {w : va_W} {A : Nat → Prop} {ls : Array Slot} {rest : List Value} {a : Nat}
theorem r_get (E : EW p m c cc nL s args own Z) (G : GW Z w A H0 H locs) (j : Nat) {ci : Nat} {fs : List Value} (he : w[j]? = some (a, .inr (ci, fs))) {C : String} {T : u_T} {N : Nat} (hc : vwC[ci]? = some (C, T, N)) (hin : ∀ x ∈ u_ws C T N, x ∈ wU) (k : Nat) (hk : k < N) {idx : Nat} {ref : String} (hl : Cond.fieldLink own idx ref (T k).2.1 (T k).2.2.1 ∈ wU) (href : (T k).1 = ref) {v : Value} (hv : fs[k]? = some v) (hdg : decode cc pc = .ok (.getfield idx, 3))
    (kk : W p l e R s m args below meth c H locs cells slots Q (F0 m (pc + 3) ls (v :: rest))) : W p l e R s m args below meth c H locs cells slots Q (F0 m pc ls (.ref a :: rest)) := by
  obtain ⟨⟨hx, hb, -, hown, hts⟩, hK, -⟩ := E
  subst href
  exact va_get hx hb hts hin hown hK G.1 j he hc k hk (hts _ hl) (fun _ h => h) hv hdg kk
theorem r_put (E : EW p m c cc nL s args own Z) (G : GW Z w A H0 H locs) (j : Nat) {ci : Nat} {fs : List Value} (he : w[j]? = some (a, .inr (ci, fs))) {C : String} {T : u_T} {N : Nat} (hc : vwC[ci]? = some (C, T, N)) (hin : ∀ x ∈ u_ws C T N, x ∈ wU) {ty0 : Nat → FieldType} (hty : ∀ k, k < N → parseFieldDescriptor (T k).2.2.1 = some (ty0 k)) (hnm : ∀ a, a < N → ∀ b, b < N → a ≠ b → (T a).2.1 ≠ (T b).2.1) (k : Nat) (hk : k < N) {idx : Nat} {ref : String} (hl : Cond.fieldLink own idx ref (T k).2.1 (T k).2.2.1 ∈ wU) (href : (T k).1 = ref) (hfin : (T k).2.2.2 = false) (hd : parseFieldDescriptor (T k).2.2.1 = some .int) {v : Int32} (hlk : k < fs.length) {w' : va_W} (hw : w.set j (a, .inr (ci, fs.set k (.int v))) = w') (hdg : decode cc pc = .ok (.putfield idx, 3))
    (kk : ∀ (H1 : Heap) (locs1 : List Loc), GW Z w' A H0 H1 locs1 → W p l e R s m args below meth c H1 locs1 cells slots Q (F0 m (pc + 3) ls rest)) : W p l e R s m args below meth c H locs cells slots Q (F0 m pc ls (.int v :: .ref a :: rest)) := by
  obtain ⟨⟨hx, hb, -, hown, hts⟩, hK, -⟩ := E
  subst href
  subst hw
  exact va_put (ty := .int) hx hb hts hin ty0 hty hnm hown hK G.1 G.2.1 G.2.2.1 j he hc k hk (hts _ hl) (fun _ h => h) hfin hd rfl rfl hlk hdg (fun H1 locs1 h1 h2 h3 => kk H1 locs1 ⟨h1, h2, h3, G.2.2.2⟩)
theorem r_ald (E : EW p m c cc nL s args own Z) (G : GW Z w A H0 H locs) (j : Nat) {n : Nat} {f : Nat → Int32} (he : w[j]? = some (a, .inl (Z.2.1, n, .inl f))) {i : Int32} (hin : vp_in i n) (hdg : decode cc pc = .ok (.iaload, 1))
    (kk : W p l e R s m args below meth c H locs cells slots Q (F0 m (pc + 1) ls (.int (f i.toNatClampNeg) :: rest))) : W p l e R s m args below meth c H locs cells slots Q (F0 m pc ls (.int i :: .ref a :: rest)) := va_iald E.1.1 E.1.2.1 E.2.1 G.1 j 0 he rfl hin hdg kk
theorem r_zald (E : EW p m c cc nL s args own Z) (G : GW Z w A H0 H locs) (j : Nat) {n : Nat} {f : Nat → Int32} (he : w[j]? = some (a, .inl (Z.2.2.1, n, .inl f))) {i : Int32} (hin : vp_in i n) (hdg : decode cc pc = .ok (.baload, 1))
    (kk : W p l e R s m args below meth c H locs cells slots Q (F0 m (pc + 1) ls (.int (f i.toNatClampNeg) :: rest))) : W p l e R s m args below meth c H locs cells slots Q (F0 m pc ls (.int i :: .ref a :: rest)) := va_zald E.1.1 E.1.2.1 E.2.1 G.1 j 1 he rfl hin hdg kk
theorem r_ast (E : EW p m c cc nL s args own Z) (G : GW Z w A H0 H locs) (j : Nat) {n : Nat} {f : Nat → Int32} (he : w[j]? = some (a, .inl (Z.2.1, n, .inl f))) {i x : Int32} (hin : vp_in i n) {w' : va_W} (hw : w.set j (a, .inl (Z.2.1, n, .inl (upd f i.toNatClampNeg x))) = w') (hdg : decode cc pc = .ok (.iastore, 1))
    (kk : ∀ (H1 : Heap) (locs1 : List Loc), GW Z w' A H0 H1 locs1 → W p l e R s m args below meth c H1 locs1 cells slots Q (F0 m (pc + 1) ls rest)) : W p l e R s m args below meth c H locs cells slots Q (F0 m pc ls (.int x :: .int i :: .ref a :: rest)) := by
  subst hw
  exact va_iast E.1.1 E.1.2.1 E.2.1 G.1 G.2.1 G.2.2.1 j 0 he rfl hin hdg (fun H1 locs1 h1 h2 h3 => kk H1 locs1 ⟨h1, h2, h3, G.2.2.2⟩)
theorem r_ret {rv : Option Value} {w' : va_W} (E : EW p m c cc nL s args own Z) (G : GW Z w A s.heap H locs) (hr : meth.sig.returnType = some .int) (hlk : meth.locks = false) (hQ : Q = MQ below (QA Z A (fun r x => r = rv ∧ x = w')) args s cells slots A) {v : Int32} (hv : rv = some (.int v)) (hw : w = w') (hdg : decode cc pc = .ok (.ireturn, 1)) : W p l e R s m args below meth c H locs cells slots Q (F0 m pc ls [.int v]) := by
  subst hQ
  exact W.iret E.1.1 E.1.2.1 hr (fun t ht _ => ⟨⟨some (.int v), w, rfl, ⟨hv.symm, hw⟩, by rw [ht]; exact G.1, G.2.1⟩, G.2.2.1.F ht⟩) G.2.2.1.2.2 hdg hlk
theorem r_retz {rv : Option Value} {w' : va_W} (E : EW p m c cc nL s args own Z) (G : GW Z w A s.heap H locs) (hr : meth.sig.returnType = some .boolean) (hlk : meth.locks = false) (hQ : Q = MQ below (QA Z A (fun r x => r = rv ∧ x = w')) args s cells slots A) {v : Int32} (hn : narrow .boolean (.int v) = .int v) (hv : rv = some (.int v)) (hw : w = w') (hdg : decode cc pc = .ok (.ireturn, 1)) : W p l e R s m args below meth c H locs cells slots Q (F0 m pc ls [.int v]) := by
  subst hQ
  exact W.zret E.1.1 E.1.2.1 hr hn (fun t ht _ => ⟨⟨some (.int v), w, rfl, ⟨hv.symm, hw⟩, by rw [ht]; exact G.1, G.2.1⟩, G.2.2.1.F ht⟩) G.2.2.1.2.2 hdg hlk
theorem r_retv {w' : va_W} (E : EW p m c cc nL s args own Z) (G : GW Z w A s.heap H locs) (hr : meth.sig.returnType = none) (hlk : meth.locks = false) (hQ : Q = MQ below (QA Z A (fun r x => r = none ∧ x = w')) args s cells slots A) (hw : w = w') (hdg : decode cc pc = .ok (.return_, 1)) : W p l e R s m args below meth c H locs cells slots Q (F0 m pc ls []) := by
  subst hQ
  exact W.vret E.1.1 E.1.2.1 hr (fun t ht _ => ⟨⟨none, w, rfl, ⟨rfl, hw⟩, by rw [ht]; exact G.1, G.2.1⟩, G.2.2.1.F ht⟩) G.2.2.1.2.2 hdg hlk
theorem r_reta {post : Option Value → va_W → Prop} (E : EW p m c cc nL s args own Z) (G : GW Z w A s.heap H locs) {C : String} (hr : meth.sig.returnType = some (.object C)) (hlk : meth.locks = false) (hQ : Q = MQ below (QA Z A post) args s cells slots A) {v : Value} (hn : v = .null ∨ ∃ a, v = .ref a) (hp : post (some v) w) (hdg : decode cc pc = .ok (.areturn, 1)) : W p l e R s m args below meth c H locs cells slots Q (F0 m pc ls [v]) := by
  subst hQ
  exact W.aret E.1.1 E.1.2.1 hr (Or.inl ⟨C, rfl⟩) hn (fun t ht _ => ⟨⟨some v, w, rfl, hp, by rw [ht]; exact G.1, G.2.1⟩, G.2.2.1.F ht⟩) G.2.2.1.2.2 hdg hlk
theorem PW.blind {sz : Nat} {av : List Value} : FrameBlind (PW Z w sz av) := fun a U g mk h => ⟨h.1, h.2.1, KW.same (u := U) (U := U.calling g mk a) rfl h.2.2.1, h.2.2.2⟩
theorem PW.pre (hK : KW Z s) (G : GW Z w A H0 H locs) {av : List Value} : ∀ U : State, U.heap = H → s.WarmedH U.vm → PW Z w H.size av av.toArray U := fun U hU hW => ⟨rfl, by rw [hU], hK.warm hW, by rw [hU]; exact G.1, G.2.1.weaken (fun _ _ _ _ => trivial)⟩
theorem GW.free (G : GW Z w A H0 H locs) : ∀ q, va_A w H.size q → A q := by
  intro q h
  rcases h with ⟨k, e, h⟩ | h
  · exact G.2.1.2 k _ h
  · exact G.2.2.2 q (Nat.le_trans G.2.2.1.1 h)
/-- behind a call: the frame isn't cut, the callee has the whole world -/
theorem r_back (G : GW Z w A s.heap H locs) {mc ms : Nat} {st0 : List Value} {a : Array Value} {post : Option Value → va_W → Prop} (hr : va_Run p l e R s m args below meth c H locs cells slots mc ms (F0 m pc ls st0) rest (QA Z (va_A w H.size) post a) (va_A w H.size))
    (kk : ∀ (rv : Option Value) (w' : va_W) (H1 : Heap) (locs1 : List Loc), post rv w' → GW Z w' A s.heap H1 locs1 → W p l e R s m args below meth c H1 locs1 (cells + mc) (slots + ms) Q (F0 m (pc + 3) ls (rv.toList ++ rest))) : W p l e R s m args below meth c H locs cells slots Q (F0 m pc ls st0) := by
  intro T hT X
  obtain ⟨v, st₀, t, T', L, h0, X', hL, e1, e2, ⟨⟨rv, w', hv, hp, hP1, hD1⟩, hz, hk⟩, st⟩ := hr T hT X
  cases hv
  rw [h0] at hz hk
  have hF := G.free
  obtain ⟨t2, a1, b1⟩ := kk v w' T'.heap (locs ++ L) hp ⟨by rw [e1]; exact hP1, hD1.weaken (fun _ q _ h => hF q.1 h), ⟨Nat.le_trans G.2.2.1.1 (by rw [e1]; exact hz), fun q h1 h2 => by rw [e1, hk q (Nat.lt_of_lt_of_le h1 G.2.2.1.1) (fun z => h2 (hF q z))]; exact G.2.2.1.2.1 q h1 h2, fun q hq => by
      rcases List.mem_append.mp hq with h | h
      · exact G.2.2.1.2.2 q h
      · exact hF _ (hL q h)⟩, G.2.2.2⟩ T' rfl X'
  exact ⟨t2, st t2 a1, b1⟩
end BW
-- what the tables say of a method that is called
def KV (y : MethodName) (b : ByteArray) (mL : Nat) (ret : Option FieldType) (n : Nat) : Prop := (Cond.instanceMethod y ∈ wU ∧ Cond.selects y.cls y y ∈ wU ∧ Cond.initialized y.cls ∈ wU ∧ Cond.code y b mL ret ∈ wU) ∧ (y.cls ≠ "java/lang/invoke/MethodHandle" ∧ y.cls ≠ "java/lang/invoke/VarHandle" ∧ (parseMethodDescriptor y.desc).map (fun d => d.parameters.length) = some n)
def KS (y : MethodName) (b : ByteArray) (mL : Nat) (ret : Option FieldType) (n : Nat) : Prop := (Cond.static y ∈ wU ∧ Cond.initialized y.cls ∈ wU ∧ Cond.code y b mL ret ∈ wU) ∧ (y.cls ≠ "java/lang/invoke/MethodHandle" ∧ y.cls ≠ "java/lang/invoke/VarHandle" ∧ (parseMethodDescriptor y.desc).map (fun d => d.parameters.length) = some n)
section BC
variable {p : Program} {l : Launch} {e : Env} {R : Room} {s : State} {m : MethodId} {args : Array Value} {below : List Frame} {meth : Method} {c : Code} {H H0 : Heap} {locs : List Loc} {cells slots : Nat} {Q : State → Prop}
variable {cc : ByteArray} {nL pc : Nat} {own : String} {Z : ZT} {w : va_W} {A : Nat → Prop} {ls : Array Slot} {a : Nat}
variable {y : MethodName} {b : ByteArray} {mL k n idx : Nat} {ret : Option FieldType}
theorem r_runV (E : EW p m c cc nL s args own Z) (G : GW Z w A s.heap H locs) {mc ms : Nat} {As : List Value} {post : Option Value → va_W → Prop} (hM : CE l Z y b mL ret k mc ms (.ref a :: As) w post) (ky : KV y b mL ret n) (hl : Cond.methodLink own idx y ∈ wU) (hrv : ∃ (j ci : Nat) (fs : List Value) (T : u_T) (N : Nat), w[j]? = some (a, .inr (ci, fs)) ∧ vwC[ci]? = some (y.cls, T, N)) (hn : As.length = n) (hR : k + 1 ≤ R.frames ∧ 8 + (mL + 11) + 100 * k ≤ R.locals) {rest st0 : List Value} (hst : st0 = As.reverse ++ .ref a :: rest) (hsum : (rest.map fun v => v.category).sum ≤ 8) {lv : List (Nat × Value)} (hl2 : lv_has ls nL lv) (hdg : decode cc pc = .ok (.invokevirtual idx, 3)) (hf : cells + mc ≤ R.cells ∧ slots + ms ≤ R.slots) :
    va_Run p l e R s m args below meth c H locs cells slots mc ms (F0 m pc ls st0) rest (QA Z (va_A w H.size) post (Value.ref a :: As).toArray) (va_A w H.size) := by
  obtain ⟨⟨h1, h2, h3, h4⟩, h5, h6, h7⟩ := ky
  obtain ⟨j, ci, fs, T, N, hj, hcl⟩ := hrv
  have hts := E.1.2.2.2.2
  exact va_runV (As := As) (rest := rest) E.1 (hM H.size) (bytes := b) (maxL := mL) (ret := ret) (n := n) (C := y.cls)
    ⟨callB_of n hts (wU_G h4) rfl rfl rfl (hts _ h3) (hts _ hl) ⟨h5, h6, h7⟩ hR, hts _ h1, hts _ h2⟩
    ⟨PW.blind, va_recv E.2.1 G.1 hcl hj, PW.pre E.2 G⟩ rfl hn hl2.1 hst (lv_room hsum) hdg hf
theorem r_runS (E : EW p m c cc nL s args own Z) (G : GW Z w A s.heap H locs) {mc ms : Nat} {As : List Value} {post : Option Value → va_W → Prop} (hM : CE l Z y b mL ret k mc ms As w post) (ky : KS y b mL ret n) (hl : Cond.methodLink own idx y ∈ wU) (hn : As.length = n) (hR : k + 1 ≤ R.frames ∧ 8 + (mL + 11) + 100 * k ≤ R.locals) {rest st0 : List Value} (hst : st0 = As.reverse ++ rest) (hsum : (rest.map fun v => v.category).sum ≤ 8) {lv : List (Nat × Value)} (hl2 : lv_has ls nL lv) (hdg : decode cc pc = .ok (.invokestatic idx, 3)) (hf : cells + mc ≤ R.cells ∧ slots + ms ≤ R.slots) :
    va_Run p l e R s m args below meth c H locs cells slots mc ms (F0 m pc ls st0) rest (QA Z (va_A w H.size) post As.toArray) (va_A w H.size) := by
  obtain ⟨⟨h1, h3, h4⟩, h5, h6, h7⟩ := ky
  have hts := E.1.2.2.2.2
  exact va_runS (As := As) (rest := rest) E.1 (hM H.size) (bytes := b) (maxL := mL) (ret := ret) (n := n)
    ⟨callB_of n hts (wU_G h4) rfl rfl rfl (hts _ h3) (hts _ hl) ⟨h5, h6, h7⟩ hR, hts _ h1⟩
    ⟨PW.blind, PW.pre E.2 G⟩ rfl hn hl2.1 hst (lv_room hsum) hdg hf
/-- a call of a method of the world, with an answer -/
theorem r_V {As : List Value} {w' : va_W} {v : Value} (rest : List Value) (E : EW p m c cc nL s args own Z) (G : GW Z w A s.heap H locs) (hM : CT l Z y b mL ret k (.ref a :: As) w (some v) w') (ky : KV y b mL ret n) (hl : Cond.methodLink own idx y ∈ wU) (j : Nat) {ci : Nat} {fs : List Value} {T : u_T} {N : Nat} (hj : w[j]? = some (a, .inr (ci, fs))) (hcl : vwC[ci]? = some (y.cls, T, N)) (hR : k + 1 ≤ R.frames ∧ 8 + (mL + 11) + 100 * k ≤ R.locals) {st0 : List Value} {lv : List (Nat × Value)} (hl2 : lv_has ls nL lv) (hdg : decode cc pc = .ok (.invokevirtual idx, 3)) (hst : st0 = As.reverse ++ .ref a :: rest) (hn : As.length = n) (hsum : (rest.map fun v => v.category).sum ≤ 8) (hf : cells ≤ R.cells ∧ slots ≤ R.slots)
    (kk : ∀ (H1 : Heap) (locs1 : List Loc), GW Z w' A s.heap H1 locs1 → W p l e R s m args below meth c H1 locs1 cells slots Q (F0 m (pc + 3) ls (v :: rest))) : W p l e R s m args below meth c H locs cells slots Q (F0 m pc ls st0) :=
  r_back G (r_runV E G hM ky hl ⟨j, ci, fs, T, N, hj, hcl⟩ hn hR hst hsum hl2 hdg hf) (fun rv x H1 locs1 hp hG => by obtain ⟨rfl, rfl⟩ := hp; exact kk H1 locs1 hG)
theorem r_Vv {As : List Value} {w' : va_W} (rest : List Value) (E : EW p m c cc nL s args own Z) (G : GW Z w A s.heap H locs) (hM : CT l Z y b mL ret k (.ref a :: As) w none w') (ky : KV y b mL ret n) (hl : Cond.methodLink own idx y ∈ wU) (j : Nat) {ci : Nat} {fs : List Value} {T : u_T} {N : Nat} (hj : w[j]? = some (a, .inr (ci, fs))) (hcl : vwC[ci]? = some (y.cls, T, N)) (hR : k + 1 ≤ R.frames ∧ 8 + (mL + 11) + 100 * k ≤ R.locals) {st0 : List Value} {lv : List (Nat × Value)} (hl2 : lv_has ls nL lv) (hdg : decode cc pc = .ok (.invokevirtual idx, 3)) (hst : st0 = As.reverse ++ .ref a :: rest) (hn : As.length = n) (hsum : (rest.map fun v => v.category).sum ≤ 8) (hf : cells ≤ R.cells ∧ slots ≤ R.slots)
    (kk : ∀ (H1 : Heap) (locs1 : List Loc), GW Z w' A s.heap H1 locs1 → W p l e R s m args below meth c H1 locs1 cells slots Q (F0 m (pc + 3) ls rest)) : W p l e R s m args below meth c H locs cells slots Q (F0 m pc ls st0) :=
  r_back G (r_runV E G hM ky hl ⟨j, ci, fs, T, N, hj, hcl⟩ hn hR hst hsum hl2 hdg hf) (fun rv x H1 locs1 hp hG => by obtain ⟨rfl, rfl⟩ := hp; exact kk H1 locs1 hG)
theorem r_S {As : List Value} {w' : va_W} {v : Value} (rest : List Value) (E : EW p m c cc nL s args own Z) (G : GW Z w A s.heap H locs) (hM : CT l Z y b mL ret k As w (some v) w') (ky : KS y b mL ret n) (hl : Cond.methodLink own idx y ∈ wU) (hR : k + 1 ≤ R.frames ∧ 8 + (mL + 11) + 100 * k ≤ R.locals) {st0 : List Value} {lv : List (Nat × Value)} (hl2 : lv_has ls nL lv) (hdg : decode cc pc = .ok (.invokestatic idx, 3)) (hst : st0 = As.reverse ++ rest) (hn : As.length = n) (hsum : (rest.map fun v => v.category).sum ≤ 8) (hf : cells ≤ R.cells ∧ slots ≤ R.slots)
    (kk : ∀ (H1 : Heap) (locs1 : List Loc), GW Z w' A s.heap H1 locs1 → W p l e R s m args below meth c H1 locs1 cells slots Q (F0 m (pc + 3) ls (v :: rest))) : W p l e R s m args below meth c H locs cells slots Q (F0 m pc ls st0) :=
  r_back G (r_runS E G hM ky hl hn hR hst hsum hl2 hdg hf) (fun rv x H1 locs1 hp hG => by obtain ⟨rfl, rfl⟩ := hp; exact kk H1 locs1 hG)
end BC
-- booleans
def b01 (b : Bool) : Int32 := if b then 1 else 0
theorem b01_n (b : Bool) : narrow .boolean (.int (b01 b)) = .int (b01 b) := by cases b <;> decide
theorem b01_t {b : Bool} (h : b = true) : b01 b = 1 := by rw [h]; rfl
theorem b01_f {b : Bool} (h : b = false) : b01 b = 0 := by rw [h]; rfl
section BB
variable {p : Program} {l : Launch} {e : Env} {R : Room} {s : State} {m : MethodId} {args : Array Value} {below : List Frame} {meth : Method} {c : Code} {H : Heap} {locs : List Loc} {cells slots : Nat} {Q : State → Prop} {cc : ByteArray} {pc : Nat} {ls : Array Slot} {rest : List Value}
theorem r_eqb (hx : p.tables.exec = Jvm.exec) (hb : c.code = cc) {b : Bool} {off : Int} {tgt : Nat} (hdg : decode cc pc = .ok (.ifCond .eq off, 3)) (ht : (pc : Int) + off = (tgt : Int))
    (kt : b = false → W p l e R s m args below meth c H locs cells slots Q (F0 m tgt ls rest)) (kf : b = true → W p l e R s m args below meth c H locs cells slots Q (F0 m (pc + 3) ls rest)) : W p l e R s m args below meth c H locs cells slots Q (F0 m pc ls (.int (b01 b) :: rest)) :=
  lv_if_eq hx hb hdg ht (fun h => kt (by cases b; rfl; exact absurd h (by decide))) (fun h => kf (by cases b; exact absurd rfl h; rfl))
theorem r_neb (hx : p.tables.exec = Jvm.exec) (hb : c.code = cc) {b : Bool} {off : Int} {tgt : Nat} (hdg : decode cc pc = .ok (.ifCond .ne off, 3)) (ht : (pc : Int) + off = (tgt : Int))
    (kt : b = true → W p l e R s m args below meth c H locs cells slots Q (F0 m tgt ls rest)) (kf : b = false → W p l e R s m args below meth c H locs cells slots Q (F0 m (pc + 3) ls rest)) : W p l e R s m args below meth c H locs cells slots Q (F0 m pc ls (.int (b01 b) :: rest)) :=
  lv_if_ne hx hb hdg ht (fun h => kt (by cases b; exact absurd rfl h; rfl)) (fun h => kf (by cases b; rfl; exact absurd h (by decide)))
end BB
/-- a loop that counts up: from its end back to its beginning -/
theorem up_ind {P : Nat → Prop} (N : Nat) (h : P N) (st : ∀ k, k < N → P (k + 1) → P k) : ∀ k, k ≤ N → P k := by
  have key : ∀ d k, k + d = N → P k := by
    intro d
    induction d with
    | zero => intro k hk; rw [show k = N by omega]; exact h
    | succ d ih => intro k hk; exact st k (by omega) (ih (k + 1) (by omega))
  exact fun k hk => key (N - k) k (by omega)
theorem up_in2 {P : Nat → Prop} (N : Nat) (st : ∀ k, k ≤ N → (k < N → P (k + 1)) → P k) : ∀ k, k ≤ N → P k := by
  have key : ∀ d k, k + d = N → P k := by
    intro d
    induction d with
    | zero => intro k hk; exact st k (by omega) (fun h => absurd h (by omega))
    | succ d ih => intro k hk; exact st k (by omega) (fun _ => ih (k + 1) (by omega))
  exact fun k hk => key (N - k) k (by omega)
theorem GW.cast {Z : ZT} {w w' : va_W} {A : Nat → Prop} {H0 H : Heap} {locs : List Loc} (h : w = w') (G : GW Z w A H0 H locs) : GW Z w' A H0 H locs := h ▸ G
theorem lv_cast {ls : Array Slot} {n : Nat} {a b : List (Nat × Value)} (h : lv_has ls n a) (e : a = b) : lv_has ls n b := e ▸ h
theorem lp_lt {x : Int32} {k : Nat} (h0 : 0 ≤ x) (hk : k ≤ x.toNatClampNeg) (c : ¬ x ≤ nI k) : k < x.toNatClampNeg := by
  obtain ⟨n, hn, e⟩ := nI_of (x := x) (Int32.not_lt.mpr h0)
  subst e
  rw [nI_clamp hn] at hk ⊢
  rcases Nat.lt_or_ge k n with h | h
  · exact h
  · exact absurd (nI_le h (by omega)) c
theorem lp_eq {x : Int32} {k : Nat} (h0 : 0 ≤ x) (hk : k ≤ x.toNatClampNeg) (c : x ≤ nI k) : k = x.toNatClampNeg := by
  obtain ⟨n, hn, e⟩ := nI_of (x := x) (Int32.not_lt.mpr h0)
  subst e
  rw [nI_clamp hn] at hk ⊢
  rcases Nat.lt_or_ge k n with h | h
  · exact absurd c (nI_ge h hn)
  · omega
theorem kX8_street : KV yX8_street cX8_street 2 (some .int) 1 := ⟨⟨m_223, m_224, m_42, m_225⟩, by decide +kernel⟩
theorem kX8_finding : KV yX8_finding cX8_finding 3 (some .int) 1 := ⟨⟨m_229, m_0, m_42, m_230⟩, by decide +kernel⟩
theorem kX5_isFull : KV yX5_isFull cX5_isFull 1 (some .boolean) 0 := ⟨⟨m_233, m_234, m_43, m_235⟩, by decide +kernel⟩
theorem kX5_add : KV yX5_add cX5_add 2 (some .int) 1 := ⟨⟨m_238, m_239, m_43, m_240⟩, by decide +kernel⟩
theorem kX8_way : KV yX8_way cX8_way 5 (some .int) 3 := ⟨⟨m_242, m_243, m_42, m_244⟩, by decide +kernel⟩
theorem kX5_has : KV yX5_has cX5_has 2 (some .boolean) 1 := ⟨⟨m_246, m_247, m_43, m_248⟩, by decide +kernel⟩
theorem kX8_isWithin : KS yX8_isWithin cX8_isWithin 2 (some .boolean) 2 := ⟨⟨m_250, m_42, m_251⟩, by decide +kernel⟩
theorem kX5_wayBetween : KV yX5_wayBetween cX5_wayBetween 3 (some .int) 2 := ⟨⟨m_253, m_254, m_43, m_255⟩, by decide +kernel⟩
theorem kX5_setWay : KV yX5_setWay cX5_setWay 4 none 3 := ⟨⟨m_257, m_258, m_43, m_259⟩, by decide +kernel⟩
theorem kX8_wish : KV yX8_wish cX8_wish 5 (some .int) 3 := ⟨⟨m_261, m_262, m_42, m_263⟩, by decide +kernel⟩
theorem kX8_isHour : KS yX8_isHour cX8_isHour 1 (some .boolean) 1 := ⟨⟨m_265, m_42, m_266⟩, by decide +kernel⟩
theorem kX5_wishAt : KV yX5_wishAt cX5_wishAt 3 (some .int) 2 := ⟨⟨m_268, m_269, m_43, m_270⟩, by decide +kernel⟩
theorem kX5_setWish : KV yX5_setWish cX5_setWish 4 none 3 := ⟨⟨m_272, m_273, m_43, m_274⟩, by decide +kernel⟩
theorem kX8_heat : KV yX8_heat cX8_heat 3 (some .int) 1 := ⟨⟨m_276, m_277, m_42, m_278⟩, by decide +kernel⟩
theorem kX8_van : KV yX8_van cX8_van 2 (some .int) 1 := ⟨⟨m_280, m_281, m_42, m_282⟩, by decide +kernel⟩
theorem kX8_isKind : KS yX8_isKind cX8_isKind 1 (some .boolean) 1 := ⟨⟨m_284, m_42, m_285⟩, by decide +kernel⟩
theorem kX8_newVan : KS yX8_newVan cX8_newVan 1 (some (.object "ConeRounds$Van")) 1 := ⟨⟨m_287, m_42, m_288⟩, by decide +kernel⟩
theorem kX8_as : KV yX8_as cX8_as 4 (some .int) 2 := ⟨⟨m_322, m_323, m_42, m_324⟩, by decide +kernel⟩
theorem kX8_vanNumber : KV yX8_vanNumber cX8_vanNumber 2 (some (.object "ConeRounds$Van")) 1 := ⟨⟨m_327, m_1, m_42, m_328⟩, by decide +kernel⟩
theorem kX8_isOfKind : KS yX8_isOfKind cX8_isOfKind 2 (some .boolean) 2 := ⟨⟨m_330, m_42, m_331⟩, by decide +kernel⟩
theorem kX8_stock : KV yX8_stock cX8_stock 5 (some .int) 2 := ⟨⟨m_334, m_335, m_42, m_336⟩, by decide +kernel⟩
theorem kX8_licence : KV yX8_licence cX8_licence 5 (some .int) 2 := ⟨⟨m_338, m_339, m_42, m_340⟩, by decide +kernel⟩
theorem kX8_law : KV yX8_law cX8_law 4 (some .int) 3 := ⟨⟨m_342, m_343, m_42, m_344⟩, by decide +kernel⟩
theorem kX8_may : KV yX8_may cX8_may 5 (some .int) 3 := ⟨⟨m_346, m_347, m_42, m_348⟩, by decide +kernel⟩
theorem kX8_mayStand : KV yX8_mayStand cX8_mayStand 4 (some .boolean) 3 := ⟨⟨m_351, m_2, m_42, m_352⟩, by decide +kernel⟩
theorem kX7_isLicensed : KV yX7_isLicensed cX7_isLicensed 2 (some .boolean) 1 := ⟨⟨m_354, m_355, m_49, m_359⟩, by decide +kernel⟩
theorem kX8_isBarred : KV yX8_isBarred cX8_isBarred 3 (some .boolean) 2 := ⟨⟨m_362, m_3, m_42, m_363⟩, by decide +kernel⟩
theorem kX3_barsSchoolsAt : KV yX3_barsSchoolsAt cX3_barsSchoolsAt 2 (some .boolean) 1 := ⟨⟨m_365, m_366, m_44, m_367⟩, by decide +kernel⟩
theorem kX8_worth : KV yX8_worth cX8_worth 3 (some .int) 2 := ⟨⟨m_369, m_370, m_42, m_371⟩, by decide +kernel⟩
theorem kX5_worthAt : KV yX5_worthAt cX5_worthAt 3 (some .int) 2 := ⟨⟨m_373, m_374, m_43, m_375⟩, by decide +kernel⟩
theorem kX8_plan : KV yX8_plan cX8_plan 5 (some .int) 3 := ⟨⟨m_378, m_379, m_42, m_380⟩, by decide +kernel⟩
theorem kX8_makePlan : KV yX8_makePlan cX8_makePlan 7 (some .int) 3 := ⟨⟨m_383, m_4, m_42, m_384⟩, by decide +kernel⟩
theorem kX8_isPlace : KV yX8_isPlace cX8_isPlace 2 (some .boolean) 1 := ⟨⟨m_387, m_5, m_42, m_388⟩, by decide +kernel⟩
theorem kX8_streetOf : KS yX8_streetOf cX8_streetOf 1 (some .int) 1 := ⟨⟨m_390, m_42, m_391⟩, by decide +kernel⟩
theorem kX8_hourOf : KS yX8_hourOf cX8_hourOf 1 (some .int) 1 := ⟨⟨m_393, m_42, m_394⟩, by decide +kernel⟩
theorem kX6_begin : KV yX6_begin cX6_begin 2 none 1 := ⟨⟨m_397, m_398, m_45, m_399⟩, by decide +kernel⟩
theorem kX8_explore : KV yX8_explore cX8_explore 9 none 4 := ⟨⟨m_405, m_6, m_42, m_406⟩, by decide +kernel⟩
theorem kX6_isFull : KV yX6_isFull cX6_isFull 1 (some .boolean) 0 := ⟨⟨m_408, m_409, m_45, m_410⟩, by decide +kernel⟩
theorem kX6_standIn : KV yX6_standIn cX6_standIn 7 none 4 := ⟨⟨m_412, m_413, m_45, m_414⟩, by decide +kernel⟩
theorem kX6_wasLatelyIn : KV yX6_wasLatelyIn cX6_wasLatelyIn 4 (some .boolean) 2 := ⟨⟨m_417, m_7, m_45, m_418⟩, by decide +kernel⟩
theorem kX7_mostSoldOf : KV yX7_mostSoldOf cX7_mostSoldOf 2 (some .int) 1 := ⟨⟨m_420, m_421, m_49, m_428⟩, by decide +kernel⟩
theorem kX7_meltingOf : KV yX7_meltingOf cX7_meltingOf 2 (some .int) 1 := ⟨⟨m_431, m_432, m_49, m_440⟩, by decide +kernel⟩
theorem kX6_copyFrom : KV yX6_copyFrom cX6_copyFrom 3 none 1 := ⟨⟨m_442, m_443, m_45, m_444⟩, by decide +kernel⟩
theorem kX8_hoursBetween : KV yX8_hoursBetween cX8_hoursBetween 4 (some .int) 3 := ⟨⟨m_447, m_8, m_42, m_448⟩, by decide +kernel⟩
theorem kX7_hoursAcross : KV yX7_hoursAcross cX7_hoursAcross 2 (some .int) 1 := ⟨⟨m_450, m_451, m_49, m_457⟩, by decide +kernel⟩
theorem kX6_stepBack : KV yX6_stepBack cX6_stepBack 3 none 2 := ⟨⟨m_459, m_460, m_45, m_461⟩, by decide +kernel⟩
theorem kX8_stop : KV yX8_stop cX8_stop 6 (some .int) 4 := ⟨⟨m_463, m_464, m_42, m_465⟩, by decide +kernel⟩
theorem kX6_has : KV yX6_has cX6_has 2 (some .boolean) 1 := ⟨⟨m_467, m_468, m_45, m_469⟩, by decide +kernel⟩
theorem kX8_left : KV yX8_left cX8_left 5 (some .int) 3 := ⟨⟨m_472, m_473, m_42, m_474⟩, by decide +kernel⟩
theorem kX8_stand : KV yX8_stand cX8_stand 6 (some .int) 3 := ⟨⟨m_476, m_477, m_42, m_478⟩, by decide +kernel⟩
theorem kX4_latestAhead : KV yX4_latestAhead cX4_latestAhead 5 (some .int) 2 := ⟨⟨m_480, m_481, m_46, m_482⟩, by decide +kernel⟩
theorem kX4_has : KV yX4_has cX4_has 2 (some .boolean) 1 := ⟨⟨m_484, m_485, m_46, m_486⟩, by decide +kernel⟩
theorem kX4_isFull : KV yX4_isFull cX4_isFull 1 (some .boolean) 0 := ⟨⟨m_488, m_489, m_46, m_490⟩, by decide +kernel⟩
theorem kX4_add : KV yX4_add cX4_add 5 (some .int) 4 := ⟨⟨m_492, m_493, m_46, m_494⟩, by decide +kernel⟩
theorem kX8_wrong : KV yX8_wrong cX8_wrong 2 (some .int) 1 := ⟨⟨m_496, m_497, m_42, m_498⟩, by decide +kernel⟩
theorem kX8_faultOf : KV yX8_faultOf cX8_faultOf 4 (some .int) 1 := ⟨⟨m_501, m_9, m_42, m_502⟩, by decide +kernel⟩
theorem kX8_isTooSoon : KV yX8_isTooSoon cX8_isTooSoon 5 (some .boolean) 2 := ⟨⟨m_505, m_10, m_42, m_506⟩, by decide +kernel⟩
theorem kX4_isTaken : KV yX4_isTaken cX4_isTaken 3 (some .boolean) 1 := ⟨⟨m_508, m_509, m_46, m_510⟩, by decide +kernel⟩
theorem kX8_clear : KV yX8_clear cX8_clear 3 (some .int) 0 := ⟨⟨m_512, m_513, m_42, m_514⟩, by decide +kernel⟩
theorem kX8_holder : KV yX8_holder cX8_holder 3 (some .int) 1 := ⟨⟨m_516, m_517, m_42, m_518⟩, by decide +kernel⟩
theorem kX8_holderOf : KV yX8_holderOf cX8_holderOf 6 (some .int) 1 := ⟨⟨m_521, m_11, m_42, m_522⟩, by decide +kernel⟩
theorem kX4_countOf : KV yX4_countOf cX4_countOf 5 (some .int) 2 := ⟨⟨m_524, m_525, m_46, m_526⟩, by decide +kernel⟩
theorem kX8_gets : KV yX8_gets cX8_gets 9 (some .int) 4 := ⟨⟨m_528, m_529, m_42, m_530⟩, by decide +kernel⟩
theorem kX8_isPair : KV yX8_isPair cX8_isPair 2 (some .boolean) 1 := ⟨⟨m_533, m_12, m_42, m_534⟩, by decide +kernel⟩
theorem kX8_shareOf : KV yX8_shareOf cX8_shareOf 8 (some .int) 5 := ⟨⟨m_537, m_13, m_42, m_538⟩, by decide +kernel⟩
theorem kX8_balance : KV yX8_balance cX8_balance 8 (some .int) 4 := ⟨⟨m_540, m_541, m_42, m_542⟩, by decide +kernel⟩
theorem kX8_areTwoVans : KV yX8_areTwoVans cX8_areTwoVans 3 (some .boolean) 2 := ⟨⟨m_545, m_14, m_42, m_546⟩, by decide +kernel⟩
theorem kX8_isBalance : KV yX8_isBalance cX8_isBalance 6 (some .boolean) 5 := ⟨⟨m_549, m_15, m_42, m_550⟩, by decide +kernel⟩
theorem kX8_isContent : KV yX8_isContent cX8_isContent 9 (some .boolean) 5 := ⟨⟨m_553, m_16, m_42, m_554⟩, by decide +kernel⟩
theorem kX8_together : KV yX8_together cX8_together 11 (some .int) 3 := ⟨⟨m_556, m_557, m_42, m_558⟩, by decide +kernel⟩
theorem kX8_credit : KV yX8_credit cX8_credit 3 (some .int) 1 := ⟨⟨m_560, m_561, m_42, m_562⟩, by decide +kernel⟩
theorem kX8_bill : KV yX8_bill cX8_bill 3 (some .int) 2 := ⟨⟨m_564, m_565, m_42, m_566⟩, by decide +kernel⟩
theorem kX1_isFull : KV yX1_isFull cX1_isFull 1 (some .boolean) 0 := ⟨⟨m_568, m_569, m_47, m_570⟩, by decide +kernel⟩
theorem kX1_add : KV yX1_add cX1_add 3 (some .int) 2 := ⟨⟨m_572, m_573, m_47, m_574⟩, by decide +kernel⟩
theorem kX8_pay : KV yX8_pay cX8_pay 3 (some .int) 2 := ⟨⟨m_576, m_577, m_42, m_578⟩, by decide +kernel⟩
theorem kX1_has : KV yX1_has cX1_has 2 (some .boolean) 1 := ⟨⟨m_580, m_581, m_47, m_582⟩, by decide +kernel⟩
theorem kX8_owed : KV yX8_owed cX8_owed 3 (some .int) 2 := ⟨⟨m_584, m_585, m_42, m_586⟩, by decide +kernel⟩
theorem kX1_owedOfAll : KV yX1_owedOfAll cX1_owedOfAll 4 (some .int) 1 := ⟨⟨m_588, m_589, m_47, m_590⟩, by decide +kernel⟩
theorem kX1_owedOf : KV yX1_owedOf cX1_owedOf 4 (some .int) 2 := ⟨⟨m_592, m_593, m_47, m_594⟩, by decide +kernel⟩
theorem kX8_tell : KV yX8_tell cX8_tell 2 (some .int) 1 := ⟨⟨m_600, m_601, m_42, m_602⟩, by decide +kernel⟩
theorem kX8_check : KV yX8_check cX8_check 4 (some .int) 1 := ⟨⟨m_604, m_605, m_42, m_606⟩, by decide +kernel⟩
theorem kX8_walkTold : KV yX8_walkTold cX8_walkTold 5 (some .boolean) 2 := ⟨⟨m_609, m_17, m_42, m_610⟩, by decide +kernel⟩
theorem kX8_goesOn : KV yX8_goesOn cX8_goesOn 5 (some .boolean) 3 := ⟨⟨m_613, m_18, m_42, m_614⟩, by decide +kernel⟩
theorem kX8_count : KV yX8_count cX8_count 2 (some .int) 1 := ⟨⟨m_616, m_617, m_42, m_618⟩, by decide +kernel⟩
theorem kX8_stockOfAll : KV yX8_stockOfAll cX8_stockOfAll 4 (some .int) 0 := ⟨⟨m_621, m_19, m_42, m_622⟩, by decide +kernel⟩
theorem kX8_found : KV yX8_found cX8_found 2 (some .int) 1 := ⟨⟨m_624, m_625, m_42, m_626⟩, by decide +kernel⟩
theorem kX9_street : KV yX9_street cX9_street 2 (some .int) 1 := ⟨⟨m_740, m_741, m_48, m_742⟩, by decide +kernel⟩
theorem kX9_in : KS yX9_in cX9_in 3 (some .boolean) 3 := ⟨⟨m_744, m_48, m_745⟩, by decide +kernel⟩
theorem kX9_finds : KV yX9_finds cX9_finds 2 (some .int) 1 := ⟨⟨m_748, m_20, m_48, m_749⟩, by decide +kernel⟩
theorem kX9_way : KV yX9_way cX9_way 5 (some .int) 3 := ⟨⟨m_752, m_753, m_48, m_754⟩, by decide +kernel⟩
theorem kX9_isStreet : KV yX9_isStreet cX9_isStreet 2 (some .boolean) 1 := ⟨⟨m_757, m_21, m_48, m_758⟩, by decide +kernel⟩
theorem kX9_wish : KV yX9_wish cX9_wish 5 (some .int) 3 := ⟨⟨m_760, m_761, m_48, m_762⟩, by decide +kernel⟩
theorem kX9_isHour : KS yX9_isHour cX9_isHour 1 (some .boolean) 1 := ⟨⟨m_764, m_48, m_765⟩, by decide +kernel⟩
theorem kX9_heat : KV yX9_heat cX9_heat 3 (some .int) 1 := ⟨⟨m_767, m_768, m_48, m_769⟩, by decide +kernel⟩
theorem kX9_van : KV yX9_van cX9_van 2 (some .int) 1 := ⟨⟨m_771, m_772, m_48, m_773⟩, by decide +kernel⟩
theorem kX9_as : KV yX9_as cX9_as 3 (some .int) 2 := ⟨⟨m_775, m_776, m_48, m_777⟩, by decide +kernel⟩
theorem kX9_isVan : KV yX9_isVan cX9_isVan 2 (some .boolean) 1 := ⟨⟨m_780, m_22, m_48, m_781⟩, by decide +kernel⟩
theorem kX9_stock : KV yX9_stock cX9_stock 4 (some .int) 2 := ⟨⟨m_783, m_784, m_48, m_785⟩, by decide +kernel⟩
theorem kX9_licence : KV yX9_licence cX9_licence 4 (some .int) 2 := ⟨⟨m_787, m_788, m_48, m_789⟩, by decide +kernel⟩
theorem kX9_law : KV yX9_law cX9_law 4 (some .int) 3 := ⟨⟨m_791, m_792, m_48, m_793⟩, by decide +kernel⟩
theorem kX9_may : KV yX9_may cX9_may 4 (some .int) 3 := ⟨⟨m_795, m_796, m_48, m_797⟩, by decide +kernel⟩
theorem kX9_mayStand : KV yX9_mayStand cX9_mayStand 4 (some .boolean) 3 := ⟨⟨m_800, m_23, m_48, m_801⟩, by decide +kernel⟩
theorem kX9_isLicensed : KV yX9_isLicensed cX9_isLicensed 3 (some .boolean) 2 := ⟨⟨m_804, m_24, m_48, m_805⟩, by decide +kernel⟩
theorem kX9_isBarred : KV yX9_isBarred cX9_isBarred 3 (some .boolean) 2 := ⟨⟨m_808, m_25, m_48, m_809⟩, by decide +kernel⟩
theorem kX9_worth : KV yX9_worth cX9_worth 3 (some .int) 2 := ⟨⟨m_811, m_812, m_48, m_813⟩, by decide +kernel⟩
theorem kX9_worthOf : KV yX9_worthOf cX9_worthOf 3 (some .int) 2 := ⟨⟨m_816, m_26, m_48, m_817⟩, by decide +kernel⟩
theorem kX9_plan : KV yX9_plan cX9_plan 5 (some .int) 3 := ⟨⟨m_819, m_820, m_48, m_821⟩, by decide +kernel⟩
theorem kX9_whyNot : KV yX9_whyNot cX9_whyNot 4 (some .int) 3 := ⟨⟨m_824, m_27, m_48, m_825⟩, by decide +kernel⟩
theorem kX9_isAt : KV yX9_isAt cX9_isAt 2 (some .boolean) 1 := ⟨⟨m_828, m_28, m_48, m_829⟩, by decide +kernel⟩
theorem kX9_findPlan : KV yX9_findPlan cX9_findPlan 8 none 3 := ⟨⟨m_832, m_29, m_48, m_833⟩, by decide +kernel⟩
theorem kX9_sells : KV yX9_sells cX9_sells 9 none 2 := ⟨⟨m_836, m_30, m_48, m_837⟩, by decide +kernel⟩
theorem kX9_note : KV yX9_note cX9_note 3 none 1 := ⟨⟨m_840, m_31, m_48, m_841⟩, by decide +kernel⟩
theorem kX9_later : KV yX9_later cX9_later 4 (some .int) 3 := ⟨⟨m_844, m_32, m_48, m_845⟩, by decide +kernel⟩
theorem kX9_stop : KV yX9_stop cX9_stop 6 (some .int) 4 := ⟨⟨m_847, m_848, m_48, m_849⟩, by decide +kernel⟩
theorem kX9_left : KV yX9_left cX9_left 5 (some .int) 3 := ⟨⟨m_851, m_852, m_48, m_853⟩, by decide +kernel⟩
theorem kX9_stand : KV yX9_stand cX9_stand 5 (some .int) 3 := ⟨⟨m_855, m_856, m_48, m_857⟩, by decide +kernel⟩
theorem kX9_ahead : KV yX9_ahead cX9_ahead 4 (some .int) 2 := ⟨⟨m_860, m_33, m_48, m_861⟩, by decide +kernel⟩
theorem kX9_wrong : KV yX9_wrong cX9_wrong 2 (some .int) 1 := ⟨⟨m_863, m_864, m_48, m_865⟩, by decide +kernel⟩
theorem kX9_wrongOf : KV yX9_wrongOf cX9_wrongOf 6 (some .int) 1 := ⟨⟨m_868, m_34, m_48, m_869⟩, by decide +kernel⟩
theorem kX9_clear : KV yX9_clear cX9_clear 3 (some .int) 0 := ⟨⟨m_871, m_872, m_48, m_873⟩, by decide +kernel⟩
theorem kX9_holder : KV yX9_holder cX9_holder 3 (some .int) 1 := ⟨⟨m_875, m_876, m_48, m_877⟩, by decide +kernel⟩
theorem kX9_holderOf : KV yX9_holderOf cX9_holderOf 7 (some .int) 1 := ⟨⟨m_880, m_35, m_48, m_881⟩, by decide +kernel⟩
theorem kX9_gets : KV yX9_gets cX9_gets 5 (some .int) 4 := ⟨⟨m_883, m_884, m_48, m_885⟩, by decide +kernel⟩
theorem kX9_getsOf : KV yX9_getsOf cX9_getsOf 8 (some .int) 5 := ⟨⟨m_888, m_36, m_48, m_889⟩, by decide +kernel⟩
theorem kX9_balance : KV yX9_balance cX9_balance 8 (some .int) 4 := ⟨⟨m_891, m_892, m_48, m_893⟩, by decide +kernel⟩
theorem kX9_areTwo : KV yX9_areTwo cX9_areTwo 4 (some .boolean) 3 := ⟨⟨m_896, m_37, m_48, m_897⟩, by decide +kernel⟩
theorem kX9_isBalance : KV yX9_isBalance cX9_isBalance 7 (some .boolean) 5 := ⟨⟨m_900, m_38, m_48, m_901⟩, by decide +kernel⟩
theorem kX9_together : KV yX9_together cX9_together 9 (some .int) 3 := ⟨⟨m_903, m_904, m_48, m_905⟩, by decide +kernel⟩
theorem kX9_credit : KV yX9_credit cX9_credit 3 (some .int) 1 := ⟨⟨m_907, m_908, m_48, m_909⟩, by decide +kernel⟩
theorem kX9_bill : KV yX9_bill cX9_bill 3 (some .int) 2 := ⟨⟨m_911, m_912, m_48, m_913⟩, by decide +kernel⟩
theorem kX9_pay : KV yX9_pay cX9_pay 3 (some .int) 2 := ⟨⟨m_915, m_916, m_48, m_917⟩, by decide +kernel⟩
theorem kX9_isBill : KV yX9_isBill cX9_isBill 2 (some .boolean) 1 := ⟨⟨m_920, m_39, m_48, m_921⟩, by decide +kernel⟩
theorem kX9_owed : KV yX9_owed cX9_owed 5 (some .int) 2 := ⟨⟨m_923, m_924, m_48, m_925⟩, by decide +kernel⟩
theorem kX9_owedOf : KV yX9_owedOf cX9_owedOf 4 (some .int) 2 := ⟨⟨m_928, m_40, m_48, m_929⟩, by decide +kernel⟩
theorem kX9_tell : KV yX9_tell cX9_tell 2 (some .int) 1 := ⟨⟨m_931, m_932, m_48, m_933⟩, by decide +kernel⟩
theorem kX9_check : KV yX9_check cX9_check 4 (some .int) 1 := ⟨⟨m_935, m_936, m_48, m_937⟩, by decide +kernel⟩
theorem kX9_count : KV yX9_count cX9_count 4 (some .int) 1 := ⟨⟨m_939, m_940, m_48, m_941⟩, by decide +kernel⟩
theorem kX9_found : KV yX9_found cX9_found 2 (some .int) 1 := ⟨⟨m_943, m_944, m_48, m_945⟩, by decide +kernel⟩
