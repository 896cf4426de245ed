/-! THE SMALL MACHINE: whole numbers for ints and longs, objects by their numbers, cells in one function; tied to the machine's W once, instruction by instruction. -/
abbrev zV := Int ⊕ (Int ⊕ Nat)
abbrev zI (x : Int) : zV := .inl x
abbrev zL (x : Int) : zV := .inr (.inl x)
abbrev zR (x : Nat) : zV := .inr (.inr x)
abbrev zM := Nat → Nat → Int
abbrev zK := Nat ⊕ (Nat × Nat)
abbrev zC := va_G × (Nat → ClassId) × (Nat → Nat) × List zK × (Nat → Nat → Option Nat)
abbrev zD (Γ : zC) : va_G := Γ.1
abbrev zcA (Γ : zC) : Nat → ClassId := Γ.2.1
abbrev zad (Γ : zC) : Nat → Nat := Γ.2.2.1
abbrev zks (Γ : zC) : List zK := Γ.2.2.2.1
abbrev zsr (Γ : zC) : Nat → Nat → Option Nat := Γ.2.2.2.2
def zkd (Γ : zC) (r : Nat) : Option zK := match r with
  | 0 => none
  | k + 1 => (zks Γ)[k]?
def zN : Nat → Nat := fun c => match c with
  | 0 => 3 | 1 => 2 | 2 => 3 | 3 => 10 | 4 => 6 | 5 => 3 | 6 => 12 | 7 => 5 | 8 => 12 | _ => 61
def zTy : Nat → Nat → FieldType := fun c => match c with
  | 0 => tyX0 | 1 => tyX1 | 2 => tyX2 | 3 => tyX3 | 4 => tyX4 | 5 => tyX5 | 6 => tyX6 | 7 => tyX7 | 8 => tyX8 | _ => tyX9
def zAT : Nat → FieldType := fun t => match t with
  | 0 => .int | 1 => .byte | 2 => .boolean | 3 => .long | 4 => .array .int | _ => .object "TabooIsles$Custom"
def zTc (ty : FieldType) : Nat := match ty with
  | .int => 0 | .byte => 1 | .boolean => 2 | .long => 3 | _ => 9
def zrf (Γ : zC) (r : Nat) : Value := if r = 0 then .null else .ref (zad Γ r)
def zro (Γ : zC) (r : Nat) : Option Nat := if r = 0 then none else some (zad Γ r)
theorem zro_rf (Γ : zC) (r : Nat) : va_rf (zro Γ r) = zrf Γ r := by
  unfold zro zrf
  by_cases h : r = 0 <;> simp [h, va_rf]
def zval (Γ : zC) : zV → Value
  | .inl x => .int (Int32.ofInt x)
  | .inr (.inl x) => .long (Int64.ofInt x)
  | .inr (.inr r) => zrf Γ r
def zFV (Γ : zC) (c : Nat) (x : Int) (o : Option Nat) : Value :=
  if c = 3 then .long (Int64.ofInt x) else if c = 9 then zrf Γ (o.getD x.toNat) else .int (Int32.ofInt x)
def zcell (Γ : zC) (r : Nat) (f : Nat → Int) : zK → va_E
  | .inl ci => .inr (ci, (List.range (zN ci)).map fun j => zFV Γ (zTc (zTy ci j)) (f j) (zsr Γ r j))
  | .inr (t, n) => .inl (zcA Γ t, n, if t ≤ 2 then .inl (fun j => Int32.ofInt (f j)) else if t = 3 then .inr (.inl fun j => Int64.ofInt (f j)) else .inr (.inr (.inr (.inr fun j => zro Γ ((zsr Γ r j).getD (f j).toNat)))))
def zws (Γ : zC) (h : zM) : va_W := (List.range (zks Γ).length).map fun k => (zad Γ (k + 1), zcell Γ (k + 1) (h (k + 1)) ((zks Γ).getD k (.inl 0)))
abbrev zo32 (x : Int) : Prop := -2147483648 ≤ x ∧ x < 2147483648
abbrev zo64 (x : Int) : Prop := -9223372036854775808 ≤ x ∧ x < 9223372036854775808
def zvr (Γ : zC) (r : Nat) : Prop := r ≤ (zks Γ).length ∨ 1000000 ≤ r
def zokF (Γ : zC) (c : Nat) (x : Int) : Prop := match c with
  | 0 => zo32 x
  | 1 => -128 ≤ x ∧ x < 128
  | 2 => x = 0 ∨ x = 1
  | 3 => zo64 x
  | _ => 0 ≤ x ∧ zvr Γ x.toNat
def zoc (Γ : zC) (f : Nat → Int) : zK → Prop
  | .inl ci => ∀ j, j < zN ci → zokF Γ (zTc (zTy ci j)) (f j)
  | .inr (t, n) => n < 2147483648 ∧ ∀ j, j < n → zokF Γ t (f j)
def zom (Γ : zC) (h : zM) : Prop := ∀ (k : Nat) (q : zK), (zks Γ)[k]? = some q → zoc Γ (h (k + 1)) q
def zov (Γ : zC) : zV → Prop
  | .inl x => zo32 x
  | .inr (.inl x) => zo64 x
  | .inr (.inr r) => zvr Γ r
def ztys (Γ : zC) : List (ClassId × FieldType) := (List.range 6).map fun t => (zcA Γ t, zAT t)
def zWd (Γ : zC) (h : zM) (A : Nat → Prop) (H : Heap) (s : State) : Prop := zom Γ h ∧ va_P (zD Γ) vwCl (zws Γ h) H ∧ va_K (zD Γ) vwCl (ztys Γ) s ∧ va_D A (zws Γ h)
def zTB : List Cond := lw_tbl.filter goodWord
abbrev zMI := MethodName × ByteArray × Nat × Option FieldType
abbrev zF := Launch × zMI × Room × (State → Nat → Prop) × (State → Array Value → List Frame → State → Prop)
/-- the table of handlers by the method's name -/
def zxt (y : MethodName) : List ExceptionTableEntry := if y.cls = "TabooIslesLaw" ∧ y.name = "taboo" then tableOf [(0, 10, 13, 13)] else []
def zB (F : zF) (p : Program) (s : State) (m : MethodId) (args : Array Value) (meth : Method) (c : Code) : Prop :=
  p.tables.exec = Jvm.exec ∧ c.code = F.2.1.2.1 ∧ meth.sig.returnType = F.2.1.2.2.2 ∧ c.maxLocals = F.2.1.2.2.1 ∧ s.vm.findClass F.2.1.1.cls = some m.cls ∧ (∀ w ∈ zTB, w.before args s = true) ∧ meth.locks = false ∧ meth.name = F.2.1.1.name ∧ c.exceptionTable.toList = zxt F.2.1.1
def zloc (Γ : zC) (lsr : Array Slot) (nL : Nat) (ls : List (Option zV)) : Prop := lsr.size = nL ∧ lv_wf lsr ∧ ∀ (i : Nat) (v : zV), ls[i]? = some (some v) → lsr[i]? = some (.val (zval Γ v))
/-- the String constants, their byte rows, and the JDK's formatter, by their numbers -/
def zSs (Γ : zC) (aL : Array Value) (sL : State) : Prop :=
  (Term.string "TabooIslesModel" 26).eval aL sL none [] sL = some (.ref (zad Γ 1000000)) ∧ (Term.string "TabooIslesModel" 32).eval aL sL none [] sL = some (.ref (zad Γ 1000001)) ∧ (Term.string "TabooIsles" 123).eval aL sL none [] sL = some (.ref (zad Γ 1000002)) ∧
  (Term.field (Term.string "TabooIslesModel" 26) "java/lang/String" "value" "[B").eval aL sL none [] sL = some (.ref (zad Γ 2000000)) ∧ (Term.field (Term.string "TabooIslesModel" 32) "java/lang/String" "value" "[B").eval aL sL none [] sL = some (.ref (zad Γ 2000001)) ∧
  ((Term.static "jdk/internal/util/Preconditions" "SIOOBE_FORMATTER" "Ljava/util/function/BiFunction;").eval aL sL none [] sL = some .null ∨ (Term.static "jdk/internal/util/Preconditions" "SIOOBE_FORMATTER" "Ljava/util/function/BiFunction;").eval aL sL none [] sL = some (.ref (zad Γ 3000000)))
theorem zSs_ad {Γ Γ' : zC} {aL : Array Value} {sL : State} (h : ∀ r, 1000000 ≤ r → zad Γ' r = zad Γ r) (H : zSs Γ aL sL) : zSs Γ' aL sL := by
  unfold zSs at H ⊢
  rw [h _ (by decide), h _ (by decide), h _ (by decide), h _ (by decide), h _ (by decide), h _ (by decide)]
  exact H
/-- what stays from the law's start on: its premises and words held there, and what lay there lies there still -/
def zSt (Γ : zC) (A : Nat → Prop) (s : State) : Prop := ∃ (sL : State) (aL : Array Value), (Jvm.Cond.and given_1 narrow_1).before aL sL = true ∧ (∀ w ∈ lw_tbl, w.before aL sL = true) ∧ sL.WarmedH s.vm ∧ sL.heap.size ≤ s.heap.size ∧ (∀ q, q < sL.heap.size → ¬ A q ∧ s.heap[q]? = sL.heap[q]?) ∧ zSs Γ aL sL
def zG (F : zF) (k n : Nat) (Γ : zC) (h : zM) (pc : Nat) (ls : List (Option zV)) (st : List zV) : Prop :=
  ∀ (p : Program) (e : Env) (s : State) (m : MethodId) (args : Array Value) (below : List Frame) (meth : Method) (c : Code) (H : Heap) (locs : List Loc) (lsr : Array Slot),
    zB F p s m args meth c → zloc Γ lsr F.2.1.2.2.1 ls → (∀ v, some v ∈ ls → zov Γ v) → (∀ v, v ∈ st → zov Γ v) → zWd Γ h (F.2.2.2.1 s) H s → va_S (F.2.2.2.1 s) s.heap H locs → ((∀ q, s.heap.size ≤ q → F.2.2.2.1 s q) ∧ zSt Γ (F.2.2.2.1 s) s) →
    W p F.1 e F.2.2.1 s m args below meth c H locs k n (F.2.2.2.2 s args below) (F0 m pc lsr (st.map (zval Γ)))
/-- a step that touches the stack alone -/
theorem zstk {F : zF} {k n : Nat} {Γ : zC} {h : zM} {pc pc' : Nat} {ls : List (Option zV)} {st st' : List zV} (hv : (∀ v, v ∈ st → zov Γ v) → ∀ v, v ∈ st' → zov Γ v)
    (hs : ∀ (p : Program) (e : Env) (s : State) (m : MethodId) (args : Array Value) (below : List Frame) (meth : Method) (c : Code) (H : Heap) (locs : List Loc) (lsr : Array Slot), zB F p s m args meth c → (∀ v, v ∈ st → zov Γ v) → zloc Γ lsr F.2.1.2.2.1 ls → zom Γ h →
      W p F.1 e F.2.2.1 s m args below meth c H locs k n (F.2.2.2.2 s args below) (F0 m pc' lsr (st'.map (zval Γ))) → W p F.1 e F.2.2.1 s m args below meth c H locs k n (F.2.2.2.2 s args below) (F0 m pc lsr (st.map (zval Γ))))
    (kk : zG F k n Γ h pc' ls st') : zG F k n Γ h pc ls st := by
  intro p e s m args below meth c H locs lsr hB hl hlv hst hW hS hA
  exact hs p e s m args below meth c H locs lsr hB hst hl hW.1 (kk p e s m args below meth c H locs lsr hB hl hlv (hv hst) hW hS hA)
theorem zv2 {Γ : zC} {a : zV} {st : List zV} (ha : zov Γ a) (h : ∀ v, v ∈ st → zov Γ v) : ∀ v, v ∈ a :: st → zov Γ v := fun v hv => (List.mem_cons.mp hv).elim (fun e => e ▸ ha) (h v)
theorem zvt {Γ : zC} {a : zV} {st : List zV} (h : ∀ v, v ∈ a :: st → zov Γ v) : ∀ v, v ∈ st → zov Γ v := fun v hv => h v (List.mem_cons_of_mem _ hv)
theorem zvh {Γ : zC} {a : zV} {st : List zV} (h : ∀ v, v ∈ a :: st → zov Γ v) : zov Γ a := h a List.mem_cons_self
theorem z32t {a : Int} (h : zo32 a) : (Int32.ofInt a).toInt = a := Int32.toInt_ofInt_of_le h.1 h.2
theorem z64t {a : Int} (h : zo64 a) : (Int64.ofInt a).toInt = a := Int64.toInt_ofInt_of_le h.1 h.2
theorem z32lt {a b : Int} (ha : zo32 a) (hb : zo32 b) : Int32.ofInt a < Int32.ofInt b ↔ a < b := by rw [Int32.lt_iff_toInt_lt, z32t ha, z32t hb]
theorem z32le {a b : Int} (ha : zo32 a) (hb : zo32 b) : Int32.ofInt a ≤ Int32.ofInt b ↔ a ≤ b := by rw [Int32.le_iff_toInt_le, z32t ha, z32t hb]
theorem z32eq {a b : Int} (ha : zo32 a) (hb : zo32 b) : Int32.ofInt a = Int32.ofInt b ↔ a = b := by rw [← Int32.toInt_inj, z32t ha, z32t hb]
theorem z64lt {a b : Int} (ha : zo64 a) (hb : zo64 b) : Int64.ofInt a < Int64.ofInt b ↔ a < b := by rw [Int64.lt_iff_toInt_lt, z64t ha, z64t hb]
theorem z64eq {a b : Int} (ha : zo64 a) (hb : zo64 b) : Int64.ofInt a = Int64.ofInt b ↔ a = b := by rw [← Int64.toInt_inj, z64t ha, z64t hb]
theorem z32cl {a : Int} (ha : zo32 a) : (Int32.ofInt a).toNatClampNeg = a.toNat := Int32.toNatClampNeg_ofInt_of_le ha.1 ha.2
theorem zvpin {a : Int} {n : Nat} (ha : zo32 a) (h0 : 0 ≤ a) (h1 : a < n) : vp_in (Int32.ofInt a) n := by
  rw [vp_in_iff, z32t ha]
  exact ⟨h0, h1⟩
/-- what the numbers on the stack, in the locals, in the cells are within -/
theorem zrngS {F : zF} {k n : Nat} {Γ : zC} {h : zM} {pc : Nat} {ls : List (Option zV)} {st : List zV} {x : Int} (kk : zo32 x → zG F k n Γ h pc ls (zI x :: st)) : zG F k n Γ h pc ls (zI x :: st) := by
  intro p e s m args below meth c H locs lsr hB hl hlv hst hW hS hA
  exact kk (hst _ List.mem_cons_self) p e s m args below meth c H locs lsr hB hl hlv hst hW hS hA
theorem zrngJ {F : zF} {k n : Nat} {Γ : zC} {h : zM} {pc : Nat} {ls : List (Option zV)} {st : List zV} {x : Int} (kk : zo64 x → zG F k n Γ h pc ls (zL x :: st)) : zG F k n Γ h pc ls (zL x :: st) := by
  intro p e s m args below meth c H locs lsr hB hl hlv hst hW hS hA
  exact kk (hst _ List.mem_cons_self) p e s m args below meth c H locs lsr hB hl hlv hst hW hS hA
theorem zrngL {F : zF} {k n : Nat} {Γ : zC} {h : zM} {pc : Nat} {ls : List (Option zV)} {st : List zV} (i : Nat) {x : Int} (hi : ls[i]? = some (some (zI x))) (kk : zo32 x → zG F k n Γ h pc ls st) : zG F k n Γ h pc ls st := by
  intro p e s m args below meth c H locs lsr hB hl hlv hst hW hS hA
  exact kk (hlv _ (List.mem_of_getElem? hi)) p e s m args below meth c H locs lsr hB hl hlv hst hW hS hA
theorem zrngM {F : zF} {k n : Nat} {Γ : zC} {h : zM} {pc : Nat} {ls : List (Option zV)} {st : List zV} (kk : zom Γ h → zG F k n Γ h pc ls st) : zG F k n Γ h pc ls st := by
  intro p e s m args below meth c H locs lsr hB hl hlv hst hW hS hA
  exact kk hW.1 p e s m args below meth c H locs lsr hB hl hlv hst hW hS hA
theorem zom_at {Γ : zC} {h : zM} (hm : zom Γ h) {r : Nat} {q : zK} (hk : zkd Γ r = some q) : zoc Γ (h r) q := by
  cases r with
  | zero => cases hk
  | succ k => exact hm k q hk
theorem zom_a {Γ : zC} {h : zM} (hm : zom Γ h) {r t n : Nat} (hk : zkd Γ r = some (.inr (t, n))) {j : Nat} (hj : j < n) : zokF Γ t (h r j) := (zom_at hm hk).2 j hj
theorem zom_f {Γ : zC} {h : zM} (hm : zom Γ h) {r ci : Nat} (hk : zkd Γ r = some (.inl ci)) (j : Nat) (hj : j < zN ci) : zokF Γ (zTc (zTy ci j)) (h r j) := zom_at hm hk j hj
/-- cells by their numbers -/
theorem zws_at {Γ : zC} (h : zM) {r : Nat} {q : zK} (hk : zkd Γ r = some q) : (zws Γ h)[r - 1]? = some (zad Γ r, zcell Γ r (h r) q) := by
  cases r with
  | zero => cases hk
  | succ k =>
    have hk' : (zks Γ)[k]? = some q := hk
    have hlt : k < (zks Γ).length := (List.getElem?_eq_some_iff.mp hk').1
    show (zws Γ h)[k]? = _
    unfold zws
    rw [List.getElem?_map, List.getElem?_range hlt]
    simp only [Option.map_some, List.getD_eq_getElem?_getD, hk', Option.getD_some]
def zup (h : zM) (r j : Nat) (x : Int) : zM := fun a b => if a = r ∧ b = j then x else h a b
theorem zup_row {h : zM} {r j a : Nat} {x : Int} (ha : a ≠ r) : zup h r j x a = h a := by
  funext b
  simp [zup, ha]
theorem zws_set {Γ : zC} {h : zM} {r j : Nat} {x : Int} {q : zK} (hk : zkd Γ r = some q) : zws Γ (zup h r j x) = (zws Γ h).set (r - 1) (zad Γ r, zcell Γ r (zup h r j x r) q) := by
  cases r with
  | zero => cases hk
  | succ k =>
    have hk' : (zks Γ)[k]? = some q := hk
    have hlt : k < (zks Γ).length := (List.getElem?_eq_some_iff.mp hk').1
    apply List.ext_getElem?
    intro i
    show _ = ((zws Γ h).set k _)[i]?
    rw [List.getElem?_set]
    by_cases hik : k = i
    · subst hik
      have hl : k < (zws Γ h).length := by unfold zws; simp; exact hlt
      simp only [if_true, hl]
      have := zws_at (zup h (k + 1) j x) (r := k + 1) hk
      exact this
    · simp only [hik, if_false]
      unfold zws
      rw [List.getElem?_map, List.getElem?_map]
      by_cases hil : i < (zks Γ).length
      · rw [List.getElem?_range hil]
        simp only [Option.map_some]
        rw [zup_row (by omega)]
      · rw [List.getElem?_eq_none (by simp; omega)]
        rfl
theorem zom_up {Γ : zC} {h : zM} {r j : Nat} {x : Int} {q : zK} (hm : zom Γ h) (hk : zkd Γ r = some q) (hq : zoc Γ (zup h r j x r) q) : zom Γ (zup h r j x) := by
  intro k p hp
  by_cases hr : k + 1 = r
  · subst hr
    have hk' : (zks Γ)[k]? = some q := hk
    rw [hk'] at hp
    cases hp
    exact hq
  · rw [zup_row hr]
    exact hm k p hp
