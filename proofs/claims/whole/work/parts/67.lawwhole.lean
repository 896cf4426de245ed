/-! the law from its entry -/
theorem zins_al : ∀ c, c < 10 → Cond.instantiable (zCn c) (zN c) ∈ zTB := zdec10 zins_0 zinX1 zins_2 zins_3 zins_4 zins_5 zins_6 zins_7 zins_8 zins_9
theorem z_kn {args : Array Value} {s : State} (hts : ∀ w ∈ zTB, w.before args s = true) : ∃ D : va_G, ∀ c, c < 10 → u_Kn s (zCn c) (zT c) (zN c) (D.1 c) (D.2 c) := by
  have h : ∀ c, ∃ p : ClassId × (Nat → Nat), c < 10 → u_Kn s (zCn c) (zT c) (zN c) p.1 p.2 := by
    intro c
    by_cases hc : c < 10
    · obtain ⟨cC, iS, h9⟩ := u_known hts (zws_ok c hc) (hts _ (zins_al c hc))
      exact ⟨(cC, iS), fun _ => h9⟩
    · exact ⟨((0 : Nat), fun _ => 0), fun h9 => absurd h9 hc⟩
  exact ⟨(fun c => (Classical.choose (h c)).1, fun c => (Classical.choose (h c)).2), fun c hc => Classical.choose_spec (h c) hc⟩
theorem z_arrp {args : Array Value} {s : State} {ty : FieldType} (h : (Cond.arrayClass ty).before args s = true) : ∃ c : ClassId, ArrOfT s c ty ∧ s.vm.findClass ("[" ++ ty.toString) = some c := by
  obtain ⟨c, k, comp, h1, h2, h3⟩ := Cond.arrayClass_spec h
  exact ⟨c, fun n z => ⟨fun k h => (by cases h), k, h2, comp, h3⟩, h1⟩
theorem z_arr {args : Array Value} {s : State} (hts : ∀ w ∈ lw_tbl, w.before args s = true) : ∃ A : Nat → ClassId, ∀ t, t < 6 → ArrOfT s (A t) (zAT t) ∧ va_RA s (A t) (zAT t) := by
  have hz : ∀ w ∈ zTB, w.before args s = true := fun w hw => hts w (List.mem_filter.mp hw).1
  obtain ⟨c0, p0, q0⟩ := z_arrp (hz _ zaI)
  obtain ⟨c1, p1, q1⟩ := z_arrp (hz _ zaB)
  obtain ⟨c2, p2, q2⟩ := z_arrp (hz _ zaZ)
  obtain ⟨c3, p3, q3⟩ := z_arrp (hz _ zaJ)
  obtain ⟨m4, c4, k4, f1, f2, f3, f4⟩ := Cond.arrayOver_specA (hts _ zao1)
  obtain ⟨m5, c5, k5, g1, g0, g2, g3, g4⟩ := Cond.arrayOver_spec (hts _ zao2)
  refine ⟨fun t => match t with | 0 => c0 | 1 => c1 | 2 => c2 | 3 => c3 | 4 => c4 | _ => c5, fun t ht => ?_⟩
  rcases (show t = 0 ∨ t = 1 ∨ t = 2 ∨ t = 3 ∨ t = 4 ∨ t = 5 by omega) with rfl | rfl | rfl | rfl | rfl | rfl
  · exact ⟨p0, q0⟩
  · exact ⟨p1, q1⟩
  · exact ⟨p2, q2⟩
  · exact ⟨p3, q3⟩
  · exact ⟨fun n z => ⟨fun k h => (by cases h), k4, f2, m4, f3⟩, f4⟩
  · exact ⟨fun n z => ⟨fun k h => (by cases h), k5, g2, m5, g3⟩, k5, m5, g2, g3, g1, g4⟩
theorem z_evA {args : Array Value} {s : State} {t : Term} {ty : FieldType} (h : (Cond.arrayOf t ty).before args s = true) : ∃ a : Nat, t.eval args s none [] s = some (.ref a) := by
  unfold Cond.before Cond.holds at h
  simp only [Cond.value] at h
  cases ht : t.eval args s none [] s with
  | none => simp [ht] at h
  | some v =>
    cases v with
    | ref a => exact ⟨a, rfl⟩
    | _ => simp [ht] at h
theorem z_str {args : Array Value} {s : State} (hg : (Jvm.Cond.and given_1 narrow_1).before args s = true) : ∃ (a0 a1 a2 b0 b1 f : Nat), (Term.string "TabooIslesModel" 26).eval args s none [] s = some (.ref a0) ∧ (Term.string "TabooIslesModel" 32).eval args s none [] s = some (.ref a1) ∧ (Term.string "TabooIsles" 123).eval args s none [] s = some (.ref a2) ∧
    (Term.field (Term.string "TabooIslesModel" 26) "java/lang/String" "value" "[B").eval args s none [] s = some (.ref b0) ∧ (Term.field (Term.string "TabooIslesModel" 32) "java/lang/String" "value" "[B").eval args s none [] s = some (.ref b1) ∧
    ((Term.static "jdk/internal/util/Preconditions" "SIOOBE_FORMATTER" "Ljava/util/function/BiFunction;").eval args s none [] s = some .null ∨ (Term.static "jdk/internal/util/Preconditions" "SIOOBE_FORMATTER" "Ljava/util/function/BiFunction;").eval args s none [] s = some (.ref f)) := by
  have fl := flat_of_before _ hg
  obtain ⟨a0, -, -, -, e0, -⟩ := Cond.exactly_spec (fl (.exactly (.string "TabooIslesModel" 26) "java/lang/String") (by decide +kernel))
  obtain ⟨a1, -, -, -, e1, -⟩ := Cond.exactly_spec (fl (.exactly (.string "TabooIslesModel" 32) "java/lang/String") (by decide +kernel))
  obtain ⟨a2, -, -, -, e2, -⟩ := Cond.exactly_spec (fl (.exactly (.string "TabooIsles" 123) "java/lang/String") (by decide +kernel))
  obtain ⟨b0, e3⟩ := z_evA (fl (.arrayOf (.field (.string "TabooIslesModel" 26) "java/lang/String" "value" "[B") .byte) (by decide +kernel))
  obtain ⟨b1, e4⟩ := z_evA (fl (.arrayOf (.field (.string "TabooIslesModel" 32) "java/lang/String" "value" "[B") .byte) (by decide +kernel))
  obtain ⟨v, e5, e6⟩ := Cond.isRef_spec (fl (.isRef (.static "jdk/internal/util/Preconditions" "SIOOBE_FORMATTER" "Ljava/util/function/BiFunction;")) (by decide +kernel))
  cases v with
  | null => exact ⟨a0, a1, a2, b0, b1, 0, e0, e1, e2, e3, e4, Or.inl e5⟩
  | ref f => exact ⟨a0, a1, a2, b0, b1, f, e0, e1, e2, e3, e4, Or.inr e5⟩
  | _ => cases e6
theorem zxt_law : zxt yL_law = [] := if_neg (by decide)
/-- from the entry, for every script of at most 3072 ints, the law comes to its end with true -/
theorem whole_start {p : Program} {e : Env} {s : State} {m : MethodId} {below : List Frame} {meth : Method} {c : Code} (l : Launch) (hflags : l.flags = flags0) {b L : Nat} {xs : Nat → Int32} (hL : L ≤ 3072) (C0 : lw_At p s m meth c b L xs) : W p l e room_1 s m #[Value.ref b] below meth c s.heap [] 0 0 (lw_Z below #[Value.ref b] s) (entryFrame m ([Value.ref b] : List Value).toArray 7) := by
  obtain ⟨C1, C2, C3, C4, C5, C6, C7, C8, C9, C10, C11, C12⟩ := C0
  have hfl : l.stackTraces = false := by
    show (!l.flags.contains noTraceFlag) = false
    rw [hflags]
    decide +kernel
  have hz : ∀ w ∈ zTB, w.before #[Value.ref b] s = true := fun w hw => C6 w (List.mem_filter.mp hw).1
  obtain ⟨D, hD⟩ := z_kn hz
  obtain ⟨A, hA⟩ := z_arr C6
  obtain ⟨a0, a1, a2, b0, b1, f, e0, e1, e2, e3, e4, e5⟩ := z_str C10
  obtain ⟨ad, had⟩ : ∃ ad : Nat → Nat, ad = fun r => if r = 1000000 then a0 else if r = 1000001 then a1 else if r = 1000002 then a2 else if r = 2000000 then b0 else if r = 2000001 then b1 else if r = 3000000 then f else if r = 4000000 then b else 0 := ⟨_, rfl⟩
  have d0 : ad 1000000 = a0 := by rw [had]; rfl
  have d1 : ad 1000001 = a1 := by rw [had]; rfl
  have d2 : ad 1000002 = a2 := by rw [had]; rfl
  have d3 : ad 2000000 = b0 := by rw [had]; rfl
  have d4 : ad 2000001 = b1 := by rw [had]; rfl
  have d5 : ad 3000000 = f := by rw [had]; rfl
  have d6 : ad 4000000 = b := by rw [had]; rfl
  obtain ⟨Γ, hΓ⟩ : ∃ Γ : zC, Γ = (D, A, ad, [], fun _ _ => none) := ⟨_, rfl⟩
  have hks : zks Γ = [] := by rw [hΓ]
  have hG : zG0 0 Γ := ⟨fun r j => by rw [hΓ], by rw [hks]; rfl⟩
  have hb4 : zad Γ 4000000 = b := by rw [hΓ]; exact d6
  have hws : zws Γ (fun _ _ => 0) = [] := by unfold zws; rw [hks]; rfl
  have K := zL_start (l := l) (b := b) (L := L) (xs := xs) hfl hL hG hb4
  have hSs : zSs Γ #[Value.ref b] s := by
    have w0 : zad Γ 1000000 = a0 := by rw [hΓ]; exact d0
    have w1 : zad Γ 1000001 = a1 := by rw [hΓ]; exact d1
    have w2 : zad Γ 1000002 = a2 := by rw [hΓ]; exact d2
    have w3 : zad Γ 2000000 = b0 := by rw [hΓ]; exact d3
    have w4 : zad Γ 2000001 = b1 := by rw [hΓ]; exact d4
    have w5 : zad Γ 3000000 = f := by rw [hΓ]; exact d5
    unfold zSs
    rw [w0, w1, w2, w3, w4, w5]
    exact ⟨e0, e1, e2, e3, e4, e5⟩
  have hSt : zSt Γ (fun q => s.heap.size ≤ q) s := ⟨s, #[Value.ref b], C10, C6, State.WarmedH.refl s, Nat.le_refl _, fun q hq => ⟨by omega, rfl⟩, hSs⟩
  have hK : va_K (zD Γ) vwCl (ztys Γ) s := by
    refine ⟨fun k q hq => ?_, fun k q hq => ?_⟩
    · have hk : k < 10 := (List.getElem?_eq_some_iff.mp hq).1
      rw [zcl_at k hk] at hq
      cases hq
      have h9 := hD k hk
      rw [hΓ]
      exact h9
    · have hk : k < 6 := by
        have h9 := (List.getElem?_eq_some_iff.mp hq).1
        unfold ztys at h9
        simpa using h9
      rw [zty_at hk] at hq
      cases hq
      have h9 := hA k hk
      rw [hΓ]
      exact h9
  have hW : zWd Γ (fun _ _ => 0) (fun q => s.heap.size ≤ q) s.heap s := by
    refine ⟨fun k q hq => ?_, ?_, hK, ?_⟩
    · rw [hks] at hq; cases hq
    · rw [hws]; intro k q hq; cases hq
    · rw [hws]; exact ⟨fun i j p q hp => (by cases hp), fun k q hq => (by cases hq)⟩
  have hB : zB (zFL l b L xs) p s m #[Value.ref b] meth c := ⟨C1, C2, C3, C4, C5, hz, C9, C11, C12.trans zxt_law.symm⟩
  have hl := lv_entry ([.ref b] : List Value) (n := 7) (Nat.le_of_ble_eq_true rfl)
  rw [lg_entry_eq]
  generalize (lg_sl ([.ref b] : List Value) ++ List.replicate (7 - (lg_sl ([.ref b] : List Value)).length) Slot.unset).toArray = lsr at hl ⊢
  have hloc : zloc Γ lsr 7 [some (zR 4000000), none, none, none, none, none, none] := by
    refine ⟨hl.1, hl.2.1, fun i v hi => ?_⟩
    rcases (show i = 0 ∨ i = 1 ∨ i = 2 ∨ i = 3 ∨ i = 4 ∨ i = 5 ∨ i = 6 ∨ 7 ≤ i by omega) with rfl | rfl | rfl | rfl | rfl | rfl | rfl | h7
    · cases hi
      rw [z_sref hb4]
      exact hl.2.2 (0, .ref b) List.mem_cons_self
    · cases hi
    · cases hi
    · cases hi
    · cases hi
    · cases hi
    · cases hi
    · rw [List.getElem?_eq_none (by simpa using h7)] at hi; cases hi
  have hlv : ∀ v, some v ∈ [some (zR 4000000), (none : Option zV), none, none, none, none, none] → zov Γ v := fun v hv => by
    simp only [List.mem_cons, List.not_mem_nil, or_false, Option.some.injEq] at hv
    rcases hv with rfl | h9 | h9 | h9 | h9 | h9 | h9
    · exact Or.inr (by decide)
    all_goals cases h9
  intro T hT X
  obtain ⟨t, g1, g2⟩ := K p e s m #[Value.ref b] below meth c s.heap [] lsr hB hloc hlv (fun v hv => by cases hv) hW va_S.rf ⟨fun q h => h, hSt⟩ T hT X
  exact ⟨t, g1, g2 ⟨rfl, C7, C8⟩⟩
