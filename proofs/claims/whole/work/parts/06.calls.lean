/-! contracts of the small machine: entry, ends, calls -/
def zwm (M : zMI) : List Cond := Cond.code M.1 M.2.1 M.2.2.1 M.2.2.2 :: zTB
def zrm (d mc ms : Nat) : Room := { frames := d, cells := mc, slots := ms, locals := 40 * d }
def zAO (Γ : zC) (sz : Nat) : Nat → Prop := fun q => (∃ k, k < (zks Γ).length ∧ q = zad Γ (k + 1)) ∨ sz ≤ q
def zext (Γ Γ' : zC) : Prop := zD Γ' = zD Γ ∧ zcA Γ' = zcA Γ ∧ ∀ r, zvr Γ r → zad Γ' r = zad Γ r ∧ zvr Γ' r
theorem zext_rf (Γ : zC) : zext Γ Γ := ⟨rfl, rfl, fun _ h => ⟨rfl, h⟩⟩
theorem zext_tr {Γ Γ' Γ'' : zC} (h : zext Γ Γ') (h2 : zext Γ' Γ'') : zext Γ Γ'' := ⟨h2.1.trans h.1, h2.2.1.trans h.2.1, fun r hr => ⟨(h2.2.2 r (h.2.2 r hr).2).1.trans (h.2.2 r hr).1, (h2.2.2 r (h.2.2 r hr).2).2⟩⟩
def zQc (Γ : zC) (Q : Option zV → zC → zM → Prop) (A : Nat → Prop) : Array Value → State → Outcome → State → Prop := fun _ st oc t =>
  (∃ (r : Option zV) (Γ' : zC) (h' : zM), oc = .returned (r.map (zval Γ')) ∧ (∀ v, r = some v → zov Γ' v) ∧ Q r Γ' h' ∧ zext Γ Γ' ∧ zWd Γ' h' A t.heap t) ∧ va_F A st t
def zPc (Γ : zC) (h : zM) (args : List zV) (sz : Nat) : Array Value → State → Prop := va_Pc (args.map (zval Γ)) (fun U => U.heap.size = sz ∧ zWd Γ h (fun _ => True) U.heap U ∧ zSt Γ (zAO Γ sz) U)
def zCT (l : Launch) (M : zMI) (d mc ms : Nat) (Γ : zC) (args : List zV) (h : zM) (Q : Option zV → zC → zM → Prop) : Prop :=
  (∀ v, v ∈ args → zov Γ v) → ∀ sz : Nat, Met l M.1 (zwm M) (zrm d mc ms) (zPc Γ h args sz) (zQc Γ Q (zAO Γ sz)) mc ms (zAO Γ sz)
def zFn (l : Launch) (M : zMI) (d mc ms : Nat) (Γ : zC) (Q : Option zV → zC → zM → Prop) : zF :=
  (l, M, zrm d mc ms, fun s => zAO Γ s.heap.size, fun s args below => MQ below (zQc Γ Q (zAO Γ s.heap.size)) args s mc ms (zAO Γ s.heap.size))
def zent0 : List zV → List (Option zV)
  | [] => []
  | .inr (.inl x) :: vs => some (zL x) :: none :: zent0 vs
  | v :: vs => some v :: zent0 vs
def zent (args : List zV) (n : Nat) : List (Option zV) := zent0 args ++ List.replicate (n - (zent0 args).length) none
theorem zent0_at (Γ : zC) : ∀ (args : List zV) (o i : Nat) (v : zV), (zent0 args)[i]? = some (some v) → (o + i, zval Γ v) ∈ lv_args o (args.map (zval Γ)) := by
  intro args
  induction args with
  | nil => intro o i v h; simp [zent0] at h
  | cons a as ih =>
    intro o i v h
    rcases a with x | x | x
    · simp only [zent0] at h
      cases i with
      | zero => cases h; exact List.mem_cons_self
      | succ i =>
        have h1 := ih (o + 1) i v h
        refine List.mem_cons_of_mem _ ?_
        simp only [zcat1, show ¬ (1 : Nat) = 2 by decide, if_false]
        rw [show o + (i + 1) = o + 1 + i by omega]; exact h1
    · simp only [zent0] at h
      cases i with
      | zero => cases h; exact List.mem_cons_self
      | succ i =>
        cases i with
        | zero => cases h
        | succ i =>
          have h1 := ih (o + 2) i v h
          refine List.mem_cons_of_mem _ ?_
          simp only [zcatL, if_true]
          rw [show o + (i + 1 + 1) = o + 2 + i by omega]; exact h1
    · simp only [zent0] at h
      cases i with
      | zero => cases h; exact List.mem_cons_self
      | succ i =>
        have h1 := ih (o + 1) i v h
        refine List.mem_cons_of_mem _ ?_
        simp only [zcatR, show ¬ (1 : Nat) = 2 by decide, if_false]
        rw [show o + (i + 1) = o + 1 + i by omega]; exact h1
theorem zent0_len (Γ : zC) : ∀ (args : List zV), (zent0 args).length = (lg_sl (args.map (zval Γ))).length := by
  intro args
  induction args with
  | nil => rfl
  | cons a as ih =>
    rcases a with x | x | x
    · simp only [zent0, List.length_cons, ih, lg_sl, List.map_cons, List.flatMap_cons, zcat1, show ¬ (1 : Nat) = 2 by decide, if_false, List.length_append]; simp; omega
    · simp only [zent0, List.length_cons, ih, lg_sl, List.map_cons, List.flatMap_cons, zcatL, if_true, List.length_append]; simp; omega
    · simp only [zent0, List.length_cons, ih, lg_sl, List.map_cons, List.flatMap_cons, zcatR, show ¬ (1 : Nat) = 2 by decide, if_false, List.length_append]; simp; omega
theorem zent_mem : ∀ (args : List zV) (v : zV), some v ∈ zent0 args → v ∈ args := by
  intro args
  induction args with
  | nil => intro v h; simp [zent0] at h
  | cons a as ih =>
    intro v h
    rcases a with x | x | x <;> simp only [zent0, List.mem_cons] at h
    · rcases h with h | h
      · cases h; exact List.mem_cons_self
      · exact List.mem_cons_of_mem _ (ih v h)
    · rcases h with h | h | h
      · cases h; exact List.mem_cons_self
      · cases h
      · exact List.mem_cons_of_mem _ (ih v h)
    · rcases h with h | h
      · cases h; exact List.mem_cons_self
      · exact List.mem_cons_of_mem _ (ih v h)
/-- from the entry -/
theorem zCT_of {l : Launch} {M : zMI} {d mc ms : Nat} {Γ : zC} {args : List zV} {h : zM} {Q : Option zV → zC → zM → Prop} {ls : List (Option zV)} (hy : plainName M.1.cls = true) (hn : (zent0 args).length ≤ M.2.2.1) (he : zent args M.2.2.1 = ls)
    (kk : zG (zFn l M d mc ms Γ Q) 0 0 Γ h 0 ls []) (hx9 : zxt M.1 = [] := by exact if_neg (by decide)) : zCT l M d mc ms Γ args h Q := by
  intro hov sz
  refine Met.ofW (cc := M.2.1) (maxL := M.2.2.1) (ret := M.2.2.2) hy rfl ?_
  intro p e s m args9 below meth c s₁ B hml hv
  obtain ⟨rfl, hsz, ⟨hm, hP, hK, hD⟩, hSt⟩ := hv
  subst hsz
  have hts := atoms_spec (ws := zwm M) B.pre
  have htb : c.exceptionTable.toList = [] := by
    obtain ⟨meth9, c9, h1, h2, -, -, -, -, h7, -⟩ := Cond.code_spec B.named (hts _ List.mem_cons_self)
    cases Option.some.inj (h1.symm.trans B.method)
    cases Option.some.inj (h2.symm.trans (Stand.of_body B).code)
    rw [Array.isEmpty_iff.mp h7]
  have hl := lv_entry (args.map (zval Γ)) (n := M.2.2.1) (by rw [← zent0_len]; exact hn)
  rw [lg_entry_eq]
  have hloc : zloc Γ ((lg_sl (args.map (zval Γ)) ++ List.replicate (M.2.2.1 - (lg_sl (args.map (zval Γ))).length) Slot.unset).toArray) M.2.2.1 ls := by
    refine ⟨hl.1, hl.2.1, fun i v hi => ?_⟩
    rw [← he, zent, List.getElem?_append] at hi
    split at hi
    · have h1 := hl.2.2 _ (zent0_at Γ args 0 i v hi)
      simpa using h1
    · have h2 := List.mem_of_getElem? hi
      exact absurd (List.eq_of_mem_replicate h2) (by simp)
  have hlv : ∀ v, some v ∈ ls → zov Γ v := by
    intro v hv
    rw [← he, zent] at hv
    rcases List.mem_append.mp hv with h1 | h1
    · exact hov v (zent_mem _ _ h1)
    · exact absurd (List.eq_of_mem_replicate h1) (by simp)
  have hD2 : va_D (zAO Γ s.heap.size) (zws Γ h) := hD.weaken (fun k q hk _ => by
    unfold zws at hk
    rw [List.getElem?_map] at hk
    by_cases hlt : k < (zks Γ).length
    · rw [List.getElem?_range hlt] at hk
      cases hk
      exact Or.inl ⟨k, hlt, rfl⟩
    · rw [List.getElem?_eq_none (by simp; omega)] at hk
      cases hk)
  exact kk p e s m _ below meth c s.heap [] _ ⟨B.exec, B.bytes, B.returns, hml, findClass_of_methodNamed B.named, fun w hw => hts w (List.mem_cons_of_mem _ hw), B.notSynchronized, (name_of_methodNamed B.named B.method).1, htb.trans hx9.symm⟩ hloc hlv (fun v hv => by cases hv) ⟨hm, hP, hK, hD2⟩ va_S.rf ⟨fun q hq => Or.inr hq, hSt⟩
theorem zWd_t {Γ : zC} {h : zM} {A : Nat → Prop} {H : Heap} {s t : State} (hW : zWd Γ h A H s) (ht : t.heap = H) (hv : s.vm.Alike t.vm) : zWd Γ h A t.heap t := ⟨hW.1, by rw [ht]; exact hW.2.1, hW.2.2.1.moved hv, hW.2.2.2⟩
section ZRET
variable {l : Launch} {M : zMI} {d mc ms k n : Nat} {Γ0 Γ : zC} {Q : Option zV → zC → zM → Prop} {h : zM} {pc : Nat} {ls : List (Option zV)}
theorem z_ret (hd : decode M.2.1 pc = .ok (.return_, 1)) (hr : M.2.2.2 = none) (hk : k ≤ mc) (hn : n ≤ ms) (hx : zext Γ0 Γ) (hQ : Q none Γ h) : zG (zFn l M d mc ms Γ0 Q) k n Γ h pc ls [] := by
  intro p e s m args below meth c H locs lsr hB hl hlv hst hW hS hA
  refine W.widen hk hn ?_
  exact W.vret hB.1 hB.2.1 (hB.2.2.1.trans hr) (fun t ht hv => ⟨⟨none, Γ, h, rfl, (fun v q => by cases q), hQ, hx, zWd_t hW ht hv.alike⟩, hS.F ht⟩) hS.2.2 hd hB.2.2.2.2.2.2.1
theorem z_iret {x : Int} (hd : decode M.2.1 pc = .ok (.ireturn, 1)) (hr : M.2.2.2 = some .int) (hk : k ≤ mc) (hn : n ≤ ms) (hx : zext Γ0 Γ) (hQ : zo32 x → Q (some (zI x)) Γ h) : zG (zFn l M d mc ms Γ0 Q) k n Γ h pc ls [zI x] := by
  intro p e s m args below meth c H locs lsr hB hl hlv hst hW hS hA
  refine W.widen hk hn ?_
  exact W.iret (v := Int32.ofInt x) hB.1 hB.2.1 (hB.2.2.1.trans hr) (fun t ht hv => ⟨⟨some (zI x), Γ, h, rfl, fun v q => by cases q; exact zvh hst, hQ (zvh hst), hx, zWd_t hW ht hv.alike⟩, hS.F ht⟩) hS.2.2 hd hB.2.2.2.2.2.2.1
theorem z_zret {x : Int} (hd : decode M.2.1 pc = .ok (.ireturn, 1)) (hr : M.2.2.2 = some .boolean) (hk : k ≤ mc) (hn : n ≤ ms) (hx : zext Γ0 Γ) (h01 : x = 0 ∨ x = 1) (hQ : Q (some (zI x)) Γ h) : zG (zFn l M d mc ms Γ0 Q) k n Γ h pc ls [zI x] := by
  intro p e s m args below meth c H locs lsr hB hl hlv hst hW hS hA
  refine W.widen hk hn ?_
  exact W.zret (v := Int32.ofInt x) hB.1 hB.2.1 (hB.2.2.1.trans hr) (by rcases h01 with rfl | rfl <;> rfl) (fun t ht hv => ⟨⟨some (zI x), Γ, h, rfl, fun v q => by cases q; exact zvh hst, hQ, hx, zWd_t hW ht hv.alike⟩, hS.F ht⟩) hS.2.2 hd hB.2.2.2.2.2.2.1
theorem z_lret {x : Int} (hd : decode M.2.1 pc = .ok (.lreturn, 1)) (hr : M.2.2.2 = some .long) (hk : k ≤ mc) (hn : n ≤ ms) (hx : zext Γ0 Γ) (hQ : zo64 x → Q (some (zL x)) Γ h) : zG (zFn l M d mc ms Γ0 Q) k n Γ h pc ls [zL x] := by
  intro p e s m args below meth c H locs lsr hB hl hlv hst hW hS hA
  refine W.widen hk hn ?_
  exact W.lret (v := Int64.ofInt x) hB.1 hB.2.1 (hB.2.2.1.trans hr) (fun t ht hv => ⟨⟨some (zL x), Γ, h, rfl, fun v q => by cases q; exact zvh hst, hQ (zvh hst), hx, zWd_t hW ht hv.alike⟩, hS.F ht⟩) hS.2.2 hd hB.2.2.2.2.2.2.1
theorem z_aret {x : Nat} {ty : FieldType} (hd : decode M.2.1 pc = .ok (.areturn, 1)) (hr : M.2.2.2 = some ty) (hty : (∃ n, ty = .object n) ∨ ∃ t, ty = .array t) (hk : k ≤ mc) (hn : n ≤ ms) (hx : zext Γ0 Γ) (hQ : Q (some (zR x)) Γ h) : zG (zFn l M d mc ms Γ0 Q) k n Γ h pc ls [zR x] := by
  intro p e s m args below meth c H locs lsr hB hl hlv hst hW hS hA
  refine W.widen hk hn ?_
  exact W.aret (v := zrf Γ x) hB.1 hB.2.1 (hB.2.2.1.trans hr) hty (by unfold zrf; split; exact Or.inl rfl; exact Or.inr ⟨_, rfl⟩) (fun t ht hv => ⟨⟨some (zR x), Γ, h, rfl, fun v q => by cases q; exact zvh hst, hQ, hx, zWd_t hW ht hv.alike⟩, hS.F ht⟩) hS.2.2 hd hB.2.2.2.2.2.2.1
end ZRET
def zct (v : zV) : Nat := match v with | .inr (.inl _) => 2 | _ => 1
theorem zct_c (Γ : zC) (v : zV) : (zval Γ v).category = zct v := by
  rcases v with x | x | x
  · rfl
  · rfl
  · exact zcatR Γ x
theorem zct_s (Γ : zC) (st : List zV) : ((st.map (zval Γ)).map fun v => v.category).sum = (st.map zct).sum := by
  induction st with
  | nil => rfl
  | cons a as ih => simp only [List.map_cons, List.sum_cons, zct_c, ih]
def zres (r : Option zV) (st : List zV) : List zV := match r with
  | some v => v :: st
  | none => st
theorem zext_v {Γ Γ' : zC} (hx : zext Γ Γ') {v : zV} (hv : zov Γ v) : zval Γ' v = zval Γ v ∧ zov Γ' v := by
  rcases v with x | x | x
  · exact ⟨rfl, hv⟩
  · exact ⟨rfl, hv⟩
  · have := hx.2.2 x hv
    refine ⟨?_, this.2⟩
    show zrf Γ' x = zrf Γ x
    unfold zrf
    rw [this.1]
theorem zext_l {Γ Γ' : zC} (hx : zext Γ Γ') {st : List zV} (hv : ∀ v, v ∈ st → zov Γ v) : st.map (zval Γ') = st.map (zval Γ) ∧ ∀ v, v ∈ st → zov Γ' v :=
  ⟨List.map_congr_left fun v h => (zext_v hx (hv v h)).1, fun v h => (zext_v hx (hv v h)).2⟩
/-- what the tables say of a call's name: who calls, the entry, the method, how many words it takes -/
def zLnk (own : String) (idx : Nat) (M : zMI) (na : Nat) : Prop := Cond.methodLink own idx M.1 ∈ zTB ∧ Cond.initialized M.1.cls ∈ zTB ∧ Cond.code M.1 M.2.1 M.2.2.1 M.2.2.2 ∈ zTB ∧ M.1.cls ≠ "java/lang/invoke/MethodHandle" ∧ M.1.cls ≠ "java/lang/invoke/VarHandle" ∧ (parseMethodDescriptor M.1.desc).map (fun d => d.parameters.length) = some na
theorem zgood {w : Cond} (h : w ∈ zTB) : goodWord w = true := (List.mem_filter.mp h).2
theorem zGI {M : zMI} (h : Cond.code M.1 M.2.1 M.2.2.1 M.2.2.2 ∈ zTB) : GoodIn zTB (zwm M) := fun w hw => by
  rcases List.mem_cons.mp hw with rfl | hw
  · exact ⟨h, good_of_word (zgood h)⟩
  · exact ⟨hw, good_of_word (zgood hw)⟩
section ZCALL
variable {F : zF} {k n : Nat} {Γ : zC} {h : zM} {pc : Nat} {ls : List (Option zV)} {rest : List zV}
theorem z_callg {M : zMI} {d mc ms : Nat} {Q : Option zV → zC → zM → Prop} {args : List zV} {st : List zV}
    (hrun : ∀ (p : Program) (e : Env) (s : State) (m : MethodId) (args9 : Array Value) (below : List Frame) (meth : Method) (c : Code) (H : Heap) (locs : List Loc) (lsr : Array Slot), zB F p s m args9 meth c → zloc Γ lsr F.2.1.2.2.1 ls → zWd Γ h (F.2.2.2.1 s) H s → (∀ U : State, U.heap = H → s.WarmedH U.vm → zSt Γ (zAO Γ H.size) U) → Met F.1 M.1 (zwm M) (zrm d mc ms) (zPc Γ h args H.size) (zQc Γ Q (zAO Γ H.size)) mc ms (zAO Γ H.size) →
      va_Run p F.1 e F.2.2.1 s m args9 below meth c H locs k n mc ms (F0 m pc lsr (st.map (zval Γ))) (rest.map (zval Γ)) (zQc Γ Q (zAO Γ H.size) (args.map (zval Γ)).toArray) (zAO Γ H.size))
    (hsto : (∀ v, v ∈ st → zov Γ v) → (∀ v, v ∈ args → zov Γ v) ∧ ∀ v, v ∈ rest → zov Γ v)
    (hC : zCT F.1 M d mc ms Γ args h Q) (hq : ∀ r Γ' h', zext Γ Γ' → Q r Γ' h' → zG F (k + mc) (n + ms) Γ' h' (pc + 3) ls (zres r rest)) : zG F k n Γ h pc ls st := by
  intro p e s m args9 below meth c H locs lsr hB hl hlv hst hW hS hA T hT X
  obtain ⟨hov, hro⟩ := hsto hst
  have hsub : ∀ q, zAO Γ H.size q → F.2.2.2.1 s q := by
    intro q hq1
    rcases hq1 with ⟨k9, hk9, rfl⟩ | hq1
    · have h9 := zws_at (Γ := Γ) h (r := k9 + 1) (q := (zks Γ)[k9]) (by show (zks Γ)[k9]? = _; rw [List.getElem?_eq_getElem hk9])
      exact hW.2.2.2.2 _ _ h9
    · exact hA.1 q (Nat.le_trans hS.1 hq1)
  obtain ⟨v, st₀, t, T', L, h0, X', hL, e1, e2, ⟨⟨r, Γ', h', hret, hrv, hQr, hx, hWt⟩, hz, hk⟩, hgo⟩ := hrun p e s m args9 below meth c H locs lsr hB hl hW (fun U hU hw => by
    obtain ⟨sL, aL, a1, a2, a3, a4, a5, a6⟩ := hA.2
    exact ⟨sL, aL, a1, a2, State.WarmedH.trans a3 hw, by rw [hU]; exact Nat.le_trans a4 hS.1, fun q hq => ⟨fun z => (a5 q hq).1 (hsub q z), by rw [hU, hS.2.1 q (Nat.lt_of_lt_of_le hq a4) (a5 q hq).1]; exact (a5 q hq).2⟩, a6⟩) (hC hov H.size) T hT X
  rw [h0] at hz hk
  have hA' : (∀ q, s.heap.size ≤ q → F.2.2.2.1 s q) ∧ zSt Γ' (F.2.2.2.1 s) s := ⟨hA.1, by
    obtain ⟨sL, aL, a1, a2, a3, a4, a5, a6⟩ := hA.2
    exact ⟨sL, aL, a1, a2, a3, a4, a5, zSs_ad (fun i hi => (hx.2.2 i (Or.inr hi)).1) a6⟩⟩
  have hvm : t.vm.Alike s.vm := by rw [← e2]; exact X'.warmed.alike.symm
  have hT' : T'.heap = t.heap := e1
  have hWs : zWd Γ' h' (F.2.2.2.1 s) T'.heap s := ⟨hWt.1, by rw [e1]; exact hWt.2.1, hWt.2.2.1.moved hvm, hWt.2.2.2.weaken (fun _ q _ h9 => hsub _ h9)⟩
  have hS' : va_S (F.2.2.2.1 s) s.heap T'.heap (locs ++ L) := ⟨Nat.le_trans hS.1 (by rw [e1]; exact hz), fun q h1 h2 => by
      rw [e1, hk q (Nat.lt_of_lt_of_le h1 hS.1) (fun z => h2 (hsub q z))]; exact hS.2.1 q h1 h2, fun q hq1 => by
      rcases List.mem_append.mp hq1 with h9 | h9
      · exact hS.2.2 q h9
      · exact hsub _ (hL q h9)⟩
  have hl' : zloc Γ' lsr F.2.1.2.2.1 ls := ⟨hl.1, hl.2.1, fun i v hi => by rw [(zext_v hx (hlv v (List.mem_of_getElem? hi))).1]; exact hl.2.2 i v hi⟩
  obtain ⟨em, ho'⟩ := zext_l hx hro
  have hst' : ∀ v, v ∈ zres r rest → zov Γ' v := by
    cases r with
    | none => exact ho'
    | some v => exact zv2 (hrv v rfl) ho'
  have es : v.toList ++ rest.map (zval Γ) = (zres r rest).map (zval Γ') := by
    cases hret
    cases r with
    | none => simp [zres, em]
    | some v => simp [zres, em]
  obtain ⟨t2, a1, b1⟩ := hq r Γ' h' hx hQr p e s m args9 below meth c T'.heap (locs ++ L) lsr hB hl' (fun v hv => (zext_v hx (hlv v hv)).2) hst' hWs hS' hA' T' rfl X'
  refine ⟨t2, hgo t2 ?_, b1⟩
  rw [es]
  exact a1
theorem zPc_blind (Γ : zC) (h : zM) (args : List zV) (sz : Nat) : FrameBlind (zPc Γ h args sz) := fun a U g mk q => by
  obtain ⟨q0, q1, ⟨q2, qP, qK, qD⟩, qS⟩ := q
  exact ⟨q0, q1, ⟨q2, qP, va_K.moved (u := U) (U := U.calling g mk a) (Vm.Alike.refl U.vm) qK, qD⟩, qS⟩
theorem zPc_at {Γ : zC} {h : zM} {args : List zV} {A : Nat → Prop} {H : Heap} {s : State} (hW : zWd Γ h A H s) (hU9 : ∀ U : State, U.heap = H → s.WarmedH U.vm → zSt Γ (zAO Γ H.size) U) : ∀ U : State, U.heap = H → s.WarmedH U.vm → zPc Γ h args H.size (args.map (zval Γ)).toArray U := fun U hU hw =>
  ⟨rfl, by rw [hU], ⟨hW.1, by rw [hU]; exact hW.2.1, hW.2.2.1.moved hw.alike, hW.2.2.2.weaken (fun _ _ _ _ => trivial)⟩, hU9 U hU hw⟩
theorem z_callV {M : zMI} {d mc ms idx r ci na : Nat} {Q : Option zV → zC → zM → Prop} {args : List zV} (hd : decode F.2.1.2.1 pc = .ok (.invokevirtual idx, 3)) (hL : zLnk F.2.1.1.cls idx M na) (hI : Cond.instanceMethod M.1 ∈ zTB) (hsl : Cond.selects M.1.cls M.1 M.1 ∈ zTB)
    (hk : zkd Γ r = some (.inl ci)) (hci : ci < 10) (hcn : zCn ci = M.1.cls) (hna : args.length = na) (hcat : (rest.map zct).sum ≤ 8) (hR : d + 1 ≤ F.2.2.1.frames ∧ 8 + (M.2.2.1 + 11) + 40 * d ≤ F.2.2.1.locals) (hf : k + mc ≤ F.2.2.1.cells ∧ n + ms ≤ F.2.2.1.slots)
    (hC : zCT F.1 M d mc ms Γ (zR r :: args) h Q) (hq : ∀ r' Γ' h', zext Γ Γ' → Q r' Γ' h' → zG F (k + mc) (n + ms) Γ' h' (pc + 3) ls (zres r' rest)) : zG F k n Γ h pc ls (args.reverse ++ zR r :: rest) := by
  refine z_callg (args := zR r :: args) (rest := rest) ?_ (fun hst => ⟨zv2 (hst _ (by simp)) fun v hv => hst v (by simp [hv]), fun v hv => hst v (by simp [hv])⟩) hC hq
  intro p e s m args9 below meth c H locs lsr hB hl hW hU9 hM
  obtain ⟨hL1, hL2, hL3, hL4, hL5, hL6⟩ := hL
  have hts := hB.2.2.2.2.2.1
  have hcw : CallW F.2.2.1 s args9 F.2.1.1.cls M.1.cls idx M.1 M.2.1 M.2.2.1 M.2.2.2 (zwm M) (zrm d mc ms) mc ms na :=
    ⟨callB_of na hts (zGI hL3) rfl rfl rfl (hts _ hL2) (hts _ hL1) ⟨hL4, hL5, hL6⟩ hR, hts _ hI, hts _ hsl⟩
  have hrun := va_runV (p := p) (l := F.1) (e := e) (R := F.2.2.1) (s := s) (m := m) (args := args9) (below := below) (meth := meth) (c := c) (H := H) (locs := locs) (cells := k) (slots := n) (As := args.map (zval Γ)) (rest := rest.map (zval Γ)) (b := zad Γ r)
    ⟨hB.1, hB.2.1, hB.2.2.2.1, hB.2.2.2.2.1, hts⟩ hM hcw ⟨zPc_blind _ _ _ _, by rw [← hcn]; exact va_recv hW.2.2.1 hW.2.1 (zcl_at ci hci) (zws_at h hk), fun U hU hw => by
      have h9 := zPc_at (args := zR r :: args) hW hU9 U hU hw
      rw [List.map_cons, zref hk] at h9
      exact h9⟩ (g := F0 m pc lsr ((args.reverse ++ zR r :: rest).map (zval Γ))) rfl (by rw [List.length_map, hna]) hl.1 (by rw [List.map_append, List.map_cons, zref hk, List.map_reverse]) (lv_room (by rw [zct_s]; exact hcat)) hd hf
  rw [List.map_cons, zref hk]
  exact hrun
theorem z_callS {M : zMI} {d mc ms idx na : Nat} {Q : Option zV → zC → zM → Prop} {args : List zV} (hd : decode F.2.1.2.1 pc = .ok (.invokestatic idx, 3)) (hL : zLnk F.2.1.1.cls idx M na) (hI : Cond.static M.1 ∈ zTB)
    (hna : args.length = na) (hcat : (rest.map zct).sum ≤ 8) (hR : d + 1 ≤ F.2.2.1.frames ∧ 8 + (M.2.2.1 + 11) + 40 * d ≤ F.2.2.1.locals) (hf : k + mc ≤ F.2.2.1.cells ∧ n + ms ≤ F.2.2.1.slots)
    (hC : zCT F.1 M d mc ms Γ args h Q) (hq : ∀ r' Γ' h', zext Γ Γ' → Q r' Γ' h' → zG F (k + mc) (n + ms) Γ' h' (pc + 3) ls (zres r' rest)) : zG F k n Γ h pc ls (args.reverse ++ rest) := by
  refine z_callg (args := args) (rest := rest) ?_ (fun hst => ⟨fun v hv => hst v (by simp [hv]), fun v hv => hst v (by simp [hv])⟩) hC hq
  intro p e s m args9 below meth c H locs lsr hB hl hW hU9 hM
  obtain ⟨hL1, hL2, hL3, hL4, hL5, hL6⟩ := hL
  have hts := hB.2.2.2.2.2.1
  exact va_runS (p := p) (l := F.1) (e := e) (R := F.2.2.1) (s := s) (m := m) (args := args9) (below := below) (meth := meth) (c := c) (H := H) (locs := locs) (cells := k) (slots := n) (As := args.map (zval Γ)) (rest := rest.map (zval Γ))
    ⟨hB.1, hB.2.1, hB.2.2.2.1, hB.2.2.2.2.1, hts⟩ hM ⟨callB_of na hts (zGI hL3) rfl rfl rfl (hts _ hL2) (hts _ hL1) ⟨hL4, hL5, hL6⟩ hR, hts _ hI⟩ ⟨zPc_blind _ _ _ _, zPc_at hW hU9⟩
    (g := F0 m pc lsr ((args.reverse ++ rest).map (zval Γ))) rfl (by rw [List.length_map, hna]) hl.1 (by rw [List.map_append, List.map_reverse]) (lv_room (by rw [zct_s]; exact hcat)) hd hf
theorem z_callI {M : zMI} {d mc ms idx r ci na : Nat} {Q : Option zV → zC → zM → Prop} {args : List zV} (hd : decode F.2.1.2.1 pc = .ok (.invokespecial idx, 3)) (hL : zLnk F.2.1.1.cls idx M na) (hI : Cond.instanceMethod M.1 ∈ zTB) (hn : M.1.name = "<init>") (hret : M.2.2.2 = none)
    (hk : zkd Γ r = some (.inl ci)) (hna : args.length = na) (hcat : (rest.map zct).sum ≤ 8) (hR : d + 1 ≤ F.2.2.1.frames ∧ 8 + (M.2.2.1 + 11) + 40 * d ≤ F.2.2.1.locals) (hf : k + mc ≤ F.2.2.1.cells ∧ n + ms ≤ F.2.2.1.slots)
    (hC : zCT F.1 M d mc ms Γ (zR r :: args) h Q) (hq : ∀ r' Γ' h', zext Γ Γ' → Q r' Γ' h' → zG F (k + mc) (n + ms) Γ' h' (pc + 3) ls (zres r' rest)) : zG F k n Γ h pc ls (args.reverse ++ zR r :: rest) := by
  refine z_callg (args := zR r :: args) (rest := rest) ?_ (fun hst => ⟨zv2 (hst _ (by simp)) fun v hv => hst v (by simp [hv]), fun v hv => hst v (by simp [hv])⟩) hC hq
  intro p e s m args9 below meth c H locs lsr hB hl hW hU9 hM
  obtain ⟨hL1, hL2, hL3, hL4, hL5, hL6⟩ := hL
  have hts := hB.2.2.2.2.2.1
  rw [hret] at hL3
  have hrun := va_runI (p := p) (l := F.1) (e := e) (R := F.2.2.1) (s := s) (m := m) (args := args9) (below := below) (meth := meth) (c := c) (H := H) (locs := locs) (cells := k) (slots := n) (As := args.map (zval Γ)) (rest := rest.map (zval Γ)) (b := zad Γ r) (bytes := M.2.1) (maxL := M.2.2.1)
    ⟨hB.1, hB.2.1, hB.2.2.2.1, hB.2.2.2.2.1, hts⟩ hM ⟨callB_of na hts (zGI (M := M) (by rw [hret]; exact hL3)) (by rw [← hret]; rfl) rfl rfl (hts _ hL2) (hts _ hL1) ⟨hL4, hL5, hL6⟩ hR, hn, hts _ hI⟩ ⟨zPc_blind _ _ _ _, fun U hU hw => by
      have h9 := zPc_at (args := zR r :: args) hW hU9 U hU hw
      rw [List.map_cons, zref hk] at h9
      exact h9⟩ (g := F0 m pc lsr ((args.reverse ++ zR r :: rest).map (zval Γ))) rfl (by rw [List.length_map, hna]) hl.1 (by rw [List.map_append, List.map_cons, zref hk, List.map_reverse]) (lv_room (by rw [zct_s]; exact hcat)) hd hf
  rw [List.map_cons, zref hk]
  exact hrun
end ZCALL
