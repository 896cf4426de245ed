/-! the law's own taboo: caught or not -/
def mLT : zMI := (yL_taboo, cL_taboo, 5, some .int)
def zFl (l : Launch) (d mc ms : Nat) (Γ : zC) (Q : Option zV → zC → zM → Prop) : zF :=
  (l, mLT, zrm d mc ms, fun s => zAO Γ s.heap.size, fun s args below => vx_MQ below (zQc Γ Q (zAO Γ s.heap.size)) (fun _ _ _ => False) args s mc ms (zAO Γ s.heap.size))
def zLT (l : Launch) (d mc ms : Nat) (Γ : zC) (args : List zV) (h : zM) (Q : Option zV → zC → zM → Prop) : Prop :=
  (∀ v, v ∈ args → zov Γ v) → ∀ sz : Nat, vx_Met l yL_taboo (Cond.codeWith yL_taboo cL_taboo 5 (some .int) [(0, 10, 13, 13)] :: zTB) (zrm d mc ms) (zPc Γ h args sz) (zQc Γ Q (zAO Γ sz)) (fun _ _ _ => False) mc ms (zAO Γ sz)
theorem zLT_of {l : Launch} {d mc ms : Nat} {Γ : zC} {args : List zV} {h : zM} {Q : Option zV → zC → zM → Prop} {ls : List (Option zV)} (hn : (zent0 args).length ≤ 5) (he : zent args 5 = ls)
    (kk : zG (zFl l d mc ms Γ Q) 0 0 Γ h 0 ls []) : zLT l d mc ms Γ args h Q := by
  intro hov sz
  refine vx_ofWH (cc := cL_taboo) (maxL := 5) (ret := some .int) (hh := [(0, 10, 13, 13)]) (by decide) rfl ?_
  intro p e s m args9 below meth c s₁ B hml hv
  obtain ⟨rfl, hsz, ⟨hm, hP, hK, hD⟩, hSt⟩ := hv
  subst hsz
  have hts := atoms_spec (ws := Cond.codeWith yL_taboo cL_taboo 5 (some .int) [(0, 10, 13, 13)] :: zTB) B.pre
  have htb : c.exceptionTable.toList = tableOf [(0, 10, 13, 13)] := vx_table (x := yL_taboo) B (hts _ List.mem_cons_self)
  have hl := lv_entry (args.map (zval Γ)) (n := 5) (by rw [← zent0_len]; exact hn)
  rw [lg_entry_eq]
  have hloc : zloc Γ ((lg_sl (args.map (zval Γ)) ++ List.replicate (5 - (lg_sl (args.map (zval Γ))).length) Slot.unset).toArray) 5 ls := by
    refine ⟨hl.1, hl.2.1, fun i v hi => ?_⟩
    rw [← he, zent, List.getElem?_append] at hi
    split at hi
    · have h1 := hl.2.2 _ (zent0_at Γ args 0 i v hi)
      simpa using h1
    · have h2 := List.mem_of_getElem? hi
      exact absurd (List.eq_of_mem_replicate h2) (by simp)
  have hlv : ∀ v, some v ∈ ls → zov Γ v := by
    intro v hv
    rw [← he, zent] at hv
    rcases List.mem_append.mp hv with h1 | h1
    · exact hov v (zent_mem _ _ h1)
    · exact absurd (List.eq_of_mem_replicate h1) (by simp)
  have hD2 : va_D (zAO Γ s.heap.size) (zws Γ h) := hD.weaken (fun k q hk _ => by
    unfold zws at hk
    rw [List.getElem?_map] at hk
    by_cases hlt : k < (zks Γ).length
    · rw [List.getElem?_range hlt] at hk
      cases hk
      exact Or.inl ⟨k, hlt, rfl⟩
    · rw [List.getElem?_eq_none (by simp; omega)] at hk
      cases hk)
  exact kk p e s m _ below meth c s.heap [] _ ⟨B.exec, B.bytes, B.returns, hml, findClass_of_methodNamed B.named, fun w hw => hts w (List.mem_cons_of_mem _ hw), B.notSynchronized, (name_of_methodNamed B.named B.method).1, Or.inr ⟨rfl, fun _ => htb⟩⟩ hloc hlv (fun v hv => by cases hv) ⟨hm, hP, hK, hD2⟩ va_S.rf ⟨fun q hq => Or.inr hq, hSt⟩
theorem zG_retl {l : Launch} {d mc ms k n : Nat} {Γ0 Γ : zC} {h : zM} {Q : Option zV → zC → zM → Prop} {pc : Nat} {ls : List (Option zV)} {st : List zV} (kk : zG (zFn l mLT d mc ms Γ0 Q) k n Γ h pc ls st) : zG (zFl l d mc ms Γ0 Q) k n Γ h pc ls st := by
  intro p e s m args below meth c H locs lsr hB hl hlv hst hW hS hA
  exact vx_ret (kk p e s m args below meth c H locs lsr hB hl hlv hst hW hS hA)
/-- the address caught goes into a place of its own, and is forgotten -/
theorem z_drop4 {F : zF} {k n : Nat} {Γ : zC} {h : zM} {pc : Nat} {a0 a1 a2 a3 : Option zV} {p : Program} {e : Env} {s : State} {m : MethodId} {args : Array Value} {below : List Frame} {meth : Method} {c : Code} {H : Heap} {locs : List Loc} {lsr : Array Slot} {q : Nat} {y : Option zV} (hd : decode F.2.1.2.1 pc = .ok (.astore 4, 2)) (hn : 4 < F.2.1.2.2.1) (hp : zpk a3 = true) (hB : zB F p s m args meth c) (hl : zloc Γ lsr F.2.1.2.2.1 [a0, a1, a2, a3, y])
    (kk : ∀ lsr' : Array Slot, zloc Γ lsr' F.2.1.2.2.1 [a0, a1, a2, a3, none] → W p F.1 e F.2.2.1 s m args below meth c H locs k n (F.2.2.2.2 s args below) (F0 m (pc + 2) lsr' [])) : W p F.1 e F.2.2.1 s m args below meth c H locs k n (F.2.2.2.2 s args below) (F0 m pc lsr [.ref q]) := by
  obtain ⟨lv, hh, hm⟩ := zloc_st hl
  refine lv_astore hB.1 hB.2.1 hd hh hn rfl (fun lsr' hl2 => kk lsr' ?_)
  refine ⟨hl2.1, hl2.2.1, fun j w hj => ?_⟩
  have hj4 : j < 4 ∧ [a0, a1, a2, a3, y][j]? = some (some w) := by
    rcases (show j = 0 ∨ j = 1 ∨ j = 2 ∨ j = 3 ∨ j = 4 ∨ 5 ≤ j by omega) with rfl | rfl | rfl | rfl | rfl | h5
    · exact ⟨by omega, hj⟩
    · exact ⟨by omega, hj⟩
    · exact ⟨by omega, hj⟩
    · exact ⟨by omega, hj⟩
    · cases hj
    · rw [List.getElem?_eq_none (by simpa using h5)] at hj; cases hj
  refine hl2.2.2 (j, zval Γ w) (List.mem_cons_of_mem _ (List.mem_filter.mpr ⟨hm j w hj4.2, ?_⟩))
  have n4 : (j == 4) = false := by simp; omega
  by_cases e3 : j = 3
  · subst e3
    have ew : a3 = some w := Option.some.inj hj4.2
    have hc : ¬ (zval Γ w).category = 2 := fun hc => by rw [ew, zcat_of hc] at hp; cases hp
    simp [hc]
  · have n3 : (j + 1 == 4) = false := by simp; omega
    simp [n4, n3]
