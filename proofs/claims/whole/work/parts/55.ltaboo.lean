/-! the law's own taboo: caught or not -/
theorem zxt_L : zxt yL_taboo = tableOf [(0, 10, 13, 13)] := if_pos (by decide)
def mLT : zMI := (yL_taboo, cL_taboo, 5, some .int)
def zFl (l : Launch) (d mc ms : Nat) (Γ : zC) (Q : Option zV → zC → zM → Prop) : zF :=
  (l, mLT, zrm d mc ms, fun s => zAO Γ s.heap.size, fun s args below => vx_MQ below (zQc Γ Q (zAO Γ s.heap.size)) (fun _ _ _ => False) args s mc ms (zAO Γ s.heap.size))
def zLT (l : Launch) (d mc ms : Nat) (Γ : zC) (args : List zV) (h : zM) (Q : Option zV → zC → zM → Prop) : Prop :=
  (∀ v, v ∈ args → zov Γ v) → ∀ sz : Nat, vx_Met l yL_taboo (Cond.codeWith yL_taboo cL_taboo 5 (some .int) [(0, 10, 13, 13)] :: zTB) (zrm d mc ms) (zPc Γ h args sz) (zQc Γ Q (zAO Γ sz)) (fun _ _ _ => False) mc ms (zAO Γ sz)
theorem zLT_of {l : Launch} {d mc ms : Nat} {Γ : zC} {args : List zV} {h : zM} {Q : Option zV → zC → zM → Prop} {ls : List (Option zV)} (hn : (zent0 args).length ≤ 5) (he : zent args 5 = ls)
    (kk : zG (zFl l d mc ms Γ Q) 0 0 Γ h 0 ls []) : zLT l d mc ms Γ args h Q := by
  intro hov sz
  refine vx_ofWH (cc := cL_taboo) (maxL := 5) (ret := some .int) (hh := [(0, 10, 13, 13)]) (by decide) rfl ?_
  intro p e s m args9 below meth c s₁ B hml hv
  obtain ⟨rfl, hsz, ⟨hm, hP, hK, hD⟩, hSt⟩ := hv
  subst hsz
  have hts := atoms_spec (ws := Cond.codeWith yL_taboo cL_taboo 5 (some .int) [(0, 10, 13, 13)] :: zTB) B.pre
  have htb : c.exceptionTable.toList = tableOf [(0, 10, 13, 13)] := vx_table (x := yL_taboo) B (hts _ List.mem_cons_self)
  have hl := lv_entry (args.map (zval Γ)) (n := 5) (by rw [← zent0_len]; exact hn)
  rw [lg_entry_eq]
  have hloc : zloc Γ ((lg_sl (args.map (zval Γ)) ++ List.replicate (5 - (lg_sl (args.map (zval Γ))).length) Slot.unset).toArray) 5 ls := by
    refine ⟨hl.1, hl.2.1, fun i v hi => ?_⟩
    rw [← he, zent, List.getElem?_append] at hi
    split at hi
    · have h1 := hl.2.2 _ (zent0_at Γ args 0 i v hi)
      simpa using h1
    · have h2 := List.mem_of_getElem? hi
      exact absurd (List.eq_of_mem_replicate h2) (by simp)
  have hlv : ∀ v, some v ∈ ls → zov Γ v := by
    intro v hv
    rw [← he, zent] at hv
    rcases List.mem_append.mp hv with h1 | h1
    · exact hov v (zent_mem _ _ h1)
    · exact absurd (List.eq_of_mem_replicate h1) (by simp)
  have hD2 : va_D (zAO Γ s.heap.size) (zws Γ h) := hD.weaken (fun k q hk _ => by
    unfold zws at hk
    rw [List.getElem?_map] at hk
    by_cases hlt : k < (zks Γ).length
    · rw [List.getElem?_range hlt] at hk
      cases hk
      exact Or.inl ⟨k, hlt, rfl⟩
    · rw [List.getElem?_eq_none (by simp; omega)] at hk
      cases hk)
  exact kk p e s m _ below meth c s.heap [] _ ⟨B.exec, B.bytes, B.returns, hml, findClass_of_methodNamed B.named, fun w hw => hts w (List.mem_cons_of_mem _ hw), B.notSynchronized, (name_of_methodNamed B.named B.method).1, htb.trans zxt_L.symm⟩ hloc hlv (fun v hv => by cases hv) ⟨hm, hP, hK, hD2⟩ va_S.rf ⟨fun q hq => Or.inr hq, hSt⟩
theorem zG_retl {l : Launch} {d mc ms k n : Nat} {Γ0 Γ : zC} {h : zM} {Q : Option zV → zC → zM → Prop} {pc : Nat} {ls : List (Option zV)} {st : List zV} (kk : zG (zFn l mLT d mc ms Γ0 Q) k n Γ h pc ls st) : zG (zFl l d mc ms Γ0 Q) k n Γ h pc ls st := by
  intro p e s m args below meth c H locs lsr hB hl hlv hst hW hS hA
  exact vx_ret (kk p e s m args below meth c H locs lsr hB hl hlv hst hW hS hA)
/-- the address caught goes into a place of its own, and is forgotten -/
theorem z_drop4 {F : zF} {k n : Nat} {Γ : zC} {h : zM} {pc : Nat} {a0 a1 a2 a3 : Option zV} {p : Program} {e : Env} {s : State} {m : MethodId} {args : Array Value} {below : List Frame} {meth : Method} {c : Code} {H : Heap} {locs : List Loc} {lsr : Array Slot} {q : Nat} {y : Option zV} (hd : decode F.2.1.2.1 pc = .ok (.astore 4, 2)) (hn : 4 < F.2.1.2.2.1) (hp : zpk a3 = true) (hB : zB F p s m args meth c) (hl : zloc Γ lsr F.2.1.2.2.1 [a0, a1, a2, a3, y])
    (kk : ∀ lsr' : Array Slot, zloc Γ lsr' F.2.1.2.2.1 [a0, a1, a2, a3, none] → W p F.1 e F.2.2.1 s m args below meth c H locs k n (F.2.2.2.2 s args below) (F0 m (pc + 2) lsr' [])) : W p F.1 e F.2.2.1 s m args below meth c H locs k n (F.2.2.2.2 s args below) (F0 m pc lsr [.ref q]) := by
  obtain ⟨lv, hh, hm⟩ := zloc_st hl
  refine lv_astore hB.1 hB.2.1 hd hh hn rfl (fun lsr' hl2 => kk lsr' ?_)
  refine ⟨hl2.1, hl2.2.1, fun j w hj => ?_⟩
  have hj4 : j < 4 ∧ [a0, a1, a2, a3, y][j]? = some (some w) := by
    rcases (show j = 0 ∨ j = 1 ∨ j = 2 ∨ j = 3 ∨ j = 4 ∨ 5 ≤ j by omega) with rfl | rfl | rfl | rfl | rfl | h5
    · exact ⟨by omega, hj⟩
    · exact ⟨by omega, hj⟩
    · exact ⟨by omega, hj⟩
    · exact ⟨by omega, hj⟩
    · cases hj
    · rw [List.getElem?_eq_none (by simpa using h5)] at hj; cases hj
  refine hl2.2.2 (j, zval Γ w) (List.mem_cons_of_mem _ (List.mem_filter.mpr ⟨hm j w hj4.2, ?_⟩))
  have n4 : (j == 4) = false := by simp; omega
  by_cases e3 : j = 3
  · subst e3
    have ew : a3 = some w := Option.some.inj hj4.2
    have hc : ¬ (zval Γ w).category = 2 := fun hc => by rw [ew, zcat_of hc] at hp; cases hp
    simp [hc]
  · have n3 : (j + 1 == 4) = false := by simp; omega
    simp [n4, n3]
theorem znsC : Cond.castable zNS zNS ∈ zNSw := by decide +kernel
theorem znsK : Cond.classLink RL 13 zNS ∈ zTB := by decide +kernel
set_option maxHeartbeats 1000000 in
theorem z_tbC {l : Launch} {Γ0 Γ : zC} {Q : Option zV → zC → zM → Prop} {QX : Prop} {h : zM} {a b : Int} {a0 a1 a2 a3 y : Option zV} (hΓ : zBase Γ) (hp3 : zpk a3 = true)
    (hC : zXT l mX8_taboo 10 1 6 Γ [zR 1, zI a, zI b] h (fun r' Γ' h' => zext Γ Γ' → zG (zFl l 11 1 6 Γ0 Q) 1 6 Γ' h' 8 [a0, a1, a2, a3, y] (zres r' [zI 0, zR 121])) QX)
    (hcatch : QX → zG (zFl l 11 1 6 Γ0 Q) 1 6 Γ h 15 [a0, a1, a2, a3, none] []) : zG (zFl l 11 1 6 Γ0 Q) 0 0 Γ h 5 [a0, a1, a2, a3, y] [zI b, zI a, zR 1, zI 0, zR 121] := by
  intro p e s m args below meth c H locs lsr hB hl hlv hst hW hS hA T hT X
  have hk1 : zkd Γ 1 = some (.inl 8) := zkB hΓ rfl
  have hts := hB.2.2.2.2.2.1
  have hov : ∀ v, v ∈ [zR 1, zI a, zI b] → zov Γ v := fun v hv => hst v (by simp at hv ⊢; rcases hv with h | h | h <;> simp [h])
  have hro : ∀ v, v ∈ [zI 0, zR 121] → zov Γ v := fun v hv => hst v (by simp at hv ⊢; rcases hv with h | h <;> simp [h])
  obtain ⟨sL, aL, b1, b2, b3, b4, b5, b6⟩ := hA.2
  have hsub : ∀ q, zAO Γ H.size q → zAO Γ0 s.heap.size q := by
    intro q hq1
    rcases hq1 with ⟨k9, hk9, rfl⟩ | hq1
    · have h9 := zws_at (Γ := Γ) h (r := k9 + 1) (q := (zks Γ)[k9]) (by show (zks Γ)[k9]? = _; rw [List.getElem?_eq_getElem hk9])
      exact hW.2.2.2.2 _ _ h9
    · exact hA.1 q (Nat.le_trans hS.1 hq1)
  have hU9 : ∀ U : State, U.heap = H → s.WarmedH U.vm → zSt Γ (zAO Γ H.size) U := fun U hU hw =>
    ⟨sL, aL, b1, b2, State.WarmedH.trans b3 hw, by rw [hU]; exact Nat.le_trans b4 hS.1, fun q hq => ⟨fun z => (b5 q hq).1 (hsub q z), by rw [hU, hS.2.1 q (Nat.lt_of_lt_of_le hq b4) (b5 q hq).1]; exact (b5 q hq).2⟩, b6⟩
  obtain ⟨hL1, hL2, hL3, hL4, hL5, hL6⟩ := zkL_7
  have hcw : CallW (zrm 11 1 6) s args RL mX8_taboo.1.cls 7 mX8_taboo.1 mX8_taboo.2.1 mX8_taboo.2.2.1 mX8_taboo.2.2.2 (zwm mX8_taboo) (zrm 10 1 6) 1 6 2 :=
    ⟨callB_of 2 hts (zGI hL3) rfl rfl rfl (hts _ hL2) (hts _ hL1) ⟨hL4, hL5, hL6⟩ ⟨by decide, by decide⟩, hts _ ziX8_taboo, hts _ zsX8_taboo⟩
  have hrun := vx_runV (p := p) (l := l) (e := e) (R := zrm 11 1 6) (s := s) (m := m) (args := args) (below := below) (meth := meth) (c := c) (H := H) (locs := locs) (cells := 0) (slots := 0) (As := [zI a, zI b].map (zval Γ)) (rest := [zI 0, zR 121].map (zval Γ)) (b := zad Γ 1)
    ⟨hB.1, hB.2.1, hB.2.2.2.1, hB.2.2.2.2.1, hts⟩ (hC hov H.size) hcw ⟨zPc_blind _ _ _ _, by rw [← (show zCn 8 = mX8_taboo.1.cls from rfl)]; exact va_recv hW.2.2.1 hW.2.1 (zcl_at 8 (by decide)) (zws_at h hk1), fun U hU hw => by
      have h9 := zPc_at (args := [zR 1, zI a, zI b]) hW hU9 U hU hw
      rw [List.map_cons, zref hk1] at h9
      exact h9⟩ (g := F0 m 5 lsr ([zI b, zI a, zR 1, zI 0, zR 121].map (zval Γ))) rfl rfl hl.1 (by
      show ([zI b, zI a, zR 1, zI 0, zR 121].map (zval Γ)) = _
      simp only [List.map_cons, List.map_nil, zref hk1]
      rfl) (lv_room (by rw [zct_s]; decide)) dL_taboo_5 ⟨by decide, by decide⟩
  rcases hrun T hT X with ⟨v, st₀, t, T', L, h0, X', hL, e1, e2, ⟨⟨r, Γ', h', hret, hrv, hQr, hx, hWt⟩, hz, hkp⟩, hgo⟩ | ⟨q, st₀, t, T', L, E, ce, h0, X', hL, e1, e2, ⟨hE, hqx, hWt, hz, hkp⟩, hce, hcv, hcl, hst9⟩
  · rw [h0] at hz hkp
    have hA' : (∀ q, s.heap.size ≤ q → zAO Γ0 s.heap.size q) ∧ zSt Γ' (zAO Γ0 s.heap.size) s := ⟨hA.1, ⟨sL, aL, b1, b2, b3, b4, b5, zSs_ad (fun i hi => (hx.2.2 i (Or.inr hi)).1) b6⟩⟩
    have hvm : t.vm.Alike s.vm := by rw [← e2]; exact X'.warmed.alike.symm
    have hWs : zWd Γ' h' (zAO Γ0 s.heap.size) T'.heap s := ⟨hWt.1, by rw [e1]; exact hWt.2.1, hWt.2.2.1.moved hvm, hWt.2.2.2.weaken (fun _ q _ h9 => hsub _ h9)⟩
    have hS' : va_S (zAO Γ0 s.heap.size) s.heap T'.heap (locs ++ L) := ⟨Nat.le_trans hS.1 (by rw [e1]; exact hz), fun q h1 h2 => by
        rw [e1, hkp q (Nat.lt_of_lt_of_le h1 hS.1) (fun z => h2 (hsub q z))]; exact hS.2.1 q h1 h2, fun q hq1 => by
        rcases List.mem_append.mp hq1 with h9 | h9
        · exact hS.2.2 q h9
        · exact hsub _ (hL q h9)⟩
    have hl' : zloc Γ' lsr 5 [a0, a1, a2, a3, y] := zmv_loc hx hl hlv
    obtain ⟨em, ho'⟩ := zext_l hx hro
    have hst' : ∀ v, v ∈ zres r [zI 0, zR 121] → zov Γ' v := by
      cases r with
      | none => exact ho'
      | some v => exact zv2 (hrv v rfl) ho'
    have es : v.toList ++ [zI 0, zR 121].map (zval Γ) = (zres r [zI 0, zR 121]).map (zval Γ') := by
      cases hret
      cases r with
      | none => simp [zres, em]
      | some v =>
        show zval Γ' v :: [zI 0, zR 121].map (zval Γ) = zval Γ' v :: [zI 0, zR 121].map (zval Γ')
        rw [em]
    obtain ⟨t2, g1, g2⟩ := hQr hx p e s m args below meth c T'.heap (locs ++ L) lsr hB hl' (fun v hv => (zext_v hx (hlv v hv)).2) hst' hWs hS' hA' T' rfl X'
    refine ⟨t2, hgo t2 ?_, g2⟩
    rw [es]
    exact g1
  · rw [h0] at hz hkp
    subst hE
    have hvm : t.vm.Alike s.vm := by rw [← e2]; exact X'.warmed.alike.symm
    have hWs : zWd Γ h (zAO Γ0 s.heap.size) T'.heap s := ⟨hWt.1, by rw [e1]; exact hWt.2.1, hWt.2.2.1.moved hvm, hWt.2.2.2.weaken (fun _ q _ h9 => hsub _ h9)⟩
    have hS' : va_S (zAO Γ0 s.heap.size) s.heap T'.heap (locs ++ L) := ⟨Nat.le_trans hS.1 (by rw [e1]; exact hz), fun q h1 h2 => by
        rw [e1, hkp q (Nat.lt_of_lt_of_le h1 hS.1) (fun z => h2 (hsub q z))]; exact hS.2.1 q h1 h2, fun q hq1 => by
        rcases List.mem_append.mp hq1 with h9 | h9
        · exact hS.2.2 q h9
        · exact hsub _ (hL q h9)⟩
    have htb : c.exceptionTable.toList = tableOf [(0, 10, 13, 13)] := hB.2.2.2.2.2.2.2.2.trans zxt_L
    have hkc : W p l e (zrm 11 1 6) s m args below meth c T'.heap (locs ++ L) 1 6 ((zFl l 11 1 6 Γ0 Q).2.2.2.2 s args below) (F0 m 13 lsr [.ref q]) :=
      z_drop4 (F := zFl l 11 1 6 Γ0 Q) (Γ := Γ) (h := h) dL_taboo_13 (Nat.le_of_ble_eq_true rfl) hp3 hB hl (fun lsr' hl2 => hcatch hqx p e s m args below meth c T'.heap (locs ++ L) lsr' hB hl2 (fun v hv => hlv v (by
        simp only [List.mem_cons, List.not_mem_nil, or_false] at hv ⊢
        rcases hv with h | h | h | h | h
        · exact Or.inl h
        · exact Or.inr (Or.inl h)
        · exact Or.inr (Or.inr (Or.inl h))
        · exact Or.inr (Or.inr (Or.inr (Or.inl h)))
        · cases h)) (fun v hv => by cases hv) hWs hS' hA)
    have key : vx_W p l e (zrm 11 1 6) s m args below meth c T'.heap (locs ++ L) 1 6 ((zFl l 11 1 6 Γ0 Q).2.2.2.2 s args below) (F0 m 5 lsr ([zI 0, zR 121].map (zval Γ))) q :=
      vx_catch (own := RL) (name := zNS) (E := zNS) (ce := ce) (q := q) hB.2.2.2.2.1 [] ⟨0, 10, 13, 13⟩ [] (htb.trans rfl) (fun z hz => by cases hz) (by decide) (by decide) (hts _ znsK) (zNSh b3 b2 hts _ znsC) (by rw [e1]; exact hce) hcv hcl hkc
    obtain ⟨t2, g1, g2⟩ := key T' rfl X'
    exact ⟨t2, hst9.trans g1, g2⟩
theorem L_taboo_ct {l : Launch} (hfl : l.stackTraces = false) {Γ : zC} {h0 h : zM} {Q : Option zV → zC → zM → Prop} {a b : Int} (hI : zIv Γ h0) (hF : zfr zSS h0 h) (hQ1 : ((0 ≤ a ∧ a < h0 89 22) ∧ 0 ≤ b ∧ b ≤ 99) → Q (some (zI 0)) Γ (zup h 121 0 (zTb h0 a b))) (hQ0 : ¬ ((0 ≤ a ∧ a < h0 89 22) ∧ 0 ≤ b ∧ b ≤ 99) → Q (some (zI 1)) Γ h) : zLT l 11 1 6 Γ [zR 1, zI a, zI b, zR 121] h Q := by
  have hΓ := hI.base
  refine zLT_of (ls := [some (zR 1), some (zI a), some (zI b), some (zR 121), none]) (Nat.le_of_ble_eq_true rfl) rfl ?_
  refine z_al3 dL_taboo_0 (by decide) ?_
  refine z_iconst dL_taboo_1 (by decide) ?_
  refine z_al0 dL_taboo_2 (by decide) ?_
  refine z_il1 dL_taboo_3 ?_
  refine z_il2 dL_taboo_4 ?_
  refine z_tbC (QX := ¬ ((0 ≤ a ∧ a < h0 89 22) ∧ 0 ≤ b ∧ b ≤ 99)) hΓ rfl (X8_taboo_ct hfl hI hF (fun ha hb _ => ?_) (fun hn => hn)) (fun hn => ?_)
  · simp only [zres]
    refine z_i2l dL_taboo_8 ?_
    refine z_last dL_taboo_9 (zkB hΓ rfl) (by decide) (by decide) ?_
    refine z_goto (t := 17) dL_taboo_10 (by rfl) ?_
    refine z_iconst dL_taboo_17 (by decide) ?_
    refine zG_retl (z_iret dL_taboo_18 rfl (Nat.le_refl _) (Nat.le_refl _) (zext_rf _) (fun _ => hQ1 ⟨ha, hb⟩))
  · refine z_iconst dL_taboo_15 (by decide) ?_
    refine zG_retl (z_iret dL_taboo_16 rfl (Nat.le_refl _) (Nat.le_refl _) (zext_rf _) (fun _ => hQ0 hn))
