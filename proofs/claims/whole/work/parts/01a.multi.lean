/-! multianewarray of two dimensions, of ints: by the library's law -/
theorem vm_outer (cA : ClassId) (N h0 : Nat) : ∀ i, Jvm.Free.Multi.outerC cA N h0 i = arrV cA N (fun j => if j < i then .ref (h0 + 1 + j) else .null)
  | 0 => by
    rw [show Jvm.Free.Multi.outerC cA N h0 0 = ({ cls := cA, slots := Array.replicate N .null, vm := .none } : Cell) from rfl, arrV_new]
    rfl
  | i + 1 => by
    have ih := vm_outer cA N h0 i
    rw [show Jvm.Free.Multi.outerC cA N h0 (i + 1) = (Jvm.Free.Multi.outerC cA N h0 i).setSlot i (.ref (h0 + 1 + i)) from rfl, ih]
    unfold Cell.setSlot arrV
    congr 1
    apply Array.ext_getElem?
    intro j
    rw [Array.getElem?_setIfInBounds]
    by_cases e : i = j
    · subst e
      by_cases hl : i < N
      · simp [hl]
      · simp [hl]
    · rw [if_neg e]
      have h9 : (j < i + 1) ↔ (j < i) := by omega
      by_cases hl : j < N
      · simp [hl, h9]
      · simp [hl]
theorem vm_multi {p : Program} {l : Launch} {e : Env} {R : Room} {s : State} {m : MethodId} {args : Array Value} {below : List Frame} {meth : Method} {c : Code} {H : Heap} {locs : List Loc} {k n : Nat} {Q : State → Prop} {cc : ByteArray} (hexec : p.tables.exec = Jvm.exec) (hb : c.code = cc) {own : String} {index : Nat} (hown : s.vm.findClass own = some m.cls) (hcl : (Cond.classLink own index "[[I").before args s = true) (hover : (Cond.arrayOver (.array .int)).before args s = true) (harr : (Cond.arrayClass .int).before args s = true) {pc : Nat} {ls : Array Slot} {rest : List Value} {N K : Int32} (hdg : decode cc pc = .ok (.multianewarray index 2, 4)) (hn : ¬ N < 0) (hk : ¬ K < 0) (hN : N.toNatClampNeg ≤ 1000) (hK : K.toNatClampNeg ≤ 1000) (hcells : k + (1 + N.toNatClampNeg) ≤ R.cells) (hslots : n + (N.toNatClampNeg + N.toNatClampNeg * K.toNatClampNeg) ≤ R.slots)
    (kk : ∀ (H' : Heap) (cA comp : ClassId), s.vm.findClass "[[I" = some cA → s.vm.findClass "[I" = some comp → H'.size = H.size + 1 + N.toNatClampNeg → (∀ q : Nat, q < H.size → H'[q]? = H[q]?) → H'[H.size]? = some (arrV cA N.toNatClampNeg (fun j => .ref (H.size + 1 + j))) → (∀ j, j < N.toNatClampNeg → H'[H.size + 1 + j]? = some (arrV comp K.toNatClampNeg (fun _ => .int 0))) →
      W p l e R s m args below meth c H' (locs ++ (List.range N.toNatClampNeg).map fun j => ⟨H.size, j⟩) (k + 1 + N.toNatClampNeg) (n + N.toNatClampNeg + N.toNatClampNeg * K.toNatClampNeg) Q (F0 m (pc + 4) ls (.ref H.size :: rest))) :
    W p l e R s m args below meth c H locs k n Q (F0 m pc ls (.int K :: .int N :: rest)) := by
  intro T hT X
  subst hT
  obtain ⟨vm₁, cA, comp, hW, f1, f2, -, -, X1, st⟩ := X.multianewarray2K hexec (own := own) (index := index) (ty := .int) hown hcl hover harr (g := F0 m pc ls (.int K :: .int N :: rest)) rfl (by rw [hb]; exact hdg) rfl hn hk (by omega) (by show _ * 4 ≤ _; omega) (by omega) rfl rfl hcells hslots
  obtain ⟨g1, g2, -, -⟩ := Jvm.Free.Multi.fill_facts (T.setVm vm₁) cA comp N.toNatClampNeg K.toNatClampNeg (defaultValue .int) N.toNatClampNeg
  obtain ⟨t, a1, b1⟩ := kk _ cA comp f1 f2 g1 (fun q hq => Jvm.Free.Multi.fill_old (T.setVm vm₁) cA comp _ _ _ hq _) (by
    refine g2.trans ?_
    rw [vm_outer]
    congr 1
    unfold arrV
    congr 1
    apply Array.ext
    · simp
    · intro j h1 h2
      simp only [Array.getElem_ofFn]
      rw [if_pos (by simpa using h1)]
      rfl) (fun j hj => by
    refine (Jvm.Free.Multi.fill_inner (T.setVm vm₁) cA comp _ _ _ _ j hj).trans ?_
    rw [show Jvm.Free.Multi.innerC comp K.toNatClampNeg (defaultValue .int) = ({ cls := comp, slots := Array.replicate K.toNatClampNeg (.int 0), vm := .none } : Cell) from rfl, arrV_new]) _ rfl X1
  exact ⟨t, st t a1, b1⟩
