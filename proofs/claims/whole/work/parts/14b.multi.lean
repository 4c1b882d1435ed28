theorem mz_stand {p : Program} {l : Launch} {e : Env} {R : Room} {s : State} {m : MethodId} {args : Array Value} {below : List Frame} {meth : Method} {c : Code} {T : State} {locs : List Loc} {cells slots : Nat} (X : Stand p l e R s m args below meth c T locs cells slots) (cA comp : ClassId) :
    ∀ i, i ≤ 6 → Stand p l e R s m args below meth c (mz T cA comp i) (locs ++ (List.range i).map fun j => ⟨T.heap.size, j⟩) (cells + 1 + i) (slots + 6 + i * 6)
  | 0, _ => by
    have h := X.pushed (mzO cA T.heap.size 0)
    simpa [mz, mzO] using h
  | i + 1, hi => by
    have Xi := mz_stand X cA comp i (by omega)
    obtain ⟨f1, f2, f3, f4⟩ := mz_f T cA comp i
    have hlt0 : T.heap.size < (mz T cA comp i).heap.size := by rw [f1]; omega
    have h := (Xi.pushed (mzI comp)).stored (by rw [State.heap_pushCell_of_lt (h := hlt0)]; exact f2) i (.ref (T.heap.size + 1 + i))
    rw [mzO_set cA _ (by omega)] at h
    have e1 : (mzI comp).slots.size = 6 := by simp [mzI]
    rw [e1] at h
    have e2 : (locs ++ (List.range (i + 1)).map fun j => (⟨T.heap.size, j⟩ : Loc)) = (locs ++ (List.range i).map fun j => (⟨T.heap.size, j⟩ : Loc)) ++ [⟨T.heap.size, i⟩] := by rw [List.range_succ, List.map_append, List.append_assoc]; rfl
    rw [e2, show slots + 6 + (i + 1) * 6 = slots + 6 + i * 6 + 6 by omega, show cells + 1 + (i + 1) = cells + 1 + i + 1 by omega]
    exact h
theorem mz_over {args : Array Value} {s : State} (h : (Cond.arrayOver (.array .int)).before args s = true) : ∃ comp c k, s.vm.findClass (FieldType.array .int).toString = some comp ∧ s.vm.classes[c]? = some k ∧ k.kind = .array comp (.array .int) ∧ s.vm.findClass ("[" ++ (FieldType.array .int).toString) = some c := by
  simp only [Cond.before, Cond.holds, Cond.value, beq_iff_eq] at h
  cases hc : s.vm.findClass (FieldType.array .int).toString with
  | none => simp [hc] at h
  | some comp =>
    simp only [hc, Option.bind_some, Option.bind_eq_some_iff, Option.map_eq_some_iff] at h
    obtain ⟨c, hi, k, hk, hb⟩ := h
    have hp := (Array.findIdx?_eq_some_iff_getElem.mp hi).2.1
    rw [(Array.getElem?_eq_some_iff.mp hk).2] at hp
    cases hkind : k.kind with
    | array component ty =>
      rw [hkind] at hb hp
      simp at hb hp
      exact ⟨comp, c, k, rfl, hk, by rw [hkind, hp, hb.1], hb.2⟩
    | _ => rw [hkind] at hb; simp at hb
set_option maxHeartbeats 1000000 in
theorem mz_step {p : Program} {l : Launch} {e : Env} {R : Room} {s : State} {m : MethodId} {args : Array Value} {below : List Frame} {meth : Method} {c : Code} {T : State} {locs : List Loc} {cells slots : Nat} (X : Stand p l e R s m args below meth c T locs cells slots) (hexec : p.tables.exec = Jvm.exec) {own : String} {index : Nat} (hown : s.vm.findClass own = some m.cls) (hcl : (Cond.classLink own index "[[I").before args s = true) (hov : (Cond.arrayOver (.array .int)).before args s = true) (har : (Cond.arrayClass .int).before args s = true)
    {g : JFrame} (hg : g.method = m) (hdg : decode c.code g.pc = .ok (.multianewarray index 2, 4)) {rest : List Value} (hst : g.stack = .int 6 :: .int 6 :: rest) (hcells : cells + 7 ≤ R.cells) (hslots : slots + 42 ≤ R.slots) :
    ∃ (vm₁ : Vm) (cA comp : ClassId), s.vm.findClass "[[I" = some cA ∧ s.vm.findClass "[I" = some comp ∧ Stand p l e R s m args below meth c (mz (T.setVm vm₁) cA comp 6) (locs ++ (List.range 6).map fun j => ⟨T.heap.size, j⟩) (cells + 7) (slots + 42) ∧
      ∀ target, Steps p.tables e below ((mz (T.setVm vm₁) cA comp 6).setTop { g with pc := g.pc + 4, stack := .ref T.heap.size :: rest }) target → Steps p.tables e below (T.setTop g) target := by
  subst hg
  have hpl : e.platform.magicAccessors = ({} : Platform).magicAccessors := by rw [X.admits.platform]
  obtain ⟨comp, cA, kA, hcomp, hkA, hkindA, hnameA⟩ := mz_over hov
  obtain ⟨comp', kC, cc, hcomp', hkC, hkindC⟩ := Cond.arrayClass_spec har
  obtain rfl : comp' = comp := Option.some.inj (hcomp'.symm.trans hcomp)
  obtain ⟨c0, hfc0, hl0⟩ := Cond.classLink_spec hown hcl e.platform hpl
  obtain rfl : cA = c0 := Option.some.inj (hnameA.symm.trans hfc0)
  obtain ⟨hg₁, hwarm₁, hready₁⟩ := State.classEntry (e := e) X.warmed hl0
  generalize T.vm.noted g.method.cls index (.cls cA) = vm₁ at hg₁ hwarm₁ hready₁
  obtain ⟨kA₁, hkA₁, heA⟩ := hwarm₁.alike.2.2 _ _ hkA
  obtain ⟨kC₁, hkC₁, heC⟩ := hwarm₁.alike.2.2 _ _ hkC
  have X₁ := X.noted hwarm₁
  obtain ⟨hr1, hr2⟩ := X.roomAbove hcells hslots
  have XF := mz_stand X₁ cA comp' 6 (Nat.le_refl _)
  refine ⟨vm₁, cA, comp', hnameA, hcomp, XF, fun target hrest => ?_⟩
  jvm_step X.here [hexec, hdg]
  simp only [multianewarray.sem, wp_bind', W.resolveClassAt_links (State.method?_setTop g X.here.top) hg₁]
  rw [W.popN, if_neg (by decide)]
  refine ⟨g, State.topJava?_setTop' (s := T.setVm vm₁) g X.here.top, [.int 6, .int 6], rest, rfl, hst, ?_⟩
  simp only [List.mapM_cons, List.mapM_nil, wp_bind', wp_pure']
  refine mz_make (s := ((T.setTop g).setVm vm₁).setTop { g with stack := rest }) (k := kA₁) (kc := kC₁) (comp := comp') (cc := cc) hkA₁ (by rw [heA]; exact hkindA) hkC₁ (by rw [heC]; exact hkindC) (by rw [Launch.admits_arrayLengthLimit X.admits]; decide) (by rw [Launch.admits_maxHeapBytes X.admits]; decide) hr1 hr2 (fun d' acts' => ?_)
  rw [show ((T.setTop g).setVm vm₁).setTop { g with stack := rest } = (T.setVm vm₁).setTop { g with stack := rest } from by
    show ((T.setVm vm₁).setTop g).setTop _ = _
    rw [State.setTop_setTop], mz_top]
  simp only [wp_bind', W.mark, W.pushRef, State.topJava?_setTop' _ XF.here.top, Option.some.injEq, exists_eq_left', State.setTop_setTop, State.heap_setTop]
  intro acts
  simp [jvm, XF.here.top]
  exact hrest
