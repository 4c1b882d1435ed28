/-! ===== six rows of six ints, made at once ===== -/
def mzR (h0 i j : Nat) : Value := if j < i then .ref (h0 + 1 + j) else .null
def mzO (c : ClassId) (h0 i : Nat) : Cell := { cls := c, slots := #[mzR h0 i 0, mzR h0 i 1, mzR h0 i 2, mzR h0 i 3, mzR h0 i 4, mzR h0 i 5], vm := .none }
def mzI (comp : ClassId) : Cell := { cls := comp, slots := Array.replicate 6 (.int 0), vm := .none }
def mz (s : State) (c comp : ClassId) : Nat → State
  | 0 => s.pushCell (mzO c s.heap.size 0)
  | i + 1 => ((mz s c comp i).pushCell (mzI comp)).setCell s.heap.size (mzO c s.heap.size (i + 1))
theorem mzO_set (c : ClassId) (h0 : Nat) {i : Nat} (hi : i < 6) : (mzO c h0 i).setSlot i (.ref (h0 + 1 + i)) = mzO c h0 (i + 1) := by
  have h6 : i = 0 ∨ i = 1 ∨ i = 2 ∨ i = 3 ∨ i = 4 ∨ i = 5 := by omega
  rcases h6 with rfl | rfl | rfl | rfl | rfl | rfl <;> rfl
theorem mzO_0 (c : ClassId) (h0 : Nat) : mzO c h0 0 = { cls := c, slots := Array.replicate 6 .null, vm := .none } := rfl
theorem mz_f (s : State) (c comp : ClassId) : ∀ i, (mz s c comp i).heap.size = s.heap.size + 1 + i ∧ (mz s c comp i).heap[s.heap.size]? = some (mzO c s.heap.size i) ∧ (mz s c comp i).vm = s.vm ∧ (mz s c comp i).slotsUsed = s.slotsUsed + 6 + i * 6
  | 0 => ⟨by simp [mz], by simp [mz], rfl, by simp [mz, mzO]⟩
  | i + 1 => by
    obtain ⟨a, b, d, u⟩ := mz_f s c comp i
    have hlt : s.heap.size < (mz s c comp i).heap.size := by rw [a]; omega
    refine ⟨?_, ?_, ?_, ?_⟩
    · simp [mz, State.setCell, a]; omega
    · exact State.heap_setCell_self (by rw [State.heap_pushCell_of_lt (h := hlt)]; exact b)
    · simp [mz, d]
    · simp [mz, u, mzI]; omega
theorem mz_top (s : State) (f : JFrame) (c comp : ClassId) : ∀ i, mz (s.setTop f) c comp i = (mz s c comp i).setTop f
  | 0 => rfl
  | i + 1 => by simp only [mz, mz_top s f c comp i, State.heap_setTop, State.pushCell_setTop, State.setCell_setTop]
/-- one array -/
theorem mz_new {E : CtlPost} {e : Env} {d : Bool} {acts : List Action} {s : State} {c comp : ClassId} {k : Class} {type : FieldType} {init : Value} (hk : s.vm.classes[c]? = some k) (hkind : k.kind = .array comp type) (hl : ¬ 6 > e.platform.arrayLengthLimit) (hh : ¬ 6 * componentBytes type > e.platform.maxHeapBytes) (hf : fits type init = true) (hd : init.isDefault = true) {Q : Addr → Pre}
    (h1 : s.heap.size < e.platform.maxCells) (h2 : s.slotsUsed + 6 ≤ e.platform.maxSlots) (hq : Q s.heap.size d acts (s.pushCell { cls := c, slots := Array.replicate 6 init, vm := .none })) : wp (Jvm.newArray c 6 init) Q E e d acts s := by
  have hfit : ∀ i v, (Array.replicate 6 init)[i]? = some v → s.fitsSlot c .none i v = true := by
    intro i v hv
    simp only [Array.getElem?_replicate] at hv
    split at hv
    · cases hv; simp [State.fitsSlot, State.slotType?, hk, hkind, hf]
    · cases hv
  have hall : ((Array.replicate 6 init).all (·.isDefault)) = true := by rw [Array.all_replicate]; simp [hd]
  have hda : allocActs (Array.replicate 6 init) s.heap.size acts = acts := by unfold allocActs; rw [if_pos hall]
  simp only [Jvm.newArray, Jvm.arrayFits, wp_bind', W.ask, W.ite, hl, if_false, wp_pure', W.theClass, hk, hkind, hh, W.alloc, W.stop, Option.some.injEq, exists_eq_left', Array.size_replicate, hda]
  rw [if_neg (by omega)]
  exact ⟨h1, h2, hfit, hq⟩
/-- all of them -/
theorem mz_make {E : CtlPost} {e : Env} {d : Bool} {acts : List Action} {s : State} {c comp cc : ClassId} {k kc : Class} (hk : s.vm.classes[c]? = some k) (hkind : k.kind = .array comp (.array .int)) (hkc : s.vm.classes[comp]? = some kc) (hkindc : kc.kind = .array cc .int) (hl : ¬ 6 > e.platform.arrayLengthLimit) (hh : ¬ 6 * 4 > e.platform.maxHeapBytes)
    (hc : s.heap.size + 7 ≤ e.platform.maxCells) (hs : s.slotsUsed + 42 ≤ e.platform.maxSlots) {Q : Addr → Pre} (hq : ∀ d' acts', Q s.heap.size d' acts' (mz s c comp 6)) : wp (multianewarray.make c [6, 6]) Q E e d acts s := by
  have hn : ¬ (6 : Int32) < 0 := by decide
  have h6 : (6 : Int32).toNatClampNeg = 6 := by decide
  have hfind : ([(6 : Int32)].find? (· < 0)) = none := by decide
  rw [multianewarray.make]
  simp only [wp_bind', W.ite, hn, if_false, wp_pure', W.theClass, hk, hkind, Option.some.injEq, exists_eq_left', h6]
  refine mz_new hk hkind hl hh rfl rfl (by omega) (by omega) ?_
  simp only [hfind]
  rw [ite_self, wp_bind', Std.Legacy.Range.forIn_eq_forIn_range']
  show wp (forIn (List.range' 0 6 1) PUnit.unit _) _ E e d acts _
  refine wp_forIn_inv (fun rest s' => ∃ i, i ≤ 6 ∧ rest = List.range' i (6 - i) ∧ s' = mz s c comp i) _ _ ⟨0, by decide, rfl, rfl⟩ ?_ ?_
  · rintro x rest s' d' acts' Q' ⟨i, hi, hl', rfl⟩ hnext
    have hlt : i < 6 := by
      refine Classical.byContradiction (fun q => ?_)
      rw [show 6 - i = 0 by omega] at hl'
      cases hl'
    rw [show 6 - i = (6 - (i + 1)) + 1 by omega, List.range'_succ] at hl'
    obtain ⟨rfl, hrest⟩ := List.cons.inj hl'
    obtain ⟨f1, f2, f3, f4⟩ := mz_f s c comp x
    have hlt0 : s.heap.size < (mz s c comp x).heap.size := by rw [f1]; omega
    simp only [wp_bind']
    rw [multianewarray.make]
    simp only [wp_bind', W.ite, hn, if_false, wp_pure', W.theClass, f3, hkc, hkindc, Option.some.injEq, exists_eq_left', h6]
    refine mz_new (by rw [f3]; exact hkc) hkindc hl hh rfl rfl (by rw [f1]; omega) (by rw [f4]; omega) ?_
    simp only [wp_bind', W.writeLoc, wp_pure']
    refine ⟨mzO c s.heap.size x, by rw [State.heap_pushCell_of_lt (h := hlt0)]; exact f2, by simp [mzO], by show x < 6; exact hlt, ?_, hnext _ _ _ ⟨x + 1, hlt, hrest, ?_⟩⟩
    · show State.fitsSlot _ c .none x _ = true
      simp [State.fitsSlot, State.slotType?, f3, hk, hkind, fits]
    · rw [f1, mzO_set c _ hlt]; rfl
  · rintro s' d' acts' ⟨i, hi, hl', rfl⟩
    have e6 : i = 6 := by
      refine Classical.byContradiction (fun q => ?_)
      rw [show 6 - i = (6 - (i + 1)) + 1 by omega, List.range'_succ] at hl'
      cases hl'
    subst e6
    simp only [wp_pure']
    exact hq _ _
