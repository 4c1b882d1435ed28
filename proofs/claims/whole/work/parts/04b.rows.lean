/-! ===== the walk over the abstract heap ===== -/
def tb : List Cond := lw_tbl.filter goodWord
theorem tb_in {w : Cond} (h : w ∈ lw_tbl) (hg : goodWord w = true) : w ∈ tb := List.mem_filter.mpr ⟨h, hg⟩
/-- a method: its name, code, locals, answer's type, room -/
abbrev MI : Type := MethodName × ByteArray × Nat × Option FieldType × Room
def MC (M : MI) (p : Program) (s : State) (m : MethodId) (args : Array Value) (meth : Method) (c : Code) : Prop :=
  p.tables.exec = Jvm.exec ∧ c.code = M.2.1 ∧ meth.sig.returnType = M.2.2.2.1 ∧ c.maxLocals = M.2.2.1 ∧ s.vm.findClass M.1.cls = some m.cls ∧ (∀ w ∈ tb, w.before args s = true) ∧ meth.locks = false ∧ meth.name = M.1.name
def sLen : List Nat := [4, 3, 4, 3, 7]
def sByt : List (List Int32) := [[114, 97, 116, 101], [112, 101, 114], [112, 97, 114, 116], [100, 117, 101], [62, 44, 45, 58, 43, 47, 59]]
def sIdx : List (Nat × String) := [(132, "rate"), (138, "per"), (140, "part"), (142, "due"), (151, ">,-:+/;")]
def SK (B : BH) (ad : Nat → Nat) (U : State) : Prop := ∃ adK adV : Nat → Nat, vk_S 5 sLen sByt adK adV (fun q => B.1 ≤ q) U B.2 ∧ (∀ k, k < 5 → ad (1000000 + k) = adK k ∧ ad (1000100 + k) = adV k) ∧ (∀ k i t, sIdx[k]? = some (i, t) → vk_R RX8 i t (adK k) U) ∧ va_Z "java/lang/String" "COMPACT_STRINGS" "Z" (.int 1) (fun q => B.1 ≤ q) U B.2 ∧ (va_Z "jdk/internal/util/Preconditions" "SIOOBE_FORMATTER" "Ljava/util/function/BiFunction;" .null (fun q => B.1 ≤ q) U B.2 ∨ va_Z "jdk/internal/util/Preconditions" "SIOOBE_FORMATTER" "Ljava/util/function/BiFunction;" (.ref (ad 1000200)) (fun q => B.1 ≤ q) U B.2)
/-- words that don't keep by themselves: nest mates' links, array classes over a class -/
def nests : List (String × Nat × MethodName) := [(RX11, 27, yX0_init), (RX11, 34, yX4_init), (RX11, 57, yX8_init), (RX7, 21, yX9_init), (RX5, 11, yX1_init), (RX5, 85, yX11_byteOf), (RX5, 89, yX11_figureOf), (RX2, 28, yX11_within), (RX1, 15, yX11_isDay), (RX5, 111, yX11_within), (RX8, 109, yX11_within), (RX9, 34, yX11_within)]
def nestW : List Cond := nests.map (fun q => Cond.methodLinkNest q.1 q.2.1 q.2.2 RX11)
def overT : List FieldType := [.object RX2, .object RX5, .object RX6, .object RX9, .array .int]
def AOt (ty : FieldType) (U : State) : Prop := (Cond.arrayOver ty).before #[] U = true
theorem AOt.moved {ty : FieldType} {u U : State} (hvm : u.vm.Alike U.vm) (h : AOt ty u) : AOt ty U := by
  have h1 : (Cond.arrayOver ty).before #[] (u.setVm U.vm) = true := by rw [Cond.arrayOver_setVmC hvm]; exact h
  exact h1
def NS (U : State) : Prop := (∀ w ∈ nestW, va_Nw w U) ∧ ∀ ty ∈ overT, AOt ty U
theorem NS.warm {s U : State} (hW : s.WarmedH U.vm) (h : NS s) : NS U := by
  refine ⟨fun w hw => ?_, fun ty ht => (h.2 ty ht).moved hW.alike⟩
  have h1 := h.1 w hw
  obtain ⟨q, hq, rfl⟩ := List.mem_map.mp hw
  exact va_Nw.warmM hW h1
theorem NS.same {s U : State} (hv : U.vm = s.vm) (h : NS s) : NS U := by
  have ha : s.vm.Alike U.vm := by rw [hv]; exact Vm.Alike.refl _
  refine ⟨fun w hw => ?_, fun ty ht => (h.2 ty ht).moved ha⟩
  have h1 := h.1 w hw
  obtain ⟨q, hq, rfl⟩ := List.mem_map.mp hw
  exact va_Nw.same rfl hv.symm h1
def KN (B : BH) (D : va_G) (cid : FieldType → ClassId) (ad : Nat → Nat) (U : State) : Prop :=
  va_K D vwCl [] U ∧ (∀ ty, ty ∈ arrTys → ArrOfT U (cid ty) ty ∧ va_RA U (cid ty) ty) ∧ NS U ∧ SK B ad U
theorem KN.ext {B : BH} {D : va_G} {cid : FieldType → ClassId} {ad ad' : Nat → Nat} {U : State} (h : KN B D cid ad U) (he : ∀ a, 1000000 ≤ a → ad' a = ad a) : KN B D cid ad' U := by
  obtain ⟨h1, h2, hN, adK, adV, h3, h4, h5, h6, h7⟩ := h
  exact ⟨h1, h2, hN, adK, adV, h3, fun k hk => ⟨(he _ (by omega)).trans (h4 k hk).1, (he _ (by omega)).trans (h4 k hk).2⟩, h5, h6, by rw [he 1000200 (by omega)]; exact h7⟩
theorem KN.warm {B : BH} {D : va_G} {cid : FieldType → ClassId} {ad : Nat → Nat} {s U : State} (hW : s.WarmedH U.vm) (h : KN B D cid ad s) : KN B D cid ad U := by
  obtain ⟨h1, h2, hN, adK, adV, h3, h4, h5, h6, h7⟩ := h
  exact ⟨h1.moved hW.alike, fun ty ht => ⟨arrOfT_moved hW.alike (h2 ty ht).1, (h2 ty ht).2.moved hW.alike⟩, hN.warm hW, adK, adV, h3.moved hW.alike, h4, fun k i t hk => (h5 k i t hk).warm hW, va_Z.moved hW.alike h6, h7.imp (va_Z.moved hW.alike) (va_Z.moved hW.alike)⟩
theorem KN.same {B : BH} {D : va_G} {cid : FieldType → ClassId} {ad : Nat → Nat} {s U : State} (hv : U.vm = s.vm) (h : KN B D cid ad s) : KN B D cid ad U := by
  have ha : s.vm.Alike U.vm := by rw [hv]; exact Vm.Alike.refl _
  obtain ⟨h1, h2, hN, adK, adV, h3, h4, h5, h6, h7⟩ := h
  exact ⟨h1.moved ha, fun ty ht => ⟨arrOfT_moved ha (h2 ty ht).1, (h2 ty ht).2.moved ha⟩, hN.same hv, adK, adV, h3.moved ha, h4, fun k i t hk => (h5 k i t hk).same hv, va_Z.moved ha h6, h7.imp (va_Z.moved ha) (va_Z.moved ha)⟩
/-- the locals: by their places; none where nothing is known -/
def lvl (ad : Nat → Nat) (ls : List AV) : List (Nat × Value) := (List.range ls.length).filterMap (fun i => match ls[i]? with
  | some (some v) => some (i, cv ad (some v))
  | _ => none)
theorem lvl_mem {ad : Nat → Nat} {ls : List AV} {q : Nat × Value} : q ∈ lvl ad ls ↔ ∃ v, ls[q.1]? = some (some v) ∧ q.2 = cv ad (some v) := by
  unfold lvl
  rw [List.mem_filterMap]
  constructor
  · rintro ⟨i, hi, h⟩
    split at h
    · rename_i v hv
      cases h
      exact ⟨v, hv, rfl⟩
    · cases h
  · rintro ⟨v, hv, h⟩
    refine ⟨q.1, List.mem_range.mpr (List.getElem?_eq_some_iff.mp hv).1, ?_⟩
    rw [hv]
    show some (q.1, _) = some q
    rw [← h]
def lok (ad : Nat → Nat) (nL : Nat) (ls : List AV) (LS : Array Slot) : Prop := lv_has LS nL (lvl ad ls)
theorem lok.at {ad : Nat → Nat} {nL : Nat} {ls : List AV} {LS : Array Slot} (h : lok ad nL ls LS) {i : Nat} {v : Int ⊕ (Int64 ⊕ Option Nat)} (hi : ls[i]? = some (some v)) : LS[i]? = some (.val (cv ad (some v))) :=
  h.2.2 (i, cv ad (some v)) (lvl_mem.mpr ⟨v, hi, rfl⟩)
theorem lok.re {ad ad' : Nat → Nat} {nL : Nat} {ls : List AV} {LS : Array Slot} (h : lok ad nL ls LS) (he : ∀ v ∈ ls, cv ad' v = cv ad v) : lok ad' nL ls LS := by
  refine ⟨h.1, h.2.1, fun q hq => ?_⟩
  obtain ⟨v, hv, e⟩ := lvl_mem.mp hq
  rw [e, he _ (List.mem_of_getElem? hv)]
  exact h.at hv
/-- the place ahead of i holds no long -/
def lnl (ls : List AV) : Nat → Bool
  | 0 => true
  | i + 1 => match ls[i]? with
    | some (some (Sum.inr (Sum.inl _))) => false
    | _ => true
theorem lnl_ne {ls : List AV} {i j : Nat} (h : lnl ls i = true) (hj : j + 1 = i) {w : Int64} : ls[j]? ≠ some (vL w) := by
  subst hj
  intro q
  simp [lnl, q] at h
theorem lok.set {ad : Nat → Nat} {nL : Nat} {ls : List AV} {LS' : Array Slot} {i : Nat} {v : AV} {x : Value} (hx : cv ad v = x) (hn : lnl ls i = true)
    (h : lv_has LS' nL ((i, x) :: (lvl ad ls).filter (fun q => !(q.1 == i) && !(q.1 + 1 == i && q.2.category == 2)))) : lok ad nL (ls.set i v) LS' := by
  refine ⟨h.1, h.2.1, fun q hq => ?_⟩
  obtain ⟨w, hw, e⟩ := lvl_mem.mp hq
  by_cases hi : q.1 = i
  · have h1 := h.2.2 (i, x) List.mem_cons_self
    have h2 : v = some w := by
      rw [hi, List.getElem?_set] at hw
      simp at hw
      exact hw.2
    rw [e, ← h2, hx, hi]
    exact h1
  · rw [List.getElem?_set_ne (Ne.symm hi)] at hw
    refine h.2.2 q (List.mem_cons_of_mem _ (List.mem_filter.mpr ⟨lvl_mem.mpr ⟨w, hw, e⟩, ?_⟩))
    simp only [Bool.and_eq_true, Bool.not_eq_true', beq_eq_false_iff_ne, ne_eq, hi, not_false_eq_true, true_and]
    rw [Bool.and_eq_false_iff]
    by_cases hj : q.1 + 1 = i
    · right
      rw [beq_eq_false_iff_ne]
      intro hc
      rw [e] at hc
      obtain ⟨z, hz⟩ := cv_cat.mp hc
      exact lnl_ne hn hj (hz ▸ hw)
    · left
      rw [beq_eq_false_iff_ne]
      exact hj
theorem lok.set2 {ad : Nat → Nat} {nL : Nat} {ls : List AV} {LS' : Array Slot} {i : Nat} {w : Int64} (hn : lnl ls i = true)
    (h : lv_has LS' nL ((i, Value.long w) :: (lvl ad ls).filter (fun q => !(q.1 == i) && (!(q.1 == i + 1) && !(q.1 + 1 == i && q.2.category == 2))))) : lok ad nL ((ls.set i (vL w)).set (i + 1) none) LS' := by
  refine ⟨h.1, h.2.1, fun q hq => ?_⟩
  obtain ⟨u, hu, e⟩ := lvl_mem.mp hq
  have hi1 : q.1 ≠ i + 1 := by
    intro q1
    rw [q1, List.getElem?_set] at hu
    simp at hu
  rw [List.getElem?_set_ne (Ne.symm hi1)] at hu
  by_cases hi : q.1 = i
  · have h1 := h.2.2 (i, Value.long w) List.mem_cons_self
    have h2 : vL w = some u := by
      rw [hi, List.getElem?_set] at hu
      simp at hu
      rw [← hu.2]
    rw [e, ← h2, hi]
    exact h1
  · rw [List.getElem?_set_ne (Ne.symm hi)] at hu
    refine h.2.2 q (List.mem_cons_of_mem _ (List.mem_filter.mpr ⟨lvl_mem.mpr ⟨u, hu, e⟩, ?_⟩))
    simp only [Bool.and_eq_true, Bool.not_eq_true', beq_eq_false_iff_ne, ne_eq, hi, hi1, not_false_eq_true, true_and]
    rw [Bool.and_eq_false_iff]
    by_cases hj : q.1 + 1 = i
    · right
      rw [beq_eq_false_iff_ne]
      intro hc
      rw [e] at hc
      obtain ⟨z, hz⟩ := cv_cat.mp hc
      exact lnl_ne hn hj (hz ▸ hu)
    · left
      rw [beq_eq_false_iff_ne]
      exact hj
abbrev EndT : Type := BH → va_G → (FieldType → ClassId) → (Nat → Nat) → List Frame → Array Value → State → State → Prop
/-- the heap at the start, what is known of the base, the end -/
abbrev TT : Type := GH × (BH → (Nat → Nat) → State → Prop) × EndT
def AW (M : MI) (T : TT) (kn : Nat × Nat) (g : GH) (pc : Nat) (ls st : List AV) : Prop :=
  ∀ (p : Program) (l : Launch) (e : Env) (s : State) (m : MethodId) (args : Array Value) (below : List Frame) (meth : Method) (c : Code) (B : BH) (D : va_G) (cid : FieldType → ClassId) (ad0 ad : Nat → Nat) (H : Heap) (locs : List Loc) (LS : Array Slot),
    MC M p s m args meth c → KN B D cid ad s → T.2.1 B ad0 s → Ext ad0 T.1 ad g → Rp B D cid ad g H → (∀ q ∈ locs, B.1 ≤ q.base) → lok ad M.2.2.1 ls LS → (∀ v ∈ ls, vok g v) → (∀ v ∈ st, vok g v) →
    W p l e M.2.2.2.2 s m args below meth c H locs kn.1 kn.2 (T.2.2 B D cid ad0 below args s) (F0 m pc LS (st.map (cv ad)))
section AROWS
variable {M : MI} {T : TT} {kn : Nat × Nat} {g : GH} {pc : Nat} {ls st : List AV}
theorem okc {g : GH} {v : AV} {st : List AV} (hv : vok g v) (h : ∀ v ∈ st, vok g v) : ∀ x ∈ v :: st, vok g x := fun x hx => by
  rcases List.mem_cons.mp hx with rfl | hx
  · exact hv
  · exact h x hx
theorem okt {g : GH} {v : AV} {st : List AV} (h : ∀ x ∈ v :: st, vok g x) : ∀ v ∈ st, vok g v := fun x hx => h x (List.mem_cons_of_mem _ hx)
theorem okh {g : GH} {v : AV} {st : List AV} (h : ∀ x ∈ v :: st, vok g x) : vok g v := h v List.mem_cons_self
theorem okset {g : GH} {v : AV} {ls : List AV} {i : Nat} (hv : vok g v) (h : ∀ v ∈ ls, vok g v) : ∀ x ∈ ls.set i v, vok g x := fun x hx => by
  rcases List.mem_or_eq_of_mem_set hx with hx | rfl
  · exact h x hx
  · exact hv
theorem okat {g : GH} {ls : List AV} (h : ∀ v ∈ ls, vok g v) {i : Nat} {v : AV} (hi : ls[i]? = some v) : vok g v := h v (List.mem_of_getElem? hi)
/-- what may be used anywhere: the heap's ints are in range -/
theorem AW.zr (h : (∀ a k, zr (g.2.1 a k)) → AW M T kn g pc ls st) : AW M T kn g pc ls st := by
  intro p l e s m args below meth c B D cid ad0 ad H locs LS mc hK hX hE hR hL hl h1 h2
  exact h hR.2.2.2.2.2.1 p l e s m args below meth c B D cid ad0 ad H locs LS mc hK hX hE hR hL hl h1 h2
theorem AW.ok (h : (∀ v ∈ ls, vok g v) → (∀ v ∈ st, vok g v) → AW M T kn g pc ls st) : AW M T kn g pc ls st := by
  intro p l e s m args below meth c B D cid ad0 ad H locs LS mc hK hX hE hR hL hl h1 h2
  exact h h1 h2 p l e s m args below meth c B D cid ad0 ad H locs LS mc hK hX hE hR hL hl h1 h2
theorem AW.loc {ls' : List AV} (h : AW M T kn g pc ls' st) (hs : ∀ (i : Nat) v, ls'[i]? = some (some v) → ls[i]? = some (some v)) : AW M T kn g pc ls st := by
  intro p l e s m args below meth c B D cid ad0 ad H locs LS mc hK hX hE hR hL hl h1 h2
  refine h p l e s m args below meth c B D cid ad0 ad H locs LS mc hK hX hE hR hL ⟨hl.1, hl.2.1, fun q hq => ?_⟩ (fun v hv => ?_) h2
  · obtain ⟨v, hv, e⟩ := lvl_mem.mp hq
    rw [e]; exact hl.at (hs _ _ hv)
  · cases v with
    | none => trivial
    | some w =>
      obtain ⟨i, hi⟩ := List.getElem?_of_mem hv
      exact h1 _ (List.mem_of_getElem? (hs i w hi))
theorem AW.widen {k n : Nat} (h1 : kn.1 ≤ k) (h2 : kn.2 ≤ n) (h : AW M T (k, n) g pc ls st) : AW M T kn g pc ls st := by
  intro p l e s m args below meth c B D cid ad0 ad H locs LS mc hK hX hE hR hL hl h3 h4
  exact W.widen h1 h2 (h p l e s m args below meth c B D cid ad0 ad H locs LS mc hK hX hE hR hL hl h3 h4)
theorem a_iconst {n z : Int} (pc2 : Nat) (hd : decode M.2.1 pc = .ok (.iconst n, 1)) (hz : n = z) (hr : zr z) (hp : pc + 1 = pc2) (k : AW M T kn g pc2 ls (vI z :: st)) : AW M T kn g pc ls st := by
  intro p l e s m args below meth c B D cid ad0 ad H locs LS mc hK hX hE hR hL hl h1 h2
  subst hp; subst hz
  exact lv_iconst mc.1 mc.2.1 hd rfl (k p l e s m args below meth c B D cid ad0 ad H locs LS mc hK hX hE hR hL hl h1 (okc hr h2))
theorem a_bipush {n z : Int} (pc2 : Nat) (hd : decode M.2.1 pc = .ok (.bipush n, 2)) (hz : (Int8.ofInt n).toInt32 = Int32.ofInt z) (hr : zr z) (hp : pc + 2 = pc2) (k : AW M T kn g pc2 ls (vI z :: st)) : AW M T kn g pc ls st := by
  intro p l e s m args below meth c B D cid ad0 ad H locs LS mc hK hX hE hR hL hl h1 h2
  subst hp
  exact lv_bipush mc.1 mc.2.1 hd hz (k p l e s m args below meth c B D cid ad0 ad H locs LS mc hK hX hE hR hL hl h1 (okc hr h2))
theorem a_sipush {n z : Int} (pc2 : Nat) (hd : decode M.2.1 pc = .ok (.sipush n, 3)) (hz : (Int16.ofInt n).toInt32 = Int32.ofInt z) (hr : zr z) (hp : pc + 3 = pc2) (k : AW M T kn g pc2 ls (vI z :: st)) : AW M T kn g pc ls st := by
  intro p l e s m args below meth c B D cid ad0 ad H locs LS mc hK hX hE hR hL hl h1 h2
  subst hp
  exact lv_sipush mc.1 mc.2.1 hd hz (k p l e s m args below meth c B D cid ad0 ad H locs LS mc hK hX hE hR hL hl h1 (okc hr h2))
theorem a_ldc {index : Nat} {z : Int} (pc2 : Nat) (hd : decode M.2.1 pc = .ok (.ldc index, 2)) (hw : Cond.constant M.1.cls index (Int32.ofInt z) ∈ tb) (hr : zr z) (hp : pc + 2 = pc2) (k : AW M T kn g pc2 ls (vI z :: st)) : AW M T kn g pc ls st := by
  intro p l e s m args below meth c B D cid ad0 ad H locs LS mc hK hX hE hR hL hl h1 h2
  subst hp
  exact lv_ldc mc.1 mc.2.1 mc.2.2.2.2.1 (mc.2.2.2.2.2.1 _ hw) hd (k p l e s m args below meth c B D cid ad0 ad H locs LS mc hK hX hE hR hL hl h1 (okc hr h2))
theorem a_ldcw {index : Nat} {z : Int} (pc2 : Nat) (hd : decode M.2.1 pc = .ok (.ldc_w index, 3)) (hw : Cond.constant M.1.cls index (Int32.ofInt z) ∈ tb) (hr : zr z) (hp : pc + 3 = pc2) (k : AW M T kn g pc2 ls (vI z :: st)) : AW M T kn g pc ls st := by
  intro p l e s m args below meth c B D cid ad0 ad H locs LS mc hK hX hE hR hL hl h1 h2
  subst hp
  exact lv_ldcw mc.1 mc.2.1 mc.2.2.2.2.1 (mc.2.2.2.2.2.1 _ hw) hd (k p l e s m args below meth c B D cid ad0 ad H locs LS mc hK hX hE hR hL hl h1 (okc hr h2))
theorem a_ldc2 {index : Nat} {w : Int64} (pc2 : Nat) (hd : decode M.2.1 pc = .ok (.ldc2_w index, 3)) (hw : Cond.constantLong M.1.cls index w ∈ tb) (hp : pc + 3 = pc2) (k : AW M T kn g pc2 ls (vL w :: st)) : AW M T kn g pc ls st := by
  intro p l e s m args below meth c B D cid ad0 ad H locs LS mc hK hX hE hR hL hl h1 h2
  subst hp
  exact lv_ldc2 mc.1 mc.2.1 mc.2.2.2.2.1 (mc.2.2.2.2.2.1 _ hw) hd (k p l e s m args below meth c B D cid ad0 ad H locs LS mc hK hX hE hR hL hl h1 (okc trivial h2))
theorem a_lconst {n : Fin 2} {w : Int64} (pc2 : Nat) (hd : decode M.2.1 pc = .ok (.lconst n, 1)) (hw : Int64.ofNat (n : Nat) = w) (hp : pc + 1 = pc2) (k : AW M T kn g pc2 ls (vL w :: st)) : AW M T kn g pc ls st := by
  intro p l e s m args below meth c B D cid ad0 ad H locs LS mc hK hX hE hR hL hl h1 h2
  subst hp
  exact lv_lconst mc.1 mc.2.1 hd hw (k p l e s m args below meth c B D cid ad0 ad H locs LS mc hK hX hE hR hL hl h1 (okc trivial h2))
theorem a_null (pc2 : Nat) (hd : decode M.2.1 pc = .ok (.aconst_null, 1)) (hp : pc + 1 = pc2) (k : AW M T kn g pc2 ls (vR none :: st)) : AW M T kn g pc ls st := by
  intro p l e s m args below meth c B D cid ad0 ad H locs LS mc hK hX hE hR hL hl h1 h2
  subst hp
  exact lv_null mc.1 mc.2.1 hd (k p l e s m args below meth c B D cid ad0 ad H locs LS mc hK hX hE hR hL hl h1 (okc trivial h2))
theorem a_iload_n {i : Fin 4} {x : Int} (pc2 : Nat) (hd : decode M.2.1 pc = .ok (.iload_n i, 1)) (hi : ls[(i : Nat)]? = some (vI x)) (hp : pc + 1 = pc2) (k : AW M T kn g pc2 ls (vI x :: st)) : AW M T kn g pc ls st := by
  intro p l e s m args below meth c B D cid ad0 ad H locs LS mc hK hX hE hR hL hl h1 h2
  subst hp
  exact lv_iload_n mc.1 mc.2.1 hd rfl (hl.at hi) (k p l e s m args below meth c B D cid ad0 ad H locs LS mc hK hX hE hR hL hl h1 (okc (okat h1 hi) h2))
theorem a_iload {i : Nat} {x : Int} (pc2 : Nat) (hd : decode M.2.1 pc = .ok (.iload i, 2)) (hi : ls[i]? = some (vI x)) (hp : pc + 2 = pc2) (k : AW M T kn g pc2 ls (vI x :: st)) : AW M T kn g pc ls st := by
  intro p l e s m args below meth c B D cid ad0 ad H locs LS mc hK hX hE hR hL hl h1 h2
  subst hp
  exact lv_iload mc.1 mc.2.1 hd (hl.at hi) (k p l e s m args below meth c B D cid ad0 ad H locs LS mc hK hX hE hR hL hl h1 (okc (okat h1 hi) h2))
theorem a_lload_n {i : Fin 4} {x : Int64} (pc2 : Nat) (hd : decode M.2.1 pc = .ok (.lload_n i, 1)) (hi : ls[(i : Nat)]? = some (vL x)) (hp : pc + 1 = pc2) (k : AW M T kn g pc2 ls (vL x :: st)) : AW M T kn g pc ls st := by
  intro p l e s m args below meth c B D cid ad0 ad H locs LS mc hK hX hE hR hL hl h1 h2
  subst hp
  exact lv_lload_n mc.1 mc.2.1 hd rfl (hl.at hi) (k p l e s m args below meth c B D cid ad0 ad H locs LS mc hK hX hE hR hL hl h1 (okc trivial h2))
theorem a_lload {i : Nat} {x : Int64} (pc2 : Nat) (hd : decode M.2.1 pc = .ok (.lload i, 2)) (hi : ls[i]? = some (vL x)) (hp : pc + 2 = pc2) (k : AW M T kn g pc2 ls (vL x :: st)) : AW M T kn g pc ls st := by
  intro p l e s m args below meth c B D cid ad0 ad H locs LS mc hK hX hE hR hL hl h1 h2
  subst hp
  exact lv_lload mc.1 mc.2.1 hd (hl.at hi) (k p l e s m args below meth c B D cid ad0 ad H locs LS mc hK hX hE hR hL hl h1 (okc trivial h2))
theorem a_aload_n {i : Fin 4} {r : Option Nat} (pc2 : Nat) (hd : decode M.2.1 pc = .ok (.aload_n i, 1)) (hi : ls[(i : Nat)]? = some (vR r)) (hp : pc + 1 = pc2) (k : AW M T kn g pc2 ls (vR r :: st)) : AW M T kn g pc ls st := by
  intro p l e s m args below meth c B D cid ad0 ad H locs LS mc hK hX hE hR hL hl h1 h2
  subst hp
  have hk := k p l e s m args below meth c B D cid ad0 ad H locs LS mc hK hX hE hR hL hl h1 (okc (okat h1 hi) h2)
  cases r with
  | none => exact lv_aload_nN mc.1 mc.2.1 hd rfl (hl.at hi) hk
  | some a => exact lv_aload_n mc.1 mc.2.1 hd rfl (hl.at hi) hk
theorem a_aload {i : Nat} {r : Option Nat} (pc2 : Nat) (hd : decode M.2.1 pc = .ok (.aload i, 2)) (hi : ls[i]? = some (vR r)) (hp : pc + 2 = pc2) (k : AW M T kn g pc2 ls (vR r :: st)) : AW M T kn g pc ls st := by
  intro p l e s m args below meth c B D cid ad0 ad H locs LS mc hK hX hE hR hL hl h1 h2
  subst hp
  have hk := k p l e s m args below meth c B D cid ad0 ad H locs LS mc hK hX hE hR hL hl h1 (okc (okat h1 hi) h2)
  cases r with
  | none => exact lv_aloadN mc.1 mc.2.1 hd (hl.at hi) hk
  | some a => exact lv_aload mc.1 mc.2.1 hd (hl.at hi) hk
theorem a_istore_n {i : Fin 4} {x : Int} (pc2 : Nat) (hd : decode M.2.1 pc = .ok (.istore_n i, 1)) (hn : (i : Nat) < M.2.2.1) (hl2 : lnl ls i = true) (hp : pc + 1 = pc2) (k : AW M T kn g pc2 (ls.set i (vI x)) st) : AW M T kn g pc ls (vI x :: st) := by
  intro p l e s m args below meth c B D cid ad0 ad H locs LS mc hK hX hE hR hL hl h1 h2
  subst hp
  exact lv_istore_n mc.1 mc.2.1 hd rfl hl hn rfl (fun LS' hl' => k p l e s m args below meth c B D cid ad0 ad H locs LS' mc hK hX hE hR hL (lok.set rfl hl2 hl') (okset (okh h2) h1) (okt h2))
theorem a_istore {i : Nat} {x : Int} (pc2 : Nat) (hd : decode M.2.1 pc = .ok (.istore i, 2)) (hn : i < M.2.2.1) (hl2 : lnl ls i = true) (hp : pc + 2 = pc2) (k : AW M T kn g pc2 (ls.set i (vI x)) st) : AW M T kn g pc ls (vI x :: st) := by
  intro p l e s m args below meth c B D cid ad0 ad H locs LS mc hK hX hE hR hL hl h1 h2
  subst hp
  exact lv_istore mc.1 mc.2.1 hd hl hn rfl (fun LS' hl' => k p l e s m args below meth c B D cid ad0 ad H locs LS' mc hK hX hE hR hL (lok.set rfl hl2 hl') (okset (okh h2) h1) (okt h2))
theorem a_lstore_n {i : Fin 4} {x : Int64} (pc2 : Nat) (hd : decode M.2.1 pc = .ok (.lstore_n i, 1)) (hn : (i : Nat) + 1 < M.2.2.1) (hl2 : lnl ls i = true) (hp : pc + 1 = pc2) (k : AW M T kn g pc2 ((ls.set i (vL x)).set (i + 1) none) st) : AW M T kn g pc ls (vL x :: st) := by
  intro p l e s m args below meth c B D cid ad0 ad H locs LS mc hK hX hE hR hL hl h1 h2
  subst hp
  exact lv_lstore_n mc.1 mc.2.1 hd rfl hl hn rfl (fun LS' hl' => k p l e s m args below meth c B D cid ad0 ad H locs LS' mc hK hX hE hR hL (lok.set2 hl2 hl') (okset trivial (okset trivial h1)) (okt h2))
theorem a_lstore {i : Nat} {x : Int64} (pc2 : Nat) (hd : decode M.2.1 pc = .ok (.lstore i, 2)) (hn : i + 1 < M.2.2.1) (hl2 : lnl ls i = true) (hp : pc + 2 = pc2) (k : AW M T kn g pc2 ((ls.set i (vL x)).set (i + 1) none) st) : AW M T kn g pc ls (vL x :: st) := by
  intro p l e s m args below meth c B D cid ad0 ad H locs LS mc hK hX hE hR hL hl h1 h2
  subst hp
  exact lv_lstore mc.1 mc.2.1 hd hl hn rfl (fun LS' hl' => k p l e s m args below meth c B D cid ad0 ad H locs LS' mc hK hX hE hR hL (lok.set2 hl2 hl') (okset trivial (okset trivial h1)) (okt h2))
theorem a_astore_n {i : Fin 4} {r : Option Nat} (pc2 : Nat) (hd : decode M.2.1 pc = .ok (.astore_n i, 1)) (hn : (i : Nat) < M.2.2.1) (hl2 : lnl ls i = true) (hp : pc + 1 = pc2) (k : AW M T kn g pc2 (ls.set i (vR r)) st) : AW M T kn g pc ls (vR r :: st) := by
  intro p l e s m args below meth c B D cid ad0 ad H locs LS mc hK hX hE hR hL hl h1 h2
  subst hp
  cases r with
  | none => exact lv_astore_nN mc.1 mc.2.1 hd rfl hl hn rfl (fun LS' hl' => k p l e s m args below meth c B D cid ad0 ad H locs LS' mc hK hX hE hR hL (lok.set rfl hl2 hl') (okset trivial h1) (okt h2))
  | some a => exact lv_astore_n mc.1 mc.2.1 hd rfl hl hn rfl (fun LS' hl' => k p l e s m args below meth c B D cid ad0 ad H locs LS' mc hK hX hE hR hL (lok.set rfl hl2 hl') (okset (okh h2) h1) (okt h2))
theorem a_astore {i : Nat} {r : Option Nat} (pc2 : Nat) (hd : decode M.2.1 pc = .ok (.astore i, 2)) (hn : i < M.2.2.1) (hl2 : lnl ls i = true) (hp : pc + 2 = pc2) (k : AW M T kn g pc2 (ls.set i (vR r)) st) : AW M T kn g pc ls (vR r :: st) := by
  intro p l e s m args below meth c B D cid ad0 ad H locs LS mc hK hX hE hR hL hl h1 h2
  subst hp
  cases r with
  | none => exact lv_astoreN mc.1 mc.2.1 hd hl hn rfl (fun LS' hl' => k p l e s m args below meth c B D cid ad0 ad H locs LS' mc hK hX hE hR hL (lok.set rfl hl2 hl') (okset trivial h1) (okt h2))
  | some a => exact lv_astore mc.1 mc.2.1 hd hl hn rfl (fun LS' hl' => k p l e s m args below meth c B D cid ad0 ad H locs LS' mc hK hX hE hR hL (lok.set rfl hl2 hl') (okset (okh h2) h1) (okt h2))
theorem lvl_k {ad : Nat → Nat} {ls : List AV} {i : Nat} {v : Int ⊕ (Int64 ⊕ Option Nat)} (h : ls[i]? = some (some v)) : ∃ k : Nat, (lvl ad ls)[k]? = some (i, cv ad (some v)) :=
  List.getElem?_of_mem (lvl_mem.mpr ⟨v, h, rfl⟩)
theorem a_iinc {i : Nat} {n x : Int} (pc2 : Nat) (hd : decode M.2.1 pc = .ok (.iinc i n, 3)) (hi : ls[i]? = some (vI x)) (hz : zr (x + n)) (hn : i < M.2.2.1) (hl2 : lnl ls i = true) (hp : pc + 3 = pc2) (k : AW M T kn g pc2 (ls.set i (vI (x + n))) st) : AW M T kn g pc ls st := by
  intro p l e s m args below meth c B D cid ad0 ad H locs LS mc hK hX hE hR hL hl h1 h2
  subst hp
  obtain ⟨kk, hk⟩ := lvl_k (ad := ad) hi
  exact lv_iinc mc.1 mc.2.1 hd hl hk (Int32.ofInt_add x n).symm hn rfl (fun LS' hl' => k p l e s m args below meth c B D cid ad0 ad H locs LS' mc hK hX hE hR hL (lok.set rfl hl2 hl') (okset hz h1) h2)
theorem a_goto {off : Int} (tgt : Nat) (hd : decode M.2.1 pc = .ok (.goto off, 3)) (ht : (pc : Int) + off = (tgt : Int)) (k : AW M T kn g tgt ls st) : AW M T kn g pc ls st := by
  intro p l e s m args below meth c B D cid ad0 ad H locs LS mc hK hX hE hR hL hl h1 h2
  exact lv_goto mc.1 mc.2.1 hd ht (k p l e s m args below meth c B D cid ad0 ad H locs LS mc hK hX hE hR hL hl h1 h2)
theorem a_iadd {x y : Int} (pc2 : Nat) (hd : decode M.2.1 pc = .ok (.iadd, 1)) (hz : zr (x + y)) (hp : pc + 1 = pc2) (k : AW M T kn g pc2 ls (vI (x + y) :: st)) : AW M T kn g pc ls (vI y :: vI x :: st) := by
  intro p l e s m args below meth c B D cid ad0 ad H locs LS mc hK hX hE hR hL hl h1 h2
  subst hp
  have hk := k p l e s m args below meth c B D cid ad0 ad H locs LS mc hK hX hE hR hL hl h1 (okc hz (okt (okt h2)))
  refine lv_iadd mc.1 mc.2.1 hd ?_
  rw [← Int32.ofInt_add]; exact hk
theorem a_isub {x y : Int} (pc2 : Nat) (hd : decode M.2.1 pc = .ok (.isub, 1)) (hz : zr (x - y)) (hp : pc + 1 = pc2) (k : AW M T kn g pc2 ls (vI (x - y) :: st)) : AW M T kn g pc ls (vI y :: vI x :: st) := by
  intro p l e s m args below meth c B D cid ad0 ad H locs LS mc hK hX hE hR hL hl h1 h2
  subst hp
  have hk := k p l e s m args below meth c B D cid ad0 ad H locs LS mc hK hX hE hR hL hl h1 (okc hz (okt (okt h2)))
  refine lv_isub mc.1 mc.2.1 hd ?_
  rw [← Int32.ofInt_sub]; exact hk
theorem a_imul {x y : Int} (pc2 : Nat) (hd : decode M.2.1 pc = .ok (.imul, 1)) (hz : zr (x * y)) (hp : pc + 1 = pc2) (k : AW M T kn g pc2 ls (vI (x * y) :: st)) : AW M T kn g pc ls (vI y :: vI x :: st) := by
  intro p l e s m args below meth c B D cid ad0 ad H locs LS mc hK hX hE hR hL hl h1 h2
  subst hp
  have hk := k p l e s m args below meth c B D cid ad0 ad H locs LS mc hK hX hE hR hL hl h1 (okc hz (okt (okt h2)))
  refine lv_imul mc.1 mc.2.1 hd ?_
  rw [← Int32.ofInt_mul]; exact hk
/-- any int operation, by its value -/
theorem z_of {x : Int32} {z : Int} (h : x.toInt = z) : x = Int32.ofInt z := by rw [← h, Int32.ofInt_toInt]
theorem zdiv {x y : Int} (hx : zr x) (hy : zr y) (h0 : 0 ≤ x) (h1 : 0 < y) : Int32.ofInt x / Int32.ofInt y = Int32.ofInt (x / y) := by
  apply z_of
  rw [Int32.toInt_div_of_ne_right _ _ (fun h => by
    have h2 := congrArg Int32.toInt h
    rw [zr_toInt hy] at h2
    have h3 : (-1 : Int32).toInt = -1 := by decide
    omega), zr_toInt hx, zr_toInt hy, Int.tdiv_eq_ediv_of_nonneg h0]
theorem zdiv_le {x y : Int} (h0 : 0 ≤ x) (h1 : 0 < y) : 0 ≤ x / y ∧ x / y ≤ x := ⟨Int.ediv_nonneg h0 (by omega), Int.ediv_le_self _ h0⟩
theorem zne0 {y : Int} (hy : zr y) (h : y ≠ 0) : ¬ Int32.ofInt y = 0 := fun q => h ((zi_eq hy zr_0).mp q)
theorem a_idiv {x y : Int} (pc2 : Nat) (hd : decode M.2.1 pc = .ok (.idiv, 1)) (h0 : 0 ≤ x) (h1 : 0 < y) (hp : pc + 1 = pc2) (k : AW M T kn g pc2 ls (vI (x / y) :: st)) : AW M T kn g pc ls (vI y :: vI x :: st) := by
  intro p l e s m args below meth c B D cid ad0 ad H locs LS mc hK hX hE hR hL hl h3 h2
  subst hp
  have hy : zr y := okh h2
  have hx : zr x := okh (okt h2)
  have hk := k p l e s m args below meth c B D cid ad0 ad H locs LS mc hK hX hE hR hL hl h3 (okc (show zr (x / y) from ⟨by have := (zdiv_le h0 h1).1; omega, by have := (zdiv_le h0 h1).2; have := hx.2; omega⟩) (okt (okt h2)))
  refine lv_idiv mc.1 mc.2.1 hd (zne0 hy (by omega)) ?_
  rw [zdiv hx hy h0 h1]; exact hk
theorem a_irem {x y : Int} (pc2 : Nat) (hd : decode M.2.1 pc = .ok (.irem, 1)) (h0 : 0 ≤ x) (h1 : 0 < y) (hp : pc + 1 = pc2) (k : AW M T kn g pc2 ls (vI (x % y) :: st)) : AW M T kn g pc ls (vI y :: vI x :: st) := by
  intro p l e s m args below meth c B D cid ad0 ad H locs LS mc hK hX hE hR hL hl h3 h2
  subst hp
  have hy : zr y := okh h2
  have hx : zr x := okh (okt h2)
  have hb1 := Int.emod_nonneg x (show y ≠ 0 by omega)
  have hb2 := Int.emod_lt_of_pos x h1
  have hk := k p l e s m args below meth c B D cid ad0 ad H locs LS mc hK hX hE hR hL hl h3 (okc (show zr (x % y) from ⟨by omega, by have := hy.2; omega⟩) (okt (okt h2)))
  refine lv_irem mc.1 mc.2.1 hd (zne0 hy (by omega)) ?_
  rw [zdiv hx hy h0 h1, ← Int32.ofInt_mul, ← Int32.ofInt_sub, show x - x / y * y = x % y by rw [Int.emod_def, Int.mul_comm]]
  exact hk
/-- iand, ior, ixor, shifts by a value that is shown to be theirs -/
theorem a_iand {x y : Int} (z : Int) (pc2 : Nat) (hd : decode M.2.1 pc = .ok (.iand, 1)) (hz : zr x → zr y → (Int32.ofInt x &&& Int32.ofInt y) = Int32.ofInt z ∧ zr z) (hp : pc + 1 = pc2) (k : AW M T kn g pc2 ls (vI z :: st)) : AW M T kn g pc ls (vI y :: vI x :: st) := by
  intro p l e s m args below meth c B D cid ad0 ad H locs LS mc hK hX hE hR hL hl h3 h2
  subst hp
  have h5 := hz (okh (okt h2)) (okh h2)
  have hk := k p l e s m args below meth c B D cid ad0 ad H locs LS mc hK hX hE hR hL hl h3 (okc h5.2 (okt (okt h2)))
  refine lv_iand mc.1 mc.2.1 hd ?_
  rw [h5.1]; exact hk
theorem a_ior {x y : Int} (z : Int) (pc2 : Nat) (hd : decode M.2.1 pc = .ok (.ior, 1)) (hz : zr x → zr y → (Int32.ofInt x ||| Int32.ofInt y) = Int32.ofInt z ∧ zr z) (hp : pc + 1 = pc2) (k : AW M T kn g pc2 ls (vI z :: st)) : AW M T kn g pc ls (vI y :: vI x :: st) := by
  intro p l e s m args below meth c B D cid ad0 ad H locs LS mc hK hX hE hR hL hl h3 h2
  subst hp
  have h5 := hz (okh (okt h2)) (okh h2)
  have hk := k p l e s m args below meth c B D cid ad0 ad H locs LS mc hK hX hE hR hL hl h3 (okc h5.2 (okt (okt h2)))
  refine lv_ior mc.1 mc.2.1 hd ?_
  rw [h5.1]; exact hk
theorem a_ixor {x y : Int} (z : Int) (pc2 : Nat) (hd : decode M.2.1 pc = .ok (.ixor, 1)) (hz : zr x → zr y → (Int32.ofInt x ^^^ Int32.ofInt y) = Int32.ofInt z ∧ zr z) (hp : pc + 1 = pc2) (k : AW M T kn g pc2 ls (vI z :: st)) : AW M T kn g pc ls (vI y :: vI x :: st) := by
  intro p l e s m args below meth c B D cid ad0 ad H locs LS mc hK hX hE hR hL hl h3 h2
  subst hp
  have h5 := hz (okh (okt h2)) (okh h2)
  have hk := k p l e s m args below meth c B D cid ad0 ad H locs LS mc hK hX hE hR hL hl h3 (okc h5.2 (okt (okt h2)))
  refine lv_ixor mc.1 mc.2.1 hd ?_
  rw [h5.1]; exact hk
theorem a_ishl {x y : Int} (z : Int) (pc2 : Nat) (hd : decode M.2.1 pc = .ok (.ishl, 1)) (hz : zr x → zr y → (Int32.ofInt x <<< (Int32.ofInt y &&& 31)) = Int32.ofInt z ∧ zr z) (hp : pc + 1 = pc2) (k : AW M T kn g pc2 ls (vI z :: st)) : AW M T kn g pc ls (vI y :: vI x :: st) := by
  intro p l e s m args below meth c B D cid ad0 ad H locs LS mc hK hX hE hR hL hl h3 h2
  subst hp
  have h5 := hz (okh (okt h2)) (okh h2)
  have hk := k p l e s m args below meth c B D cid ad0 ad H locs LS mc hK hX hE hR hL hl h3 (okc h5.2 (okt (okt h2)))
  refine lv_ishl mc.1 mc.2.1 hd ?_
  rw [h5.1]; exact hk
theorem a_ishr {x y : Int} (z : Int) (pc2 : Nat) (hd : decode M.2.1 pc = .ok (.ishr, 1)) (hz : zr x → zr y → (Int32.ofInt x >>> (Int32.ofInt y &&& 31)) = Int32.ofInt z ∧ zr z) (hp : pc + 1 = pc2) (k : AW M T kn g pc2 ls (vI z :: st)) : AW M T kn g pc ls (vI y :: vI x :: st) := by
  intro p l e s m args below meth c B D cid ad0 ad H locs LS mc hK hX hE hR hL hl h3 h2
  subst hp
  have h5 := hz (okh (okt h2)) (okh h2)
  have hk := k p l e s m args below meth c B D cid ad0 ad H locs LS mc hK hX hE hR hL hl h3 (okc h5.2 (okt (okt h2)))
  refine lv_ishr mc.1 mc.2.1 hd ?_
  rw [h5.1]; exact hk
theorem a_iushr {x y : Int} (z : Int) (pc2 : Nat) (hd : decode M.2.1 pc = .ok (.iushr, 1)) (hz : zr x → zr y → ((Int32.ofInt x).toUInt32 >>> ((Int32.ofInt y).toUInt32 &&& Int32.toUInt32 31)).toInt32 = Int32.ofInt z ∧ zr z) (hp : pc + 1 = pc2) (k : AW M T kn g pc2 ls (vI z :: st)) : AW M T kn g pc ls (vI y :: vI x :: st) := by
  intro p l e s m args below meth c B D cid ad0 ad H locs LS mc hK hX hE hR hL hl h3 h2
  subst hp
  have h5 := hz (okh (okt h2)) (okh h2)
  exact lv_iushr mc.1 mc.2.1 hd h5.1 (k p l e s m args below meth c B D cid ad0 ad H locs LS mc hK hX hE hR hL hl h3 (okc h5.2 (okt (okt h2))))
theorem a_i2b {x : Int} (z : Int) (pc2 : Nat) (hd : decode M.2.1 pc = .ok (.i2b, 1)) (hz : (Int32.ofInt x).toInt8.toInt32 = Int32.ofInt z ∧ zr z) (hp : pc + 1 = pc2) (k : AW M T kn g pc2 ls (vI z :: st)) : AW M T kn g pc ls (vI x :: st) := by
  intro p l e s m args below meth c B D cid ad0 ad H locs LS mc hK hX hE hR hL hl h3 h2
  subst hp
  exact lv_i2b mc.1 mc.2.1 hd hz.1 (k p l e s m args below meth c B D cid ad0 ad H locs LS mc hK hX hE hR hL hl h3 (okc hz.2 (okt h2)))
theorem a_i2c {x : Int} (pc2 : Nat) (hd : decode M.2.1 pc = .ok (.i2c, 1)) (h0 : 0 ≤ x) (h1 : x < 65536) (hp : pc + 1 = pc2) (k : AW M T kn g pc2 ls (vI x :: st)) : AW M T kn g pc ls (vI x :: st) := by
  intro p l e s m args below meth c B D cid ad0 ad H locs LS mc hK hX hE hR hL hl h3 h2
  subst hp
  refine lv_i2c mc.1 mc.2.1 hd ?_ (k p l e s m args below meth c B D cid ad0 ad H locs LS mc hK hX hE hR hL hl h3 h2)
  obtain ⟨n, rfl⟩ := Int.eq_ofNat_of_zero_le h0
  have e : Int32.ofInt (n : Int) = nI n := Int32.ofInt_eq_ofNat
  rw [e, pk_char, pk_tn (by omega), Nat.mod_eq_of_lt (by omega)]
theorem a_i2l {x : Int} {w : Int64} (pc2 : Nat) (hd : decode M.2.1 pc = .ok (.i2l, 1)) (hw : (Int32.ofInt x).toInt64 = w) (hp : pc + 1 = pc2) (k : AW M T kn g pc2 ls (vL w :: st)) : AW M T kn g pc ls (vI x :: st) := by
  intro p l e s m args below meth c B D cid ad0 ad H locs LS mc hK hX hE hR hL hl h3 h2
  subst hp
  exact lv_i2l mc.1 mc.2.1 hd hw (k p l e s m args below meth c B D cid ad0 ad H locs LS mc hK hX hE hR hL hl h3 (okc trivial (okt h2)))
theorem a_l2i {x : Int64} (pc2 : Nat) (hd : decode M.2.1 pc = .ok (.l2i, 1)) (hp : pc + 1 = pc2) (k : AW M T kn g pc2 ls (vI x.toInt32.toInt :: st)) : AW M T kn g pc ls (vL x :: st) := by
  intro p l e s m args below meth c B D cid ad0 ad H locs LS mc hK hX hE hR hL hl h3 h2
  subst hp
  exact lv_l2i mc.1 mc.2.1 hd (Int32.ofInt_toInt _).symm (k p l e s m args below meth c B D cid ad0 ad H locs LS mc hK hX hE hR hL hl h3 (okc (zr_32 _) (okt h2)))
theorem a_ladd {x y : Int64} (pc2 : Nat) (hd : decode M.2.1 pc = .ok (.ladd, 1)) (hp : pc + 1 = pc2) (k : AW M T kn g pc2 ls (vL (x + y) :: st)) : AW M T kn g pc ls (vL y :: vL x :: st) := by
  intro p l e s m args below meth c B D cid ad0 ad H locs LS mc hK hX hE hR hL hl h3 h2
  subst hp
  exact lv_ladd mc.1 mc.2.1 hd (k p l e s m args below meth c B D cid ad0 ad H locs LS mc hK hX hE hR hL hl h3 (okc trivial (okt (okt h2))))
theorem a_lsub {x y : Int64} (pc2 : Nat) (hd : decode M.2.1 pc = .ok (.lsub, 1)) (hp : pc + 1 = pc2) (k : AW M T kn g pc2 ls (vL (x - y) :: st)) : AW M T kn g pc ls (vL y :: vL x :: st) := by
  intro p l e s m args below meth c B D cid ad0 ad H locs LS mc hK hX hE hR hL hl h3 h2
  subst hp
  exact lv_lsub mc.1 mc.2.1 hd (k p l e s m args below meth c B D cid ad0 ad H locs LS mc hK hX hE hR hL hl h3 (okc trivial (okt (okt h2))))
theorem a_land {x y : Int64} (pc2 : Nat) (hd : decode M.2.1 pc = .ok (.land, 1)) (hp : pc + 1 = pc2) (k : AW M T kn g pc2 ls (vL (x &&& y) :: st)) : AW M T kn g pc ls (vL y :: vL x :: st) := by
  intro p l e s m args below meth c B D cid ad0 ad H locs LS mc hK hX hE hR hL hl h3 h2
  subst hp
  exact lv_land mc.1 mc.2.1 hd (k p l e s m args below meth c B D cid ad0 ad H locs LS mc hK hX hE hR hL hl h3 (okc trivial (okt (okt h2))))
theorem a_lor {x y : Int64} (pc2 : Nat) (hd : decode M.2.1 pc = .ok (.lor, 1)) (hp : pc + 1 = pc2) (k : AW M T kn g pc2 ls (vL (x ||| y) :: st)) : AW M T kn g pc ls (vL y :: vL x :: st) := by
  intro p l e s m args below meth c B D cid ad0 ad H locs LS mc hK hX hE hR hL hl h3 h2
  subst hp
  exact lv_lor mc.1 mc.2.1 hd (k p l e s m args below meth c B D cid ad0 ad H locs LS mc hK hX hE hR hL hl h3 (okc trivial (okt (okt h2))))
theorem a_lxor {x y : Int64} (pc2 : Nat) (hd : decode M.2.1 pc = .ok (.lxor, 1)) (hp : pc + 1 = pc2) (k : AW M T kn g pc2 ls (vL (x ^^^ y) :: st)) : AW M T kn g pc ls (vL y :: vL x :: st) := by
  intro p l e s m args below meth c B D cid ad0 ad H locs LS mc hK hX hE hR hL hl h3 h2
  subst hp
  exact lv_lxor mc.1 mc.2.1 hd (k p l e s m args below meth c B D cid ad0 ad H locs LS mc hK hX hE hR hL hl h3 (okc trivial (okt (okt h2))))
theorem a_lushr {x w : Int64} {y : Int} (pc2 : Nat) (hd : decode M.2.1 pc = .ok (.lushr, 1)) (hw : (x.toUInt64 >>> ((Int32.ofInt y).toInt64.toUInt64 &&& Int64.toUInt64 63)).toInt64 = w) (hp : pc + 1 = pc2) (k : AW M T kn g pc2 ls (vL w :: st)) : AW M T kn g pc ls (vI y :: vL x :: st) := by
  intro p l e s m args below meth c B D cid ad0 ad H locs LS mc hK hX hE hR hL hl h3 h2
  subst hp
  exact lv_lushr mc.1 mc.2.1 hd hw (k p l e s m args below meth c B D cid ad0 ad H locs LS mc hK hX hE hR hL hl h3 (okc trivial (okt (okt h2))))
theorem a_lshl {x w : Int64} {y : Int} (pc2 : Nat) (hd : decode M.2.1 pc = .ok (.lshl, 1)) (hw : x <<< ((Int32.ofInt y).toInt64 &&& 63) = w) (hp : pc + 1 = pc2) (k : AW M T kn g pc2 ls (vL w :: st)) : AW M T kn g pc ls (vI y :: vL x :: st) := by
  intro p l e s m args below meth c B D cid ad0 ad H locs LS mc hK hX hE hR hL hl h3 h2
  subst hp
  exact lv_lshl mc.1 mc.2.1 hd hw (k p l e s m args below meth c B D cid ad0 ad H locs LS mc hK hX hE hR hL hl h3 (okc trivial (okt (okt h2))))
theorem a_lshr {x w : Int64} {y : Int} (pc2 : Nat) (hd : decode M.2.1 pc = .ok (.lshr, 1)) (hw : x >>> ((Int32.ofInt y).toInt64 &&& 63) = w) (hp : pc + 1 = pc2) (k : AW M T kn g pc2 ls (vL w :: st)) : AW M T kn g pc ls (vI y :: vL x :: st) := by
  intro p l e s m args below meth c B D cid ad0 ad H locs LS mc hK hX hE hR hL hl h3 h2
  subst hp
  exact lv_lshr mc.1 mc.2.1 hd hw (k p l e s m args below meth c B D cid ad0 ad H locs LS mc hK hX hE hR hL hl h3 (okc trivial (okt (okt h2))))
def lcm (x y : Int64) : Int := if x > y then 1 else if x = y then 0 else -1
theorem a_lcmp {x y : Int64} (pc2 : Nat) (hd : decode M.2.1 pc = .ok (.lcmp, 1)) (hp : pc + 1 = pc2) (k : AW M T kn g pc2 ls (vI (lcm x y) :: st)) : AW M T kn g pc ls (vL y :: vL x :: st) := by
  intro p l e s m args below meth c B D cid ad0 ad H locs LS mc hK hX hE hR hL hl h3 h2
  subst hp
  have hz : zr (lcm x y) := by unfold lcm zr; split <;> (try split) <;> decide
  have hk := k p l e s m args below meth c B D cid ad0 ad H locs LS mc hK hX hE hR hL hl h3 (okc hz (okt (okt h2)))
  refine W.lcmp mc.1 mc.2.1 hd ?_
  have e9 : lg_cmp x y = Int32.ofInt (lcm x y) := by unfold lg_cmp lcm; split <;> (try split) <;> rfl
  rw [e9]; exact hk
theorem a_dup {v : AV} (pc2 : Nat) (hd : decode M.2.1 pc = .ok (.dup, 1)) (hv : ∀ w, v ≠ vL w) (hp : pc + 1 = pc2) (k : AW M T kn g pc2 ls (v :: v :: st)) : AW M T kn g pc ls (v :: st) := by
  intro p l e s m args below meth c B D cid ad0 ad H locs LS mc hK hX hE hR hL hl h3 h2
  subst hp
  exact lv_dup mc.1 mc.2.1 hd (cv_one hv) (k p l e s m args below meth c B D cid ad0 ad H locs LS mc hK hX hE hR hL hl h3 (okc (okh h2) h2))
theorem a_pop {v : AV} (pc2 : Nat) (hd : decode M.2.1 pc = .ok (.pop, 1)) (hv : ∀ w, v ≠ vL w) (hp : pc + 1 = pc2) (k : AW M T kn g pc2 ls st) : AW M T kn g pc ls (v :: st) := by
  intro p l e s m args below meth c B D cid ad0 ad H locs LS mc hK hX hE hR hL hl h3 h2
  subst hp
  exact lv_pop mc.1 mc.2.1 hd (cv_one hv) (k p l e s m args below meth c B D cid ad0 ad H locs LS mc hK hX hE hR hL hl h3 (okt h2))
theorem a_dup_x1 {v u : AV} (pc2 : Nat) (hd : decode M.2.1 pc = .ok (.dup_x1, 1)) (hv : ∀ w, v ≠ vL w) (hu : ∀ w, u ≠ vL w) (hp : pc + 1 = pc2) (k : AW M T kn g pc2 ls (v :: u :: v :: st)) : AW M T kn g pc ls (v :: u :: st) := by
  intro p l e s m args below meth c B D cid ad0 ad H locs LS mc hK hX hE hR hL hl h3 h2
  subst hp
  exact lv_dup_x1 mc.1 mc.2.1 hd (cv_one hv) (cv_one hu) (k p l e s m args below meth c B D cid ad0 ad H locs LS mc hK hX hE hR hL hl h3 (okc (okh h2) (okc (okh (okt h2)) (okc (okh h2) (okt (okt h2))))))
theorem a_dup2 {v u : AV} (pc2 : Nat) (hd : decode M.2.1 pc = .ok (.dup2, 1)) (hv : ∀ w, v ≠ vL w) (hu : ∀ w, u ≠ vL w) (hp : pc + 1 = pc2) (k : AW M T kn g pc2 ls (v :: u :: v :: u :: st)) : AW M T kn g pc ls (v :: u :: st) := by
  intro p l e s m args below meth c B D cid ad0 ad H locs LS mc hK hX hE hR hL hl h3 h2
  subst hp
  exact lv_dup2_11 mc.1 mc.2.1 hd (cv_one hv) (cv_one hu) (k p l e s m args below meth c B D cid ad0 ad H locs LS mc hK hX hE hR hL hl h3 (okc (okh h2) (okc (okh (okt h2)) h2)))
end AROWS
