/-! ===== a method's end, its contract, calls ===== -/
def rvl (ret : Option FieldType) (v : Value) : Option Value := match ret with
  | none => none
  | some _ => some v
def rst (ret : Option FieldType) (r : AV) (st : List AV) : List AV := match ret with
  | none => st
  | some _ => r :: st
def QE (M : MI) (B : BH) (D : va_G) (cid : FieldType → ClassId) (ad : Nat → Nat) (g : GH) (post : AV → GH → Prop) : Array Value → State → Outcome → State → Prop := fun _ _ o t =>
  ∃ (r : AV) (g' : GH) (ad' : Nat → Nat), o = .returned (rvl M.2.2.2.1 (cv ad' r)) ∧ post r g' ∧ vok g' r ∧ Ext ad g ad' g' ∧ Rp B D cid ad' g' t.heap
def tE (M : MI) (g : GH) (post : AV → GH → Prop) : TT := (g, fun _ _ _ => True, fun B D cid ad0 below args s => MQ below (QE M B D cid ad0 g post) args s M.2.2.2.2.cells M.2.2.2.2.slots (fun q => B.1 ≤ q))
/-- the method M, from the heap g with the arguments avs, returns with post -/
def AMet (M : MI) (g : GH) (avs : List AV) (post : AV → GH → Prop) : Prop :=
  ∀ (l : Launch) (B : BH) (D : va_G) (cid : FieldType → ClassId) (ad : Nat → Nat), (∀ v ∈ avs, vok g v) →
    Met l M.1 (Cond.code M.1 M.2.1 M.2.2.1 M.2.2.2.1 :: tb) M.2.2.2.2 (va_Pc (avs.map (cv ad)) (fun U => Rp B D cid ad g U.heap ∧ KN B D cid ad U)) (QE M B D cid ad g post) M.2.2.2.2.cells M.2.2.2.2.slots (fun q => B.1 ≤ q)
def lent : List AV → List AV
  | [] => []
  | some (Sum.inr (Sum.inl w)) :: vs => vL w :: none :: lent vs
  | v :: vs => v :: lent vs
theorem lent_len (ad : Nat → Nat) : ∀ avs : List AV, (lg_sl (avs.map (cv ad))).length = (lent avs).length
  | [] => rfl
  | none :: vs => by have := lent_len ad vs; simp [lg_sl, lent, cv, Value.category] at this ⊢; omega
  | some (Sum.inl z) :: vs => by have := lent_len ad vs; simp [lg_sl, lent, cv, Value.category] at this ⊢; omega
  | some (Sum.inr (Sum.inl w)) :: vs => by have := lent_len ad vs; simp [lg_sl, lent, cv, Value.category] at this ⊢; omega
  | some (Sum.inr (Sum.inr none)) :: vs => by have := lent_len ad vs; simp [lg_sl, lent, cv, Value.category] at this ⊢; omega
  | some (Sum.inr (Sum.inr (some a))) :: vs => by have := lent_len ad vs; simp [lg_sl, lent, cv, Value.category] at this ⊢; omega
theorem lent_one {v : AV} {vs : List AV} (h : ∀ w, v ≠ vL w) : lent (v :: vs) = v :: lent vs := by
  rcases v with _ | z | w | r
  · rfl
  · rfl
  · exact absurd rfl (h w)
  · rfl
theorem lent_in (ad : Nat → Nat) : ∀ (avs : List AV) (off i : Nat) (v : Int ⊕ (Int64 ⊕ Option Nat)), (lent avs)[i]? = some (some v) → (off + i, cv ad (some v)) ∈ lv_args off (avs.map (cv ad))
  | [], off, i, v, h => by simp [lent] at h
  | u :: vs, off, i, v, h => by
    by_cases hu : ∃ w, u = vL w
    · obtain ⟨w, rfl⟩ := hu
      have e1 : lent (vL w :: vs) = vL w :: none :: lent vs := rfl
      rw [e1] at h
      have e2 : lv_args off ((vL w :: vs).map (cv ad)) = (off, .long w) :: lv_args (off + 2) (vs.map (cv ad)) := rfl
      rw [e2]
      match i, h with
      | 0, h =>
        have h : vL w = some v := Option.some.inj h
        rw [← h]
        exact List.mem_cons_self
      | 1, h => exact absurd (show (none : AV) = some v from Option.some.inj h) (by simp)
      | i + 2, h =>
        have := lent_in ad vs (off + 2) i v h
        rw [show off + (i + 2) = off + 2 + i by omega]
        exact List.mem_cons_of_mem _ this
    · have hu : ∀ w, u ≠ vL w := fun w h => hu ⟨w, h⟩
      rw [lent_one hu] at h
      have hc := cv_one (ad := ad) hu
      have e2 : lv_args off ((u :: vs).map (cv ad)) = (off, cv ad u) :: lv_args (off + 1) (vs.map (cv ad)) := by
        show (off, cv ad u) :: lv_args (if (cv ad u).category = 2 then off + 2 else off + 1) _ = _
        rw [if_neg (by omega)]
      rw [e2]
      match i, h with
      | 0, h =>
        have h : u = some v := Option.some.inj h
        rw [← h]
        exact List.mem_cons_self
      | i + 1, h =>
        have := lent_in ad vs (off + 1) i v h
        rw [show off + (i + 1) = off + 1 + i by omega]
        exact List.mem_cons_of_mem _ this
theorem lent_ok {g : GH} : ∀ (avs : List AV), (∀ v ∈ avs, vok g v) → ∀ v ∈ lent avs, vok g v
  | [], _ => fun v h => by simp [lent] at h
  | u :: vs, h => by
    have ih := lent_ok vs (fun v hv => h v (List.mem_cons_of_mem _ hv))
    by_cases hu : ∃ w, u = vL w
    · obtain ⟨w, rfl⟩ := hu
      show ∀ v ∈ vL w :: none :: lent vs, vok g v
      exact okc trivial (okc trivial ih)
    · rw [lent_one (fun w h => hu ⟨w, h⟩)]
      exact okc (h u List.mem_cons_self) ih
theorem AMet.of {M : MI} {g : GH} {avs : List AV} {post : AV → GH → Prop} (ls : List AV) (hy : plainName M.1.cls = true) (hls : lent avs ++ List.replicate (M.2.2.1 - (lent avs).length) none = ls) (hlen : (lent avs).length ≤ M.2.2.1)
    (h : AW M (tE M g post) (0, 0) g 0 ls []) : AMet M g avs post := by
  intro l B D cid ad hv0
  refine Met.ofW (cc := M.2.1) (maxL := M.2.2.1) (ret := M.2.2.2.1) hy rfl ?_
  intro p e s m args below meth c s₁ BL hml hv
  obtain ⟨rfl, hR, hK⟩ := hv
  have hts := atoms_spec (ws := Cond.code M.1 M.2.1 M.2.2.1 M.2.2.2.1 :: tb) BL.pre
  have hl := lv_entry (avs.map (cv ad)) (n := M.2.2.1) (by rw [lent_len]; exact hlen)
  rw [lg_entry_eq]
  refine h p l e s m _ below meth c B D cid ad ad s.heap [] _ ⟨BL.exec, BL.bytes, BL.returns, hml, findClass_of_methodNamed BL.named, fun w hw => hts w (List.mem_cons_of_mem _ hw), BL.notSynchronized, (name_of_methodNamed BL.named BL.method).1⟩ hK trivial Ext.rf hR (fun q hq => by cases hq) ⟨hl.1, hl.2.1, fun q hq => ?_⟩ ?_ (fun v hv => by cases hv)
  · obtain ⟨v, hv, e9⟩ := lvl_mem.mp hq
    refine hl.2.2 q ?_
    rw [← hls] at hv
    have hlt : q.1 < (lent avs).length := by
      rcases Nat.lt_or_ge q.1 (lent avs).length with h1 | h1
      · exact h1
      · rw [List.getElem?_append_right h1] at hv
        have := List.eq_of_mem_replicate (List.mem_of_getElem? hv)
        cases this
    rw [List.getElem?_append_left hlt] at hv
    have := lent_in ad avs 0 q.1 v hv
    rw [Nat.zero_add, ← e9] at this
    exact this
  · rw [← hls]
    intro v hv
    rcases List.mem_append.mp hv with h1 | h1
    · exact lent_ok avs hv0 v h1
    · rw [List.eq_of_mem_replicate h1]; trivial
theorem AMet.post {M : MI} {g : GH} {avs : List AV} {post post' : AV → GH → Prop} (h : AMet M g avs post) (hp : ∀ r g', vok g' r → (∀ a, g.1 a ≠ none → g'.1 a = g.1 a) → post r g' → post' r g') : AMet M g avs post' := by
  intro l B D cid ad hv
  intro p e ha hc hk s m args below hf happ hP hK
  obtain ⟨n, o, w1, w2, w3, ⟨r, g', ad', q1, q2, q3, q4, q5⟩, q6⟩ := h l B D cid ad hv p e ha hc hk s m args below hf happ hP hK
  exact ⟨n, o, w1, w2, w3, ⟨r, g', ad', q1, hp r g' q3 (fun a ha => (q4.1 a ha).2) q2, q3, q4, q5⟩, q6⟩
section ARET
variable {M : MI} {kn : Nat × Nat} {g g0 : GH} {pc : Nat} {ls st : List AV} {post : AV → GH → Prop}
theorem a_ireturn {z : Int} (hd : decode M.2.1 pc = .ok (.ireturn, 1)) (ht : M.2.2.2.1 = some .int) (hk : kn.1 ≤ M.2.2.2.2.cells ∧ kn.2 ≤ M.2.2.2.2.slots) (hq : post (vI z) g) : AW M (tE M g0 post) kn g pc ls (vI z :: []) := by
  intro p l e s m args below meth c B D cid ad0 ad H locs LS mc hK hX hE hR hL hl h1 h2
  have hlocks : meth.locks = false := mc.2.2.2.2.2.2.1
  refine W.widen hk.1 hk.2 ?_
  exact W.iret (v := Int32.ofInt z) mc.1 mc.2.1 (mc.2.2.1.trans ht) (fun t ht9 hW => ⟨vI z, g, ad, by rw [ht]; rfl, hq, okh h2, hE, by rw [ht9]; exact hR⟩) hL hd
theorem a_zreturn {z : Int} {ty : FieldType} (hd : decode M.2.1 pc = .ok (.ireturn, 1)) (ht : M.2.2.2.1 = some ty) (hn : narrow ty (.int (Int32.ofInt z)) = .int (Int32.ofInt z)) (hk : kn.1 ≤ M.2.2.2.2.cells ∧ kn.2 ≤ M.2.2.2.2.slots) (hq : post (vI z) g) : AW M (tE M g0 post) kn g pc ls (vI z :: []) := by
  intro p l e s m args below meth c B D cid ad0 ad H locs LS mc hK hX hE hR hL hl h1 h2
  have hlocks : meth.locks = false := mc.2.2.2.2.2.2.1
  refine W.widen hk.1 hk.2 ?_
  exact W.zret (v := Int32.ofInt z) mc.1 mc.2.1 (mc.2.2.1.trans ht) hn (fun t ht9 hW => ⟨vI z, g, ad, by rw [ht]; rfl, hq, okh h2, hE, by rw [ht9]; exact hR⟩) hL hd
theorem nar_b {z : Int} (h : z = 0 ∨ z = 1) : narrow .boolean (.int (Int32.ofInt z)) = .int (Int32.ofInt z) := by rcases h with rfl | rfl <;> rfl
theorem a_breturn {z : Int} (hd : decode M.2.1 pc = .ok (.ireturn, 1)) (ht : M.2.2.2.1 = some .boolean) (hz : z = 0 ∨ z = 1) (hk : kn.1 ≤ M.2.2.2.2.cells ∧ kn.2 ≤ M.2.2.2.2.slots) (hq : post (vI z) g) : AW M (tE M g0 post) kn g pc ls (vI z :: []) := a_zreturn hd ht (nar_b hz) hk hq
theorem a_lreturn {w : Int64} (hd : decode M.2.1 pc = .ok (.lreturn, 1)) (ht : M.2.2.2.1 = some .long) (hk : kn.1 ≤ M.2.2.2.2.cells ∧ kn.2 ≤ M.2.2.2.2.slots) (hq : post (vL w) g) : AW M (tE M g0 post) kn g pc ls (vL w :: []) := by
  intro p l e s m args below meth c B D cid ad0 ad H locs LS mc hK hX hE hR hL hl h1 h2
  have hlocks : meth.locks = false := mc.2.2.2.2.2.2.1
  refine W.widen hk.1 hk.2 ?_
  exact W.lret (v := w) mc.1 mc.2.1 (mc.2.2.1.trans ht) (fun t ht9 hW => ⟨vL w, g, ad, by rw [ht]; rfl, hq, okh h2, hE, by rw [ht9]; exact hR⟩) hL hd
theorem a_return (hd : decode M.2.1 pc = .ok (.return_, 1)) (ht : M.2.2.2.1 = none) (hk : kn.1 ≤ M.2.2.2.2.cells ∧ kn.2 ≤ M.2.2.2.2.slots) (hq : post none g) : AW M (tE M g0 post) kn g pc ls [] := by
  intro p l e s m args below meth c B D cid ad0 ad H locs LS mc hK hX hE hR hL hl h1 h2
  have hlocks : meth.locks = false := mc.2.2.2.2.2.2.1
  refine W.widen hk.1 hk.2 ?_
  exact W.vret mc.1 mc.2.1 (mc.2.2.1.trans ht) (fun t ht9 hW => ⟨none, g, ad, by rw [ht]; rfl, hq, trivial, hE, by rw [ht9]; exact hR⟩) hL hd
end ARET
/-! calls: what is fixed of a method -/
def CD (M : MI) (n : Nat) : Prop := Cond.code M.1 M.2.1 M.2.2.1 M.2.2.2.1 ∈ tb ∧ Cond.initialized M.1.cls ∈ tb ∧ (M.1.cls ≠ "java/lang/invoke/MethodHandle" ∧ M.1.cls ≠ "java/lang/invoke/VarHandle" ∧ (parseMethodDescriptor M.1.desc).map (fun d => d.parameters.length) = some n)
def CDS (M : MI) (n : Nat) : Prop := CD M n ∧ Cond.static M.1 ∈ tb
def CDV (M : MI) (n ci : Nat) : Prop := CD M n ∧ Cond.instanceMethod M.1 ∈ tb ∧ Cond.selects M.1.cls M.1 M.1 ∈ tb ∧ clN ci = M.1.cls
def CDI (M : MI) (n : Nat) : Prop := CD M n ∧ Cond.instanceMethod M.1 ∈ tb ∧ M.1.name = "<init>" ∧ M.2.2.2.1 = none
/-- the link of a call: of the class itself, or of a nest mate -/
def LK (own : String) (index : Nat) (M : MI) : Prop := Cond.methodLink own index M.1 ∈ tb
def LN (own : String) (index : Nat) (M : MI) : Prop := Cond.methodLinkNest own index M.1 RX11 ∈ nestW
theorem tb_good : ∀ w ∈ tb, goodWord w = true := fun w h => (List.mem_filter.mp h).2
theorem good_tb {c : Cond} (h : c ∈ tb) : GoodIn tb (c :: tb) := fun w hw => by
  rcases List.mem_cons.mp hw with rfl | hw
  · exact ⟨h, good_of_word (tb_good _ h)⟩
  · exact ⟨hw, good_of_word (tb_good _ hw)⟩
def acat (v : AV) : Nat := match v with
  | some (Sum.inr (Sum.inl _)) => 2
  | _ => 1
theorem acat_cv (ad : Nat → Nat) (v : AV) : (cv ad v).category = acat v := by rcases v with _ | z | w | _ | a <;> rfl
def fit (M : MI) (M' : MI) (kn : Nat × Nat) : Prop := M'.2.2.2.2.frames + 1 ≤ M.2.2.2.2.frames ∧ 8 + (M'.2.2.1 + 11) + M'.2.2.2.2.locals ≤ M.2.2.2.2.locals ∧ kn.1 + M'.2.2.2.2.cells ≤ M.2.2.2.2.cells ∧ kn.2 + M'.2.2.2.2.slots ≤ M.2.2.2.2.slots
section ACALL
variable {M : MI} {T : TT} {kn : Nat × Nat} {g : GH} {pc : Nat} {ls st : List AV}
theorem call_fin {p : Program} {l : Launch} {e : Env} {s : State} {m : MethodId} {args : Array Value} {below : List Frame} {meth : Method} {c : Code} {B : BH} {D : va_G} {cid : FieldType → ClassId} {ad0 ad : Nat → Nat} {H : Heap} {locs : List Loc} {LS : Array Slot} {M' : MI} {post : AV → GH → Prop} {a' : Array Value} {st0 : List Value}
    (mc : MC M p s m args meth c) (hK : KN B D cid ad s) (hX : T.2.1 B ad0 s) (hE : Ext ad0 T.1 ad g) (hL : ∀ q ∈ locs, B.1 ≤ q.base) (hl : lok ad M.2.2.1 ls LS) (h1 : ∀ v ∈ ls, vok g v) (h2 : ∀ v ∈ st, vok g v)
    (hrun : va_Run p l e M.2.2.2.2 s m args below meth c H locs kn.1 kn.2 M'.2.2.2.2.cells M'.2.2.2.2.slots (F0 m pc LS st0) (st.map (cv ad)) (QE M' B D cid ad g post a') (fun q => B.1 ≤ q))
    (kk : ∀ r g', vok g' r → post r g' → (∀ a, g.1 a ≠ none → g'.1 a = g.1 a) → AW M T (kn.1 + M'.2.2.2.2.cells, kn.2 + M'.2.2.2.2.slots) g' (pc + 3) ls (rst M'.2.2.2.1 r st)) :
    W p l e M.2.2.2.2 s m args below meth c H locs kn.1 kn.2 (T.2.2 B D cid ad0 below args s) (F0 m pc LS st0) := by
  intro Tm hT X
  obtain ⟨v, st₀, t, T', L, h0, X', hL', e1, e2, ⟨r, g', ad', hv, hp, hvk, hE', hR'⟩, stp⟩ := hrun Tm hT X
  have hv' : v = rvl M'.2.2.2.1 (cv ad' r) := by injection hv
  subst hv'
  have hok : ∀ x ∈ rst M'.2.2.2.1 r st, vok g' x := by
    unfold rst
    split
    · exact ok_ext hE' h2
    · exact okc hvk (ok_ext hE' h2)
  have hk := kk r g' hvk hp (fun a ha => (hE'.1 a ha).2) p l e s m args below meth c B D cid ad0 ad' T'.heap (locs ++ L) LS mc (hK.ext hE'.2) hX (hE.tr hE') (by rw [e1]; exact hR') (fun q hq => by
    rcases List.mem_append.mp hq with h | h
    · exact hL q h
    · exact hL' q h) (lok_ext hE' hl h1) (ok_ext hE' h1) hok
  have hst : (rst M'.2.2.2.1 r st).map (cv ad') = (rvl M'.2.2.2.1 (cv ad' r)).toList ++ st.map (cv ad) := by
    unfold rst rvl
    split
    · exact map_ext hE' h2
    · show cv ad' r :: st.map (cv ad') = _
      rw [map_ext hE' h2]; rfl
  rw [hst] at hk
  obtain ⟨t2, a1, b1⟩ := hk T' rfl X'
  exact ⟨t2, stp t2 a1, b1⟩
theorem pre_of {s : State} {H : Heap} {B : BH} {D : va_G} {cid : FieldType → ClassId} {ad : Nat → Nat} {avs : List AV} (hK : KN B D cid ad s) (hR : Rp B D cid ad g H) : PreS s H (va_Pc (avs.map (cv ad)) (fun U => Rp B D cid ad g U.heap ∧ KN B D cid ad U)) (avs.map (cv ad)) :=
  ⟨fun a U gf mk q => ⟨q.1, q.2.1, KN.same (s := U) (U := U.calling gf mk a) rfl q.2.2⟩, fun U hU hW => ⟨rfl, by rw [hU]; exact hR, hK.warm hW⟩⟩
theorem room_st {m : MethodId} {LS : Array Slot} {rest : List Value} {ad : Nat → Nat} {st : List AV} (h : (st.map acat).sum ≤ 8) : 2 * (F0 m pc LS rest).monitorRoom + ((st.map (cv ad)).map fun v => v.category).sum ≤ 8 := by
  refine lv_room ?_
  rw [List.map_map, show ((fun v : Value => v.category) ∘ cv ad) = acat from funext (fun v => acat_cv ad v)]
  exact h
theorem map_rev (ad : Nat → Nat) (avs st : List AV) : (List.reverseAux avs st).map (cv ad) = (avs.map (cv ad)).reverse ++ st.map (cv ad) := by
  rw [List.reverseAux_eq, List.map_append, List.map_reverse]
theorem ok_rev {avs st : List AV} (h : ∀ v ∈ List.reverseAux avs st, vok g v) : (∀ v ∈ avs, vok g v) ∧ ∀ v ∈ st, vok g v := by
  rw [List.reverseAux_eq] at h
  exact ⟨fun v hv => h v (List.mem_append_left _ (List.mem_reverse.mpr hv)), fun v hv => h v (List.mem_append_right _ hv)⟩
theorem a_callSA {M' : MI} {index n : Nat} {avs stk : List AV} {post : AV → GH → Prop} (pc2 : Nat) (hM : AMet M' g avs post) (hc : CDS M' n) (hlk : LK M.1.cls index M' ∨ LN M.1.cls index M') (hd : decode M.2.1 pc = .ok (.invokestatic index, 3)) (hst : List.reverseAux avs st = stk) (hn : avs.length = n) (hfit : fit M M' kn) (hw : (st.map acat).sum ≤ 8) (hp : pc + 3 = pc2)
    (kk : ∀ r g', vok g' r → post r g' → (∀ a, g.1 a ≠ none → g'.1 a = g.1 a) → AW M T (kn.1 + M'.2.2.2.2.cells, kn.2 + M'.2.2.2.2.slots) g' pc2 ls (rst M'.2.2.2.1 r st)) : AW M T kn g pc ls stk := by
  intro p l e s m args below meth c B D cid ad0 ad H locs LS mc hK hX hE hR hL hl h1 h2
  subst hp; subst hst
  obtain ⟨o1, o2⟩ := ok_rev h2
  have hts := mc.2.2.2.2.2.1
  obtain ⟨⟨c1, c2, c3⟩, c4⟩ := hc
  refine call_fin (a' := (avs.map (cv ad)).toArray) mc hK hX hE hL hl h1 o2 ?_ kk
  rcases hlk with hlk | hlk
  · refine va_runS (n := n) ⟨mc.1, mc.2.1, mc.2.2.2.1, mc.2.2.2.2.1, hts⟩ (hM l B D cid ad o1) ⟨callB_of n hts (good_tb c1) rfl rfl rfl (hts _ c2) (hts _ hlk) c3 ⟨hfit.1, hfit.2.1⟩, hts _ c4⟩ (pre_of hK hR) rfl (by rw [List.length_map]; exact hn) hl.1 (map_rev ad avs st) (room_st hw) hd ⟨hfit.2.2.1, hfit.2.2.2⟩
  · refine va_runSN (n := n) ⟨mc.1, mc.2.1, mc.2.2.2.1, mc.2.2.2.2.1, hts⟩ (hM l B D cid ad o1) ⟨va_cnB n hts (good_tb c1) rfl rfl rfl (hK.2.2.1.1 _ hlk) (hts _ c2) c3 ⟨hfit.1, hfit.2.1⟩, hts _ c4, trivial⟩ (pre_of hK hR) rfl (by rw [List.length_map]; exact hn) hl.1 (map_rev ad avs st) (room_st hw) hd ⟨hfit.2.2.1, hfit.2.2.2⟩
theorem a_callVA {M' : MI} {index n ci b : Nat} {avs stk : List AV} {post : AV → GH → Prop} (pc2 : Nat) (hM : AMet M' g (vA b :: avs) post) (hc : CDV M' n ci) (hlk : LK M.1.cls index M' ∨ LN M.1.cls index M') (hd : decode M.2.1 pc = .ok (.invokevirtual index, 3)) (hst : List.reverseAux (vA b :: avs) st = stk) (hb : g.1 b = some (Sum.inl ci)) (hn : avs.length = n) (hfit : fit M M' kn) (hw : (st.map acat).sum ≤ 8) (hp : pc + 3 = pc2)
    (kk : ∀ r g', vok g' r → post r g' → (∀ a, g.1 a ≠ none → g'.1 a = g.1 a) → AW M T (kn.1 + M'.2.2.2.2.cells, kn.2 + M'.2.2.2.2.slots) g' pc2 ls (rst M'.2.2.2.1 r st)) : AW M T kn g pc ls stk := by
  intro p l e s m args below meth c B D cid ad0 ad H locs LS mc hK hX hE hR hL hl h1 h2
  subst hp; subst hst
  obtain ⟨o1, o2⟩ := ok_rev h2
  have hts := mc.2.2.2.2.2.1
  obtain ⟨⟨c1, c2, c3⟩, c4, c5, c6⟩ := hc
  have hpre := pre_of (avs := vA b :: avs) hK hR
  have hrec : ∃ cellB : Cell, H[ad b]? = some cellB ∧ cellB.vm.isStatics = false ∧ s.vm.findClass M'.1.cls = some cellB.cls := by
    obtain ⟨r, hr, cell, g1, g2, g3, -⟩ := hR.2.2.2.2.1 b _ hb
    refine ⟨cell, g1, by rw [g3]; rfl, ?_⟩
    rw [g2, ← c6]
    have := (hK.1.1 ci r hr).2.1
    rw [show clN ci = r.1 by simp [clN, hr]]
    exact this
  have hstk : (List.reverseAux (vA b :: avs) st).map (cv ad) = (avs.map (cv ad)).reverse ++ .ref (ad b) :: st.map (cv ad) := by
    rw [map_rev]
    show (.ref (ad b) :: avs.map (cv ad)).reverse ++ _ = _
    rw [List.reverse_cons, List.append_assoc]; rfl
  refine call_fin (a' := (Value.ref (ad b) :: avs.map (cv ad)).toArray) mc hK hX hE hL hl h1 o2 ?_ kk
  rcases hlk with hlk | hlk
  · exact va_runV (n := n) (C := M'.1.cls) ⟨mc.1, mc.2.1, mc.2.2.2.1, mc.2.2.2.2.1, hts⟩ (hM l B D cid ad o1) ⟨callB_of n hts (good_tb c1) rfl rfl rfl (hts _ c2) (hts _ hlk) c3 ⟨hfit.1, hfit.2.1⟩, hts _ c4, hts _ c5⟩ ⟨hpre.1, hrec, hpre.2⟩ rfl (by rw [List.length_map]; exact hn) hl.1 hstk (room_st hw) hd ⟨hfit.2.2.1, hfit.2.2.2⟩
  · exact va_runVN (n := n) (C := M'.1.cls) ⟨mc.1, mc.2.1, mc.2.2.2.1, mc.2.2.2.2.1, hts⟩ (hM l B D cid ad o1) ⟨va_cnB n hts (good_tb c1) rfl rfl rfl (hK.2.2.1.1 _ hlk) (hts _ c2) c3 ⟨hfit.1, hfit.2.1⟩, hts _ c4, hts _ c5⟩ ⟨hpre.1, hrec, hpre.2⟩ rfl (by rw [List.length_map]; exact hn) hl.1 hstk (room_st hw) hd ⟨hfit.2.2.1, hfit.2.2.2⟩
theorem a_callIA {M' : MI} {index n b : Nat} {avs stk : List AV} {post : AV → GH → Prop} (pc2 : Nat) (hM : AMet M' g (vA b :: avs) post) (hc : CDI M' n) (hlk : LK M.1.cls index M' ∨ LN M.1.cls index M') (hd : decode M.2.1 pc = .ok (.invokespecial index, 3)) (hst : List.reverseAux (vA b :: avs) st = stk) (hn : avs.length = n) (hfit : fit M M' kn) (hw : (st.map acat).sum ≤ 8) (hp : pc + 3 = pc2)
    (kk : ∀ r g', vok g' r → post r g' → (∀ a, g.1 a ≠ none → g'.1 a = g.1 a) → AW M T (kn.1 + M'.2.2.2.2.cells, kn.2 + M'.2.2.2.2.slots) g' pc2 ls (rst M'.2.2.2.1 r st)) : AW M T kn g pc ls stk := by
  intro p l e s m args below meth c B D cid ad0 ad H locs LS mc hK hX hE hR hL hl h1 h2
  subst hp; subst hst
  obtain ⟨o1, o2⟩ := ok_rev h2
  have hts := mc.2.2.2.2.2.1
  obtain ⟨⟨c1, c2, c3⟩, c4, c5, c6⟩ := hc
  have hpre := pre_of (avs := vA b :: avs) hK hR
  have hstk : (List.reverseAux (vA b :: avs) st).map (cv ad) = (avs.map (cv ad)).reverse ++ .ref (ad b) :: st.map (cv ad) := by
    rw [map_rev]
    show (.ref (ad b) :: avs.map (cv ad)).reverse ++ _ = _
    rw [List.reverse_cons, List.append_assoc]; rfl
  refine call_fin (a' := (Value.ref (ad b) :: avs.map (cv ad)).toArray) mc hK hX hE hL hl h1 o2 ?_ kk
  have hM9 := hM l B D cid ad o1
  have hc9 := c1
  rw [c6] at hM9 hc9
  rcases hlk with hlk | hlk
  · exact va_runI (n := n) ⟨mc.1, mc.2.1, mc.2.2.2.1, mc.2.2.2.2.1, hts⟩ hM9 ⟨callB_of n hts (good_tb hc9) rfl rfl rfl (hts _ c2) (hts _ hlk) c3 ⟨hfit.1, hfit.2.1⟩, c5, hts _ c4⟩ hpre rfl (by rw [List.length_map]; exact hn) hl.1 hstk (room_st hw) hd ⟨hfit.2.2.1, hfit.2.2.2⟩
  · exact va_runIN (n := n) ⟨mc.1, mc.2.1, mc.2.2.2.1, mc.2.2.2.2.1, hts⟩ hM9 ⟨va_cnB n hts (good_tb hc9) rfl rfl rfl (hK.2.2.1.1 _ hlk) (hts _ c2) c3 ⟨hfit.1, hfit.2.1⟩, c5, hts _ c4⟩ hpre rfl (by rw [List.length_map]; exact hn) hl.1 hstk (room_st hw) hd ⟨hfit.2.2.1, hfit.2.2.2⟩
/-- calls of methods that make nothing -/
def fit0 (M : MI) (M' : MI) : Prop := M'.2.2.2.2.frames + 1 ≤ M.2.2.2.2.frames ∧ 8 + (M'.2.2.1 + 11) + M'.2.2.2.2.locals ≤ M.2.2.2.2.locals ∧ M'.2.2.2.2.cells = 0 ∧ M'.2.2.2.2.slots = 0
theorem fit0_fit {M M' : MI} {kn : Nat × Nat} (h : fit0 M M') (hk : kn.1 ≤ M.2.2.2.2.cells ∧ kn.2 ≤ M.2.2.2.2.slots) : fit M M' kn := ⟨h.1, h.2.1, by rw [h.2.2.1]; exact hk.1, by rw [h.2.2.2]; exact hk.2⟩
theorem a_callS {M' : MI} {index n : Nat} {avs stk : List AV} {post : AV → GH → Prop} (pc2 : Nat) (hM : AMet M' g avs post) (hc : CDS M' n) (hlk : LK M.1.cls index M' ∨ LN M.1.cls index M') (hd : decode M.2.1 pc = .ok (.invokestatic index, 3)) (hst : List.reverseAux avs st = stk) (hn : avs.length = n) (hfit : fit0 M M') (hk : kn.1 ≤ M.2.2.2.2.cells ∧ kn.2 ≤ M.2.2.2.2.slots) (hw : (st.map acat).sum ≤ 8) (hp : pc + 3 = pc2)
    (kk : ∀ r g', vok g' r → post r g' → (∀ a, g.1 a ≠ none → g'.1 a = g.1 a) → AW M T kn g' pc2 ls (rst M'.2.2.2.1 r st)) : AW M T kn g pc ls stk :=
  a_callSA pc2 hM hc hlk hd hst hn (fit0_fit hfit hk) hw hp (fun r g' h1 h2 h3 => by rw [hfit.2.2.1, hfit.2.2.2]; exact kk r g' h1 h2 h3)
theorem a_callV {M' : MI} {index n ci b : Nat} {avs stk : List AV} {post : AV → GH → Prop} (pc2 : Nat) (hM : AMet M' g (vA b :: avs) post) (hc : CDV M' n ci) (hlk : LK M.1.cls index M' ∨ LN M.1.cls index M') (hd : decode M.2.1 pc = .ok (.invokevirtual index, 3)) (hst : List.reverseAux (vA b :: avs) st = stk) (hb : g.1 b = some (Sum.inl ci)) (hn : avs.length = n) (hfit : fit0 M M') (hk : kn.1 ≤ M.2.2.2.2.cells ∧ kn.2 ≤ M.2.2.2.2.slots) (hw : (st.map acat).sum ≤ 8) (hp : pc + 3 = pc2)
    (kk : ∀ r g', vok g' r → post r g' → (∀ a, g.1 a ≠ none → g'.1 a = g.1 a) → AW M T kn g' pc2 ls (rst M'.2.2.2.1 r st)) : AW M T kn g pc ls stk :=
  a_callVA pc2 hM hc hlk hd hst hb hn (fit0_fit hfit hk) hw hp (fun r g' h1 h2 h3 => by rw [hfit.2.2.1, hfit.2.2.2]; exact kk r g' h1 h2 h3)
theorem a_objInit {index b : Nat} (pc2 : Nat) (hd : decode M.2.1 pc = .ok (.invokespecial index, 3)) (hw : Cond.methodLink M.1.cls index objectInit ∈ tb ∧ Cond.instanceMethod objectInit ∈ tb ∧ Cond.code objectInit ⟨#[0xb1]⟩ 1 none ∈ tb) (hr : 1 ≤ M.2.2.2.2.frames ∧ 20 ≤ M.2.2.2.2.locals) (hs : (st.map acat).sum ≤ 8) (hp : pc + 3 = pc2) (kk : AW M T kn g pc2 ls st) : AW M T kn g pc ls (vA b :: st) := by
  intro p l e s m args below meth c B D cid ad0 ad H locs LS mc hK hX hE hR hL hl h1 h2
  subst hp
  have hts := mc.2.2.2.2.2.1
  have h9 := room_st (m := m) (LS := LS) (rest := (vA b :: st).map (cv ad)) (pc := pc) (ad := ad) hs
  exact W.objInit mc.1 mc.2.1 mc.2.2.2.2.1 (hts _ hw.1) (hts _ hw.2.1) (hts _ hw.2.2) rfl (by rw [mc.2.2.2.1]; exact hl.1) rfl hd hr.1 (by omega) (kk p l e s m args below meth c B D cid ad0 ad H locs LS mc hK hX hE hR hL hl h1 (okt h2))
end ACALL
