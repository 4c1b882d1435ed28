/-! ===== fields and arrays ===== -/
def fdn (ci k : Nat) : String × String × String × Bool := match vwCl[ci]? with
  | some r => r.2.1 k
  | none => ("", "", "", false)
def fN (ci : Nat) : Nat := match vwCl[ci]? with
  | some r => r.2.2
  | none => 0
/-- the field k of class ci, linked at index of own's pool -/
def FL (own : String) (index ci k : Nat) : Prop := k < fN ci ∧ Cond.fieldLink own index (fdn ci k).1 (fdn ci k).2.1 (fdn ci k).2.2.1 ∈ tb
def tI (ty : FieldType) : Bool := match ty with
  | .int => true | .boolean => true | .byte => true | _ => false
def tRf (ty : FieldType) : Bool := match ty with
  | .object _ => true | .array _ => true | _ => false
theorem fv_I {ty : FieldType} (h : tI ty = true) (ad : Nat → Nat) (g : GH) (a k : Nat) : fv ty ad g a k = .int (Int32.ofInt (g.2.1 a k)) := by cases ty <;> first | rfl | (simp [tI] at h; done)
theorem fv_R {ty : FieldType} (h : tRf ty = true) (ad : Nat → Nat) (g : GH) (a k : Nat) : fv ty ad g a k = va_rf ((g.2.2.2 a k).map ad) := by cases ty <;> first | rfl | (simp [tRf] at h; done)
theorem cl_in_0 : ∀ w ∈ u_ws RX0 TX0 2, w ∈ tb := by decide +kernel
theorem cl_in_1 : ∀ w ∈ u_ws RX1 TX1 1, w ∈ tb := by decide +kernel
theorem cl_in_2 : ∀ w ∈ u_ws RX2 TX2 5, w ∈ tb := by decide +kernel
theorem cl_in_3 : ∀ w ∈ u_ws RX3 TX3 8, w ∈ tb := by decide +kernel
theorem cl_in_4 : ∀ w ∈ u_ws RX4 TX4 1, w ∈ tb := by decide +kernel
theorem cl_in_5 : ∀ w ∈ u_ws RX5 TX5 13, w ∈ tb := by decide +kernel
theorem cl_in_6 : ∀ w ∈ u_ws RX6 TX6 3, w ∈ tb := by decide +kernel
theorem cl_in_7 : ∀ w ∈ u_ws RX7 TX7 2, w ∈ tb := by decide +kernel
theorem cl_in_8 : ∀ w ∈ u_ws RX8 TX8 7, w ∈ tb := by decide +kernel
theorem cl_in_9 : ∀ w ∈ u_ws RX9 TX9 10, w ∈ tb := by decide +kernel
theorem cl_in_10 : ∀ w ∈ u_ws RX10 TX10 8, w ∈ tb := by decide +kernel
theorem cl_in_11 : ∀ w ∈ u_ws RX11 TX11 12, w ∈ tb := by decide +kernel
theorem cl_in_12 : ∀ w ∈ u_ws RX12 TX12 39, w ∈ tb := by decide +kernel
theorem cl_all {ci : Nat} {r : vw_C} (h : vwCl[ci]? = some r) : (∀ w ∈ u_ws r.1 r.2.1 r.2.2, w ∈ tb) ∧ (∀ k, k < r.2.2 → parseFieldDescriptor (r.2.1 k).2.2.1 = some (tyc ci k)) ∧ (∀ a, a < r.2.2 → ∀ b, b < r.2.2 → a ≠ b → (r.2.1 a).2.1 ≠ (r.2.1 b).2.1) := by
  match ci, h with
  | 0, h => cases h; exact ⟨cl_in_0, tyX0_ok, nmX0⟩
  | 1, h => cases h; exact ⟨cl_in_1, tyX1_ok, nmX1⟩
  | 2, h => cases h; exact ⟨cl_in_2, tyX2_ok, nmX2⟩
  | 3, h => cases h; exact ⟨cl_in_3, tyX3_ok, nmX3⟩
  | 4, h => cases h; exact ⟨cl_in_4, tyX4_ok, nmX4⟩
  | 5, h => cases h; exact ⟨cl_in_5, tyX5_ok, nmX5⟩
  | 6, h => cases h; exact ⟨cl_in_6, tyX6_ok, nmX6⟩
  | 7, h => cases h; exact ⟨cl_in_7, tyX7_ok, nmX7⟩
  | 8, h => cases h; exact ⟨cl_in_8, tyX8_ok, nmX8⟩
  | 9, h => cases h; exact ⟨cl_in_9, tyX9_ok, nmX9⟩
  | 10, h => cases h; exact ⟨cl_in_10, tyX10_ok, nmX10⟩
  | 11, h => cases h; exact ⟨cl_in_11, tyX11_ok, nmX11⟩
  | 12, h => cases h; exact ⟨cl_in_12, tyX12_ok, nmX12⟩
  | n + 13, h => simp [vwCl] at h
theorem fd_of {ci : Nat} {r : vw_C} (h : vwCl[ci]? = some r) (k : Nat) : fdn ci k = r.2.1 k ∧ fN ci = r.2.2 := by simp [fdn, fN, h]
section AFLD
variable {M : MI} {T : TT} {kn : Nat × Nat} {g : GH} {pc : Nat} {ls st : List AV}
/-- a field is read -/
theorem get_core {p : Program} {l : Launch} {e : Env} {s : State} {m : MethodId} {args : Array Value} {below : List Frame} {meth : Method} {c : Code} {B : BH} {D : va_G} {cid : FieldType → ClassId} {ad : Nat → Nat} {H : Heap} {locs : List Loc} {LS : Array Slot} {R : Room} {Q : State → Prop} {cells slots : Nat}
    (mc : MC M p s m args meth c) (hK : KN B D cid ad s) (hR : Rp B D cid ad g H) {a ci k index : Nat} (hs : g.1 a = some (Sum.inl ci)) (hf : FL M.1.cls index ci k) (hd : decode M.2.1 pc = .ok (.getfield index, 3)) {rest : List Value}
    (kk : W p l e R s m args below meth c H locs cells slots Q (F0 m (pc + 3) LS (fv (tyc ci k) ad g a k :: rest))) : W p l e R s m args below meth c H locs cells slots Q (F0 m pc LS (.ref (ad a) :: rest)) := by
  obtain ⟨r, h1, cell, q1, q2, q3, q4⟩ := hR.2.2.2.2.1 a _ hs
  have hc := cl_all h1
  obtain ⟨e1, e2⟩ := fd_of h1 k
  obtain ⟨hk, hw⟩ := hf
  rw [e2] at hk
  rw [e1] at hw
  obtain ⟨hS, hfc, kC, hkC, hkind⟩ := hK.1.1 ci _ h1
  obtain ⟨cf, kf, fi, f, hi, hsl⟩ := hS k hk
  refine W.getf mc.1 mc.2.1 mc.2.2.2.2.1 (mc.2.2.2.2.2.1 _ hw) hi (u_facts hfc hkC (u_lays mc.2.2.2.2.2.1 hc.1 hk) hi).1 q1 (by rw [q3]; exact fun h => by cases h) (v := fv (tyc ci k) ad g a k) ?_ rfl rfl hd kk
  rw [hsl, q4 k hk]
theorem a_getI {a ci k index : Nat} (pc2 : Nat) (hd : decode M.2.1 pc = .ok (.getfield index, 3)) (hf : FL M.1.cls index ci k) (hs : g.1 a = some (Sum.inl ci)) (ht : tI (tyc ci k) = true) (hp : pc + 3 = pc2) (kk : AW M T kn g pc2 ls (vI (g.2.1 a k) :: st)) : AW M T kn g pc ls (vA a :: st) := by
  intro p l e s m args below meth c B D cid ad0 ad H locs LS mc hK hX hE hR hL hl h1 h2
  subst hp
  refine get_core mc hK hR hs hf hd ?_
  rw [fv_I ht]
  exact kk p l e s m args below meth c B D cid ad0 ad H locs LS mc hK hX hE hR hL hl h1 (okc (hR.2.2.2.2.2.1 a k) (okt h2))
theorem a_getL {a ci k index : Nat} (pc2 : Nat) (hd : decode M.2.1 pc = .ok (.getfield index, 3)) (hf : FL M.1.cls index ci k) (hs : g.1 a = some (Sum.inl ci)) (ht : tyc ci k = .long) (hp : pc + 3 = pc2) (kk : AW M T kn g pc2 ls (vL (g.2.2.1 a k) :: st)) : AW M T kn g pc ls (vA a :: st) := by
  intro p l e s m args below meth c B D cid ad0 ad H locs LS mc hK hX hE hR hL hl h1 h2
  subst hp
  refine get_core mc hK hR hs hf hd ?_
  rw [ht]
  exact kk p l e s m args below meth c B D cid ad0 ad H locs LS mc hK hX hE hR hL hl h1 (okc trivial (okt h2))
theorem vok_r {B : BH} {D : va_G} {cid : FieldType → ClassId} {ad : Nat → Nat} {H : Heap} (hR : Rp B D cid ad g H) {a k : Nat} : vok g (vR (g.2.2.2 a k)) := by
  cases e : g.2.2.2 a k with
  | none => trivial
  | some b => exact hR.2.2.2.2.2.2 a k b e
theorem a_getR {a ci k index : Nat} {r : Option Nat} (pc2 : Nat) (hd : decode M.2.1 pc = .ok (.getfield index, 3)) (hf : FL M.1.cls index ci k) (hs : g.1 a = some (Sum.inl ci)) (ht : tRf (tyc ci k) = true) (hr : g.2.2.2 a k = r) (hp : pc + 3 = pc2) (kk : AW M T kn g pc2 ls (vR r :: st)) : AW M T kn g pc ls (vA a :: st) := by
  intro p l e s m args below meth c B D cid ad0 ad H locs LS mc hK hX hE hR hL hl h1 h2
  subst hp; subst hr
  refine get_core mc hK hR hs hf hd ?_
  rw [fv_R ht, ← cv_rf]
  exact kk p l e s m args below meth c B D cid ad0 ad H locs LS mc hK hX hE hR hL hl h1 (okc (vok_r hR) (okt h2))
/-- a field is written: not final, or by the class's own constructor -/
theorem put_core {p : Program} {l : Launch} {e : Env} {s : State} {m : MethodId} {args : Array Value} {below : List Frame} {meth : Method} {c : Code} {B : BH} {D : va_G} {cid : FieldType → ClassId} {ad : Nat → Nat} {H : Heap} {locs : List Loc} {LS : Array Slot} {R : Room} {Q : State → Prop} {cells slots : Nat}
    (mc : MC M p s m args meth c) (hK : KN B D cid ad s) (hR : Rp B D cid ad g H) {a ci k index : Nat} (hs : g.1 a = some (Sum.inl ci)) (hf : FL M.1.cls index ci k) (hfin : (fdn ci k).2.2.2 = false ∨ ((fdn ci k).2.2.2 = true ∧ M.1.name = "<init>" ∧ (fdn ci k).1 = M.1.cls)) (hd : decode M.2.1 pc = .ok (.putfield index, 3)) {v : Value} (hn : narrow (tyc ci k) v = v) (hv : fits (tyc ci k) v = true) {rest : List Value} (hL : ∀ q ∈ locs, B.1 ≤ q.base)
    (kk : ∀ (H' : Heap) (locs' : List Loc), (∀ q ∈ locs', B.1 ≤ q.base) → H'.size = H.size → (∀ q : Nat, q ≠ ad a → H'[q]? = H[q]?) → (∀ V' : Nat → Value, V' k = v → (∀ j, j ≠ k → V' j = fv (tyc ci j) ad g a j) → ∃ r : vw_C, vwCl[ci]? = some r ∧ t_OB (ad a) (D.1 ci) r.2.2 (D.2 ci) H' V') →
      W p l e R s m args below meth c H' locs' cells slots Q (F0 m (pc + 3) LS rest)) : W p l e R s m args below meth c H locs cells slots Q (F0 m pc LS (v :: .ref (ad a) :: rest)) := by
  have hba : B.1 ≤ ad a := hR.1 a (by rw [hs]; simp)
  obtain ⟨r, h1, cell, q1, q2, q3, q4⟩ := hR.2.2.2.2.1 a _ hs
  have hc := cl_all h1
  obtain ⟨e1, e2⟩ := fd_of h1 k
  obtain ⟨hk, hw⟩ := hf
  rw [e2] at hk
  rw [e1] at hw hfin
  have hts := mc.2.2.2.2.2.1
  have hap := va_apart (own := M.1.cls) hts hc.1 (tyc ci) hc.2.1 hc.2.2 hK.1 (show vwCl[ci]? = some (r.1, r.2.1, r.2.2) from h1)
  obtain ⟨hS, hfc, kC, hkC, hkind⟩ := hK.1.1 ci _ h1
  obtain ⟨cf, kf, fi, f, hi, hsl⟩ := hS k hk
  have hst := (u_facts hfc hkC (u_lays hts hc.1 hk) hi).1
  have hlay := hts _ (hc.1 _ (u_in_lay hk))
  unfold u_lay at hlay
  have fin : ∀ H' : Heap, H'[ad a]? = some (cell.setSlot f.slot v) → H'.size = H.size → (∀ q : Nat, q ≠ ad a → H'[q]? = H[q]?) → W p l e R s m args below meth c H' (locs ++ [⟨ad a, f.slot⟩]) cells slots Q (F0 m (pc + 3) LS rest) := by
    intro H' z1 z2 z3
    refine kk H' _ (fun q hq => ?_) z2 z3 (fun V' hV hV2 => ⟨r, h1, ?_⟩)
    · rcases List.mem_append.mp hq with h | h
      · exact hL q h
      · rw [List.mem_singleton.mp h]; exact hba
    · rw [hsl] at z1
      refine t_OB.to (V := updV (fun j => fv (tyc ci j) ad g a j) k v) ⟨_, z1, q2, q3, t_set q4 hap hk v⟩ (fun j _ => ?_)
      unfold updV
      by_cases hj : j = k
      · rw [if_pos hj, hj, hV]
      · rw [if_neg hj, hV2 j hj]
  rcases hfin with hfin | ⟨hfin, hin, hdecl⟩
  · rw [if_neg (by rw [hfin]; decide)] at hlay
    have h6 := u_store hfc hkC hkind hlay hi (hc.2.1 k hk) hn hv
    exact W.putK mc.1 mc.2.1 (f := f) ⟨mc.2.2.2.2.1, hts _ hw, ⟨_, _, _, hi⟩, hst⟩ (by rw [q2]; exact h6) q1 q3 (by rw [hsl]; exact k2_hasslot (q4 k hk)) rfl rfl hd fin
  · rw [if_pos hfin] at hlay
    have hcf : m.cls = cf := by
      obtain ⟨_, _, c', _, _, _, -, -, hf', -, -, -, hown2, -⟩ := Cond.laysFinal_spec hlay
      have e1 : c' = cf := by have := hi.symm.trans hf'; simp at this; exact this.1.symm
      rw [hdecl] at hown2
      rw [← e1]; exact Option.some.inj (mc.2.2.2.2.1.symm.trans hown2)
    have h6 := u_fits hfc hkC hkind (Or.inr hlay) hi (hc.2.1 k hk) hn hv
    exact W.putFinK mc.1 mc.2.1 mc.2.2.2.2.1 (hts _ hw) hi hst hcf (mc.2.2.2.2.2.2.2.trans hin) (by rw [q2]; exact h6) q1 q3 (by rw [hsl]; exact k2_hasslot (q4 k hk)) rfl rfl hd fin
def pOK (M : MI) (ci k : Nat) : Prop := (fdn ci k).2.2.2 = false ∨ ((fdn ci k).2.2.2 = true ∧ M.1.name = "<init>" ∧ (fdn ci k).1 = M.1.cls)
theorem zr_u2 {g : GH} {a k : Nat} {x : Int} (h : ∀ a k, zr (g.2.1 a k)) (hx : zr x) : ∀ a' k', zr ((gI g a k x).2.1 a' k') := by
  intro a' k'
  show zr (u2 g.2.1 a k x a' k')
  unfold u2
  split
  · exact hx
  · exact h a' k'
theorem clo_u2 {g : GH} {a k : Nat} {r : Option Nat} (h : clo g) (hx : vok g (vR r)) : clo (gR g a k r) := by
  intro a' k' b hb
  have hb : u2 g.2.2.2 a k r a' k' = some b := hb
  unfold u2 at hb
  split at hb
  · subst hb; exact hx
  · exact h a' k' b hb
theorem vok_sh {g g' : GH} (h : g'.1 = g.1) {v : AV} (hv : vok g v) : vok g' v := by
  rcases v with _ | z | w | _ | a
  · trivial
  · exact hv
  · trivial
  · trivial
  · rcases hv with hv | hv
    · exact Or.inl (by rw [h]; exact hv)
    · exact Or.inr hv
theorem a_putI {a ci k index : Nat} {x : Int} (pc2 : Nat) (hd : decode M.2.1 pc = .ok (.putfield index, 3)) (hf : FL M.1.cls index ci k) (hfin : pOK M ci k) (hs : g.1 a = some (Sum.inl ci)) (ht : tyc ci k = .int ∨ (tyc ci k = .boolean ∧ (x = 0 ∨ x = 1))) (hp : pc + 3 = pc2) (kk : AW M T kn (gI g a k x) pc2 ls st) : AW M T kn g pc ls (vI x :: vA a :: st) := by
  intro p l e s m args below meth c B D cid ad0 ad H locs LS mc hK hX hE hR hL hl h1 h2
  subst hp
  have htI : tI (tyc ci k) = true := by rcases ht with ht | ⟨ht, -⟩ <;> rw [ht] <;> rfl
  refine put_core mc hK hR hs hf hfin hd (v := .int (Int32.ofInt x)) ?_ ?_ hL (fun H' locs' hL' z1 z2 z3 => kk p l e s m args below meth c B D cid ad0 ad H' locs' LS mc hK hX (hE.sh rfl) (Rp.write hR (g' := gI g a k x) (k := k) rfl (by rw [hs]; simp) (fun ty a' k' h => fv_gI_ne h) (zr_u2 hR.2.2.2.2.2.1 (okh h2)) hR.2.2.2.2.2.2 z1 z2 ?_) hL' hl h1 (okt (okt h2)))
  · rcases ht with ht | ⟨ht, hx | hx⟩ <;> rw [ht] <;> first | rfl | (rw [hx]; rfl)
  · rcases ht with ht | ⟨ht, hx | hx⟩ <;> rw [ht] <;> first | rfl | (rw [hx]; rfl)
  · intro sh hsh
    cases hs.symm.trans hsh
    exact z3 _ (by rw [fv_I htI]; show _ = Value.int (Int32.ofInt x); exact congrArg (fun z => Value.int (Int32.ofInt z)) u2_s) (fun j hj => fv_gI_ne (Or.inr hj))
theorem a_putL {a ci k index : Nat} {x : Int64} (pc2 : Nat) (hd : decode M.2.1 pc = .ok (.putfield index, 3)) (hf : FL M.1.cls index ci k) (hfin : pOK M ci k) (hs : g.1 a = some (Sum.inl ci)) (ht : tyc ci k = .long) (hp : pc + 3 = pc2) (kk : AW M T kn (gL g a k x) pc2 ls st) : AW M T kn g pc ls (vL x :: vA a :: st) := by
  intro p l e s m args below meth c B D cid ad0 ad H locs LS mc hK hX hE hR hL hl h1 h2
  subst hp
  refine put_core mc hK hR hs hf hfin hd (v := .long x) (by rw [ht]; rfl) (by rw [ht]; rfl) hL (fun H' locs' hL' z1 z2 z3 => kk p l e s m args below meth c B D cid ad0 ad H' locs' LS mc hK hX (hE.sh rfl) (Rp.write hR (g' := gL g a k x) (k := k) rfl (by rw [hs]; simp) (fun ty a' k' h => fv_gL_ne h) hR.2.2.2.2.2.1 hR.2.2.2.2.2.2 z1 z2 ?_) hL' hl h1 (okt (okt h2)))
  intro sh hsh
  cases hs.symm.trans hsh
  exact z3 _ (by rw [ht]; show Value.long (u2 g.2.2.1 a k x a k) = _; rw [u2_s]) (fun j hj => fv_gL_ne (Or.inr hj))
theorem a_putR {a ci k index : Nat} {r : Option Nat} (pc2 : Nat) (hd : decode M.2.1 pc = .ok (.putfield index, 3)) (hf : FL M.1.cls index ci k) (hfin : pOK M ci k) (hs : g.1 a = some (Sum.inl ci)) (ht : tRf (tyc ci k) = true) (hp : pc + 3 = pc2) (kk : AW M T kn (gR g a k r) pc2 ls st) : AW M T kn g pc ls (vR r :: vA a :: st) := by
  intro p l e s m args below meth c B D cid ad0 ad H locs LS mc hK hX hE hR hL hl h1 h2
  subst hp
  have hv : cv ad (vR r) = va_rf (r.map ad) := cv_rf ad r
  show W p l e _ s m args below meth c H locs _ _ _ (F0 m pc LS (cv ad (vR r) :: .ref (ad a) :: st.map (cv ad)))
  refine put_core mc hK hR hs hf hfin hd (v := cv ad (vR r)) ?_ ?_ hL (fun H' locs' hL' z1 z2 z3 => kk p l e s m args below meth c B D cid ad0 ad H' locs' LS mc hK hX (hE.sh rfl) (Rp.write hR (g' := gR g a k r) (k := k) rfl (by rw [hs]; simp) (fun ty a' k' h => fv_gR_ne h) hR.2.2.2.2.2.1 (clo_u2 hR.2.2.2.2.2.2 (okh h2)) z1 z2 ?_) hL' hl h1 (okt (okt h2)))
  · cases e9 : tyc ci k <;> first | (rw [e9] at ht; simp [tRf] at ht; done) | (cases r <;> rfl)
  · cases e9 : tyc ci k <;> first | (rw [e9] at ht; simp [tRf] at ht; done) | (cases r <;> rfl)
  · intro sh hsh
    cases hs.symm.trans hsh
    exact z3 _ (by rw [fv_R ht, hv]; show va_rf ((u2 g.2.2.2 a k r a k).map ad) = _; rw [u2_s]) (fun j hj => fv_gR_ne (Or.inr hj))
end AFLD
