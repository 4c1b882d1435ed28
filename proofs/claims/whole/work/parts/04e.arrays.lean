/-! ===== arrays, new cells ===== -/
theorem zi_cl {i : Int} (hi : zr i) : (Int32.ofInt i).toNatClampNeg = i.toNat := by
  show (Int32.ofInt i).toInt.toNat = _
  rw [zr_toInt hi]
theorem zi_in {i : Int} {n : Nat} (hi : zr i) (h0 : 0 ≤ i) (h1 : i < n) : ¬ (Int32.ofInt i < 0 ∨ n ≤ (Int32.ofInt i).toNatClampNeg) := by
  rw [zi_cl hi]
  rintro (h | h)
  · have := (zi_lt hi zr_0).mp h; omega
  · omega
theorem arr_mem {B : BH} {D : va_G} {cid : FieldType → ClassId} {ad : Nat → Nat} {g : GH} {H : Heap} (hR : Rp B D cid ad g H) {a n : Nat} {ty : FieldType} (hs : g.1 a = some (Sum.inr (ty, n))) : ty ∈ arrTys ∧ H[ad a]? = some (arrV (cid ty) n (fun k => fv ty ad g a k)) := hR.2.2.2.2.1 a _ hs
section AARR
variable {M : MI} {T : TT} {kn : Nat × Nat} {g : GH} {pc : Nat} {ls st : List AV}
theorem a_iald {a n : Nat} {i : Int} (pc2 : Nat) (hd : decode M.2.1 pc = .ok (.iaload, 1)) (hs : g.1 a = some (Sum.inr (.int, n))) (h0 : 0 ≤ i) (hi : i < n) (hp : pc + 1 = pc2) (kk : AW M T kn g pc2 ls (vI (g.2.1 a i.toNat) :: st)) : AW M T kn g pc ls (vI i :: vA a :: st) := by
  intro p l e s m args below meth c B D cid ad0 ad H locs LS mc hK hX hE hR hL hl h1 h2
  subst hp
  have hz : zr i := okh h2
  obtain ⟨m1, m2⟩ := arr_mem hR hs
  exact W.iald (v := .int (Int32.ofInt (g.2.1 a i.toNat))) mc.1 mc.2.1 m2 ((hK.2.1 _ m1).1 n _) (fun q => by cases q) (by rw [arrV_size]; exact zi_in hz h0 hi) (by rw [zi_cl hz, arrV_read _ _ (by omega)]; rfl) rfl rfl hd (kk p l e s m args below meth c B D cid ad0 ad H locs LS mc hK hX hE hR hL hl h1 (okc (hR.2.2.2.2.2.1 a _) (okt (okt h2))))
theorem a_bald {a n : Nat} {i : Int} (pc2 : Nat) (hd : decode M.2.1 pc = .ok (.baload, 1)) (hs : g.1 a = some (Sum.inr (.byte, n))) (h0 : 0 ≤ i) (hi : i < n) (hp : pc + 1 = pc2) (kk : AW M T kn g pc2 ls (vI (g.2.1 a i.toNat) :: st)) : AW M T kn g pc ls (vI i :: vA a :: st) := by
  intro p l e s m args below meth c B D cid ad0 ad H locs LS mc hK hX hE hR hL hl h1 h2
  subst hp
  have hz : zr i := okh h2
  obtain ⟨m1, m2⟩ := arr_mem hR hs
  exact W.bald (v := .int (Int32.ofInt (g.2.1 a i.toNat))) mc.1 mc.2.1 m2 ((hK.2.1 _ m1).1 n _) (fun q => by cases q) (by rw [arrV_size]; exact zi_in hz h0 hi) (by rw [zi_cl hz, arrV_read _ _ (by omega)]; rfl) rfl rfl hd (kk p l e s m args below meth c B D cid ad0 ad H locs LS mc hK hX hE hR hL hl h1 (okc (hR.2.2.2.2.2.1 a _) (okt (okt h2))))
theorem a_zald {a n : Nat} {i : Int} (pc2 : Nat) (hd : decode M.2.1 pc = .ok (.baload, 1)) (hs : g.1 a = some (Sum.inr (.boolean, n))) (h0 : 0 ≤ i) (hi : i < n) (hp : pc + 1 = pc2) (kk : AW M T kn g pc2 ls (vI (g.2.1 a i.toNat) :: st)) : AW M T kn g pc ls (vI i :: vA a :: st) := by
  intro p l e s m args below meth c B D cid ad0 ad H locs LS mc hK hX hE hR hL hl h1 h2
  subst hp
  have hz : zr i := okh h2
  obtain ⟨m1, m2⟩ := arr_mem hR hs
  exact W.zald (v := .int (Int32.ofInt (g.2.1 a i.toNat))) mc.1 mc.2.1 m2 ((hK.2.1 _ m1).1 n _) (fun q => by cases q) (by rw [arrV_size]; exact zi_in hz h0 hi) (by rw [zi_cl hz, arrV_read _ _ (by omega)]; rfl) rfl rfl hd (kk p l e s m args below meth c B D cid ad0 ad H locs LS mc hK hX hE hR hL hl h1 (okc (hR.2.2.2.2.2.1 a _) (okt (okt h2))))
theorem a_lald {a n : Nat} {i : Int} (pc2 : Nat) (hd : decode M.2.1 pc = .ok (.laload, 1)) (hs : g.1 a = some (Sum.inr (.long, n))) (h0 : 0 ≤ i) (hi : i < n) (hp : pc + 1 = pc2) (kk : AW M T kn g pc2 ls (vL (g.2.2.1 a i.toNat) :: st)) : AW M T kn g pc ls (vI i :: vA a :: st) := by
  intro p l e s m args below meth c B D cid ad0 ad H locs LS mc hK hX hE hR hL hl h1 h2
  subst hp
  have hz : zr i := okh h2
  obtain ⟨m1, m2⟩ := arr_mem hR hs
  exact W.lald (v := .long (g.2.2.1 a i.toNat)) mc.1 mc.2.1 m2 ((hK.2.1 _ m1).1 n _) (fun q => by cases q) (by rw [arrV_size]; exact zi_in hz h0 hi) (by rw [zi_cl hz, arrV_read _ _ (by omega)]; rfl) rfl rfl hd (kk p l e s m args below meth c B D cid ad0 ad H locs LS mc hK hX hE hR hL hl h1 (okc trivial (okt (okt h2))))
theorem a_aald {a n : Nat} {i : Int} {ty : FieldType} {r : Option Nat} (pc2 : Nat) (hd : decode M.2.1 pc = .ok (.aaload, 1)) (hs : g.1 a = some (Sum.inr (ty, n))) (ht : tRf ty = true) (h0 : 0 ≤ i) (hi : i < n) (hr : g.2.2.2 a i.toNat = r) (hp : pc + 1 = pc2) (kk : AW M T kn g pc2 ls (vR r :: st)) : AW M T kn g pc ls (vI i :: vA a :: st) := by
  intro p l e s m args below meth c B D cid ad0 ad H locs LS mc hK hX hE hR hL hl h1 h2
  subst hp; subst hr
  have hz : zr i := okh h2
  obtain ⟨m1, m2⟩ := arr_mem hR hs
  refine W.aald (v := cv ad (vR (g.2.2.2 a i.toNat))) mc.1 mc.2.1 m2 ((hK.2.1 _ m1).1 n _) (by cases ty <;> first | rfl | (simp [tRf] at ht; done)) (fun q => by cases q) (by rw [arrV_size]; exact zi_in hz h0 hi) ?_ rfl rfl hd (kk p l e s m args below meth c B D cid ad0 ad H locs LS mc hK hX hE hR hL hl h1 (okc (vok_r hR) (okt (okt h2))))
  rw [zi_cl hz, arrV_read _ _ (by omega), fv_R ht, cv_rf]
theorem a_alen {a n : Nat} {ty : FieldType} (pc2 : Nat) (hd : decode M.2.1 pc = .ok (.arraylength, 1)) (hs : g.1 a = some (Sum.inr (ty, n))) (hn : n < 2147483648) (hp : pc + 1 = pc2) (kk : AW M T kn g pc2 ls (vI (n : Int) :: st)) : AW M T kn g pc ls (vA a :: st) := by
  intro p l e s m args below meth c B D cid ad0 ad H locs LS mc hK hX hE hR hL hl h1 h2
  subst hp
  obtain ⟨m1, m2⟩ := arr_mem hR hs
  exact W.alen (n := Int32.ofInt (n : Int)) mc.1 mc.2.1 m2 ((hK.2.1 _ m1).1 n _) (by rw [arrV_size]; exact Int32.ofInt_eq_ofNat.symm) rfl rfl hd (kk p l e s m args below meth c B D cid ad0 ad H locs LS mc hK hX hE hR hL hl h1 (okc (show zr (n : Int) from ⟨by omega, by omega⟩) (okt h2)))
theorem locs_one {B : BH} {locs : List Loc} {q : Loc} (hL : ∀ q ∈ locs, B.1 ≤ q.base) (hq : B.1 ≤ q.base) : ∀ x ∈ locs ++ [q], B.1 ≤ x.base := fun x hx => by
  rcases List.mem_append.mp hx with h | h
  · exact hL x h
  · rw [List.mem_singleton.mp h]; exact hq
theorem arr_write {B : BH} {D : va_G} {cid : FieldType → ClassId} {ad : Nat → Nat} {g g' : GH} {H H' : Heap} (hR : Rp B D cid ad g H) {a n k : Nat} {ty : FieldType} {v : Value} (hs : g.1 a = some (Sum.inr (ty, n))) (hsh : g'.1 = g.1)
    (hsm : ∀ ty a' k', a' ≠ a ∨ k' ≠ k → fv ty ad g' a' k' = fv ty ad g a' k') (hz : ∀ a k, zr (g'.2.1 a k)) (hc : clo g') (hv : fv ty ad g' a k = v) (e1 : H'[ad a]? = some ((arrV (cid ty) n (fun k => fv ty ad g a k)).setSlot k v)) (hsz : H'.size = H.size) (ho : ∀ q : Nat, q ≠ ad a → H'[q]? = H[q]?) : Rp B D cid ad g' H' := by
  refine hR.write hsh (by rw [hs]; simp) hsm hz hc hsz ho (fun sh h => ?_)
  cases hs.symm.trans h
  refine ⟨(arr_mem hR hs).1, ?_⟩
  rw [e1, arrV_store]
  congr 2
  funext j
  unfold updV
  by_cases hj : j = k
  · rw [if_pos hj, hj, hv]
  · rw [if_neg hj, hsm ty a j (Or.inr hj)]
theorem a_iast {a n : Nat} {i x : Int} (pc2 : Nat) (hd : decode M.2.1 pc = .ok (.iastore, 1)) (hs : g.1 a = some (Sum.inr (.int, n))) (h0 : 0 ≤ i) (hi : i < n) (hp : pc + 1 = pc2) (kk : AW M T kn (gI g a i.toNat x) pc2 ls st) : AW M T kn g pc ls (vI x :: vI i :: vA a :: st) := by
  intro p l e s m args below meth c B D cid ad0 ad H locs LS mc hK hX hE hR hL hl h1 h2
  subst hp
  have hz : zr i := okh (okt h2)
  obtain ⟨m1, m2⟩ := arr_mem hR hs
  refine W.iast mc.1 mc.2.1 m2 ((hK.2.1 _ m1).1 n _) (fun q => by cases q) (by rw [arrV_size]; exact zi_in hz h0 hi) rfl rfl hd (fun H' z1 z2 z3 => ?_)
  rw [zi_cl hz] at z1 ⊢
  exact kk p l e s m args below meth c B D cid ad0 ad H' _ LS mc hK hX (hE.sh rfl) (arr_write hR (g' := gI g a i.toNat x) hs rfl (fun ty a' k' h => fv_gI_ne h) (zr_u2 hR.2.2.2.2.2.1 (okh h2)) hR.2.2.2.2.2.2 (by show Value.int (Int32.ofInt (u2 g.2.1 a i.toNat x a i.toNat)) = _; rw [u2_s]) z1 z2 z3) (locs_one hL (hR.1 a (by rw [hs]; simp))) hl h1 (okt (okt (okt h2)))
theorem a_bast {a n : Nat} {i x : Int} (pc2 : Nat) (hd : decode M.2.1 pc = .ok (.bastore, 1)) (hs : g.1 a = some (Sum.inr (.byte, n))) (h0 : 0 ≤ i) (hi : i < n) (hx : (Int32.ofInt x).toInt8.toInt32 = Int32.ofInt x) (hp : pc + 1 = pc2) (kk : AW M T kn (gI g a i.toNat x) pc2 ls st) : AW M T kn g pc ls (vI x :: vI i :: vA a :: st) := by
  intro p l e s m args below meth c B D cid ad0 ad H locs LS mc hK hX hE hR hL hl h1 h2
  subst hp
  have hz : zr i := okh (okt h2)
  obtain ⟨m1, m2⟩ := arr_mem hR hs
  refine W.bast mc.1 mc.2.1 m2 ((hK.2.1 _ m1).1 n _) (fun q => by cases q) (by rw [arrV_size]; exact zi_in hz h0 hi) rfl rfl hd (fun H' z1 z2 z3 => ?_)
  rw [zi_cl hz] at z1 ⊢
  have z1 : H'[ad a]? = some ((arrV (cid .byte) n (fun k => fv .byte ad g a k)).setSlot i.toNat (.int (Int32.ofInt x))) := by rw [z1]; show some (Cell.setSlot _ _ (Value.int _)) = _; rw [hx]
  exact kk p l e s m args below meth c B D cid ad0 ad H' _ LS mc hK hX (hE.sh rfl) (arr_write hR (g' := gI g a i.toNat x) hs rfl (fun ty a' k' h => fv_gI_ne h) (zr_u2 hR.2.2.2.2.2.1 (okh h2)) hR.2.2.2.2.2.2 (by show Value.int (Int32.ofInt (u2 g.2.1 a i.toNat x a i.toNat)) = _; rw [u2_s]) z1 z2 z3) (locs_one hL (hR.1 a (by rw [hs]; simp))) hl h1 (okt (okt (okt h2)))
theorem a_zast {a n : Nat} {i x : Int} (pc2 : Nat) (hd : decode M.2.1 pc = .ok (.bastore, 1)) (hs : g.1 a = some (Sum.inr (.boolean, n))) (h0 : 0 ≤ i) (hi : i < n) (hx : x = 0 ∨ x = 1) (hp : pc + 1 = pc2) (kk : AW M T kn (gI g a i.toNat x) pc2 ls st) : AW M T kn g pc ls (vI x :: vI i :: vA a :: st) := by
  intro p l e s m args below meth c B D cid ad0 ad H locs LS mc hK hX hE hR hL hl h1 h2
  subst hp
  have hz : zr i := okh (okt h2)
  obtain ⟨m1, m2⟩ := arr_mem hR hs
  refine W.zast mc.1 mc.2.1 m2 ((hK.2.1 _ m1).1 n _) (fun q => by cases q) (by rw [arrV_size]; exact zi_in hz h0 hi) rfl rfl hd (fun H' z1 z2 z3 => ?_)
  rw [zi_cl hz] at z1 ⊢
  have z1 : H'[ad a]? = some ((arrV (cid .boolean) n (fun k => fv .boolean ad g a k)).setSlot i.toNat (.int (Int32.ofInt x))) := by
    rw [z1]; rcases hx with rfl | rfl <;> rfl
  exact kk p l e s m args below meth c B D cid ad0 ad H' _ LS mc hK hX (hE.sh rfl) (arr_write hR (g' := gI g a i.toNat x) hs rfl (fun ty a' k' h => fv_gI_ne h) (zr_u2 hR.2.2.2.2.2.1 (okh h2)) hR.2.2.2.2.2.2 (by show Value.int (Int32.ofInt (u2 g.2.1 a i.toNat x a i.toNat)) = _; rw [u2_s]) z1 z2 z3) (locs_one hL (hR.1 a (by rw [hs]; simp))) hl h1 (okt (okt (okt h2)))
theorem a_last {a n : Nat} {i : Int} {x : Int64} (pc2 : Nat) (hd : decode M.2.1 pc = .ok (.lastore, 1)) (hs : g.1 a = some (Sum.inr (.long, n))) (h0 : 0 ≤ i) (hi : i < n) (hp : pc + 1 = pc2) (kk : AW M T kn (gL g a i.toNat x) pc2 ls st) : AW M T kn g pc ls (vL x :: vI i :: vA a :: st) := by
  intro p l e s m args below meth c B D cid ad0 ad H locs LS mc hK hX hE hR hL hl h1 h2
  subst hp
  have hz : zr i := okh (okt h2)
  obtain ⟨m1, m2⟩ := arr_mem hR hs
  refine W.last mc.1 mc.2.1 m2 ((hK.2.1 _ m1).1 n _) (fun q => by cases q) (by rw [arrV_size]; exact zi_in hz h0 hi) rfl rfl hd (fun H' z1 z2 z3 => ?_)
  rw [zi_cl hz] at z1 ⊢
  exact kk p l e s m args below meth c B D cid ad0 ad H' _ LS mc hK hX (hE.sh rfl) (arr_write hR (g' := gL g a i.toNat x) hs rfl (fun ty a' k' h => fv_gL_ne h) hR.2.2.2.2.2.1 hR.2.2.2.2.2.2 (by show Value.long (u2 g.2.2.1 a i.toNat x a i.toNat) = _; rw [u2_s]) z1 z2 z3) (locs_one hL (hR.1 a (by rw [hs]; simp))) hl h1 (okt (okt (okt h2)))
/-- the class by its number -/
def clN (ci : Nat) : String := match vwCl[ci]? with
  | some r => r.1
  | none => ""
theorem a_aast {a n b ci : Nat} {i : Int} (pc2 : Nat) (hd : decode M.2.1 pc = .ok (.aastore, 1)) (hs : g.1 a = some (Sum.inr (.object (clN ci), n))) (hb : g.1 b = some (Sum.inl ci)) (h0 : 0 ≤ i) (hi : i < n) (hp : pc + 1 = pc2) (kk : AW M T kn (gR g a i.toNat (some b)) pc2 ls st) : AW M T kn g pc ls (vA b :: vI i :: vA a :: st) := by
  intro p l e s m args below meth c B D cid ad0 ad H locs LS mc hK hX hE hR hL hl h1 h2
  subst hp
  have hz : zr i := okh (okt h2)
  obtain ⟨m1, m2⟩ := arr_mem hR hs
  obtain ⟨r, hr, cellV, g1, g2, g3, -⟩ := hR.2.2.2.2.1 b _ hb
  have hcl : clN ci = r.1 := by simp [clN, hr]
  have hcls := (hK.1.1 ci r hr).2
  obtain ⟨kA, comp, k1, k2, k3, -⟩ := (hK.2.1 _ m1).2
  rw [hcl] at k3
  have hcomp : comp = D.1 ci := Option.some.inj (k3.symm.trans hcls.1)
  subst hcomp
  obtain ⟨kC, hkC, -⟩ := hcls.2
  have hz2 := zi_in hz h0 hi
  refine W.aast mc.1 mc.2.1 m2 (fun q h => by cases h) (fun h => by cases h) k1 k2 rfl hkC ⟨fun q => hz2 (Or.inl q), by rw [arrV_size]; exact Nat.not_le.mp fun q => hz2 (Or.inr q)⟩ g1 (fun q h => by rw [g3] at h; cases h) (by rw [g2]; exact hkC) (by rw [g2]; exact va_assign hcls) rfl rfl hd fun H' z1 z2 z3 => ?_
  rw [zi_cl hz] at z1 ⊢
  exact kk p l e s m args below meth c B D cid ad0 ad H' _ LS mc hK hX (hE.sh rfl) (arr_write hR (g' := gR g a i.toNat (some b)) hs rfl (fun ty a' k' h => fv_gR_ne h) hR.2.2.2.2.2.1 (clo_u2 hR.2.2.2.2.2.2 (okh h2)) (by show va_rf ((u2 g.2.2.2 a i.toNat (some b) a i.toNat).map ad) = _; rw [u2_s]; rfl) z1 z2 z3) (locs_one hL (hR.1 a (by rw [hs]; simp))) hl h1 (okt (okt (okt h2)))
/-! new cells -/
def NW (own : String) (index ci : Nat) : Prop := Cond.classLink own index (clN ci) ∈ tb ∧ Cond.instantiable (clN ci) (fN ci) ∈ tb ∧ Cond.initialized (clN ci) ∈ tb
def tOK (ty : FieldType) : Bool := tI ty || tRf ty || (match ty with | .long => true | _ => false)
theorem tOK_all {ci : Nat} {r : vw_C} (h : vwCl[ci]? = some r) : ∀ k, k < r.2.2 → tOK (tyc ci k) = true := by
  match ci, h with
  | 0, h => cases h; decide
  | 1, h => cases h; decide
  | 2, h => cases h; decide
  | 3, h => cases h; decide
  | 4, h => cases h; decide
  | 5, h => cases h; decide
  | 6, h => cases h; decide
  | 7, h => cases h; decide
  | 8, h => cases h; decide
  | 9, h => cases h; decide
  | 10, h => cases h; decide
  | 11, h => cases h; decide
  | 12, h => cases h; decide
  | n + 13, h => simp [vwCl] at h
theorem fv_new {ty : FieldType} (ht : tOK ty = true) (ad : Nat → Nat) (g : GH) (a : Nat) (sh : Sh) (k : Nat) : fv ty ad (gN g a sh) a k = defaultValue ty := by
  have h1 : (gN g a sh).2.1 a k = 0 := by show u1 g.2.1 a _ a k = _; rw [u1_s]
  have h2 : (gN g a sh).2.2.1 a k = 0 := by show u1 g.2.2.1 a _ a k = _; rw [u1_s]
  have h3 : (gN g a sh).2.2.2 a k = none := by show u1 g.2.2.2 a _ a k = _; rw [u1_s]
  cases ty <;> first | (simp [tOK, tI, tRf] at ht; done) | (simp only [fv, h1, h2, h3]; rfl)
theorem lok_ext {ad ad' : Nat → Nat} {g g' : GH} {nL : Nat} {ls : List AV} {LS : Array Slot} (hE : Ext ad g ad' g') (h : lok ad nL ls LS) (h1 : ∀ v ∈ ls, vok g v) : lok ad' nL ls LS := h.re (fun v hv => hE.cv (h1 v hv))
theorem map_ext {ad ad' : Nat → Nat} {g g' : GH} {st : List AV} (hE : Ext ad g ad' g') (h1 : ∀ v ∈ st, vok g v) : st.map (cv ad') = st.map (cv ad) := List.map_congr_left (fun v hv => hE.cv (h1 v hv))
theorem ok_ext {ad ad' : Nat → Nat} {g g' : GH} {st : List AV} (hE : Ext ad g ad' g') (h1 : ∀ v ∈ st, vok g v) : ∀ v ∈ st, vok g' v := fun v hv => hE.vok (h1 v hv)
theorem vok_new {g : GH} {a : Nat} {sh : Sh} : vok (gN g a sh) (vA a) := Or.inl (by show u1 g.1 a (some sh) a ≠ none; rw [u1_s]; simp)
theorem a_new {index ci : Nat} (a pc2 : Nat) (hd : decode M.2.1 pc = .ok (.new index, 3)) (hw : NW M.1.cls index ci) (hci : ci < 13) (ha : g.1 a = none) (hlt : a < 1000000) (hc1 : kn.1 + 1 ≤ M.2.2.2.2.cells) (hc2 : kn.2 + fN ci ≤ M.2.2.2.2.slots) (hp : pc + 3 = pc2)
    (kk : AW M T (kn.1 + 1, kn.2 + fN ci) (gN g a (Sum.inl ci)) pc2 ls (vA a :: st)) : AW M T kn g pc ls st := by
  intro p l e s m args below meth c B D cid ad0 ad H locs LS mc hK hX hE hR hL hl h1 h2
  subst hp
  obtain ⟨r, hr⟩ : ∃ r, vwCl[ci]? = some r := ⟨_, List.getElem?_eq_getElem (show ci < vwCl.length from hci)⟩
  have e1 : clN ci = r.1 := by simp [clN, hr]
  have e2 : fN ci = r.2.2 := by simp [fN, hr]
  obtain ⟨w1, w2, w3⟩ := hw
  rw [e1] at w1 w2 w3
  rw [e2] at w2 hc2 kk
  have hts := mc.2.2.2.2.2.1
  have hKn := hK.1.1 ci _ hr
  have hc := cl_all hr
  refine W.newcK mc.1 mc.2.1 mc.2.2.2.2.1 (hts _ w1) (hts _ w2) (hts _ w3) rfl hd hc1 hc2 hKn.2.1 rfl fun H' kC hkC e9 z1 o1 => ?_
  obtain ⟨hR', hE'⟩ := hR.new (sh := Sum.inl ci) ha hlt (by omega : H.size ≤ H'.size) o1 (q0 := H.size) (Nat.le_refl _) ⟨r, hr, by
    rw [u1_s]
    exact (u_born (tyc ci) hts hc.1 hKn hkC e9 hc.2.1).to (fun k hk => (fv_new (tOK_all hr k hk) _ _ _ _ _).symm)⟩
  have := kk p l e s m args below meth c B D cid ad0 (u1 ad a H.size) H' locs LS mc (hK.ext hE'.2) hX (hE.tr hE') hR' hL (lok_ext hE' hl h1) (ok_ext hE' h1) (okc vok_new (ok_ext hE' h2))
  rw [List.map_cons, map_ext hE' h2] at this
  rw [show cv (u1 ad a H.size) (vA a) = .ref H.size by show Value.ref (u1 ad a H.size a) = _; rw [u1_s]] at this
  exact this
theorem arr_new {B : BH} {D : va_G} {cid : FieldType → ClassId} {ad : Nat → Nat} {g : GH} {H H' : Heap} (hR : Rp B D cid ad g H) {a n : Nat} {ty : FieldType} (hm : ty ∈ arrTys) (ht : tOK ty = true) (ha : g.1 a = none) (hlt : a < 1000000) (e9 : H'[H.size]? = some (arrV (cid ty) n (fun _ => defaultValue ty))) (hsz : H.size ≤ H'.size) (ho : ∀ q : Nat, q < H.size → H'[q]? = H[q]?) :
    Rp B D cid (u1 ad a H.size) (gN g a (Sum.inr (ty, n))) H' ∧ Ext ad g (u1 ad a H.size) (gN g a (Sum.inr (ty, n))) := by
  refine hR.new ha hlt hsz ho (Nat.le_refl _) ⟨hm, ?_⟩
  rw [u1_s, e9]
  congr 2
  funext k
  exact (fv_new ht _ _ _ _ _).symm
theorem a_newa {atype : ArrayType} {n : Int} (ty : FieldType) (a pc2 : Nat) (hd : decode M.2.1 pc = .ok (.newarray atype, 2)) (hty : newarray.typeOf atype = ty) (hw : Cond.arrayClass ty ∈ tb) (hm : ty ∈ arrTys) (ht : tOK ty = true ∧ tRf ty = false) (h0 : 0 ≤ n) (hb : n.toNat * componentBytes ty ≤ 536870912) (ha : g.1 a = none) (hlt : a < 1000000) (hc1 : kn.1 + 1 ≤ M.2.2.2.2.cells) (hc2 : kn.2 + n.toNat ≤ M.2.2.2.2.slots) (hp : pc + 2 = pc2)
    (kk : AW M T (kn.1 + 1, kn.2 + n.toNat) (gN g a (Sum.inr (ty, n.toNat))) pc2 ls (vA a :: st)) : AW M T kn g pc ls (vI n :: st) := by
  intro p l e s m args below meth c B D cid ad0 ad H locs LS mc hK hX hE hR hL hl h1 h2
  subst hp; subst hty
  have hz : zr n := okh h2
  refine va_newaK mc.1 mc.2.1 (mc.2.2.2.2.2.1 _ hw) rfl hd rfl (fun q => by have := (zi_lt hz zr_0).mp q; omega) (zi_cl hz) hb hc1 hc2 rfl fun H' cA e9 z1 o1 hAr hNm => ?_
  have hcA : cA = cid (newarray.typeOf atype) := by
    have h9 := (hK.2.1 _ hm).2
    have h10 : s.vm.findClass ("[" ++ (newarray.typeOf atype).toString) = some (cid (newarray.typeOf atype)) := by
      revert h9
      cases atype <;> exact fun h => h
    exact Option.some.inj (hNm.symm.trans h10)
  subst hcA
  obtain ⟨hR', hE'⟩ := arr_new hR hm ht.1 ha hlt e9 (by omega : H.size ≤ H'.size) o1
  have := kk p l e s m args below meth c B D cid ad0 (u1 ad a H.size) H' locs LS mc (hK.ext hE'.2) hX (hE.tr hE') hR' hL (lok_ext hE' hl h1) (ok_ext hE' h1) (okc vok_new (ok_ext hE' (okt h2)))
  rw [List.map_cons, map_ext hE' (okt h2)] at this
  rw [show cv (u1 ad a H.size) (vA a) = .ref H.size by show Value.ref (u1 ad a H.size a) = _; rw [u1_s]] at this
  exact this
theorem a_anew {index ci : Nat} {n : Int} (a pc2 : Nat) (hd : decode M.2.1 pc = .ok (.anewarray index, 3)) (hw : Cond.classLink M.1.cls index (clN ci) ∈ tb ∧ FieldType.object (clN ci) ∈ overT) (hm : FieldType.object (clN ci) ∈ arrTys) (h0 : 0 ≤ n) (hb : n.toNat * 4 ≤ 536870912) (ha : g.1 a = none) (hlt : a < 1000000) (hc1 : kn.1 + 1 ≤ M.2.2.2.2.cells) (hc2 : kn.2 + n.toNat ≤ M.2.2.2.2.slots) (hp : pc + 3 = pc2)
    (kk : AW M T (kn.1 + 1, kn.2 + n.toNat) (gN g a (Sum.inr (.object (clN ci), n.toNat))) pc2 ls (vA a :: st)) : AW M T kn g pc ls (vI n :: st) := by
  intro p l e s m args below meth c B D cid ad0 ad H locs LS mc hK hX hE hR hL hl h1 h2
  subst hp
  have hz : zr n := okh h2
  have hcl := zi_cl hz
  refine W.anew mc.1 mc.2.1 mc.2.2.2.2.1 (mc.2.2.2.2.2.1 _ hw.1) (va_AO.use (hK.2.2.1.2 _ hw.2)) rfl hd rfl (fun q => by have := (zi_lt hz zr_0).mp q; omega) (by rw [hcl]; exact hb) hc1 (by rw [hcl]; exact hc2) fun cA kA comp f1 f2 f3 f4 => ?_
  obtain ⟨kA', comp', k1, k2, k3, k4⟩ := (hK.2.1 _ hm).2
  have hcA : cA = cid (.object (clN ci)) := Option.some.inj (f1.symm.trans k4)
  subst hcA
  rw [hcl]
  generalize hH1 : H.push ({ cls := cid (.object (clN ci)), slots := Array.replicate n.toNat .null, vm := .none } : Cell) = H1
  have z1 : H1.size = H.size + 1 := by rw [← hH1, Array.size_push]
  have e9 : H1[H.size]? = some (arrV (cid (.object (clN ci))) n.toNat (fun _ => .null)) := by rw [← hH1, Array.getElem?_push_size, ← arrV_new]
  have o1 : ∀ q : Nat, q < H.size → H1[q]? = H[q]? := fun q hq => by rw [← hH1, Array.getElem?_push, if_neg (Nat.ne_of_lt hq)]
  obtain ⟨hR', hE'⟩ := arr_new hR hm rfl ha hlt e9 (by omega : H.size ≤ H1.size) o1
  have := kk p l e s m args below meth c B D cid ad0 (u1 ad a H.size) H1 locs LS mc (hK.ext hE'.2) hX (hE.tr hE') hR' hL (lok_ext hE' hl h1) (ok_ext hE' h1) (okc vok_new (ok_ext hE' (okt h2)))
  rw [List.map_cons, map_ext hE' (okt h2)] at this
  rw [show cv (u1 ad a H.size) (vA a) = .ref H.size by show Value.ref (u1 ad a H.size a) = _; rw [u1_s]] at this
  exact this
end AARR
