def R_law : String := "CoverMarksLaw"
def lw_P (b : Addr) (xs : List Int32) (args : Array Value) (s : State) : Prop := args = #[.ref b] ∧ s.IntsAt b xs ∧ xs.length ≤ 4608 ∧ (Jvm.Cond.and given_1 narrow_1).before args s = true
def lw_Q (_ : Array Value) (s : State) (o : Outcome) (t : State) : Prop := o = .returned (some (.int 1)) ∧ Framed s o t [] 600000 7302250
def lw_Z (below : List Frame) (a : Array Value) (s : State) : State → Prop := fun t => ∃ o, t.status = .running ∧ Ended t below o ∧ lw_Q a s o t
/-- the law's walk: its script of L ints xs at 1000300 -/
def Tl (L : Nat) (xs : Nat → Int32) : TT := (g00, fun B ad0 s => va_X (ad0 1000300) L xs s B.2 ∧ ad0 1000300 < B.1 ∧ s.heap.size ≤ B.1, fun _ _ _ _ below args s => lw_Z below args s)
section ALAW
variable {L : Nat} {xs : Nat → Int32} {kn : Nat × Nat} {g : GH} {pc : Nat} {ls st : List AV}
theorem a_wide {M : MI} {T : TT} {kn' : Nat × Nat} (h : kn.1 ≤ kn'.1 ∧ kn.2 ≤ kn'.2) (kk : AW M T kn' g pc ls st) : AW M T kn g pc ls st := by
  intro p l e s m args below meth c B D cid ad0 ad H locs LS mc hK hX hE hR hL hl h1 h2
  exact W.widen h.1 h.2 (kk p l e s m args below meth c B D cid ad0 ad H locs LS mc hK hX hE hR hL hl h1 h2)
theorem scr_cell {B : BH} {D : va_G} {cid : FieldType → ClassId} {ad0 ad : Nat → Nat} {H : Heap} {s : State} (hX : (Tl L xs).2.1 B ad0 s) (hE : Ext ad0 (Tl L xs).1 ad g) (hR : Rp B D cid ad g H) : va_X (ad 1000300) L xs s H := by
  rw [hE.2 1000300 (by decide)]
  exact hX.1.kept (hR.2.2.1 _ hX.2.1)
theorem a_slen (pc2 : Nat) (hd : decode cL_law pc = .ok (.arraylength, 1)) (hL4 : L ≤ 4608) (hp : pc + 1 = pc2) (kk : AW mL_law (Tl L xs) kn g pc2 ls (vI (L : Int) :: st)) : AW mL_law (Tl L xs) kn g pc ls (vA 1000300 :: st) := by
  intro p l e s m args below meth c B D cid ad0 ad H locs LS mc hK hX hE hR hL hl h1 h2
  subst hp
  obtain ⟨scr, x1, x2, x3, x4, x5⟩ := scr_cell hX hE hR
  exact W.alen (n := Int32.ofInt (L : Int)) mc.1 mc.2.1 x1 x2 (by rw [x4]; exact Int32.ofInt_eq_ofNat.symm) rfl rfl hd (kk p l e s m args below meth c B D cid ad0 ad H locs LS mc hK hX hE hR hL hl h1 (okc (show zr (L : Int) from ⟨by omega, by omega⟩) (okt h2)))
theorem a_sld {i : Int} (pc2 : Nat) (hd : decode cL_law pc = .ok (.iaload, 1)) (h0 : 0 ≤ i) (hi : i < L) (hp : pc + 1 = pc2) (kk : AW mL_law (Tl L xs) kn g pc2 ls (vI (xs i.toNat).toInt :: st)) : AW mL_law (Tl L xs) kn g pc ls (vI i :: vA 1000300 :: st) := by
  intro p l e s m args below meth c B D cid ad0 ad H locs LS mc hK hX hE hR hL hl h1 h2
  subst hp
  have hz : zr i := okh h2
  obtain ⟨scr, x1, x2, x3, x4, x5⟩ := scr_cell hX hE hR
  have k := kk p l e s m args below meth c B D cid ad0 ad H locs LS mc hK hX hE hR hL hl h1 (okc (zr_32 _) (okt (okt h2)))
  rw [List.map_cons, show cv ad (vI (xs i.toNat).toInt) = .int (xs i.toNat) by show Value.int (Int32.ofInt _) = _; rw [Int32.ofInt_toInt]] at k
  exact W.iald (v := .int (xs i.toNat)) mc.1 mc.2.1 x1 x2 x3 (by rw [x4]; exact zi_in hz h0 hi) (by rw [zi_cl hz]; exact x5 _ (by omega)) rfl rfl hd k
theorem a_lret (hd : decode cL_law pc = .ok (.ireturn, 1)) (hk : kn.1 ≤ 600000 ∧ kn.2 ≤ 7302250) : AW mL_law (Tl L xs) kn g pc ls [vI 1] := by
  intro p l e s m args below meth c B D cid ad0 ad H locs LS mc hK hX hE hR hL hl h1 h2
  refine W.widen hk.1 hk.2 ?_
  intro U hU X'
  have X : Stand p l e room_1 s m args below meth c U [] 600000 7302250 := Stand.dropFresh (locs := []) (J := locs) (by rw [List.nil_append]; exact X') (fun x hx => Nat.le_trans hX.2.2 (hL x hx))
  have hr : meth.sig.returnType = some .boolean := mc.2.2.1
  have hlocks : meth.locks = false := mc.2.2.2.2.2.2.1
  obtain ⟨fs, hret, hrun, hended, hW, hframe⟩ := X.leave (v := some (.int 1)) (hlocks := hlocks) (fun h => by rw [hr] at h; cases h)
  have hmeth' : U.vm.method? m = some meth := X.method'
  have hx := mc.1
  have hb : c.code = cL_law := mc.2.1
  refine ⟨U.setFrames fs, ?_, .returned (some (.int 1)), hrun, hended, rfl, ⟨_, rfl⟩, hW, hframe⟩
  show Steps p.tables e below (U.setTop (F0 m pc LS [.int 1])) _
  jvm_step X.here [X.here.top, hx, hb, hd, hmeth', hr, narrow_b1]
  (try refine ⟨rfl, ?_⟩); (try refine ⟨rfl, ?_⟩)
  first | (intro acts; rw [hret _ acts rfl rfl rfl]) | rw [hret _ _ rfl rfl rfl]
  exact Steps.refl _
end ALAW
