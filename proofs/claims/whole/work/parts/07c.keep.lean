/-! ===== what the scratch doesn't touch ===== -/
def HK (h h' : Nat → Nat → Int) : Prop := ∀ a k, 1000 ≤ a → ¬ scr a k → h' a k = h a k
theorem HK.rf {h : Nat → Nat → Int} : HK h h := fun _ _ _ _ => rfl
theorem HK.tr {h h1 h2 : Nat → Nat → Int} (q : HK h h1) (q2 : HK h1 h2) : HK h h2 := fun a k y z => (q2 a k y z).trans (q a k y z)
theorem HK.sy {h h1 : Nat → Nat → Int} (q : HK h h1) : HK h1 h := fun a k y z => (q a k y z).symm
theorem sameB.hk {X : Nat → Nat → Prop} {g g' : GH} (h : sameB X g g') (hx : ∀ a k, X a k → scr a k) : HK g.2.1 g'.2.1 := fun a k _ q => h.2.2 a k (fun z => q (hx a k z))
theorem HK.row {h h' : Nat → Nat → Int} (q : HK h h') {a : Nat} (ha : a = 1002 ∨ (1004 ≤ a ∧ a ≤ 1020) ∨ a = 1028) : h' a = h a := funext fun k => q a k (by omega) (by unfold scr; omega)
theorem HK.cnt {h h' : Nat → Nat → Int} (q : HK h h') {k : Nat} (hk : k = 3 ∨ k = 7 ∨ k = 13 ∨ k = 15 ∨ k = 29 ∨ k = 35) : h' 1000 k = h 1000 k := q 1000 k (by decide) (by unfold scr; omega)
theorem HK.canB {h h' : Nat → Nat → Int} (q : HK h h') : canB h' = canB h := by
  funext m d
  unfold Jvm.Pilot.@@N@@.canB datB dieB
  rw [q.row (a := 1014) (by omega), q.row (a := 1008) (by omega), q.row (a := 1005) (by omega), q.row (a := 1006) (by omega), q.row (a := 1009) (by omega), q.row (a := 1010) (by omega), q.row (a := 1011) (by omega), q.row (a := 1012) (by omega)]
theorem HK.stp {h h' : Nat → Nat → Int} (q : HK h h') : stp h' = stp h := by
  funext a t b t'
  unfold Jvm.Pilot.@@N@@.stp
  rw [q.row (a := 1020) (by omega), q.row (a := 1016) (by omega), q.row (a := 1017) (by omega), q.row (a := 1018) (by omega), q.row (a := 1019) (by omega), q.cnt (k := 15) (by omega)]
theorem HK.pth {h h' : Nat → Nat → Int} (q : HK h h') : pth h' = pth h := by
  funext n
  induction n with
  | zero => funext a t b t'; rfl
  | succ n ih => funext a t b t'; show (∃ c u, Jvm.Pilot.@@N@@.pth h' n a t c u ∧ Jvm.Pilot.@@N@@.stp h' c u b t') = (∃ c u, Jvm.Pilot.@@N@@.pth h n a t c u ∧ Jvm.Pilot.@@N@@.stp h c u b t'); rw [ih, q.stp]
theorem HK.isSoon {h h' : Nat → Nat → Int} (q : HK h h') : isSoon h' = isSoon h := by
  funext a d b z; unfold Jvm.Pilot.@@N@@.isSoon; rw [q.pth]
theorem HK.soonV {h h' : Nat → Nat → Int} (q : HK h h') : soonV h' = soonV h := by
  funext a d b; unfold Jvm.Pilot.@@N@@.soonV; rw [q.isSoon]
/-- the town of a mark's die -/
def twn (h : Nat → Nat → Int) (m : Int) : Int := h 1004 (h 1008 (h 1014 (10 * m + 2).toNat).toNat).toNat
theorem HK.twn {h h' : Nat → Nat → Int} (q : HK h h') : twn h' = twn h := by
  funext m; unfold Jvm.Pilot.@@N@@.twn; rw [q.row (a := 1014) (by omega), q.row (a := 1008) (by omega), q.row (a := 1004) (by omega)]
abbrev wqB (h : Nat → Nat → Int) (c D m : Int) : Prop := isOfB h c D m ∧ h 1014 (10 * m + 2).toNat ≠ -9
/-- a cover's marks with a die, in their order -/
noncomputable def wl (h : Nat → Nat → Int) (c D : Int) : Nat → List Nat
  | 0 => []
  | n + 1 => @ite (List Nat) (wqB h c D n) (Classical.propDecidable _) (wl h c D n ++ [n]) (wl h c D n)
theorem wl_t {h : Nat → Nat → Int} {c D : Int} {n : Nat} (q : wqB h c D n) : wl h c D (n + 1) = wl h c D n ++ [n] := if_pos q
theorem wl_f {h : Nat → Nat → Int} {c D : Int} {n : Nat} (q : ¬ wqB h c D n) : wl h c D (n + 1) = wl h c D n := if_neg q
theorem wl_len {h : Nat → Nat → Int} {c D : Int} : ∀ n : Nat, (wl h c D n).length ≤ n
  | 0 => Nat.le_refl _
  | n + 1 => by
    have := wl_len (h := h) (c := c) (D := D) n
    by_cases q : wqB h c D n
    · rw [wl_t q, List.length_append]; simp; omega
    · rw [wl_f q]; omega
theorem wl_mem {h : Nat → Nat → Int} {c D : Int} : ∀ {n m : Nat}, m ∈ wl h c D n → m < n ∧ wqB h c D m
  | 0, m, hm => by simp [wl] at hm
  | n + 1, m, hm => by
    by_cases q : wqB h c D n
    · rw [wl_t q] at hm
      rcases List.mem_append.mp hm with z | z
      · have := wl_mem z; exact ⟨by omega, this.2⟩
      · rw [List.mem_singleton.mp z]; exact ⟨by omega, q⟩
    · rw [wl_f q] at hm
      have := wl_mem hm; exact ⟨by omega, this.2⟩
noncomputable def WS (h : Nat → Nat → Int) (c D : Int) : List Nat := wl h c D (h 1000 13).toNat
theorem HK.WS {h h' : Nat → Nat → Int} (q : HK h h') : WS h' = WS h := by
  funext c D
  unfold Jvm.Pilot.@@N@@.WS
  rw [q.cnt (k := 13) (by omega)]
  generalize (h 1000 13).toNat = n
  induction n with
  | zero => rfl
  | succ n ih =>
    have e : wqB h' c D n = wqB h c D n := by unfold wqB isOfB; rw [q.row (a := 1014) (by omega)]
    by_cases z : wqB h c D n
    · rw [wl_t z, wl_t (by rw [e]; exact z), ih]
    · rw [wl_f z, wl_f (by rw [e]; exact z), ih]
/-- the i-th of them; 0 -/
noncomputable def wk (h : Nat → Nat → Int) (c D : Int) (i : Nat) : Int := (((WS h c D)[i]?.getD 0 : Nat) : Int)
theorem HK.wk {h h' : Nat → Nat → Int} (q : HK h h') : wk h' = wk h := by
  funext c D i; unfold Jvm.Pilot.@@N@@.wk; rw [q.WS]
theorem wk_ok {h : Nat → Nat → Int} {c D : Int} {i : Nat} (hi : i < (WS h c D).length) : 0 ≤ wk h c D i ∧ wk h c D i < h 1000 13 ∧ h 1014 (10 * wk h c D i + 2).toNat ≠ -9 := by
  have hm : (WS h c D)[i] ∈ WS h c D := List.getElem_mem hi
  have h1 := wl_mem hm
  have e : wk h c D i = ((WS h c D)[i] : Nat) := by unfold wk; rw [List.getElem?_eq_getElem hi]; rfl
  rw [e]
  exact ⟨by omega, by omega, h1.2.2⟩
/-- the first day from x on; 1000: none -/
def isFd (P : Int → Prop) (x z : Int) : Prop := (x ≤ z ∧ z ≤ 999 ∧ P z ∧ ∀ d, x ≤ d → d < z → ¬ P d) ∨ (z = 1000 ∧ ∀ d, x ≤ d → d ≤ 999 → ¬ P d)
theorem isFd.uniq {P : Int → Prop} {x z w : Int} (h1 : isFd P x z) (h2 : isFd P x w) : z = w := by
  rcases h1 with ⟨a1, a2, a3, a4⟩ | ⟨a1, a2⟩ <;> rcases h2 with ⟨b1, b2, b3, b4⟩ | ⟨b1, b2⟩
  · rcases Int.lt_trichotomy z w with h | h | h
    · exact absurd a3 (b4 z a1 h)
    · exact h
    · exact absurd b3 (a4 w b1 h)
  · exact absurd a3 (b2 z a1 a2)
  · exact absurd b3 (a2 w b1 b2)
  · omega
noncomputable def fdV (P : Int → Prop) (x : Int) : Int := @Classical.epsilon Int ⟨0⟩ (isFd P x)
theorem fdV_eq {P : Int → Prop} {x z : Int} (hz : isFd P x z) : z = fdV P x := hz.uniq (@Classical.epsilon_spec_aux Int ⟨0⟩ (isFd P x) ⟨z, hz⟩)
