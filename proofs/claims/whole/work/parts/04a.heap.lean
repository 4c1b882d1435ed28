/-! ===== the abstract heap: shapes, ints, longs, references, by abstract addresses ===== -/
abbrev AV : Type := Option (Int ⊕ (Int64 ⊕ Option Nat))
abbrev vI (z : Int) : AV := some (Sum.inl z)
abbrev vL (w : Int64) : AV := some (Sum.inr (Sum.inl w))
abbrev vR (r : Option Nat) : AV := some (Sum.inr (Sum.inr r))
abbrev vA (a : Nat) : AV := some (Sum.inr (Sum.inr (some a)))
abbrev Sh : Type := Nat ⊕ (FieldType × Nat)
abbrev GH : Type := (Nat → Option Sh) × (Nat → Nat → Int) × (Nat → Nat → Int64) × (Nat → Nat → Option Nat)
def zr (z : Int) : Prop := -2147483648 ≤ z ∧ z ≤ 2147483647
def cv (ad : Nat → Nat) : AV → Value
  | some (Sum.inl z) => .int (Int32.ofInt z)
  | some (Sum.inr (Sum.inl w)) => .long w
  | some (Sum.inr (Sum.inr (some a))) => .ref (ad a)
  | some (Sum.inr (Sum.inr none)) => .null
  | none => .null
def vok (g : GH) : AV → Prop
  | some (Sum.inl z) => zr z
  | some (Sum.inr (Sum.inr (some a))) => g.1 a ≠ none ∨ 1000000 ≤ a
  | _ => True
def fv (ty : FieldType) (ad : Nat → Nat) (g : GH) (a k : Nat) : Value := match ty with
  | .long => .long (g.2.2.1 a k)
  | .object _ => va_rf ((g.2.2.2 a k).map ad)
  | .array _ => va_rf ((g.2.2.2 a k).map ad)
  | _ => .int (Int32.ofInt (g.2.1 a k))
def tyc (c : Nat) : Nat → FieldType := match c with
  | 0 => tyX0 | 1 => tyX1 | 2 => tyX2 | 3 => tyX3 | 4 => tyX4 | 5 => tyX5 | 6 => tyX6 | 7 => tyX7 | 8 => tyX8 | 9 => tyX9 | 10 => tyX10 | 11 => tyX11 | _ => tyX12
def arrTys : List FieldType := [.int, .long, .byte, .boolean, .array .int, .object RX2, .object RX5, .object RX6, .object RX9]
def cok (D : va_G) (cid : FieldType → ClassId) (ad : Nat → Nat) (g : GH) (a : Nat) (H : Heap) : Sh → Prop
  | Sum.inl ci => ∃ r : vw_C, vwCl[ci]? = some r ∧ t_OB (ad a) (D.1 ci) r.2.2 (D.2 ci) H (fun k => fv (tyc ci k) ad g a k)
  | Sum.inr (ty, n) => ty ∈ arrTys ∧ H[ad a]? = some (arrV (cid ty) n (fun k => fv ty ad g a k))
abbrev BH : Type := Nat × Heap
def clo (g : GH) : Prop := ∀ a k b, g.2.2.2 a k = some b → g.1 b ≠ none ∨ 1000000 ≤ b
def Rp (B : BH) (D : va_G) (cid : FieldType → ClassId) (ad : Nat → Nat) (g : GH) (H : Heap) : Prop :=
  (∀ a, g.1 a ≠ none → B.1 ≤ ad a) ∧ (∀ a b, g.1 a ≠ none → g.1 b ≠ none → ad a = ad b → a = b) ∧ (∀ q : Nat, q < B.1 → H[q]? = B.2[q]?) ∧ B.1 ≤ H.size ∧ (∀ a sh, g.1 a = some sh → cok D cid ad g a H sh) ∧ (∀ a k, zr (g.2.1 a k)) ∧ clo g
/-- one slot of one cell -/
def u2 {α : Type} (f : Nat → Nat → α) (a k : Nat) (v : α) : Nat → Nat → α := fun a' k' => if a' = a ∧ k' = k then v else f a' k'
def u1 {α : Type} (f : Nat → α) (a : Nat) (v : α) : Nat → α := fun a' => if a' = a then v else f a'
theorem u2_s {α : Type} {f : Nat → Nat → α} {a k : Nat} {v : α} : u2 f a k v a k = v := by simp [u2]
theorem u2_n {α : Type} {f : Nat → Nat → α} {a k a' k' : Nat} {v : α} (h : a' ≠ a ∨ k' ≠ k) : u2 f a k v a' k' = f a' k' := by
  unfold u2; rw [if_neg]; rintro ⟨rfl, rfl⟩; simp at h
theorem u1_s {α : Type} {f : Nat → α} {a : Nat} {v : α} : u1 f a v a = v := by simp [u1]
theorem u1_n {α : Type} {f : Nat → α} {a a' : Nat} {v : α} (h : a' ≠ a) : u1 f a v a' = f a' := by simp [u1, h]
def gI (g : GH) (a k : Nat) (z : Int) : GH := (g.1, u2 g.2.1 a k z, g.2.2.1, g.2.2.2)
def gL (g : GH) (a k : Nat) (w : Int64) : GH := (g.1, g.2.1, u2 g.2.2.1 a k w, g.2.2.2)
def gR (g : GH) (a k : Nat) (r : Option Nat) : GH := (g.1, g.2.1, g.2.2.1, u2 g.2.2.2 a k r)
/-- a new cell at a -/
def gN (g : GH) (a : Nat) (sh : Sh) : GH := (u1 g.1 a (some sh), u1 g.2.1 a (fun _ => 0), u1 g.2.2.1 a (fun _ => 0), u1 g.2.2.2 a (fun _ => none))
theorem zr_toInt {z : Int} (h : zr z) : (Int32.ofInt z).toInt = z := Int32.toInt_ofInt_of_le (by have := h.1; omega) (by have := h.2; omega)
theorem zr_32 (x : Int32) : zr x.toInt := ⟨by have := Int32.le_toInt x; omega, by have := Int32.toInt_lt x; omega⟩
theorem zi_lt {x y : Int} (hx : zr x) (hy : zr y) : Int32.ofInt x < Int32.ofInt y ↔ x < y := by rw [Int32.lt_iff_toInt_lt, zr_toInt hx, zr_toInt hy]
theorem zi_le {x y : Int} (hx : zr x) (hy : zr y) : Int32.ofInt x ≤ Int32.ofInt y ↔ x ≤ y := by rw [Int32.le_iff_toInt_le, zr_toInt hx, zr_toInt hy]
theorem zi_eq {x y : Int} (hx : zr x) (hy : zr y) : Int32.ofInt x = Int32.ofInt y ↔ x = y := by
  rw [← Int32.toInt_inj, zr_toInt hx, zr_toInt hy]
theorem zr_0 : zr 0 := ⟨by decide, by decide⟩
theorem cv_cat {ad : Nat → Nat} {v : AV} : (cv ad v).category = 2 ↔ ∃ w, v = vL w := by
  rcases v with _ | z | w | _ | a <;> simp [cv, Value.category]
theorem cv_one {ad : Nat → Nat} {v : AV} (h : ∀ w, v ≠ vL w) : (cv ad v).category = 1 := by
  rcases lv_cat (cv ad v) with h1 | h1
  · exact h1
  · obtain ⟨w, hw⟩ := cv_cat.mp h1
    exact absurd hw (h w)
theorem cv_rf (ad : Nat → Nat) (r : Option Nat) : cv ad (vR r) = va_rf (r.map ad) := by cases r <;> rfl
/-- what an extension keeps -/
def Ext (ad : Nat → Nat) (g : GH) (ad' : Nat → Nat) (g' : GH) : Prop := (∀ a, g.1 a ≠ none → ad' a = ad a ∧ g'.1 a = g.1 a) ∧ ∀ a, 1000000 ≤ a → ad' a = ad a
theorem Ext.rf {ad : Nat → Nat} {g : GH} : Ext ad g ad g := ⟨fun _ _ => ⟨rfl, rfl⟩, fun _ _ => rfl⟩
theorem Ext.sh {ad ad0 : Nat → Nat} {g0 g g' : GH} (h : Ext ad0 g0 ad g) (hg : g'.1 = g.1) : Ext ad0 g0 ad g' := ⟨fun a ha => ⟨(h.1 a ha).1, by rw [hg]; exact (h.1 a ha).2⟩, h.2⟩
theorem Ext.tr {ad0 ad1 ad2 : Nat → Nat} {g0 g1 g2 : GH} (h : Ext ad0 g0 ad1 g1) (h2 : Ext ad1 g1 ad2 g2) : Ext ad0 g0 ad2 g2 := by
  refine ⟨fun a ha => ?_, fun a ha => (h2.2 a ha).trans (h.2 a ha)⟩
  have h1 := h.1 a ha
  have h3 := h2.1 a (by rw [h1.2]; exact ha)
  exact ⟨h3.1.trans h1.1, h3.2.trans h1.2⟩
theorem Ext.cv {ad ad' : Nat → Nat} {g g' : GH} (h : Ext ad g ad' g') {v : AV} (hv : vok g v) : cv ad' v = cv ad v := by
  rcases v with _ | z | w | _ | a
  · rfl
  · rfl
  · rfl
  · rfl
  · rcases hv with hv | hv
    · simp only [_root_.id, Jvm.Pilot.@@N@@.cv]; rw [(h.1 a hv).1]
    · simp only [Jvm.Pilot.@@N@@.cv]; rw [h.2 a hv]
theorem Ext.vok {ad ad' : Nat → Nat} {g g' : GH} (h : Ext ad g ad' g') {v : AV} (hv : vok g v) : vok g' v := by
  rcases v with _ | z | w | _ | a
  · trivial
  · exact hv
  · trivial
  · trivial
  · rcases hv with hv | hv
    · exact Or.inl (by rw [(h.1 a hv).2]; exact hv)
    · exact Or.inr hv
/-- a write: the cell at a gets v in slot k -/
theorem Rp.write {B : BH} {D : va_G} {cid : FieldType → ClassId} {ad : Nat → Nat} {g g' : GH} {H H' : Heap} (h : Rp B D cid ad g H) {a k : Nat} (hsh : g'.1 = g.1) (ha : g.1 a ≠ none)
    (hs : ∀ ty a' k', a' ≠ a ∨ k' ≠ k → fv ty ad g' a' k' = fv ty ad g a' k') (hz : ∀ a k, zr (g'.2.1 a k)) (hc : clo g') (hsz : H'.size = H.size) (ho : ∀ q : Nat, q ≠ ad a → H'[q]? = H[q]?) (hn : ∀ sh, g.1 a = some sh → cok D cid ad g' a H' sh) : Rp B D cid ad g' H' := by
  obtain ⟨h1, h2, h3, h4, h5, h6, h7⟩ := h
  refine ⟨fun b hb => h1 b (by rw [← hsh]; exact hb), fun b c hb hc => h2 b c (by rw [← hsh]; exact hb) (by rw [← hsh]; exact hc), fun q hq => ?_, by omega, fun b sh hb => ?_, hz, hc⟩
  · rw [ho q (by have := h1 a ha; omega)]; exact h3 q hq
  · rw [hsh] at hb
    by_cases e : b = a
    · subst e; exact hn sh hb
    · have hne : ad b ≠ ad a := fun q => e (h2 b a (by rw [hb]; simp) ha q)
      have h8 := h5 b sh hb
      rcases sh with ci | ⟨ty, n⟩
      · obtain ⟨r, hr, hob⟩ := h8
        exact ⟨r, hr, (hob.kept (ho _ hne)).to (fun j _ => (hs _ _ _ (Or.inl e)).symm)⟩
      · refine ⟨h8.1, ?_⟩
        rw [ho _ hne, h8.2]
        congr 2
        funext j
        exact (hs _ _ _ (Or.inl e)).symm
theorem fv_gI_ne {ty : FieldType} {ad : Nat → Nat} {g : GH} {a k a' k' : Nat} {z : Int} (h : a' ≠ a ∨ k' ≠ k) : fv ty ad (gI g a k z) a' k' = fv ty ad g a' k' := by
  unfold fv gI; dsimp only; rw [u2_n h]
theorem fv_gL_ne {ty : FieldType} {ad : Nat → Nat} {g : GH} {a k a' k' : Nat} {z : Int64} (h : a' ≠ a ∨ k' ≠ k) : fv ty ad (gL g a k z) a' k' = fv ty ad g a' k' := by
  unfold fv gL; dsimp only; rw [u2_n h]
theorem fv_gR_ne {ty : FieldType} {ad : Nat → Nat} {g : GH} {a k a' k' : Nat} {z : Option Nat} (h : a' ≠ a ∨ k' ≠ k) : fv ty ad (gR g a k z) a' k' = fv ty ad g a' k' := by
  unfold fv gR; dsimp only; rw [u2_n h]
/-- a new cell -/
theorem Rp.new {B : BH} {D : va_G} {cid : FieldType → ClassId} {ad : Nat → Nat} {g : GH} {H H' : Heap} (h : Rp B D cid ad g H) {a : Nat} {sh : Sh} (ha : g.1 a = none) (hlt : a < 1000000) (hsz : H.size ≤ H'.size) (ho : ∀ q : Nat, q < H.size → H'[q]? = H[q]?) {q0 : Nat} (hq0 : H.size ≤ q0)
    (hn : cok D cid (u1 ad a q0) (gN g a sh) a H' sh) : Rp B D cid (u1 ad a q0) (gN g a sh) H' ∧ Ext ad g (u1 ad a q0) (gN g a sh) := by
  obtain ⟨h1, h2, h3, h4, h5, h6, h7⟩ := h
  have hlt2 : ∀ b, g.1 b ≠ none → ad b < H.size := by
    intro b hb
    cases e : g.1 b with
    | none => exact absurd e hb
    | some sh =>
      have h8 := h5 b sh e
      rcases sh with ci | ⟨ty, n⟩
      · obtain ⟨r, hr, cell, hc, -⟩ := h8
        exact (Array.getElem?_eq_some_iff.mp hc).1
      · exact (Array.getElem?_eq_some_iff.mp h8.2).1
  have hg : ∀ b, b ≠ a → (gN g a sh).1 b = g.1 b := fun b hb => u1_n hb
  have had : ∀ b, b ≠ a → u1 ad a q0 b = ad b := fun b hb => u1_n hb
  have hf : ∀ b ty k, b ≠ a → fv ty (u1 ad a q0) (gN g a sh) b k = fv ty ad g b k := by
    intro b ty k hb
    have hr : (gN g a sh).2.2.2 b k = g.2.2.2 b k := by show u1 g.2.2.2 a _ b k = _; rw [u1_n hb]
    have hi : (gN g a sh).2.1 b k = g.2.1 b k := by show u1 g.2.1 a _ b k = _; rw [u1_n hb]
    have hl : (gN g a sh).2.2.1 b k = g.2.2.1 b k := by show u1 g.2.2.1 a _ b k = _; rw [u1_n hb]
    have hm : (g.2.2.2 b k).map (u1 ad a q0) = (g.2.2.2 b k).map ad := by
      cases e : g.2.2.2 b k with
      | none => rfl
      | some c =>
        have hca : c ≠ a := by
          rcases h7 b k c e with h | h
          · intro q; rw [q] at h; exact h ha
          · omega
        show some (u1 ad a q0 c) = some (ad c)
        rw [had c hca]
    unfold fv
    rw [hr, hi, hl, hm]
  refine ⟨⟨fun b hb => ?_, fun b c hb hc e => ?_, fun q hq => ?_, by omega, fun b sb hb => ?_, fun b k => ?_, fun b k c hc => ?_⟩, ⟨fun b hb => ?_, fun b hb => had b (by omega)⟩⟩
  · by_cases e : b = a
    · subst e; rw [u1_s]; omega
    · rw [had b e]; exact h1 b (by rw [← hg b e]; exact hb)
  · by_cases eb : b = a <;> by_cases ec : c = a
    · rw [eb, ec]
    · subst eb; rw [u1_s, had c ec] at e
      have := hlt2 c (by rw [← hg c ec]; exact hc)
      omega
    · subst ec; rw [u1_s, had b eb] at e
      have := hlt2 b (by rw [← hg b eb]; exact hb)
      omega
    · rw [had b eb, had c ec] at e
      exact h2 b c (by rw [← hg b eb]; exact hb) (by rw [← hg c ec]; exact hc) e
  · rw [ho q (by omega)]; exact h3 q hq
  · by_cases e : b = a
    · subst e
      have : some sh = some sb := by rw [← hb]; exact u1_s.symm
      cases this
      exact hn
    · rw [hg b e] at hb
      have h8 := h5 b sb hb
      have hl := hlt2 b (by rw [hb]; simp)
      rcases sb with ci | ⟨ty, n⟩
      · obtain ⟨r, hr, hob⟩ := h8
        refine ⟨r, hr, ?_⟩
        rw [had b e]
        exact (hob.kept (ho _ hl)).to (fun j _ => (hf b _ j e).symm)
      · refine ⟨h8.1, ?_⟩
        rw [had b e, ho _ hl, h8.2]
        congr 2
        funext j
        exact (hf b _ j e).symm
  · by_cases e : b = a
    · subst e; show zr (u1 g.2.1 b (fun _ => 0) b k); rw [u1_s]; exact zr_0
    · show zr (u1 g.2.1 a (fun _ => 0) b k); rw [u1_n e]; exact h6 b k
  · by_cases e : b = a
    · subst e
      have : u1 g.2.2.2 b (fun _ => none) b k = some c := hc
      rw [u1_s] at this
      cases this
    · have : u1 g.2.2.2 a (fun _ => none) b k = some c := hc
      rw [u1_n e] at this
      rcases h7 b k c this with h | h
      · by_cases ec : c = a
        · subst ec; exact absurd ha h
        · exact Or.inl (by rw [hg c ec]; exact h)
      · exact Or.inr h
  · have e : b ≠ a := fun q => hb (by rw [q]; exact ha)
    exact ⟨had b e, hg b e⟩
