theorem canB_cg {h h' : Nat → Nat → Int} (e : ∀ a k, a = 1014 ∨ (1004 ≤ a ∧ a ≤ 1012) → h' a k = h a k) : canB h' = canB h := by
  have f : ∀ a, a = 1014 ∨ (1004 ≤ a ∧ a ≤ 1012) → h' a = h a := fun a x => funext fun k => e a k x
  funext m d
  unfold canB datB dieB
  rw [f 1014 (by omega), f 1005 (by omega), f 1006 (by omega), f 1008 (by omega), f 1009 (by omega), f 1010 (by omega), f 1011 (by omega), f 1012 (by omega)]
theorem twn_cg {h h' : Nat → Nat → Int} (e : ∀ a k, a = 1014 ∨ (1004 ≤ a ∧ a ≤ 1012) → h' a k = h a k) : twn h' = twn h := by
  have f : ∀ a, a = 1014 ∨ (1004 ≤ a ∧ a ≤ 1012) → h' a = h a := fun a x => funext fun k => e a k x
  funext m
  unfold twn
  rw [f 1014 (by omega), f 1004 (by omega), f 1008 (by omega)]
/-! ===== the class's object at 1, all of it against the reference's ===== -/
def CO (g : GH) : Prop := (g.1 1 = some (Sum.inl 11) ∧ g.2.2.2 1 0 = some 2 ∧ g.2.2.2 1 1 = some 3 ∧ g.2.2.2 1 2 = some 4 ∧ g.2.2.2 1 3 = some 5 ∧ g.2.2.2 1 4 = some 7 ∧ g.2.2.2 1 5 = some 8 ∧ g.2.2.2 1 6 = some 22 ∧ g.2.2.2 1 7 = some 26) ∧ g.1 2 = some (Sum.inr (.int, 6)) ∧ g.1 3 = some (Sum.inr (.object RX6, 8)) ∧ g.1 4 = some (Sum.inr (.object RX2, 12)) ∧ g.1 7 = some (Sum.inl 4)
def CL (h : Nat → Nat → Int) : Prop := ∀ t, t < 6 → h 2 t = h 1002 t
def COf (g : GH) : Prop := g.2.1 1 10 = g.2.1 1000 3 ∧ ∀ i : Nat, (i : Int) < g.2.1 1000 3 → g.2.2.2 3 i = some (60 + i) ∧ g.1 (60 + i) = some (Sum.inl 6) ∧ g.2.1 (60 + i) 0 = g.2.1 1004 i ∧ g.2.1 (60 + i) 1 = g.2.1 1005 i ∧ g.2.1 (60 + i) 2 = g.2.1 1006 i
def CDi (g : GH) : Prop := g.2.1 1 11 = g.2.1 1000 7 ∧ ∀ i : Nat, (i : Int) < g.2.1 1000 7 → g.2.2.2 4 i = some (80 + i) ∧ g.1 (80 + i) = some (Sum.inl 2) ∧ g.2.2.2 (80 + i) 0 = some (60 + (g.2.1 1008 i).toNat) ∧ g.2.1 (80 + i) 1 = g.2.1 1009 i ∧ g.2.1 (80 + i) 2 = g.2.1 1010 i ∧ g.2.1 (80 + i) 3 = g.2.1 1011 i ∧ g.2.1 (80 + i) 4 = g.2.1 1012 i
def CB (g : GH) (bk : Nat) : Prop := (bk = 28 ∨ bk = 42) ∧ (g.2.2.2 1 8 = some bk ∧ g.2.2.2 1 9 = some (70 - bk)) ∧ BK g 28 29 (fun i => 28 + 2 + i) ∧ BK g 42 43 (fun i => 42 + 2 + i)
def CBv (h : Nat → Nat → Int) (bk : Nat) : Prop := h bk 1 = h 1000 35 ∧ ∀ i : Nat, (i : Int) < h 1000 35 → ∀ j, j < 10 → h (bk + 2 + i) j = h 1037 (10 * i + j)
def CT (g : GH) : Prop := TXs g ∧ TXc g (tx g.2.1) (g.2.1 1000 29)
def CTr (g : GH) : Prop := g.2.2.1 7 0 = g.2.2.1 1000 1
def FR (g : GH) : Prop := (∀ i : Nat, g.2.1 1000 3 ≤ i → i < 8 → g.1 (60 + i) = none) ∧ (∀ i : Nat, g.2.1 1000 7 ≤ i → i < 12 → g.1 (80 + i) = none) ∧ ∀ m : Nat, g.2.1 1000 13 ≤ m → m < 40 → g.1 (100 + m) = none ∧ g.1 (200 + m) = none ∧ g.1 (300 + m) = none ∧ g.1 (400 + m) = none ∧ g.1 (500 + m) = none
/-- all of it -/
def CPL (g : GH) : Prop := (MR g ∧ MV g.2.1) ∧ (CO g ∧ CL g.2.1) ∧ (COf g ∧ CDi g) ∧ (CMk g ∧ CWs g ∧ CWv g.2.1 ∧ CGs g) ∧ (CT g ∧ CTr g ∧ FR g) ∧ ∃ bk, CB g bk ∧ CBv g.2.1 bk
/-! what stays the same from g to g', but for the cells A, ints W, references R, longs Z -/
def rel (A : Nat → Prop) (W : Nat → Nat → Prop) (R Z : Nat → Prop) (g g' : GH) : Prop := (∀ a, ¬ A a → g'.1 a = g.1 a) ∧ (∀ a k, ¬ A a → ¬ W a k → g'.2.1 a k = g.2.1 a k) ∧ (∀ a k, ¬ A a → ¬ R a → g'.2.2.2 a k = g.2.2.2 a k) ∧ ∀ a, ¬ A a → ¬ Z a → g'.2.2.1 a = g.2.2.1 a
theorem rel.rf {A : Nat → Prop} {W : Nat → Nat → Prop} {R Z : Nat → Prop} {g : GH} : rel A W R Z g g := ⟨fun _ _ => rfl, fun _ _ _ _ => rfl, fun _ _ _ _ => rfl, fun _ _ _ => rfl⟩
theorem rel.tr {A : Nat → Prop} {W : Nat → Nat → Prop} {R Z : Nat → Prop} {g g1 g2 : GH} (h : rel A W R Z g g1) (q : rel A W R Z g1 g2) : rel A W R Z g g2 :=
  ⟨fun a x => (q.1 a x).trans (h.1 a x), fun a k x y => (q.2.1 a k x y).trans (h.2.1 a k x y), fun a k x y => (q.2.2.1 a k x y).trans (h.2.2.1 a k x y), fun a x y => (q.2.2.2 a x y).trans (h.2.2.2 a x y)⟩
theorem rel.mono {A A' : Nat → Prop} {W W' : Nat → Nat → Prop} {R R' Z Z' : Nat → Prop} {g g' : GH} (h : rel A W R Z g g') (hA : ∀ a, A a → A' a) (hW : ∀ a k, W a k → W' a k) (hR : ∀ a, R a → R' a) (hZ : ∀ a, Z a → Z' a) : rel A' W' R' Z' g g' :=
  ⟨fun a x => h.1 a (fun z => x (hA a z)), fun a k x y => h.2.1 a k (fun z => x (hA a z)) (fun z => y (hW a k z)), fun a k x y => h.2.2.1 a k (fun z => x (hA a z)) (fun z => y (hR a z)), fun a x y => h.2.2.2 a (fun z => x (hA a z)) (fun z => y (hZ a z))⟩
theorem rel.of {W : Nat → Nat → Prop} {A : Nat → Prop} {W' : Nat → Nat → Prop} {R Z : Nat → Prop} {g g' : GH} (h : sameB W g g') (hW : ∀ a k, W a k → W' a k) : rel A W' R Z g g' := ⟨fun a _ => by rw [h.1], fun a k _ y => h.2.2 a k (fun z => y (hW a k z)), fun a k _ _ => by rw [h.2.1], fun a _ _ => by rw [h.2.1]⟩
theorem rel.wI {A : Nat → Prop} {W : Nat → Nat → Prop} {R Z : Nat → Prop} {g g' : GH} {a k : Nat} {z : Int} (h : rel A W R Z g g') (hw : W a k ∨ A a) : rel A W R Z g (gI g' a k z) :=
  ⟨h.1, fun a' k' x y => (gI_n (by
    by_cases e : a' = a
    · refine Or.inr (fun e2 => ?_)
      subst e; subst e2
      rcases hw with q | q
      · exact y q
      · exact x q
    · exact Or.inl e)).trans (h.2.1 a' k' x y), h.2.2.1, h.2.2.2⟩
theorem rel.wR {A : Nat → Prop} {W : Nat → Nat → Prop} {R Z : Nat → Prop} {g g' : GH} {a k : Nat} {r : Option Nat} (h : rel A W R Z g g') (hw : R a ∨ A a) : rel A W R Z g (gR g' a k r) :=
  ⟨h.1, h.2.1, fun a' k' x y => (u2_n (by
    by_cases e : a' = a
    · subst e
      rcases hw with q | q
      · exact absurd q y
      · exact absurd q x
    · exact Or.inl e)).trans (h.2.2.1 a' k' x y), h.2.2.2⟩
theorem rel.wL {A : Nat → Prop} {W : Nat → Nat → Prop} {R Z : Nat → Prop} {g g' : GH} {a k : Nat} {w : Int64} (h : rel A W R Z g g') (hw : Z a ∨ A a) : rel A W R Z g (gL g' a k w) :=
  ⟨h.1, h.2.1, h.2.2.1, fun a' x y => by
    have e : a' ≠ a := fun e => by
      subst e
      rcases hw with q | q
      · exact y q
      · exact x q
    refine Eq.trans ?_ (h.2.2.2 a' x y)
    funext k'
    exact u2_n (Or.inl e)⟩
theorem rel.wN {A : Nat → Prop} {W : Nat → Nat → Prop} {R Z : Nat → Prop} {g g' : GH} {a : Nat} {sh : Sh} (h : rel A W R Z g g') (hw : A a) : rel A W R Z g (gN g' a sh) :=
  have ne : ∀ a', ¬ A a' → a' ≠ a := fun a' x e => x (by rw [e]; exact hw)
  ⟨fun a' x => by
    show u1 g'.1 a _ a' = _
    rw [u1_n (ne a' x)]; exact h.1 a' x, fun a' k x y => by
    show u1 g'.2.1 a _ a' k = _
    rw [u1_n (ne a' x)]; exact h.2.1 a' k x y, fun a' k x y => by
    show u1 g'.2.2.2 a _ a' k = _
    rw [u1_n (ne a' x)]; exact h.2.2.1 a' k x y, fun a' x y => by
    show u1 g'.2.2.1 a _ a' = _
    rw [u1_n (ne a' x)]; exact h.2.2.2 a' x y⟩
section KEEP
variable {A : Nat → Prop} {W : Nat → Nat → Prop} {R Z : Nat → Prop} {g g' : GH}
theorem rel.MR (h : rel A W R Z g g') (hA : ∀ a, 1000 ≤ a → ¬ A a) (hR : ¬ R 1000) (q : MR g) : MR g' := ⟨by rw [h.1 1000 (hA _ (by decide))]; exact q.1, fun k n e => ⟨by rw [h.2.2.1 1000 k (hA _ (by decide)) hR]; exact (q.2 k n e).1, by rw [h.1 _ (hA _ (by omega))]; exact (q.2 k n e).2⟩⟩
theorem rel.hk (h : rel A W R Z g g') (hA : ∀ a, 1000 ≤ a → ¬ A a) (hW : ∀ a k, 1000 ≤ a → W a k → scr a k) : HK g.2.1 g'.2.1 := fun a k y z => h.2.1 a k (hA a y) (fun x => z (hW a k y x))
theorem rel.CO (h : rel A W R Z g g') (hA : ¬ A 1 ∧ ¬ A 2 ∧ ¬ A 3 ∧ ¬ A 4 ∧ ¬ A 7) (hR : ¬ R 1 ∨ ∀ k, k < 8 → g'.2.2.2 1 k = g.2.2.2 1 k) (q : CO g) : CO g' := by
  have e : ∀ k, k < 8 → g'.2.2.2 1 k = g.2.2.2 1 k := fun k hk => hR.elim (fun x => h.2.2.1 1 k hA.1 x) (fun x => x k hk)
  unfold Jvm.Pilot.@@N@@.CO at q ⊢
  rw [h.1 1 hA.1, h.1 2 hA.2.1, h.1 3 hA.2.2.1, h.1 4 hA.2.2.2.1, h.1 7 hA.2.2.2.2, e 0 (by decide), e 1 (by decide), e 2 (by decide), e 3 (by decide), e 4 (by decide), e 5 (by decide), e 6 (by decide), e 7 (by decide)]
  exact q
theorem rel.CL (h : rel A W R Z g g') (hA : ¬ A 2 ∧ ¬ A 1002) (hW : ∀ k, ¬ W 2 k ∧ ¬ W 1002 k) (q : CL g.2.1) : CL g'.2.1 := fun t ht => by rw [h.2.1 2 t hA.1 (hW t).1, h.2.1 1002 t hA.2 (hW t).2]; exact q t ht
theorem rel.COf (h : rel A W R Z g g') (hA : ∀ a, (a = 1 ∨ a = 3 ∨ (60 ≤ a ∧ a < 68) ∨ 1000 ≤ a) → ¬ A a) (hW : ∀ a k, (a = 1 ∧ k = 10) ∨ (60 ≤ a ∧ a < 68) ∨ (a = 1000 ∧ k = 3) ∨ (1004 ≤ a ∧ a ≤ 1006) → ¬ W a k) (hR : ¬ R 3) (h8 : g.2.1 1000 3 ≤ 8) (q : COf g) : COf g' := by
  have e3 : g'.2.1 1000 3 = g.2.1 1000 3 := h.2.1 _ _ (hA _ (by omega)) (hW _ _ (by omega))
  refine ⟨by rw [h.2.1 1 10 (hA _ (by omega)) (hW _ _ (by omega)), e3]; exact q.1, fun i hi => ?_⟩
  rw [e3] at hi
  rw [h.2.2.1 3 i (hA _ (by omega)) hR, h.1 (60 + i) (hA _ (by omega)), h.2.1 (60 + i) 0 (hA _ (by omega)) (hW _ _ (by omega)), h.2.1 (60 + i) 1 (hA _ (by omega)) (hW _ _ (by omega)), h.2.1 (60 + i) 2 (hA _ (by omega)) (hW _ _ (by omega)), h.2.1 1004 i (hA _ (by omega)) (hW _ _ (by omega)), h.2.1 1005 i (hA _ (by omega)) (hW _ _ (by omega)), h.2.1 1006 i (hA _ (by omega)) (hW _ _ (by omega))]
  exact q.2 i hi
theorem rel.CDi (h : rel A W R Z g g') (hA : ∀ a, (a = 1 ∨ a = 4 ∨ (80 ≤ a ∧ a < 92) ∨ 1000 ≤ a) → ¬ A a) (hW : ∀ a k, (a = 1 ∧ k = 11) ∨ (80 ≤ a ∧ a < 92) ∨ (a = 1000 ∧ k = 7) ∨ (1008 ≤ a ∧ a ≤ 1012) → ¬ W a k) (hR : ∀ a, a = 4 ∨ (80 ≤ a ∧ a < 92) → ¬ R a) (h8 : g.2.1 1000 7 ≤ 12) (q : CDi g) : CDi g' := by
  have e3 : g'.2.1 1000 7 = g.2.1 1000 7 := h.2.1 _ _ (hA _ (by omega)) (hW _ _ (by omega))
  refine ⟨by rw [h.2.1 1 11 (hA _ (by omega)) (hW _ _ (by omega)), e3]; exact q.1, fun i hi => ?_⟩
  rw [e3] at hi
  rw [h.2.2.1 4 i (hA _ (by omega)) (hR _ (by omega)), h.1 (80 + i) (hA _ (by omega)), h.2.2.1 (80 + i) 0 (hA _ (by omega)) (hR _ (by omega)), h.2.1 (80 + i) 1 (hA _ (by omega)) (hW _ _ (by omega)), h.2.1 (80 + i) 2 (hA _ (by omega)) (hW _ _ (by omega)), h.2.1 (80 + i) 3 (hA _ (by omega)) (hW _ _ (by omega)), h.2.1 (80 + i) 4 (hA _ (by omega)) (hW _ _ (by omega)), h.2.1 1008 i (hA _ (by omega)) (hW _ _ (by omega)), h.2.1 1009 i (hA _ (by omega)) (hW _ _ (by omega)), h.2.1 1010 i (hA _ (by omega)) (hW _ _ (by omega)), h.2.1 1011 i (hA _ (by omega)) (hW _ _ (by omega)), h.2.1 1012 i (hA _ (by omega)) (hW _ _ (by omega))]
  exact q.2 i hi
theorem rel.CMk (h : rel A W R Z g g') (hA : ∀ a, kpC a ∨ 1000 ≤ a → ¬ A a) (hW : ∀ a k, kpC a → ¬ W a k) (hR : ∀ a, kpC a → ¬ R a) (hZ : ∀ a, kpC a → ¬ Z a) (hh : ∀ a k, 1000 ≤ a → W a k → scr a k ∨ (a = 1000 ∧ k ≠ 13) ∨ a = 1002 ∨ (1016 ≤ a ∧ a ≠ 1000)) (h4 : g.2.1 1000 13 ≤ 40) (q : CMk g) : CMk g' := by
  have ez : ∀ a k, a = 1014 ∨ (1004 ≤ a ∧ a ≤ 1012) → g'.2.1 a k = g.2.1 a k := fun a k x => h.2.1 a k (hA _ (Or.inr (by omega))) (fun y => by rcases hh a k (by omega) y with z | z | z | z <;> (try unfold scr at z) <;> omega)
  have e13 : g'.2.1 1000 13 = g.2.1 1000 13 := h.2.1 1000 13 (hA _ (Or.inr (by omega))) (fun y => by rcases hh 1000 13 (by omega) y with z | z | z | z <;> (try unfold scr at z) <;> omega)
  have ecan : canB g'.2.1 = canB g.2.1 := canB_cg ez
  have etw : twn g'.2.1 = twn g.2.1 := twn_cg ez
  have e14 : g'.2.1 1014 = g.2.1 1014 := funext fun k => ez 1014 k (by omega)
  obtain ⟨c1, c2, c3, c4, c5⟩ := q
  have ks : ∀ a, kpC a → g'.1 a = g.1 a := fun a x => h.1 a (hA a (Or.inl x))
  have ki : ∀ a k, kpC a → g'.2.1 a k = g.2.1 a k := fun a k x => h.2.1 a k (hA a (Or.inl x)) (hW a k x)
  have kr : ∀ a k, kpC a → g'.2.2.2 a k = g.2.2.2 a k := fun a k x => h.2.2.1 a k (hA a (Or.inl x)) (hR a x)
  have kl : ∀ a, kpC a → g'.2.2.1 a = g.2.2.1 a := fun a x => h.2.2.2 a (hA a (Or.inl x)) (hZ a x)
  refine ⟨by rw [ks 5 (Or.inl rfl)]; exact c1, by rw [kr 5 0 (Or.inl rfl)]; exact c2, by rw [ks 6 (Or.inr (Or.inl rfl))]; exact c3, by rw [ki 5 1 (Or.inl rfl), e13]; exact c4, fun m hm => ?_⟩
  rw [e13] at hm
  have hm40 : m < 40 := by omega
  have P : ∀ b, 100 ≤ b → b ≤ 400 → kpC (b + m) := fun b x y => Or.inr (Or.inr (by omega))
  obtain ⟨r0, s, v, dd, t, rr, cc⟩ := c5 m hm
  have k1 : ∀ k, g'.2.1 (100 + m) k = g.2.1 (100 + m) k := fun k => ki _ k (P 100 (by omega) (by omega))
  have k4 : ∀ k, g'.2.1 (400 + m) k = g.2.1 (400 + m) k := fun k => ki _ k (P 400 (by omega) (by omega))
  refine ⟨by rw [kr 6 m (Or.inr (Or.inl rfl))]; exact r0, ?_, ?_, ?_, ?_, ?_, ?_⟩
  · unfold MKs at s ⊢
    rw [ks _ (P 100 (by omega) (by omega)), ks _ (P 200 (by omega) (by omega)), ks _ (P 300 (by omega) (by omega)), ks _ (P 400 (by omega) (by omega)), kr (100 + m) 3 (P 100 (by omega) (by omega)), kr (200 + m) 0 (P 200 (by omega) (by omega)), kr (100 + m) 4 (P 100 (by omega) (by omega))]; exact s
  · unfold MKv at v ⊢; simp only [k1, e14]; exact v
  · intro d hd; rw [kl (300 + m) (P 300 (by omega) (by omega)), ecan]; exact dd d hd
  · unfold MKt at t ⊢; simp only [k1, e14]; exact t
  · unfold MKr at rr ⊢; rw [kr (100 + m) 8 (P 100 (by omega) (by omega)), e14, k1, etw]; exact rr
  · unfold MKc at cc ⊢; rw [k1, ecan]; simp only [k4]; exact cc
theorem rel.CWs (h : rel A W R Z g g') (hA : ∀ a, 8 ≤ a → a ≤ 21 → ¬ A a) (hR : ∀ a, 8 ≤ a → a ≤ 21 → ¬ R a) (q : CWs g) : CWs g' := by
  unfold Jvm.Pilot.@@N@@.CWs at q ⊢
  obtain ⟨q1, q2, q3, q4⟩ := q
  rw [h.1 8 (hA _ (by omega) (by omega)), h.1 9 (hA _ (by omega) (by omega)), h.1 10 (hA _ (by omega) (by omega)), h.1 11 (hA _ (by omega) (by omega)), h.1 12 (hA _ (by omega) (by omega)), h.1 13 (hA _ (by omega) (by omega)), h.1 20 (hA _ (by omega) (by omega)), h.1 21 (hA _ (by omega) (by omega))]
  simp only [h.2.2.1 8 _ (hA 8 (by omega) (by omega)) (hR 8 (by omega) (by omega))]
  exact ⟨q1, q2, q3, fun a ha => by rw [h.2.2.1 13 a (hA _ (by omega) (by omega)) (hR _ (by omega) (by omega)), h.1 _ (hA _ (by omega) (by omega))]; exact q4 a ha⟩
theorem rel.CWv (h : rel A W R Z g g') (hA : ∀ a, (8 ≤ a ∧ a ≤ 21) ∨ 1000 ≤ a → ¬ A a) (hW : ∀ a k, ((8 ≤ a ∧ a ≤ 19) ∨ (1016 ≤ a ∧ a ≤ 1020) ∨ (a = 1000 ∧ k = 15)) → ¬ W a k) (q : CWv g.2.1) : CWv g'.2.1 := by
  have e : ∀ a k, ((8 ≤ a ∧ a ≤ 19) ∨ (1016 ≤ a ∧ a ≤ 1020) ∨ (a = 1000 ∧ k = 15)) → g'.2.1 a k = g.2.1 a k := fun a k x => h.2.1 a k (hA a (by omega)) (hW a k x)
  refine ⟨by rw [e 8 7 (by omega), e 1000 15 (by omega)]; exact q.1, fun s hs => ?_, fun a b ha hb => by rw [e (14 + a) b (by omega), e 1020 _ (by omega)]; exact q.2.2 a b ha hb⟩
  rw [e 1000 15 (by omega)] at hs
  rw [e 9 s (by omega), e 10 s (by omega), e 11 s (by omega), e 12 s (by omega), e 1016 s (by omega), e 1017 s (by omega), e 1018 s (by omega), e 1019 s (by omega)]
  exact q.2.1 s hs
theorem rel.CGs (h : rel A W R Z g g') (hA : ∀ a, 22 ≤ a → a ≤ 25 → ¬ A a) (hR : ¬ R 22) (q : CGs g) : CGs g' := by
  unfold Jvm.Pilot.@@N@@.CGs at q ⊢
  rw [h.1 22 (hA _ (by omega) (by omega)), h.1 23 (hA _ (by omega) (by omega)), h.1 24 (hA _ (by omega) (by omega)), h.1 25 (hA _ (by omega) (by omega))]
  simp only [h.2.2.1 22 _ (hA 22 (by omega) (by omega)) hR]
  exact q
theorem rel.CT (h : rel A W R Z g g') (hA : ∀ a, a = 26 ∨ a = 27 ∨ 1000 ≤ a → ¬ A a) (hW : ∀ a k, (a = 26 ∧ k = 1) ∨ a = 27 ∨ (a = 1000 ∧ k = 29) ∨ a = 1028 → ¬ W a k) (hR : ¬ R 26) (q : CT g) : CT g' := by
  have e : ∀ a k, (a = 26 ∧ k = 1) ∨ a = 27 ∨ (a = 1000 ∧ k = 29) ∨ a = 1028 → g'.2.1 a k = g.2.1 a k := fun a k x => h.2.1 a k (hA a (by omega)) (hW a k x)
  have et : tx g'.2.1 = tx g.2.1 := by
    funext k
    unfold tx
    rw [e 1000 29 (by omega), e 1028 _ (by omega)]
  refine ⟨?_, ?_⟩
  · have := q.1
    unfold TXs at this ⊢
    rw [h.1 26 (hA _ (by omega)), h.1 27 (hA _ (by omega)), h.2.2.1 26 0 (hA _ (by omega)) hR]; exact this
  · rw [et, e 1000 29 (by omega)]
    exact ⟨q.2.1, (e 26 1 (by omega)).trans q.2.2.1, fun k a b => ⟨(q.2.2.2.1 k a b).1, (e 27 _ (by omega)).trans (q.2.2.2.1 k a b).2⟩, q.2.2.2.2⟩
theorem rel.CTr (h : rel A W R Z g g') (hA : ¬ A 7 ∧ ¬ A 1000) (hZ : ¬ Z 7 ∧ ¬ Z 1000) (q : CTr g) : CTr g' := by
  unfold Jvm.Pilot.@@N@@.CTr at q ⊢; rw [h.2.2.2 7 hA.1 hZ.1, h.2.2.2 1000 hA.2 hZ.2]; exact q
theorem rel.CB (h : rel A W R Z g g') (hA : ∀ a, a = 1 ∨ (28 ≤ a ∧ a ≤ 55) → ¬ A a) (hR : ∀ a, a = 1 ∨ a = 28 ∨ a = 29 ∨ a = 42 ∨ a = 43 → ¬ R a) {bk : Nat} (q : CB g bk) : CB g' bk := by
  obtain ⟨q1, q2, q3, q4⟩ := q
  refine ⟨q1, ?_, ?_, ?_⟩
  · rw [h.2.2.1 1 8 (hA _ (by omega)) (hR _ (by omega)), h.2.2.1 1 9 (hA _ (by omega)) (hR _ (by omega))]; exact q2
  · obtain ⟨b1, b2, b3, b4⟩ := q3
    exact ⟨by rw [h.1 28 (hA _ (by omega))]; exact b1, by rw [h.2.2.1 28 0 (hA _ (by omega)) (hR _ (by omega))]; exact b2, by rw [h.1 29 (hA _ (by omega))]; exact b3, fun i hi => ⟨(h.2.2.1 29 i (hA _ (by omega)) (hR _ (by omega))).trans (b4 i hi).1, (h.1 (28 + 2 + i) (hA _ (by omega))).trans (b4 i hi).2⟩⟩
  · obtain ⟨b1, b2, b3, b4⟩ := q4
    exact ⟨by rw [h.1 42 (hA _ (by omega))]; exact b1, by rw [h.2.2.1 42 0 (hA _ (by omega)) (hR _ (by omega))]; exact b2, by rw [h.1 43 (hA _ (by omega))]; exact b3, fun i hi => ⟨(h.2.2.1 43 i (hA _ (by omega)) (hR _ (by omega))).trans (b4 i hi).1, (h.1 (42 + 2 + i) (hA _ (by omega))).trans (b4 i hi).2⟩⟩
theorem rel.CBv (h : rel A W R Z g g') {bk : Nat} (hb : bk = 28 ∨ bk = 42) (hA : ∀ a, (28 ≤ a ∧ a ≤ 55) ∨ 1000 ≤ a → ¬ A a) (hW : ∀ a k, (a = bk ∨ (bk + 2 ≤ a ∧ a ≤ bk + 13) ∨ (a = 1000 ∧ k = 35) ∨ (a = 1037 ∧ k < 120)) → ¬ W a k) (h12 : g.2.1 1000 35 ≤ 12) (q : CBv g.2.1 bk) : CBv g'.2.1 bk := by
  have e : ∀ a k, (a = bk ∨ (bk + 2 ≤ a ∧ a ≤ bk + 13) ∨ (a = 1000 ∧ k = 35) ∨ (a = 1037 ∧ k < 120)) → g'.2.1 a k = g.2.1 a k := fun a k x => h.2.1 a k (hA a (by omega)) (hW a k x)
  have e35 := e 1000 35 (by omega)
  refine ⟨by rw [e bk 1 (by omega), e35]; exact q.1, fun i hi j hj => ?_⟩
  rw [e35] at hi
  rw [e (bk + 2 + i) j (by omega), e 1037 (10 * i + j) (by omega)]
  exact q.2 i hi j hj
theorem rel.FR (h : rel A W R Z g g') (hA : ∀ a, (60 ≤ a ∧ a < 1001) → ¬ A a) (hW : ∀ k, k = 3 ∨ k = 7 ∨ k = 13 → ¬ W 1000 k) (q : FR g) : FR g' := by
  have e3 := h.2.1 1000 3 (hA _ (by omega)) (hW _ (by omega))
  have e7 := h.2.1 1000 7 (hA _ (by omega)) (hW _ (by omega))
  have e13 := h.2.1 1000 13 (hA _ (by omega)) (hW _ (by omega))
  refine ⟨fun i a b => ?_, fun i a b => ?_, fun m a b => ?_⟩
  · rw [e3] at a; rw [h.1 _ (hA _ (by omega))]; exact q.1 i a b
  · rw [e7] at a; rw [h.1 _ (hA _ (by omega))]; exact q.2.1 i a b
  · rw [e13] at a
    rw [h.1 (100 + m) (hA _ (by omega)), h.1 (200 + m) (hA _ (by omega)), h.1 (300 + m) (hA _ (by omega)), h.1 (400 + m) (hA _ (by omega)), h.1 (500 + m) (hA _ (by omega))]
    exact q.2.2 m a b
end KEEP
/-- scratch of class and reference -/
def zC (a k : Nat) : Prop := a = 20 ∨ a = 21 ∨ a = 24 ∨ a = 25 ∨ (a = 22 ∧ 4 ≤ k) ∨ (a = 26 ∧ 2 ≤ k) ∨ scr a k
def nA (_ : Nat) : Prop := False
def r23 (a : Nat) : Prop := a = 23
/-- only scratch has changed -/
abbrev kp (g g' : GH) : Prop := rel nA zC r23 nA g g'
theorem zC_hi {a k : Nat} (ha : 1000 ≤ a) (h : zC a k) : scr a k := by unfold zC at h; rcases h with h | h | h | h | h | h | h <;> first | omega | exact h
theorem kp.hk {g g' : GH} (h : kp g g') : HK g.2.1 g'.2.1 := rel.hk h (fun _ _ => id) (fun a k x y => zC_hi x y)
theorem kp.of {W : Nat → Nat → Prop} {g g' : GH} (h : sameB W g g') (hW : ∀ a k, W a k → zC a k) : kp g g' := rel.of h hW
theorem kp.keep {g g' : GH} (h : Keep g g') : kp g g' := kp.of h (fun a k x => Or.inr (Or.inr (Or.inr (Or.inr (Or.inr (Or.inr x))))))
theorem kp.th {g : GH} : kp g (gI g 1000 0 0) := kp.keep keep_th
theorem CPL.kp {g g' : GH} (h : kp g g') (q : CPL g) : CPL g' := by
  obtain ⟨⟨q1, q2⟩, ⟨q3, q4⟩, ⟨q5, q6⟩, ⟨q7, q8, q9, q10⟩, ⟨q11, q12, q13⟩, bk, q14, q15⟩ := q
  have hc := q2.1
  unfold MVc at hc
  have nz : ∀ a k, ¬ scr a k → ¬ (a = 20 ∨ a = 21 ∨ a = 24 ∨ a = 25 ∨ (a = 22 ∧ 4 ≤ k) ∨ (a = 26 ∧ 2 ≤ k)) → ¬ zC a k := fun a k x y z => by
    unfold zC at z
    rcases z with z | z | z | z | z | z | z
    · exact y (by omega)
    · exact y (by omega)
    · exact y (by omega)
    · exact y (by omega)
    · exact y (by omega)
    · exact y (by omega)
    · exact x z
  have fA : ∀ a, ¬ nA a := fun _ => id
  have fR : ∀ a, a ≠ 23 → ¬ r23 a := fun a x y => x y
  refine ⟨⟨rel.MR h (fun a _ => fA a) (fR _ (by decide)) q1, h.hk.MV q2⟩, ⟨rel.CO h ⟨fA _, fA _, fA _, fA _, fA _⟩ (Or.inl (fR _ (by decide))) q3, rel.CL h ⟨fA _, fA _⟩ (fun k => ⟨nz _ _ (by unfold scr; omega) (by omega), nz _ _ (by unfold scr; omega) (by omega)⟩) q4⟩, ⟨rel.COf h (fun a _ => fA a) (fun a k x => nz _ _ (by unfold scr; omega) (by omega)) (fR _ (by decide)) (by omega) q5, rel.CDi h (fun a _ => fA a) (fun a k x => nz _ _ (by unfold scr; omega) (by omega)) (fun a x => fR _ (by omega)) (by omega) q6⟩, ⟨rel.CMk h (fun a _ => fA a) (fun a k x => nz _ _ (by unfold kpC at x; unfold scr; omega) (by unfold kpC at x; omega)) (fun a x => fR _ (by unfold kpC at x; omega)) (fun a _ => fA a) (fun a k x y => Or.inl (zC_hi x y)) (by omega) q7, rel.CWs h (fun a _ _ => fA a) (fun a x y => fR _ (by omega)) q8, rel.CWv h (fun a _ => fA a) (fun a k x => nz _ _ (by unfold scr; omega) (by omega)) q9, rel.CGs h (fun a _ _ => fA a) (fR _ (by decide)) q10⟩, ⟨rel.CT h (fun a _ => fA a) (fun a k x => nz _ _ (by unfold scr; omega) (by omega)) (fR _ (by decide)) q11, rel.CTr h ⟨fA _, fA _⟩ ⟨fA _, fA _⟩ q12, rel.FR h (fun a _ => fA a) (fun k x => nz _ _ (by unfold scr; omega) (by omega)) q13⟩, bk, rel.CB h (fun a _ => fA a) (fun a x => fR _ (by omega)) q14, rel.CBv h q14.1 (fun a _ => fA a) (fun a k x => nz _ _ (by have := q14.1; unfold scr; omega) (by have := q14.1; omega)) (by omega) q15⟩
