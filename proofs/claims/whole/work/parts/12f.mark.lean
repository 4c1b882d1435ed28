set_option maxHeartbeats 4000000 in
set_option maxRecDepth 100000 in
theorem c0_add (g : GH) {n : Int} {k : Nat} (h5 : g.1 5 = some (Sum.inl 0)) (h56 : g.2.2.2 5 0 = some 6) (h6 : g.1 6 = some (Sum.inr (.object RX5, 40))) (hn : g.2.1 5 1 = n) (hn4 : 0 ≤ n ∧ n < 40) (hk : g.1 k = some (Sum.inl 5)) : AMet mX0_add g [vA 5, vA k] (fun r g' => r = vI n ∧ g' = gI (gR g 6 n.toNat (some k)) 5 1 (n + 1)) := by
  refine AMet.of [vA 5, vA k] (by decide) rfl (Nat.le_of_ble_eq_true rfl) ?_
  refine a_aload_n 1 dX0_add_0 rfl rfl ?_
  refine a_getR 4 dX0_add_1 fX0_11 h5 rfl h56 rfl ?_
  refine a_aload_n 5 dX0_add_4 rfl rfl ?_
  refine a_getIz (n) 8 dX0_add_5 fX0_17 h5 rfl hn rfl ?_
  refine a_aload_n 9 dX0_add_8 rfl rfl ?_
  refine a_aast (ci := 5) 10 dX0_add_9 h6 hk (by omega) (by omega) rfl ?_
  refine a_aload_n 11 dX0_add_10 rfl rfl ?_
  refine a_dup 12 dX0_add_11 (by intro w h; cases h) rfl ?_
  refine a_getIz (n) 15 dX0_add_12 fX0_17 h5 rfl hn rfl ?_
  refine a_dup_x1 16 dX0_add_15 (by intro w h; cases h) (by intro w h; cases h) rfl ?_
  refine a_iconst (z := 1) 17 dX0_add_16 rfl (zrl rfl) rfl ?_
  refine a_iadd 18 dX0_add_17 (by unfold zr; omega) rfl ?_
  refine a_putI 21 dX0_add_18 fX0_17 (Or.inl rfl) h5 (Or.inl rfl) rfl ?_
  refine a_ireturn dX0_add_21 rfl ⟨Nat.zero_le _, Nat.zero_le _⟩ ?_
  exact ⟨rfl, rfl⟩
/-- the cells of the mark m -/
def mA (m a : Nat) : Prop := a = 100 + m ∨ a = 200 + m ∨ a = 300 + m ∨ a = 400 + m ∨ a = 500 + m
def nW (_ _ : Nat) : Prop := False
def w51 (a k : Nat) : Prop := a = 5 ∧ k = 1
def r6 (a : Nat) : Prop := a = 6
abbrev gMm (g : GH) (m : Nat) (c k l : Int) : GH := gM (gN g (100 + m) (Sum.inl 5)) (100 + m) (200 + m) (300 + m) (400 + m) c k l
theorem gM_rel {g : GH} {m : Nat} {c k l : Int} : rel (mA m) nW nA nA g (gMm g m c k l) := by
  have a1 : mA m (100 + m) := by unfold mA; omega
  have a2 : mA m (200 + m) := by unfold mA; omega
  have a3 : mA m (300 + m) := by unfold mA; omega
  have a4 : mA m (400 + m) := by unfold mA; omega
  have r0 : rel (mA m) nW nA nA g g := rel.rf
  have r1 := ((((r0.wN (sh := Sum.inl 5) a1).wN (sh := Sum.inl 1) a2).wN (sh := Sum.inr (.long, 16)) a3).wR (k := 0) (r := some (300 + m)) (Or.inr a2)).wR (k := 3) (r := some (200 + m)) (Or.inr a1)
  have r2 := ((((r1.wN (sh := Sum.inr (.int, 3)) a4).wR (k := 4) (r := some (400 + m)) (Or.inr a1)).wI (k := 6) (z := -9) (Or.inr a1)).wI (k := 7) (z := -9) (Or.inr a1)).wR (k := 8) (r := none) (Or.inr a1)
  exact (((((r2.wI (k := 10) (z := -9) (Or.inr a1)).wI (k := 11) (z := -9) (Or.inr a1)).wI (k := 0) (z := c) (Or.inr a1)).wI (k := 1) (z := k) (Or.inr a1)).wI (k := 2) (z := l) (Or.inr a1))
theorem gM_f {g : GH} {m : Nat} {c k l : Int} : ((gMm g m c k l).1 (100 + m) = some (Sum.inl 5) ∧ (gMm g m c k l).1 (200 + m) = some (Sum.inl 1) ∧ (gMm g m c k l).1 (300 + m) = some (Sum.inr (.long, 16)) ∧ (gMm g m c k l).1 (400 + m) = some (Sum.inr (.int, 3)) ∧ (gMm g m c k l).1 (500 + m) = g.1 (500 + m)) ∧ ((gMm g m c k l).2.2.2 (100 + m) 3 = some (200 + m) ∧ (gMm g m c k l).2.2.2 (200 + m) 0 = some (300 + m) ∧ (gMm g m c k l).2.2.2 (100 + m) 4 = some (400 + m)) ∧ ((gMm g m c k l).2.1 (100 + m) 0 = c ∧ (gMm g m c k l).2.1 (100 + m) 1 = k ∧ (gMm g m c k l).2.1 (100 + m) 2 = l) ∧ (gMm g m c k l).2.2.1 (300 + m) = fun _ => 0 := by
  have n1 : (100 + m = 200 + m) = False := by simp
  have n2 : (100 + m = 300 + m) = False := by simp
  have n3 : (100 + m = 400 + m) = False := by simp
  have n4 : (200 + m = 100 + m) = False := by simp
  have n5 : (200 + m = 300 + m) = False := by simp
  have n6 : (200 + m = 400 + m) = False := by simp
  have n7 : (300 + m = 100 + m) = False := by simp
  have n8 : (300 + m = 200 + m) = False := by simp
  have n9 : (300 + m = 400 + m) = False := by simp
  have n10 : (400 + m = 100 + m) = False := by simp
  have n11 : (400 + m = 200 + m) = False := by simp
  have n12 : (400 + m = 300 + m) = False := by simp
  have n13 : (500 + m = 100 + m) = False := by simp
  have n14 : (500 + m = 200 + m) = False := by simp
  have n15 : (500 + m = 300 + m) = False := by simp
  have n16 : (500 + m = 400 + m) = False := by simp
  refine ⟨⟨?_, ?_, ?_, ?_, ?_⟩, ⟨?_, ?_, ?_⟩, ⟨?_, ?_, ?_⟩, ?_⟩ <;> simp only [gMm, gM, gI, gR, gN, u1, u2, n1, n2, n3, n4, n5, n6, n7, n8, n9, n10, n11, n12, n13, n14, n15, n16, if_true, if_false, and_true, and_false, true_and, false_and, ite_true, ite_false] <;> rfl
theorem dB_0 : ∀ x, ¬ dB (fun _ => 0) x := by
  intro x q
  unfold dB at q
  have q2 : bt (tn (0 : Int64)) (x % 64).toNat := q
  rw [show tn (0 : Int64) = 0 by decide +kernel] at q2
  exact bt_0 q2
theorem gN_i {g : GH} {a a' k : Nat} {sh : Sh} (h : a' ≠ a) : (gN g a sh).2.1 a' k = g.2.1 a' k := by
  show u1 g.2.1 a _ a' k = _
  rw [u1_n h]
theorem gN_r {g : GH} {a a' k : Nat} {sh : Sh} (h : a' ≠ a) : (gN g a sh).2.2.2 a' k = g.2.2.2 a' k := by
  show u1 g.2.2.2 a _ a' k = _
  rw [u1_n h]
theorem gN_l {g : GH} {a a' : Nat} {sh : Sh} (h : a' ≠ a) : (gN g a sh).2.2.1 a' = g.2.2.1 a' := by
  show u1 g.2.2.1 a _ a' = _
  rw [u1_n h]
/-- the mark m has been made of the numbers c k e i n d s l -/
def NM (g g' : GH) (m : Nat) (c k e i n d s l : Int) : Prop :=
  (rel (mA m) w51 r6 nA g g' ∧ g'.2.1 5 1 = (m : Int) + 1 ∧ g'.2.2.2 6 m = some (100 + m) ∧ (∀ x, x ≠ m → g'.2.2.2 6 x = g.2.2.2 6 x) ∧ MKs g' m) ∧
  (g'.2.1 (100 + m) 0 = c ∧ g'.2.1 (100 + m) 1 = k ∧ g'.2.1 (100 + m) 2 = l ∧ g'.2.1 (100 + m) 5 = d ∧ g'.2.1 (100 + m) 6 = s ∧ g'.2.1 (100 + m) 7 = e ∧ g'.2.1 (100 + m) 9 = i ∧ g'.2.1 (100 + m) 10 = n) ∧
  ((e = -9 ∧ g'.2.2.2 (100 + m) 8 = none) ∨ (e ≠ -9 ∧ g'.2.2.2 (100 + m) 8 = some (80 + e.toNat) ∧ g'.2.1 (100 + m) 11 = g.2.1 1004 (g.2.1 1008 e.toNat).toNat)) ∧
  ∃ L : Nat → Int64, g'.2.2.1 (300 + m) = L ∧ (∀ x : Int, 0 ≤ x → (dB L x ↔ x ≤ 999 ∧ fitD d x ∧ (e = -9 ∨ dieB g.2.1 e.toNat i n x))) ∧ g'.2.1 (100 + m) 12 = cnt (dB L) 1000 ∧ ∀ j : Nat, j < 3 → isMx (fun f : Nat => cnt (dfP L (j : Int) f) 1000) 10 (g'.2.1 (400 + m) j)
theorem gS_rel {g0 g : GH} {m : Nat} {d i n t : Int} {r : Option Nat} (h : rel (mA m) nW nA nA g0 g) : rel (mA m) nW nA nA g0 (gS g (100 + m) d r i n t) := by
  have a1 : mA m (100 + m) := by unfold mA; omega
  exact ((((h.wI (Or.inr a1)).wR (Or.inr a1)).wI (Or.inr a1)).wI (Or.inr a1)).wI (Or.inr a1)
/-- from the struck mark on -/
theorem NM_of {g g4 g5 g6 : GH} {m : Nat} {c k e i n d s l : Int} {r : Option Nat} {t : Int} {L : Nat → Int64} (hg4 : g4 = gS (gI (gI (gMm g m c k l) (100 + m) 5 d) (100 + m) 6 s) (100 + m) e r i n t) (hL : ∀ x : Int, 0 ≤ x → (dB L x ↔ x ≤ 999 ∧ fitD d x ∧ (e = -9 ∨ dieB g.2.1 e.toNat i n x)))
    (h5 : sameB (fun a _ => a = 500 + m ∨ a = 400 + m) (gD g4 (100 + m) (300 + m) (500 + m) L) g5) (hx : ∀ j : Nat, j < 3 → isMx (fun f : Nat => cnt (dfP L (j : Int) f) 1000) 10 (g5.2.1 (400 + m) j)) (h6 : g6 = gI (gR g5 6 m (some (100 + m))) 5 1 ((m : Int) + 1)) (hr : (e = -9 ∧ r = none) ∨ (e ≠ -9 ∧ r = some (80 + e.toNat) ∧ t = g.2.1 1004 (g.2.1 1008 e.toNat).toNat)) (hm : m < 40) : NM g g6 m c k e i n d s l := by
  have a1 : mA m (100 + m) := by unfold mA; omega
  have a3 : mA m (300 + m) := by unfold mA; omega
  have a4 : mA m (400 + m) := by unfold mA; omega
  have a5 : mA m (500 + m) := by unfold mA; omega
  have r4 : rel (mA m) nW nA nA g g4 := by rw [hg4]; exact gS_rel (((gM_rel (m := m)).wI (Or.inr a1)).wI (Or.inr a1))
  have rW : rel (mA m) nW nA nA g (gW g4 (300 + m) L) := ⟨r4.1, r4.2.1, r4.2.2.1, fun a x y => by
    refine Eq.trans ?_ (r4.2.2.2 a x y)
    show (if a = 300 + m then L else g4.2.2.1 a) = _
    rw [if_neg (fun z => x (by rw [z]; exact a3))]⟩
  have rD : rel (mA m) nW nA nA g (gD g4 (100 + m) (300 + m) (500 + m) L) := (rW.wI (Or.inr a1)).wN a5
  have r5 : rel (mA m) nW nA nA g g5 := ⟨fun a x => (congrFun h5.1 a).trans (rD.1 a x), fun a k x y => (h5.2.2 a k (fun z => by rcases z with z | z; exact x (by rw [z]; exact a5); exact x (by rw [z]; exact a4))).trans (rD.2.1 a k x y), fun a k x y => (congrFun (congrFun (congrArg Prod.snd h5.2.1) a) k).trans (rD.2.2.1 a k x y), fun a x y => (congrFun (congrArg Prod.fst h5.2.1) a).trans (rD.2.2.2 a x y)⟩
  have r6' : rel (mA m) w51 r6 nA g g6 := by
    rw [h6]
    have r5m : rel (mA m) w51 r6 nA g g5 := r5.mono (fun _ z => z) (fun _ _ z => z.elim) (fun _ z => z.elim) (fun _ z => z)
    exact (r5m.wR (Or.inl (show r6 6 from rfl))).wI (Or.inl (show w51 5 1 from ⟨rfl, rfl⟩))
  have f := gM_f (g := g) (m := m) (c := c) (k := k) (l := l)
  -- cells of g5 but the row at 400 + m
  have s4 : g4.1 = (gMm g m c k l).1 := by rw [hg4]; rfl
  have sD : ∀ a, a ≠ 500 + m → g5.1 a = (gMm g m c k l).1 a := fun a x => (congrFun h5.1 a).trans ((u1_n x).trans (congrFun s4 a))
  have i5 : ∀ k, k ≠ 12 → g5.2.1 (100 + m) k = g4.2.1 (100 + m) k := fun k x => by
    refine (h5.2.2 (100 + m) k (by omega)).trans ?_
    exact (gN_i (by omega)).trans (gI_n (Or.inr x))
  have i6 : ∀ k, g6.2.1 (100 + m) k = g5.2.1 (100 + m) k := fun k => by rw [h6]; exact gI_n (Or.inl (by omega))
  have j5 : ∀ a k, a ≠ 500 + m → g5.2.2.2 a k = g4.2.2.2 a k := fun a k x => by
    refine (congrFun (congrFun (congrArg Prod.snd h5.2.1) a) k).trans ?_
    exact gN_r x
  have j6 : ∀ a k, a ≠ 6 → g6.2.2.2 a k = g5.2.2.2 a k := fun a k x => by rw [h6]; exact u2_n (Or.inl x)
  have jM : ∀ a k, a ≠ 100 + m ∨ k ≠ 8 → g4.2.2.2 a k = (gMm g m c k l).2.2.2 a k ∨ True := fun _ _ _ => Or.inr trivial
  have q4 : ∀ a x, a ≠ 100 + m ∨ x ≠ 8 → g4.2.2.2 a x = (gMm g m c k l).2.2.2 a x := fun a x y => by rw [hg4]; exact u2_n y
  refine ⟨⟨r6', by rw [h6]; exact gI_s, by rw [h6]; exact u2_s, fun x y => by
      rw [h6]
      refine (u2_n (Or.inr y)).trans (r5.2.2.1 6 x (fun z => ?_) id)
      unfold mA at z; omega, ?_⟩, ?_, ?_, L, ?_, hL, ?_, fun j hj => ?_⟩
  · have s6 : g6.1 = g5.1 := by rw [h6]; rfl
    unfold MKs
    rw [s6, sD (100 + m) (by omega), sD (200 + m) (by omega), sD (300 + m) (by omega), sD (400 + m) (by omega), j6 _ 3 (by omega), j6 _ 0 (by omega), j6 _ 4 (by omega), j5 _ 3 (by omega), j5 _ 0 (by omega), j5 _ 4 (by omega), q4 _ 3 (by omega), q4 _ 0 (by omega), q4 _ 4 (by omega)]
    exact ⟨f.1.1, f.2.1.1, f.1.2.1, f.2.1.2.1, f.1.2.2.1, f.2.1.2.2, f.1.2.2.2.1⟩
  · have v : ∀ x, x ≠ 12 → g6.2.1 (100 + m) x = g4.2.1 (100 + m) x := fun x y => (i6 x).trans (i5 x y)
    have v4 : ∀ x, x ≠ 5 → x ≠ 6 → x ≠ 7 → x ≠ 9 → x ≠ 10 → x ≠ 11 → g4.2.1 (100 + m) x = (gMm g m c k l).2.1 (100 + m) x := fun x b1 b2 b3 b4 b5 b6 => by
      rw [hg4]
      exact (gI_n (Or.inr b6)).trans ((gI_n (Or.inr b5)).trans ((gI_n (Or.inr b4)).trans ((gI_n (Or.inr b3)).trans ((gI_n (Or.inr b2)).trans (gI_n (Or.inr b1))))))
    have ne : ∀ {g : GH} {x y : Nat} {z : Int}, x ≠ y → (gI g (100 + m) y z).2.1 (100 + m) x = g.2.1 (100 + m) x := fun q => gI_n (Or.inr q)
    refine ⟨?_, ?_, ?_, ?_, ?_, ?_, ?_, ?_⟩
    · rw [v 0 (by decide), v4 0 (by decide) (by decide) (by decide) (by decide) (by decide) (by decide)]; exact f.2.2.1.1
    · rw [v 1 (by decide), v4 1 (by decide) (by decide) (by decide) (by decide) (by decide) (by decide)]; exact f.2.2.1.2.1
    · rw [v 2 (by decide), v4 2 (by decide) (by decide) (by decide) (by decide) (by decide) (by decide)]; exact f.2.2.1.2.2
    · rw [v 5 (by decide), hg4]; exact (ne (by decide)).trans ((ne (by decide)).trans ((ne (by decide)).trans ((ne (by decide)).trans ((ne (by decide)).trans gI_s))))
    · rw [v 6 (by decide), hg4]; exact (ne (by decide)).trans ((ne (by decide)).trans ((ne (by decide)).trans ((ne (by decide)).trans gI_s)))
    · rw [v 7 (by decide), hg4]; exact (ne (by decide)).trans ((ne (by decide)).trans ((ne (by decide)).trans gI_s))
    · rw [v 9 (by decide), hg4]; exact (ne (by decide)).trans ((ne (by decide)).trans gI_s)
    · rw [v 10 (by decide), hg4]; exact (ne (by decide)).trans gI_s
  · have e8 : g6.2.2.2 (100 + m) 8 = r := by rw [j6 _ 8 (by omega), j5 _ 8 (by omega), hg4]; exact u2_s
    have e11 : g6.2.1 (100 + m) 11 = t := by rw [i6 11, i5 11 (by decide), hg4]; exact gI_s
    rcases hr with z | z
    · exact Or.inl ⟨z.1, e8.trans z.2⟩
    · exact Or.inr ⟨z.1, e8.trans z.2.1, e11.trans z.2.2⟩
  · have e : g6.2.2.1 (300 + m) = g5.2.2.1 (300 + m) := by rw [h6]; rfl
    rw [e]
    refine (congrFun (congrArg Prod.fst h5.2.1) (300 + m)).trans ?_
    exact (gN_l (by omega)).trans (if_pos rfl)
  · rw [i6 12]
    refine (h5.2.2 (100 + m) 12 (by omega)).trans ?_
    exact (gN_i (by omega)).trans gI_s
  · have e : g6.2.1 (400 + m) j = g5.2.1 (400 + m) j := by rw [h6]; exact gI_n (Or.inl (by omega))
    rw [e]; exact hx j hj
theorem bOf3 {d : Int} (h0 : 0 ≤ d) (h1 : d ≤ 16777215) : bOf d 0 = d / 65536 ∧ bOf d 1 = d / 256 % 256 ∧ bOf d 2 = d % 256 := by
  unfold bOf
  have e0 : ((2 : Int) ^ (8 * (2 - (0 : Int))).toNat) = 65536 := by decide
  have e1 : ((2 : Int) ^ (8 * (2 - (1 : Int))).toNat) = 256 := by decide
  have e2 : ((2 : Int) ^ (8 * (2 - (2 : Int))).toNat) = 1 := by decide
  rw [e0, e1, e2]; omega
theorem isD_eq {d : Int} : ((0 ≤ d ∧ d ≤ 16777215) ∧ ∀ i : Int, 0 ≤ i → i ≤ 2 → isF (bOf d i)) ↔ (0 ≤ d ∧ d ≤ 16777215) ∧ isF (d / 65536) ∧ isF (d / 256 % 256) ∧ isF (d % 256) := by
  constructor
  · intro ⟨a, b⟩
    obtain ⟨e0, e1, e2⟩ := bOf3 a.1 a.2
    exact ⟨a, e0 ▸ b 0 (by decide) (by decide), e1 ▸ b 1 (by decide) (by decide), e2 ▸ b 2 (by decide) (by decide)⟩
  · intro ⟨a, b, c, e⟩
    obtain ⟨e0, e1, e2⟩ := bOf3 a.1 a.2
    refine ⟨a, fun i h0 h2 => ?_⟩
    have h3 : i = 0 ∨ i = 1 ∨ i = 2 := by omega
    rcases h3 with rfl | rfl | rfl
    · rw [e0]; exact b
    · rw [e1]; exact c
    · rw [e2]; exact e
theorem dC_B {g : GH} {h : Nat → Nat → Int} {e : Nat} {i n x : Int} (hd : h (80 + e) 1 = g.2.1 1009 e ∧ h (80 + e) 2 = g.2.1 1010 e ∧ h (80 + e) 3 = g.2.1 1011 e ∧ h (80 + e) 4 = g.2.1 1012 e) (hf : h (60 + (g.2.1 1008 e).toNat) 1 = g.2.1 1005 (g.2.1 1008 e).toNat ∧ h (60 + (g.2.1 1008 e).toNat) 2 = g.2.1 1006 (g.2.1 1008 e).toNat) : dieC h (80 + e) (60 + (g.2.1 1008 e).toNat) i n x ↔ dieB g.2.1 e i n x := by
  unfold dieC dieB
  rw [hd.1, hd.2.1, hd.2.2.1, hd.2.2.2, hf.1, hf.2]
  constructor
  · intro ⟨⟨a, b⟩, c, d⟩; exact ⟨b, a, c, d⟩
  · intro ⟨b, a, c, d⟩; exact ⟨⟨a, b⟩, c, d⟩
theorem NM_r5 {g g4 g5 : GH} {m : Nat} {L : Nat → Int64} (r4 : rel (mA m) nW nA nA g g4) (h5 : sameB (fun a _ => a = 500 + m ∨ a = 400 + m) (gD g4 (100 + m) (300 + m) (500 + m) L) g5) : rel (mA m) nW nA nA g g5 := by
  have a1 : mA m (100 + m) := by unfold mA; omega
  have a3 : mA m (300 + m) := by unfold mA; omega
  have a4 : mA m (400 + m) := by unfold mA; omega
  have a5 : mA m (500 + m) := by unfold mA; omega
  have rW : rel (mA m) nW nA nA g (gW g4 (300 + m) L) := ⟨r4.1, r4.2.1, r4.2.2.1, fun a x y => by
    refine Eq.trans ?_ (r4.2.2.2 a x y)
    show (if a = 300 + m then L else g4.2.2.1 a) = _
    rw [if_neg (fun z => x (by rw [z]; exact a3))]⟩
  have rD : rel (mA m) nW nA nA g (gD g4 (100 + m) (300 + m) (500 + m) L) := (rW.wI (Or.inr a1)).wN a5
  exact ⟨fun a x => (congrFun h5.1 a).trans (rD.1 a x), fun a k x y => (h5.2.2 a k (fun z => by rcases z with z | z; exact x (by rw [z]; exact a5); exact x (by rw [z]; exact a4))).trans (rD.2.1 a k x y), fun a k x y => (congrFun (congrFun (congrArg Prod.snd h5.2.1) a) k).trans (rD.2.2.1 a k x y), fun a x y => (congrFun (congrArg Prod.fst h5.2.1) a).trans (rD.2.2.2 a x y)⟩
set_option maxHeartbeats 4000000 in
set_option maxRecDepth 100000 in
theorem c11_mark (g : GH) (c k e i n d s l : Int) (hP : CPL g) : AMet mX11_mark g [vA 1, vI c, vI k, vI e, vI i, vI n, vI d, vI s, vI l] (fun r g' => (((0 ≤ c ∧ c ≤ 7) ∧ (0 ≤ k ∧ k ≤ 5) ∧ (e = -9 ∨ (0 ≤ e ∧ e < g.2.1 1000 7)) ∧ (0 ≤ i ∧ i ≤ 3) ∧ (n = -9 ∨ (0 ≤ n ∧ n ≤ 1)) ∧ (0 ≤ d ∧ d ≤ 16777215) ∧ isF (d / 65536) ∧ isF (d / 256 % 256) ∧ isF (d % 256) ∧ (s = -9 ∨ (0 ≤ s ∧ s ≤ 999)) ∧ (0 ≤ l ∧ l ≤ 999)) ∧ g.2.1 1000 13 ≠ 40 ∧ r = vI (g.2.1 1000 13) ∧ NM g g' (g.2.1 1000 13).toNat c k e i n d s l) ∨ (((0 ≤ c ∧ c ≤ 7) ∧ (0 ≤ k ∧ k ≤ 5) ∧ (e = -9 ∨ (0 ≤ e ∧ e < g.2.1 1000 7)) ∧ (0 ≤ i ∧ i ≤ 3) ∧ (n = -9 ∨ (0 ≤ n ∧ n ≤ 1)) ∧ (0 ≤ d ∧ d ≤ 16777215) ∧ isF (d / 65536) ∧ isF (d / 256 % 256) ∧ isF (d % 256) ∧ (s = -9 ∨ (0 ≤ s ∧ s ≤ 999)) ∧ (0 ≤ l ∧ l ≤ 999)) ∧ g.2.1 1000 13 = 40 ∧ r = vI (-3) ∧ g = g') ∨ (¬ ((0 ≤ c ∧ c ≤ 7) ∧ (0 ≤ k ∧ k ≤ 5) ∧ (e = -9 ∨ (0 ≤ e ∧ e < g.2.1 1000 7)) ∧ (0 ≤ i ∧ i ≤ 3) ∧ (n = -9 ∨ (0 ≤ n ∧ n ≤ 1)) ∧ (0 ≤ d ∧ d ≤ 16777215) ∧ isF (d / 65536) ∧ isF (d / 256 % 256) ∧ isF (d % 256) ∧ (s = -9 ∨ (0 ≤ s ∧ s ≤ 999)) ∧ (0 ≤ l ∧ l ≤ 999)) ∧ r = vI (-1) ∧ g = g')) := by
  refine AMet.of [vA 1, vI c, vI k, vI e, vI i, vI n, vI d, vI s, vI l, none] (by decide) rfl (Nat.le_of_ble_eq_true rfl) ?_
  obtain ⟨⟨hM, hV⟩, ⟨hO, hl⟩, ⟨hof, hdi⟩, ⟨hC, hw, hv, hG⟩, ⟨hT, hTr, hF⟩, bk, hB, hBv⟩ := id hP
  have hcn := hV.1
  unfold MVc at hcn
  have hn : 0 ≤ g.2.1 1000 13 ∧ g.2.1 1000 13 ≤ 40 := hcn.2.2.1
  refine a_iload_n 1 dX11_mark_0 rfl rfl ?_
  refine a_callS 4 (c11_isCover _ _) cdX11_isCover lX11_97 dX11_mark_1 rfl rfl ⟨by decide, by decide, rfl, rfl⟩ ⟨Nat.zero_le _, Nat.zero_le _⟩ (Nat.le_of_ble_eq_true rfl) rfl ?_
  rintro _ _ - ⟨b1, rfl, rfl, h1⟩ -
  refine a_if_eq 24 7 dX11_mark_4 (by decide) rfl (fun c4 => ?_) (fun c4 => ?_)
  · skip
    refine a_iconst (z := (-1)) 25 dX11_mark_24 rfl (zrl rfl) rfl ?_
    refine a_ireturn dX11_mark_25 rfl ⟨Nat.zero_le _, Nat.zero_le _⟩ ?_
    refine Or.inr (Or.inr ⟨fun z => ?_, rfl, rfl⟩)
    have zd := isD_eq.mpr (show (0 ≤ d ∧ d ≤ 16777215) ∧ isF (d / 65536) ∧ isF (d / 256 % 256) ∧ isF (d % 256) from ⟨z.2.2.2.2.2.1, z.2.2.2.2.2.2.1, z.2.2.2.2.2.2.2.1, z.2.2.2.2.2.2.2.2.1⟩)
    first
    | exact isN h1 (by omega) z.1
    | exact isN h10 (by omega) z.2.1
    | exact isN h18 (by omega) z.2.2.2.2.2.2.2.2.2.2
  · skip
    refine a_iload_n 8 dX11_mark_7 rfl rfl ?_
    refine a_iconst (z := 0) 9 dX11_mark_8 rfl (zrl rfl) rfl ?_
    refine a_iconst (z := 5) 10 dX11_mark_9 rfl (zrl rfl) rfl ?_
    refine a_callS 13 (c11_within _ _ _ _) cdX11_within lX11_79 dX11_mark_10 rfl rfl ⟨by decide, by decide, rfl, rfl⟩ ⟨Nat.zero_le _, Nat.zero_le _⟩ (Nat.le_of_ble_eq_true rfl) rfl ?_
    rintro _ _ - ⟨b10, rfl, rfl, h10⟩ -
    refine a_if_eq 24 16 dX11_mark_13 (by decide) rfl (fun c13 => ?_) (fun c13 => ?_)
    · skip
      refine a_iconst (z := (-1)) 25 dX11_mark_24 rfl (zrl rfl) rfl ?_
      refine a_ireturn dX11_mark_25 rfl ⟨Nat.zero_le _, Nat.zero_le _⟩ ?_
      refine Or.inr (Or.inr ⟨fun z => ?_, rfl, rfl⟩)
      have zd := isD_eq.mpr (show (0 ≤ d ∧ d ≤ 16777215) ∧ isF (d / 65536) ∧ isF (d / 256 % 256) ∧ isF (d % 256) from ⟨z.2.2.2.2.2.1, z.2.2.2.2.2.2.1, z.2.2.2.2.2.2.2.1, z.2.2.2.2.2.2.2.2.1⟩)
      first
      | exact isN h1 (by omega) z.1
      | exact isN h10 (by omega) z.2.1
      | exact isN h18 (by omega) z.2.2.2.2.2.2.2.2.2.2
    · skip
      refine a_iload 18 dX11_mark_16 rfl rfl ?_
      refine a_callS 21 (c11_isDay _ _) cdX11_isDay lX11_100 dX11_mark_18 rfl rfl ⟨by decide, by decide, rfl, rfl⟩ ⟨Nat.zero_le _, Nat.zero_le _⟩ (Nat.le_of_ble_eq_true rfl) rfl ?_
      rintro _ _ - ⟨b18, rfl, rfl, h18⟩ -
      refine a_if_ne 26 24 dX11_mark_21 (by decide) rfl (fun c21 => ?_) (fun c21 => ?_)
      · skip
        refine AW.cut0 (J := 48) (P := e = -9 ∨ (0 ≤ e ∧ e < g.2.1 1000 7)) ?_ (fun J48 => ?_)
        · intro h48
          have hee := h48
          refine a_iload 50 dX11_mark_48 rfl rfl ?_
          refine a_iconst (z := 0) 51 dX11_mark_50 rfl (zrl rfl) rfl ?_
          refine a_iconst (z := 3) 52 dX11_mark_51 rfl (zrl rfl) rfl ?_
          refine a_callS 55 (c11_within _ _ _ _) cdX11_within lX11_79 dX11_mark_52 rfl rfl ⟨by decide, by decide, rfl, rfl⟩ ⟨Nat.zero_le _, Nat.zero_le _⟩ (Nat.le_of_ble_eq_true rfl) rfl ?_
          rintro _ _ - ⟨b52, rfl, rfl, h52⟩ -
          refine a_if_eq 75 58 dX11_mark_55 (by decide) rfl (fun c55 => ?_) (fun c55 => ?_)
          · skip
            refine a_iconst (z := (-1)) 76 dX11_mark_75 rfl (zrl rfl) rfl ?_
            refine a_ireturn dX11_mark_76 rfl ⟨Nat.zero_le _, Nat.zero_le _⟩ ?_
            refine Or.inr (Or.inr ⟨fun z => ?_, rfl, rfl⟩)
            have zd := isD_eq.mpr (show (0 ≤ d ∧ d ≤ 16777215) ∧ isF (d / 65536) ∧ isF (d / 256 % 256) ∧ isF (d % 256) from ⟨z.2.2.2.2.2.1, z.2.2.2.2.2.2.1, z.2.2.2.2.2.2.2.1, z.2.2.2.2.2.2.2.2.1⟩)
            first
            | exact isN h52 (by omega) z.2.2.2.1
            | (rcases z.2.2.2.2.1 with y | y
               · exact c62 y
               · exact isN h69 (by omega) y)
          · skip
            refine AW.cut0 (J := 77) (P := n = -9 ∨ (0 ≤ n ∧ n ≤ 1)) ?_ (fun J77 => ?_)
            · intro h77
              have hnn := h77
              refine a_iload 79 dX11_mark_77 rfl rfl ?_
              refine a_callS 82 (c11_isDate _ _) cdX11_isDate lX11_103 dX11_mark_79 rfl rfl ⟨by decide, by decide, rfl, rfl⟩ ⟨Nat.zero_le _, Nat.zero_le _⟩ (Nat.le_of_ble_eq_true rfl) rfl ?_
              rintro _ _ - ⟨b79, rfl, rfl, h79⟩ -
              refine a_if_eq 104 85 dX11_mark_82 (by decide) rfl (fun c82 => ?_) (fun c82 => ?_)
              · skip
                refine a_iconst (z := (-1)) 105 dX11_mark_104 rfl (zrl rfl) rfl ?_
                refine a_ireturn dX11_mark_105 rfl ⟨Nat.zero_le _, Nat.zero_le _⟩ ?_
                refine Or.inr (Or.inr ⟨fun z => ?_, rfl, rfl⟩)
                have zd := isD_eq.mpr (show (0 ≤ d ∧ d ≤ 16777215) ∧ isF (d / 65536) ∧ isF (d / 256 % 256) ∧ isF (d % 256) from ⟨z.2.2.2.2.2.1, z.2.2.2.2.2.2.1, z.2.2.2.2.2.2.2.1, z.2.2.2.2.2.2.2.2.1⟩)
                first
                | exact isN h79 (by omega) zd
                | (rcases z.2.2.2.2.2.2.2.2.2.1 with y | y
                   · exact c89 y
                   · exact isN h98 (by omega) y)
              · skip
                refine AW.cut0 (J := 106) (P := s = -9 ∨ (0 ≤ s ∧ s ≤ 999)) ?_ (fun J106 => ?_)
                · intro h106
                  have hss := h106
                  have hdt := isT h79 c82
                  have hdt2 := isD_eq.mp hdt
                  refine a_aload_n 107 dX11_mark_106 rfl rfl ?_
                  refine a_getR 110 dX11_mark_107 fX11_28 hO.1.1 rfl hO.1.2.2.2.2.1 rfl ?_
                  refine a_getIz (g.2.1 1000 13) 113 dX11_mark_110 fX11_106 hC.1 rfl hC.2.2.2.1 rfl ?_
                  refine a_bipush (z := 40) 115 dX11_mark_113 rfl (zrl rfl) rfl ?_
                  refine a_icmp_lt 121 118 dX11_mark_115 (by decide) rfl (fun c115 => ?_) (fun c115 => ?_)
                  · skip
                    obtain ⟨m, hm0⟩ : ∃ m : Nat, g.2.1 1000 13 = m := ⟨(g.2.1 1000 13).toNat, by omega⟩
                    have hm40 : m < 40 := by omega
                    have hfr := hF.2.2 m (by omega) hm40
                    refine a_new ((100 + m)) 124 dX11_mark_121 nX11_109 (by decide) hfr.1 (by omega) (by decide) (by decide) rfl ?_
                    skip
                    refine a_dup 125 dX11_mark_124 (by intro w h; cases h) rfl ?_
                    refine a_iload_n 126 dX11_mark_125 rfl rfl ?_
                    refine a_iload_n 127 dX11_mark_126 rfl rfl ?_
                    refine a_iload 129 dX11_mark_127 rfl rfl ?_
                    refine a_callIA 132 (c5_init _ _ _ _ (k := 100 + m) (s := 200 + m) (w := 300 + m) (q := 400 + m) u1_s ((u1_n (by omega)).trans hfr.2.1) ((u1_n (by omega)).trans hfr.2.2.1) ((u1_n (by omega)).trans hfr.2.2.2.1) (by omega) (by omega) (by omega) (by omega) (by omega) (by omega)) cdX5_init lX11_111 dX11_mark_129 rfl rfl ⟨by decide, by decide, by decide, by decide⟩ (Nat.le_of_ble_eq_true rfl) rfl ?_
                    rintro _ g2 - hg2 -
                    have r2 : rel (mA m) nW nA nA g g2 := by rw [hg2]; exact gM_rel
                    have fM := gM_f (g := g) (m := m) (c := c) (k := k) (l := l)
                    have r2K : g2.1 (100 + m) = some (Sum.inl 5) := by rw [hg2]; exact fM.1.1
                    refine a_astore 134 dX11_mark_132 (by decide) rfl rfl ?_
                    refine a_aload 136 dX11_mark_134 rfl rfl ?_
                    refine a_iload 138 dX11_mark_136 rfl rfl ?_
                    refine a_iload 140 dX11_mark_138 rfl rfl ?_
                    refine a_callV 143 (c5_write _ _ _ (k := 100 + m) r2K) cdX5_write lX11_112 dX11_mark_140 rfl r2K rfl ⟨by decide, by decide, rfl, rfl⟩ ⟨by decide, by decide⟩ (Nat.le_of_ble_eq_true rfl) rfl ?_
                    rintro _ g3 - hg3 -
                    have r3 : rel (mA m) nW nA nA g g3 := by rw [hg3]; exact (r2.wI (Or.inr (by unfold mA; omega))).wI (Or.inr (by unfold mA; omega))
                    have r3K : g3.1 (100 + m) = some (Sum.inl 5) := by rw [hg3]; exact r2K
                    refine a_aload 145 dX11_mark_143 rfl rfl ?_
                    refine a_iload_n 146 dX11_mark_145 rfl rfl ?_
                    refine a_iload_n 147 dX11_mark_146 rfl rfl ?_
                    refine a_bipush (z := (-9)) 149 dX11_mark_147 rfl (zrl rfl) rfl ?_
                    refine a_icmp_ne 156 152 dX11_mark_149 (by decide) rfl (fun c149 => ?_) (fun c149 => ?_)
                    · skip
                      have he7 : 0 ≤ e ∧ e < g.2.1 1000 7 := hee.resolve_left c149
                      have hdie := hdi.2 e.toNat (by omega)
                      have hvd := hV.2.2.1 e.toNat (by omega)
                      have hofi := hof.2 (g.2.1 1008 e.toNat).toNat (by omega)
                      refine a_aload_n 157 dX11_mark_156 rfl rfl ?_
                      refine a_getR 160 dX11_mark_157 fX11_21 ((r3.1 1 (by unfold mA; omega)).trans hO.1.1) rfl ((r3.2.2.1 1 2 (by unfold mA; omega) id).trans hO.1.2.2.2.1) rfl ?_
                      refine a_iload_n 161 dX11_mark_160 rfl rfl ?_
                      refine a_aald 162 dX11_mark_161 ((r3.1 4 (by unfold mA; omega)).trans hO.2.2.2.1) rfl (by omega) (by omega) ((r3.2.2.1 4 _ (by unfold mA; omega) id).trans hdie.1) rfl ?_
                      refine a_iload 164 dX11_mark_162 rfl rfl ?_
                      refine a_iload 166 dX11_mark_164 rfl rfl ?_
                      refine a_callV 169 (c5_strike1 _ _ _ _ (k := 100 + m) (e := 80 + e.toNat) (f := 60 + (g.2.1 1008 e.toNat).toNat) r3K ((r3.1 _ (by unfold mA; omega)).trans hdie.2.1) ((r3.2.2.1 _ _ (by unfold mA; omega) id).trans hdie.2.2.1) ((r3.1 _ (by unfold mA; omega)).trans hofi.2.1)) cdX5_strike lX11_116 dX11_mark_166 rfl r3K rfl ⟨by decide, by decide, rfl, rfl⟩ ⟨by decide, by decide⟩ (Nat.le_of_ble_eq_true rfl) rfl ?_
                      rintro _ g4 - hg4 -
                      have r4 : rel (mA m) nW nA nA g g4 := by rw [hg4]; exact gS_rel r3
                      have r4K : g4.1 (100 + m) = some (Sum.inl 5) := by rw [hg4]; exact r3K
                      have hg4' : g4 = gS (gI (gI (gMm g m c k l) (100 + m) 5 d) (100 + m) 6 s) (100 + m) e (some (80 + e.toNat)) i n (g3.2.1 (60 + (g.2.1 1008 e.toNat).toNat) 0) := by rw [hg4, hg3, hg2]
                      have s4 : g4.1 = (gMm g m c k l).1 := by rw [hg4']; rfl
                      have q4 : ∀ a x, a ≠ 100 + m ∨ x ≠ 8 → g4.2.2.2 a x = (gMm g m c k l).2.2.2 a x := fun a x y => by rw [hg4']; exact u2_n y
                      have l4 : g4.2.2.1 (300 + m) = fun _ => 0 := by rw [hg4']; exact fM.2.2.2
                      have v5 : g4.2.1 (100 + m) 5 = d := by rw [hg4']; exact (gI_n (Or.inr (by decide))).trans ((gI_n (Or.inr (by decide))).trans ((gI_n (Or.inr (by decide))).trans ((gI_n (Or.inr (by decide))).trans ((gI_n (Or.inr (by decide))).trans gI_s))))
                      have v9 : g4.2.1 (100 + m) 9 = i := by rw [hg4']; exact (gI_n (Or.inr (by decide))).trans ((gI_n (Or.inr (by decide))).trans gI_s)
                      have v10 : g4.2.1 (100 + m) 10 = n := by rw [hg4']; exact (gI_n (Or.inr (by decide))).trans gI_s
                      have v8 : g4.2.2.2 (100 + m) 8 = (some (80 + e.toNat)) := by rw [hg4']; exact u2_s
                      have h500 : g4.1 (500 + m) = none := by rw [s4]; exact fM.1.2.2.2.2.trans hfr.2.2.2.2
                      have hd4 : g4.2.1 (80 + e.toNat) 1 = g.2.1 1009 e.toNat ∧ g4.2.1 (80 + e.toNat) 2 = g.2.1 1010 e.toNat ∧ g4.2.1 (80 + e.toNat) 3 = g.2.1 1011 e.toNat ∧ g4.2.1 (80 + e.toNat) 4 = g.2.1 1012 e.toNat := ⟨(r4.2.1 _ _ (by unfold mA; omega) id).trans hdie.2.2.2.1, (r4.2.1 _ _ (by unfold mA; omega) id).trans hdie.2.2.2.2.1, (r4.2.1 _ _ (by unfold mA; omega) id).trans hdie.2.2.2.2.2.1, (r4.2.1 _ _ (by unfold mA; omega) id).trans hdie.2.2.2.2.2.2⟩
                      have hf4 : g4.2.1 (60 + (g.2.1 1008 e.toNat).toNat) 1 = g.2.1 1005 (g.2.1 1008 e.toNat).toNat ∧ g4.2.1 (60 + (g.2.1 1008 e.toNat).toNat) 2 = g.2.1 1006 (g.2.1 1008 e.toNat).toNat := ⟨(r4.2.1 _ _ (by unfold mA; omega) id).trans hofi.2.2.2.1, (r4.2.1 _ _ (by unfold mA; omega) id).trans hofi.2.2.2.2⟩
                      refine a_aload 171 dX11_mark_169 rfl rfl ?_
                      refine a_callVA 174 (c5_findDays _ (k := 100 + m) (s := 200 + m) (w := 300 + m) (n := 500 + m) (q := 400 + m) (fun x => dieC g4.2.1 (80 + e.toNat) (60 + (g.2.1 1008 e.toNat).toNat) (g4.2.1 (100 + m) 9) (g4.2.1 (100 + m) 10) x) r4K ((q4 _ 3 (by omega)).trans fM.2.1.1) (by rw [s4]; exact fM.1.2.1) ((q4 _ 0 (by omega)).trans fM.2.1.2.1) (by rw [s4]; exact fM.1.2.2.1) ((q4 _ 4 (by omega)).trans fM.2.1.2.2) (by rw [s4]; exact fM.1.2.2.2.1) h500 (by omega) (by rw [v5]; exact hdt.1.1) (by rw [l4]; exact dB_0) (fun L x _ _ => c5_fitsDie1 (gW g4 (300 + m) L) x (k := 100 + m) r4K (e := 80 + e.toNat) (f := 60 + (g.2.1 1008 e.toNat).toNat) ((r4.1 _ (by unfold mA; omega)).trans hdie.2.1) ((r4.2.2.1 _ _ (by unfold mA; omega) id).trans hdie.2.2.1) ((r4.1 _ (by unfold mA; omega)).trans hofi.2.1) v8 (by show 0 ≤ g4.2.1 (80 + e.toNat) 1; rw [hd4.1]; exact hvd.2.1.1) (by show 0 ≤ g4.2.1 (100 + m) 9 ∧ g4.2.1 (100 + m) 9 ≤ 3; rw [v9]; exact isT h52 c55))) cdX5_findDays lX11_120 dX11_mark_171 rfl r4K rfl ⟨by decide, by decide, by decide, by decide⟩ (Nat.le_of_ble_eq_true rfl) rfl ?_
                      rintro _ g5 - ⟨L, hLx, h5, hx⟩ -
                      have hL : ∀ x : Int, 0 ≤ x → (dB L x ↔ x ≤ 999 ∧ fitD d x ∧ (e = -9 ∨ dieB g.2.1 e.toNat i n x)) := fun x hx => by
                        rw [hLx x hx, v5, v9, v10, dC_B hd4 hf4]
                        exact ⟨fun z => ⟨z.1, z.2.1, Or.inr z.2.2⟩, fun z => ⟨z.1, z.2.1, z.2.2.resolve_left c149⟩⟩
                      have r5 : rel (mA m) nW nA nA g g5 := NM_r5 r4 h5
                      have r5K : g5.1 (100 + m) = some (Sum.inl 5) := (congrFun h5.1 _).trans ((u1_n (by omega)).trans r4K)
                      refine a_aload_n 175 dX11_mark_174 rfl rfl ?_
                      refine a_getR 178 dX11_mark_175 fX11_28 ((r5.1 1 (by unfold mA; omega)).trans hO.1.1) rfl ((r5.2.2.1 1 3 (by unfold mA; omega) id).trans hO.1.2.2.2.2.1) rfl ?_
                      refine a_aload 180 dX11_mark_178 rfl rfl ?_
                      refine a_callV 183 (c0_add _ (n := (m : Int)) (k := 100 + m) ((r5.1 5 (by unfold mA; omega)).trans hC.1) ((r5.2.2.1 5 0 (by unfold mA; omega) id).trans hC.2.1) ((r5.1 6 (by unfold mA; omega)).trans hC.2.2.1) ((r5.2.1 5 1 (by unfold mA; omega) id).trans (hC.2.2.2.1.trans hm0)) (by omega) r5K) cdX0_add lX11_123 dX11_mark_180 rfl ((r5.1 5 (by unfold mA; omega)).trans hC.1) rfl ⟨by decide, by decide, rfl, rfl⟩ ⟨by decide, by decide⟩ (Nat.le_of_ble_eq_true rfl) rfl ?_
                      rintro _ g6 - ⟨rfl, h6⟩ -
                      refine a_ireturn dX11_mark_183 rfl ⟨by decide, by decide⟩ ?_
                      refine Or.inl ⟨⟨isT h1 c4, isT h10 c13, hee, isT h52 c55, hnn, hdt2.1, hdt2.2.1, hdt2.2.2.1, hdt2.2.2.2, hss, isT h18 c21⟩, by omega, congrArg vI hm0.symm, ?_⟩
                      rw [hm0, Int.toNat_natCast]
                      exact NM_of hg4' hL h5 hx h6 (Or.inr ⟨c149, rfl, (r3.2.1 _ _ (by unfold mA; omega) id).trans hofi.2.2.1⟩) hm40
                    · skip
                      refine a_null 153 dX11_mark_152 rfl ?_
                      refine a_goto 162 dX11_mark_153 (by decide) ?_
                      refine a_iload 164 dX11_mark_162 rfl rfl ?_
                      refine a_iload 166 dX11_mark_164 rfl rfl ?_
                      refine a_callV 169 (c5_strike0 _ _ _ _ (k := 100 + m) r3K) cdX5_strike lX11_116 dX11_mark_166 rfl r3K rfl ⟨by decide, by decide, rfl, rfl⟩ ⟨by decide, by decide⟩ (Nat.le_of_ble_eq_true rfl) rfl ?_
                      rintro _ g4 - hg4 -
                      have r4 : rel (mA m) nW nA nA g g4 := by rw [hg4]; exact gS_rel r3
                      have r4K : g4.1 (100 + m) = some (Sum.inl 5) := by rw [hg4]; exact r3K
                      have hg4' : g4 = gS (gI (gI (gMm g m c k l) (100 + m) 5 d) (100 + m) 6 s) (100 + m) e none i n (-9) := by rw [hg4, hg3, hg2]
                      have s4 : g4.1 = (gMm g m c k l).1 := by rw [hg4']; rfl
                      have q4 : ∀ a x, a ≠ 100 + m ∨ x ≠ 8 → g4.2.2.2 a x = (gMm g m c k l).2.2.2 a x := fun a x y => by rw [hg4']; exact u2_n y
                      have l4 : g4.2.2.1 (300 + m) = fun _ => 0 := by rw [hg4']; exact fM.2.2.2
                      have v5 : g4.2.1 (100 + m) 5 = d := by rw [hg4']; exact (gI_n (Or.inr (by decide))).trans ((gI_n (Or.inr (by decide))).trans ((gI_n (Or.inr (by decide))).trans ((gI_n (Or.inr (by decide))).trans ((gI_n (Or.inr (by decide))).trans gI_s))))
                      have v9 : g4.2.1 (100 + m) 9 = i := by rw [hg4']; exact (gI_n (Or.inr (by decide))).trans ((gI_n (Or.inr (by decide))).trans gI_s)
                      have v10 : g4.2.1 (100 + m) 10 = n := by rw [hg4']; exact (gI_n (Or.inr (by decide))).trans gI_s
                      have v8 : g4.2.2.2 (100 + m) 8 = none := by rw [hg4']; exact u2_s
                      have h500 : g4.1 (500 + m) = none := by rw [s4]; exact fM.1.2.2.2.2.trans hfr.2.2.2.2
                      skip
                      refine a_aload 171 dX11_mark_169 rfl rfl ?_
                      refine a_callVA 174 (c5_findDays _ (k := 100 + m) (s := 200 + m) (w := 300 + m) (n := 500 + m) (q := 400 + m) (fun _ => True) r4K ((q4 _ 3 (by omega)).trans fM.2.1.1) (by rw [s4]; exact fM.1.2.1) ((q4 _ 0 (by omega)).trans fM.2.1.2.1) (by rw [s4]; exact fM.1.2.2.1) ((q4 _ 4 (by omega)).trans fM.2.1.2.2) (by rw [s4]; exact fM.1.2.2.2.1) h500 (by omega) (by rw [v5]; exact hdt.1.1) (by rw [l4]; exact dB_0) (fun L x _ _ => c5_fitsDie0 _ _ (k := 100 + m) r4K v8)) cdX5_findDays lX11_120 dX11_mark_171 rfl r4K rfl ⟨by decide, by decide, by decide, by decide⟩ (Nat.le_of_ble_eq_true rfl) rfl ?_
                      rintro _ g5 - ⟨L, hLx, h5, hx⟩ -
                      have hL : ∀ x : Int, 0 ≤ x → (dB L x ↔ x ≤ 999 ∧ fitD d x ∧ (e = -9 ∨ dieB g.2.1 e.toNat i n x)) := fun x hx => by
                        rw [hLx x hx, v5]
                        exact ⟨fun z => ⟨z.1, z.2.1, Or.inl c149⟩, fun z => ⟨z.1, z.2.1, trivial⟩⟩
                      have r5 : rel (mA m) nW nA nA g g5 := NM_r5 r4 h5
                      have r5K : g5.1 (100 + m) = some (Sum.inl 5) := (congrFun h5.1 _).trans ((u1_n (by omega)).trans r4K)
                      refine a_aload_n 175 dX11_mark_174 rfl rfl ?_
                      refine a_getR 178 dX11_mark_175 fX11_28 ((r5.1 1 (by unfold mA; omega)).trans hO.1.1) rfl ((r5.2.2.1 1 3 (by unfold mA; omega) id).trans hO.1.2.2.2.2.1) rfl ?_
                      refine a_aload 180 dX11_mark_178 rfl rfl ?_
                      refine a_callV 183 (c0_add _ (n := (m : Int)) (k := 100 + m) ((r5.1 5 (by unfold mA; omega)).trans hC.1) ((r5.2.2.1 5 0 (by unfold mA; omega) id).trans hC.2.1) ((r5.1 6 (by unfold mA; omega)).trans hC.2.2.1) ((r5.2.1 5 1 (by unfold mA; omega) id).trans (hC.2.2.2.1.trans hm0)) (by omega) r5K) cdX0_add lX11_123 dX11_mark_180 rfl ((r5.1 5 (by unfold mA; omega)).trans hC.1) rfl ⟨by decide, by decide, rfl, rfl⟩ ⟨by decide, by decide⟩ (Nat.le_of_ble_eq_true rfl) rfl ?_
                      rintro _ g6 - ⟨rfl, h6⟩ -
                      refine a_ireturn dX11_mark_183 rfl ⟨by decide, by decide⟩ ?_
                      refine Or.inl ⟨⟨isT h1 c4, isT h10 c13, hee, isT h52 c55, hnn, hdt2.1, hdt2.2.1, hdt2.2.2.1, hdt2.2.2.2, hss, isT h18 c21⟩, by omega, congrArg vI hm0.symm, ?_⟩
                      rw [hm0, Int.toNat_natCast]
                      exact NM_of hg4' hL h5 hx h6 (Or.inl ⟨c149, rfl⟩) hm40
                  · skip
                    refine a_bipush (z := (-3)) 120 dX11_mark_118 rfl (zrl rfl) rfl ?_
                    refine a_ireturn dX11_mark_120 rfl ⟨Nat.zero_le _, Nat.zero_le _⟩ ?_
                    exact Or.inr (Or.inl ⟨⟨isT h1 c4, isT h10 c13, hee, isT h52 c55, hnn, hdt2.1, hdt2.2.1, hdt2.2.2.1, hdt2.2.2.2, hss, isT h18 c21⟩, by omega, rfl, rfl⟩)
                · skip
                  refine a_iload 87 dX11_mark_85 rfl rfl ?_
                  refine a_bipush (z := (-9)) 89 dX11_mark_87 rfl (zrl rfl) rfl ?_
                  refine a_icmp_eq 106 92 dX11_mark_89 (by decide) rfl (fun c89 => ?_) (fun c89 => ?_)
                  · skip
                    exact J106 (by first | exact Or.inl c89 | exact Or.inr (isT h98 c101))
                  · skip
                    refine a_iload 94 dX11_mark_92 rfl rfl ?_
                    refine a_iconst (z := 0) 95 dX11_mark_94 rfl (zrl rfl) rfl ?_
                    refine a_sipush (z := 999) 98 dX11_mark_95 rfl (zrl rfl) rfl ?_
                    refine a_callS 101 (c11_within _ _ _ _) cdX11_within lX11_79 dX11_mark_98 rfl rfl ⟨by decide, by decide, rfl, rfl⟩ ⟨Nat.zero_le _, Nat.zero_le _⟩ (Nat.le_of_ble_eq_true rfl) rfl ?_
                    rintro _ _ - ⟨b98, rfl, rfl, h98⟩ -
                    refine a_if_ne 106 104 dX11_mark_101 (by decide) rfl (fun c101 => ?_) (fun c101 => ?_)
                    · skip
                      exact J106 (by first | exact Or.inl c89 | exact Or.inr (isT h98 c101))
                    · skip
                      refine a_iconst (z := (-1)) 105 dX11_mark_104 rfl (zrl rfl) rfl ?_
                      refine a_ireturn dX11_mark_105 rfl ⟨Nat.zero_le _, Nat.zero_le _⟩ ?_
                      refine Or.inr (Or.inr ⟨fun z => ?_, rfl, rfl⟩)
                      have zd := isD_eq.mpr (show (0 ≤ d ∧ d ≤ 16777215) ∧ isF (d / 65536) ∧ isF (d / 256 % 256) ∧ isF (d % 256) from ⟨z.2.2.2.2.2.1, z.2.2.2.2.2.2.1, z.2.2.2.2.2.2.2.1, z.2.2.2.2.2.2.2.2.1⟩)
                      first
                      | exact isN h79 (by omega) zd
                      | (rcases z.2.2.2.2.2.2.2.2.2.1 with y | y
                         · exact c89 y
                         · exact isN h98 (by omega) y)
            · skip
              refine a_iload 60 dX11_mark_58 rfl rfl ?_
              refine a_bipush (z := (-9)) 62 dX11_mark_60 rfl (zrl rfl) rfl ?_
              refine a_icmp_eq 77 65 dX11_mark_62 (by decide) rfl (fun c62 => ?_) (fun c62 => ?_)
              · skip
                exact J77 (by first | exact Or.inl c62 | exact Or.inr (isT h69 c72))
              · skip
                refine a_iload 67 dX11_mark_65 rfl rfl ?_
                refine a_iconst (z := 0) 68 dX11_mark_67 rfl (zrl rfl) rfl ?_
                refine a_iconst (z := 1) 69 dX11_mark_68 rfl (zrl rfl) rfl ?_
                refine a_callS 72 (c11_within _ _ _ _) cdX11_within lX11_79 dX11_mark_69 rfl rfl ⟨by decide, by decide, rfl, rfl⟩ ⟨Nat.zero_le _, Nat.zero_le _⟩ (Nat.le_of_ble_eq_true rfl) rfl ?_
                rintro _ _ - ⟨b69, rfl, rfl, h69⟩ -
                refine a_if_ne 77 75 dX11_mark_72 (by decide) rfl (fun c72 => ?_) (fun c72 => ?_)
                · skip
                  exact J77 (by first | exact Or.inl c62 | exact Or.inr (isT h69 c72))
                · skip
                  refine a_iconst (z := (-1)) 76 dX11_mark_75 rfl (zrl rfl) rfl ?_
                  refine a_ireturn dX11_mark_76 rfl ⟨Nat.zero_le _, Nat.zero_le _⟩ ?_
                  refine Or.inr (Or.inr ⟨fun z => ?_, rfl, rfl⟩)
                  have zd := isD_eq.mpr (show (0 ≤ d ∧ d ≤ 16777215) ∧ isF (d / 65536) ∧ isF (d / 256 % 256) ∧ isF (d % 256) from ⟨z.2.2.2.2.2.1, z.2.2.2.2.2.2.1, z.2.2.2.2.2.2.2.1, z.2.2.2.2.2.2.2.2.1⟩)
                  first
                  | exact isN h52 (by omega) z.2.2.2.1
                  | (rcases z.2.2.2.2.1 with y | y
                     · exact c62 y
                     · exact isN h69 (by omega) y)
        · skip
          refine a_iload_n 27 dX11_mark_26 rfl rfl ?_
          refine a_bipush (z := (-9)) 29 dX11_mark_27 rfl (zrl rfl) rfl ?_
          refine a_icmp_eq 48 32 dX11_mark_29 (by decide) rfl (fun c29 => ?_) (fun c29 => ?_)
          · skip
            exact J48 (by first | exact Or.inl c29 | exact Or.inr (by have := isT h40 c43; omega))
          · skip
            refine a_iload_n 33 dX11_mark_32 rfl rfl ?_
            refine a_iconst (z := 0) 34 dX11_mark_33 rfl (zrl rfl) rfl ?_
            refine a_aload_n 35 dX11_mark_34 rfl rfl ?_
            refine a_getIz (g.2.1 1000 7) 38 dX11_mark_35 fX11_76 hO.1.1 rfl hdi.1 rfl ?_
            refine a_iconst (z := 1) 39 dX11_mark_38 rfl (zrl rfl) rfl ?_
            refine a_isub 40 dX11_mark_39 (by unfold zr; omega) rfl ?_
            refine a_callS 43 (c11_within _ _ _ _) cdX11_within lX11_79 dX11_mark_40 rfl rfl ⟨by decide, by decide, rfl, rfl⟩ ⟨Nat.zero_le _, Nat.zero_le _⟩ (Nat.le_of_ble_eq_true rfl) rfl ?_
            rintro _ _ - ⟨b40, rfl, rfl, h40⟩ -
            refine a_if_ne 48 46 dX11_mark_43 (by decide) rfl (fun c43 => ?_) (fun c43 => ?_)
            · skip
              exact J48 (by first | exact Or.inl c29 | exact Or.inr (by have := isT h40 c43; omega))
            · skip
              refine a_iconst (z := (-1)) 47 dX11_mark_46 rfl (zrl rfl) rfl ?_
              refine a_ireturn dX11_mark_47 rfl ⟨Nat.zero_le _, Nat.zero_le _⟩ ?_
              refine Or.inr (Or.inr ⟨fun z => ?_, rfl, rfl⟩)
              have zd := isD_eq.mpr (show (0 ≤ d ∧ d ≤ 16777215) ∧ isF (d / 65536) ∧ isF (d / 256 % 256) ∧ isF (d % 256) from ⟨z.2.2.2.2.2.1, z.2.2.2.2.2.2.1, z.2.2.2.2.2.2.2.1, z.2.2.2.2.2.2.2.2.1⟩)
              first
              | (rcases z.2.2.1 with y | y
                 · exact c29 y
                 · exact isN h40 (by omega) (by omega))
      · skip
        refine a_iconst (z := (-1)) 25 dX11_mark_24 rfl (zrl rfl) rfl ?_
        refine a_ireturn dX11_mark_25 rfl ⟨Nat.zero_le _, Nat.zero_le _⟩ ?_
        refine Or.inr (Or.inr ⟨fun z => ?_, rfl, rfl⟩)
        have zd := isD_eq.mpr (show (0 ≤ d ∧ d ≤ 16777215) ∧ isF (d / 65536) ∧ isF (d / 256 % 256) ∧ isF (d % 256) from ⟨z.2.2.2.2.2.1, z.2.2.2.2.2.2.1, z.2.2.2.2.2.2.2.1, z.2.2.2.2.2.2.2.2.1⟩)
        first
        | exact isN h1 (by omega) z.1
        | exact isN h10 (by omega) z.2.1
        | exact isN h18 (by omega) z.2.2.2.2.2.2.2.2.2.2
