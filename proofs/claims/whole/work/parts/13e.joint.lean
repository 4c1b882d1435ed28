def W_mark (a k : Nat) : Prop := (a = 5 ∧ k = 1) ∨ a = 1014 ∨ (a = 1000 ∧ (k = 0 ∨ k = 13))
theorem figI_b {b : Int} (h : isF b) : (-1 ≤ figI b ∧ figI b ≤ 9) ∧ (figI b < 0 ↔ b = 63) ∧ ∀ x : Int, 0 ≤ x → ((figI b < 0 ∨ figI b = x) ↔ (b = 63 ∨ b - 48 = x)) := by
  unfold figI isF at *
  by_cases q : b = 63
  · rw [if_pos q]; exact ⟨by omega, ⟨fun _ => q, fun _ => by omega⟩, fun x hx => ⟨fun _ => Or.inl q, fun _ => Or.inl (by omega)⟩⟩
  · rw [if_neg q]; exact ⟨by omega, ⟨fun z => by omega, fun z => absurd z q⟩, fun x hx => ⟨fun z => by omega, fun z => by omega⟩⟩
/-- the row of the marks behind the new one -/
def rowM (h : Nat → Nat → Int) (m : Nat) (c k e i n d s l : Int) (h' : Nat → Nat → Int) : Prop :=
  (∀ x, (x < 10 * m ∨ 10 * m + 10 ≤ x) → h' 1014 x = h 1014 x) ∧ (h' 1014 (10 * m) = c ∧ h' 1014 (10 * m + 1) = k ∧ h' 1014 (10 * m + 2) = e ∧ h' 1014 (10 * m + 3) = i ∧ h' 1014 (10 * m + 4) = n) ∧ (h' 1014 (10 * m + 5) = figI (bOf d 0) ∧ h' 1014 (10 * m + 6) = figI (bOf d 1) ∧ h' 1014 (10 * m + 7) = figI (bOf d 2)) ∧ h' 1014 (10 * m + 8) = s ∧ h' 1014 (10 * m + 9) = l
theorem rowM_of {g0 : GH} {m : Nat} {c k e i n d s l z : Int} : rowM g0.2.1 m c k e i n d s l (gI (gI (gI (gI (gI (gI (gI (gI (gI (gI (gI g0 1014 (10 * m) c) 1014 (10 * m + 1) k) 1014 (10 * m + 2) e) 1014 (10 * m + 3) i) 1014 (10 * m + 4) n) 1014 (10 * m + 5) (figI (bOf d 0))) 1014 (10 * m + 6) (figI (bOf d 1))) 1014 (10 * m + 7) (figI (bOf d 2))) 1014 (10 * m + 8) s) 1014 (10 * m + 9) l) 1000 13 z).2.1 := by
  refine ⟨fun x hx => ?_, ⟨?_, ?_, ?_, ?_, ?_⟩, ⟨?_, ?_, ?_⟩, ?_, ?_⟩
  · rw [gI_n (Or.inl (by decide)), gI_n (Or.inr (by omega)), gI_n (Or.inr (by omega)), gI_n (Or.inr (by omega)), gI_n (Or.inr (by omega)), gI_n (Or.inr (by omega)), gI_n (Or.inr (by omega)), gI_n (Or.inr (by omega)), gI_n (Or.inr (by omega)), gI_n (Or.inr (by omega)), gI_n (Or.inr (by omega))]
  · rw [gI_n (Or.inl (by decide)), gI_n (Or.inr (by omega)), gI_n (Or.inr (by omega)), gI_n (Or.inr (by omega)), gI_n (Or.inr (by omega)), gI_n (Or.inr (by omega)), gI_n (Or.inr (by omega)), gI_n (Or.inr (by omega)), gI_n (Or.inr (by omega)), gI_n (Or.inr (by omega))]; exact gI_s
  · rw [gI_n (Or.inl (by decide)), gI_n (Or.inr (by omega)), gI_n (Or.inr (by omega)), gI_n (Or.inr (by omega)), gI_n (Or.inr (by omega)), gI_n (Or.inr (by omega)), gI_n (Or.inr (by omega)), gI_n (Or.inr (by omega)), gI_n (Or.inr (by omega))]; exact gI_s
  · rw [gI_n (Or.inl (by decide)), gI_n (Or.inr (by omega)), gI_n (Or.inr (by omega)), gI_n (Or.inr (by omega)), gI_n (Or.inr (by omega)), gI_n (Or.inr (by omega)), gI_n (Or.inr (by omega)), gI_n (Or.inr (by omega))]; exact gI_s
  · rw [gI_n (Or.inl (by decide)), gI_n (Or.inr (by omega)), gI_n (Or.inr (by omega)), gI_n (Or.inr (by omega)), gI_n (Or.inr (by omega)), gI_n (Or.inr (by omega)), gI_n (Or.inr (by omega))]; exact gI_s
  · rw [gI_n (Or.inl (by decide)), gI_n (Or.inr (by omega)), gI_n (Or.inr (by omega)), gI_n (Or.inr (by omega)), gI_n (Or.inr (by omega)), gI_n (Or.inr (by omega))]; exact gI_s
  · rw [gI_n (Or.inl (by decide)), gI_n (Or.inr (by omega)), gI_n (Or.inr (by omega)), gI_n (Or.inr (by omega)), gI_n (Or.inr (by omega))]; exact gI_s
  · rw [gI_n (Or.inl (by decide)), gI_n (Or.inr (by omega)), gI_n (Or.inr (by omega)), gI_n (Or.inr (by omega))]; exact gI_s
  · rw [gI_n (Or.inl (by decide)), gI_n (Or.inr (by omega)), gI_n (Or.inr (by omega))]; exact gI_s
  · rw [gI_n (Or.inl (by decide)), gI_n (Or.inr (by omega))]; exact gI_s
  · rw [gI_n (Or.inl (by decide))]; exact gI_s
/-- the new mark's days -/
theorem canB_new {h h' : Nat → Nat → Int} {m : Nat} {c k e i n d s l : Int} (hr : rowM h m c k e i n d s l h') (hf : ∀ j : Int, 0 ≤ j → j ≤ 2 → isF (bOf d j)) (hd : dieB h' = dieB h) {x : Int} (hx : 0 ≤ x) : canB h' m x ↔ fitD d x ∧ (e = -9 ∨ dieB h e.toNat i n x) := by
  obtain ⟨-, ⟨-, -, e2, e3, e4⟩, ⟨e5, e6, e7⟩, -, -⟩ := hr
  unfold canB datB
  rw [show (10 * (m : Int) + 5).toNat = 10 * m + 5 by omega, show (10 * (m : Int) + 6).toNat = 10 * m + 6 by omega, show (10 * (m : Int) + 7).toNat = 10 * m + 7 by omega, show (10 * (m : Int) + 2).toNat = 10 * m + 2 by omega, show (10 * (m : Int) + 3).toNat = 10 * m + 3 by omega, show (10 * (m : Int) + 4).toNat = 10 * m + 4 by omega, e2, e3, e4, e5, e6, e7, hd]
  rw [(figI_b (hf 0 (by decide) (by decide))).2.2 (x / 100) (by omega), (figI_b (hf 1 (by decide) (by decide))).2.2 (x / 10 % 10) (by omega), (figI_b (hf 2 (by decide) (by decide))).2.2 (x % 10) (by omega)]
  unfold fitD
  have f0 : figD 0 x = x / 100 := if_pos rfl
  have f1 : figD 1 x = x / 10 % 10 := (if_neg (by decide)).trans (if_pos rfl)
  have f2 : figD 2 x = x % 10 := (if_neg (by decide)).trans (if_neg (by decide))
  constructor
  · intro ⟨⟨a, b, c⟩, z⟩
    refine ⟨fun j h0 h2 => ?_, z⟩
    have h3 : j = 0 ∨ j = 1 ∨ j = 2 := by omega
    rcases h3 with rfl | rfl | rfl
    · rw [f0]; exact a
    · rw [f1]; exact b
    · rw [f2]; exact c
  · intro ⟨a, z⟩
    have a0 := a 0 (by decide) (by decide); have a1 := a 1 (by decide) (by decide); have a2 := a 2 (by decide) (by decide)
    rw [f0] at a0; rw [f1] at a1; rw [f2] at a2
    exact ⟨⟨a0, a1, a2⟩, z⟩
set_option maxHeartbeats 1000000 in
theorem J_mark {g g1 : GH} {r1 : AV} {c k e i n d s l : Int} (hP : CPL g) (h1 : (fun r g' => (((0 ≤ c ∧ c ≤ 7) ∧ (0 ≤ k ∧ k ≤ 5) ∧ (e = -9 ∨ (0 ≤ e ∧ e < g.2.1 1000 7)) ∧ (0 ≤ i ∧ i ≤ 3) ∧ (n = -9 ∨ (0 ≤ n ∧ n ≤ 1)) ∧ (0 ≤ d ∧ d ≤ 16777215) ∧ isF (d / 65536) ∧ isF (d / 256 % 256) ∧ isF (d % 256) ∧ (s = -9 ∨ (0 ≤ s ∧ s ≤ 999)) ∧ (0 ≤ l ∧ l ≤ 999)) ∧ g.2.1 1000 13 ≠ 40 ∧ r = vI (g.2.1 1000 13) ∧ NM g g' (g.2.1 1000 13).toNat c k e i n d s l) ∨ (((0 ≤ c ∧ c ≤ 7) ∧ (0 ≤ k ∧ k ≤ 5) ∧ (e = -9 ∨ (0 ≤ e ∧ e < g.2.1 1000 7)) ∧ (0 ≤ i ∧ i ≤ 3) ∧ (n = -9 ∨ (0 ≤ n ∧ n ≤ 1)) ∧ (0 ≤ d ∧ d ≤ 16777215) ∧ isF (d / 65536) ∧ isF (d / 256 % 256) ∧ isF (d % 256) ∧ (s = -9 ∨ (0 ≤ s ∧ s ≤ 999)) ∧ (0 ≤ l ∧ l ≤ 999)) ∧ g.2.1 1000 13 = 40 ∧ r = vI (-3) ∧ g = g') ∨ (¬ ((0 ≤ c ∧ c ≤ 7) ∧ (0 ≤ k ∧ k ≤ 5) ∧ (e = -9 ∨ (0 ≤ e ∧ e < g.2.1 1000 7)) ∧ (0 ≤ i ∧ i ≤ 3) ∧ (n = -9 ∨ (0 ≤ n ∧ n ≤ 1)) ∧ (0 ≤ d ∧ d ≤ 16777215) ∧ isF (d / 65536) ∧ isF (d / 256 % 256) ∧ isF (d % 256) ∧ (s = -9 ∨ (0 ≤ s ∧ s ≤ 999)) ∧ (0 ≤ l ∧ l ≤ 999)) ∧ r = vI (-1) ∧ g = g')) r1 g1) : (∃ z, r1 = vI z) ∧ (MR g1 ∧ MV g1.2.1) ∧ ∀ r2 g2, (fun r g' => (((0 ≤ c ∧ c ≤ 7) ∧ (0 ≤ k ∧ k ≤ 5) ∧ (e = -9 ∨ (0 ≤ e ∧ e < (gI g1 1000 0 0).2.1 1000 7)) ∧ (0 ≤ i ∧ i ≤ 3) ∧ (n = -9 ∨ (0 ≤ n ∧ n ≤ 1)) ∧ (0 ≤ d ∧ d ≤ 16777215) ∧ isF (d / 65536) ∧ isF (d / 256 % 256) ∧ isF (d % 256) ∧ (s = -9 ∨ (0 ≤ s ∧ s ≤ 999)) ∧ (0 ≤ l ∧ l ≤ 999)) ∧ (gI g1 1000 0 0).2.1 1000 13 ≠ 40 ∧ r = vI ((gI g1 1000 0 0).2.1 1000 13) ∧ g' = gI (gI (gI (gI (gI (gI (gI (gI (gI (gI (gI (gI g1 1000 0 0) 1014 (10 * (gI g1 1000 0 0).2.1 1000 13).toNat c) 1014 (10 * (gI g1 1000 0 0).2.1 1000 13 + 1).toNat k) 1014 (10 * (gI g1 1000 0 0).2.1 1000 13 + 2).toNat e) 1014 (10 * (gI g1 1000 0 0).2.1 1000 13 + 3).toNat i) 1014 (10 * (gI g1 1000 0 0).2.1 1000 13 + 4).toNat n) 1014 (10 * (gI g1 1000 0 0).2.1 1000 13 + 5 + (0)).toNat (figI (d / 2 ^ (16 - 8 * (0) : Int).toNat % 256))) 1014 (10 * (gI g1 1000 0 0).2.1 1000 13 + 5 + (0 + 1)).toNat (figI (d / 2 ^ (16 - 8 * (0 + 1) : Int).toNat % 256))) 1014 (10 * (gI g1 1000 0 0).2.1 1000 13 + 5 + (0 + 1 + 1)).toNat (figI (d / 2 ^ (16 - 8 * (0 + 1 + 1) : Int).toNat % 256))) 1014 (10 * (gI g1 1000 0 0).2.1 1000 13 + 8).toNat s) 1014 (10 * (gI g1 1000 0 0).2.1 1000 13 + 9).toNat l) 1000 13 ((gI g1 1000 0 0).2.1 1000 13 + 1)) ∨ (((0 ≤ c ∧ c ≤ 7) ∧ (0 ≤ k ∧ k ≤ 5) ∧ (e = -9 ∨ (0 ≤ e ∧ e < (gI g1 1000 0 0).2.1 1000 7)) ∧ (0 ≤ i ∧ i ≤ 3) ∧ (n = -9 ∨ (0 ≤ n ∧ n ≤ 1)) ∧ (0 ≤ d ∧ d ≤ 16777215) ∧ isF (d / 65536) ∧ isF (d / 256 % 256) ∧ isF (d % 256) ∧ (s = -9 ∨ (0 ≤ s ∧ s ≤ 999)) ∧ (0 ≤ l ∧ l ≤ 999)) ∧ (gI g1 1000 0 0).2.1 1000 13 = 40 ∧ r = vI (-3) ∧ g' = gI g1 1000 0 0) ∨ (¬ ((0 ≤ c ∧ c ≤ 7) ∧ (0 ≤ k ∧ k ≤ 5) ∧ (e = -9 ∨ (0 ≤ e ∧ e < (gI g1 1000 0 0).2.1 1000 7)) ∧ (0 ≤ i ∧ i ≤ 3) ∧ (n = -9 ∨ (0 ≤ n ∧ n ≤ 1)) ∧ (0 ≤ d ∧ d ≤ 16777215) ∧ isF (d / 65536) ∧ isF (d / 256 % 256) ∧ isF (d % 256) ∧ (s = -9 ∨ (0 ≤ s ∧ s ≤ 999)) ∧ (0 ≤ l ∧ l ≤ 999)) ∧ r = vI (-1) ∧ g' = gI g1 1000 0 0)) r2 g2 → r1 = r2 ∧ CPL g2 := by
  obtain ⟨⟨hM, hV⟩, ⟨hO, hl⟩, ⟨hof, hdi⟩, ⟨hC, hw, hv, hG⟩, ⟨hT, hTr, hF⟩, bk, hB, hBv⟩ := id hP
  have hcn := hV.1
  unfold MVc at hcn
  rcases h1 with ⟨a1, a4, a2, a3⟩ | ⟨a1, a4, a2, a3⟩ | ⟨a1, a2, a3⟩
  · obtain ⟨m, hn⟩ : ∃ m : Nat, (g.2.1 1000 13) = m := ⟨(g.2.1 1000 13).toNat, by omega⟩
    rw [hn, Int.toNat_natCast] at a3
    have hm40 : m < 40 := by omega
    obtain ⟨⟨hr0, c51, c6, c6o, ks⟩, ⟨v0, v1, v2, v5, v6, v7, v9, v10⟩, hdie, L, hL1, hL, h12, hmx⟩ := a3
    have hr1 : rel (mA m) w51 r6 a0 g g1 := hr0.mono (fun _ z => z) (fun _ _ z => z) (fun _ z => z) (fun _ z => z.elim)
    refine ⟨⟨_, a2⟩, (rlow hr1 (by intro a x; unfold mA; omega) (by unfold r6; omega) (by intro a k x y; unfold w51 at y; unfold scr; omega) hP), fun r2 g2 h2 => ?_⟩
    have e13 : (gI g1 1000 0 0).2.1 1000 13 = g.2.1 1000 13 := (rel.i0 hr1 (by unfold mA; omega) (by unfold w51; omega)).trans (if_neg (by omega))
    have e7 : (gI g1 1000 0 0).2.1 1000 7 = g.2.1 1000 7 := (rel.i0 hr1 (by unfold mA; omega) (by unfold w51; omega)).trans (if_neg (by omega))
    rw [e13, e7] at h2
    rcases h2 with ⟨b1, b4, b2, b3⟩ | ⟨b1, b4, b2, b3⟩ | ⟨b1, b2, b3⟩
    · refine ⟨a2.trans b2.symm, ?_⟩
      have z0 : d / 2 ^ (16 - 8 * 0 : Int).toNat % 256 = bOf d 0 := congrArg (fun e => d / 2 ^ e % 256) (by decide)
      have z1 : d / 2 ^ (16 - 8 * (0 + 1) : Int).toNat % 256 = bOf d 1 := congrArg (fun e => d / 2 ^ e % 256) (by decide)
      have z2 : d / 2 ^ (16 - 8 * (0 + 1 + 1) : Int).toNat % 256 = bOf d 2 := congrArg (fun e => d / 2 ^ e % 256) (by decide)
      rw [hn, z0, z1, z2, show (10 * (m : Int)).toNat = 10 * m by omega, show (10 * (m : Int) + 1).toNat = 10 * m + 1 by omega, show (10 * (m : Int) + 2).toNat = 10 * m + 2 by omega, show (10 * (m : Int) + 3).toNat = 10 * m + 3 by omega, show (10 * (m : Int) + 4).toNat = 10 * m + 4 by omega, show (10 * (m : Int) + 5 + 0).toNat = 10 * m + 5 by omega, show (10 * (m : Int) + 5 + (0 + 1)).toNat = 10 * m + 6 by omega, show (10 * (m : Int) + 5 + (0 + 1 + 1)).toNat = 10 * m + 7 by omega, show (10 * (m : Int) + 8).toNat = 10 * m + 8 by omega, show (10 * (m : Int) + 9).toNat = 10 * m + 9 by omega] at b3
      have hrow0 := rowM_of (g0 := gI g1 1000 0 0) (m := m) (c := c) (k := k) (e := e) (i := i) (n := n) (d := d) (s := s) (l := l) (z := (m : Int) + 1)
      rw [← b3] at hrow0
      have hrow : rowM g.2.1 m c k e i n d s l g2.2.1 := ⟨fun x hx => (hrow0.1 x hx).trans ((gI_n (Or.inl (by decide))).trans (hr1.2.1 1014 x (by unfold mA; omega) (by unfold w51; omega))), hrow0.2⟩
      have hr : rel (mA m) W_mark r6 a0 g g2 := by
        rw [b3]
        exact (((((((((((((hr1.mono (fun _ z => z) (by intro a k z; unfold w51 at z; unfold W_mark; omega) (fun _ z => z) (fun _ z => z)).wI (Or.inl (by unfold W_mark; omega))).wI (Or.inl (by unfold W_mark; omega))).wI (Or.inl (by unfold W_mark; omega))).wI (Or.inl (by unfold W_mark; omega))).wI (Or.inl (by unfold W_mark; omega))).wI (Or.inl (by unfold W_mark; omega))).wI (Or.inl (by unfold W_mark; omega))).wI (Or.inl (by unfold W_mark; omega))).wI (Or.inl (by unfold W_mark; omega))).wI (Or.inl (by unfold W_mark; omega))).wI (Or.inl (by unfold W_mark; omega))).wI (Or.inl (by unfold W_mark; omega)))
      have eo : ∀ a k, ¬ mA m a → ¬ W_mark a k → g2.2.1 a k = g.2.1 a k := fun a k y x => hr.2.1 a k y x
      have eN : g2.2.1 1000 13 = (m : Int) + 1 := by rw [b3]; exact gI_s
      have lo : ∀ x i, x < 1000 → g2.2.1 x i = g1.2.1 x i := fun x i h1 => by
        rw [b3]; simp only [gI_n (Or.inl (show x ≠ 1014 by omega)), gI_n (Or.inl (show x ≠ 1000 by omega))]
      have s2 : g2.1 = g1.1 := by rw [b3]; rfl
      have w2 : g2.2.2.2 = g1.2.2.2 := by rw [b3]; rfl
      have l2 : g2.2.2.1 = g1.2.2.1 := by rw [b3]; rfl
      have hisd := (isD_eq (d := d)).mpr ⟨a1.2.2.2.2.2.1, a1.2.2.2.2.2.2.1, a1.2.2.2.2.2.2.2.1, a1.2.2.2.2.2.2.2.2.1⟩
      have hdB : dieB g2.2.1 = dieB g.2.1 := by
        have f : ∀ a, 1004 ≤ a → a ≤ 1012 → g2.2.1 a = g.2.1 a := fun a x y => funext fun k => eo a k (by unfold mA; omega) (by unfold W_mark; omega)
        funext e' i' n' d'
        unfold dieB
        rw [f 1005 (by omega) (by omega), f 1006 (by omega) (by omega), f 1008 (by omega) (by omega), f 1009 (by omega) (by omega), f 1010 (by omega) (by omega), f 1011 (by omega) (by omega), f 1012 (by omega) (by omega)]
      have hcan : ∀ x : Int, 0 ≤ x → (canB g2.2.1 m x ↔ fitD d x ∧ (e = -9 ∨ dieB g.2.1 e.toNat i n x)) := fun x hx => canB_new hrow hisd.2 hdB hx
      have fb0 := figI_b (hisd.2 0 (by decide) (by decide))
      have fb1 := figI_b (hisd.2 1 (by decide) (by decide))
      have fb2 := figI_b (hisd.2 2 (by decide) (by decide))
      obtain ⟨ho, ⟨w0, w1, w2', w3, w4⟩, ⟨w5, w6, w7⟩, w8, w9⟩ := hrow
      refine ⟨⟨rel.MR hr (by intro a x; unfold mA; omega) (by unfold r6; omega) hM, ?_, (MVo.k (fun a k x => hr.2.1 a k (by unfold mA; omega) (by unfold W_mark; (try unfold scr); omega)) hV.2.1), (MVd.k (fun a k x => hr.2.1 a k (by unfold mA; omega) (by unfold W_mark; (try unfold scr); omega)) hV.2.2.1), ?_, (MVs.k (fun a k x => hr.2.1 a k (by unfold mA; omega) (by unfold W_mark; (try unfold scr); omega)) hV.2.2.2.2.1), (MVr.k (fun a k x => hr.2.1 a k (by unfold mA; omega) (by unfold W_mark; (try unfold scr); omega)) hV.2.2.2.2.2.1), (MVl.k (fun a k x => hr.2.1 a k (by unfold mA; omega) (by unfold W_mark; (try unfold scr); omega)) hV.2.2.2.2.2.2.1), (MVt.k (fun a k x => hr.2.1 a k (by unfold mA; omega) (by unfold W_mark; (try unfold scr); omega)) hV.2.2.2.2.2.2.2.1), (MVu.k (by omega) (fun a k x => hr.2.1 a k (by unfold mA; omega) (by unfold W_mark; (try unfold scr); omega)) hV.2.2.2.2.2.2.2.2)⟩, ⟨rel.CO hr (by unfold mA; omega) (Or.inl (by unfold r6; omega)) hO, rel.CL hr (by unfold mA; omega) (by intro k; unfold W_mark; (try unfold scr); omega) hl⟩, ⟨rel.COf hr (by intro a x; unfold mA; omega) (by intro a k x; unfold W_mark; (try unfold scr); omega) (by unfold r6; omega) (by omega) hof, rel.CDi hr (by intro a x; unfold mA; omega) (by intro a k x; unfold W_mark; (try unfold scr); omega) (by intro a x; unfold r6; omega) (by omega) hdi⟩, ⟨?_, rel.CWs hr (by intro a x y; unfold mA; omega) (by intro a x y; unfold r6; omega) hw, rel.CWv hr (by intro a x; unfold mA; omega) (by intro a k x; unfold W_mark; (try unfold scr); omega) hv, rel.CGs hr (by intro a x y; unfold mA; omega) (by unfold r6; omega) hG⟩, ⟨rel.CT hr (by intro a x; unfold mA; omega) (by intro a k x; unfold W_mark; (try unfold scr); omega) (by unfold r6; omega) hT, rel.CTr hr (by unfold mA; omega) (by unfold a0; omega) hTr, ?_⟩, bk, rel.CB hr (by intro a x; unfold mA; omega) (by intro a x; unfold r6; omega) hB, rel.CBv hr hB.1 (by intro a x; unfold mA; omega) (by intro a k x; have := hB.1; unfold W_mark; (try unfold scr); omega) (by omega) hBv⟩
      · unfold MVc
        rw [eo 1000 3 (by unfold mA; omega) (by unfold W_mark; omega), eo 1000 7 (by unfold mA; omega) (by unfold W_mark; omega), eo 1000 15 (by unfold mA; omega) (by unfold W_mark; omega), eo 1000 29 (by unfold mA; omega) (by unfold W_mark; omega), eo 1000 35 (by unfold mA; omega) (by unfold W_mark; omega), eN]; omega
      · intro x h0 hx
        rw [eN] at hx
        rw [eo 1000 7 (by unfold mA; omega) (by unfold W_mark; omega)]
        by_cases y : x = m
        · rw [y, show (10 * (m : Int)).toNat = 10 * m by omega, show (10 * (m : Int) + 1).toNat = 10 * m + 1 by omega, show (10 * (m : Int) + 2).toNat = 10 * m + 2 by omega, show (10 * (m : Int) + 3).toNat = 10 * m + 3 by omega, show (10 * (m : Int) + 4).toNat = 10 * m + 4 by omega, show (10 * (m : Int) + 5).toNat = 10 * m + 5 by omega, show (10 * (m : Int) + 6).toNat = 10 * m + 6 by omega, show (10 * (m : Int) + 7).toNat = 10 * m + 7 by omega, show (10 * (m : Int) + 8).toNat = 10 * m + 8 by omega, show (10 * (m : Int) + 9).toNat = 10 * m + 9 by omega, w0, w1, w2', w3, w4, w5, w6, w7, w8, w9]
          exact ⟨a1.1, a1.2.1, a1.2.2.1, a1.2.2.2.1, a1.2.2.2.2.1, fb0.1, fb1.1, fb2.1, a1.2.2.2.2.2.2.2.2.2.1, a1.2.2.2.2.2.2.2.2.2.2⟩
        · rw [ho (10 * x).toNat (by omega), ho (10 * x + 1).toNat (by omega), ho (10 * x + 2).toNat (by omega), ho (10 * x + 3).toNat (by omega), ho (10 * x + 4).toNat (by omega), ho (10 * x + 5).toNat (by omega), ho (10 * x + 6).toNat (by omega), ho (10 * x + 7).toNat (by omega), ho (10 * x + 8).toNat (by omega), ho (10 * x + 9).toNat (by omega)]
          exact hV.2.2.2.1 x h0 (by omega)
      · refine ⟨by rw [hr.1 5 (by unfold mA; omega)]; exact hC.1, by rw [hr.2.2.1 5 0 (by unfold mA; omega) (by unfold r6; omega)]; exact hC.2.1, by rw [hr.1 6 (by unfold mA; omega)]; exact hC.2.2.1, by rw [lo 5 1 (by decide), c51, eN], fun x hx => ?_⟩
        rw [eN] at hx
        by_cases y : x = m
        · subst y
          have k1 : ∀ j, g2.2.1 (100 + x) j = g1.2.1 (100 + x) j := fun j => lo _ j (by omega)
          refine ⟨by rw [w2]; exact c6, ?_, ?_, ?_, ?_, ?_, ?_⟩
          · unfold MKs at ks ⊢; rw [s2, w2]; exact ks
          · unfold MKv
            rw [k1, k1, k1, k1, k1, k1, k1, v0, v1, v2, v6, v7, v9, v10, w0, w1, w2', w3, w4, w8, w9]
            exact ⟨rfl, rfl, rfl, rfl, rfl, rfl, rfl⟩
          · intro t ht
            rw [l2, hL1, hL t ht, hcan t ht]
          · refine ⟨by rw [k1, v5]; exact hisd.1.1, fun j hj => ?_⟩
            rw [k1, v5]
            have h3 : j = 0 ∨ j = 1 ∨ j = 2 := by omega
            rcases h3 with rfl | rfl | rfl
            · rw [show 10 * x + 5 + 0 = 10 * x + 5 from rfl, w5]; exact fb0.2.1.symm
            · rw [show 10 * x + 5 + 1 = 10 * x + 6 from rfl, w6]; exact fb1.2.1.symm
            · rw [show 10 * x + 5 + 2 = 10 * x + 7 from rfl, w7]; exact fb2.2.1.symm
          · unfold MKr
            rw [w2', w2, k1]
            rcases hdie with q | q
            · exact ⟨by rw [if_pos q.1]; exact q.2, fun z => absurd q.1 z⟩
            · refine ⟨by rw [if_neg q.1]; exact q.2.1, fun _ => ?_⟩
              unfold twn
              rw [show (10 * (x : Int) + 2).toNat = 10 * x + 2 by omega, w2', eo 1008 _ (by unfold mA; omega) (by unfold W_mark; omega), eo 1004 _ (by unfold mA; omega) (by unfold W_mark; omega)]
              exact q.2.2
          · refine ⟨?_, fun j hj => ?_⟩
            · rw [k1, h12]
              exact cnt_cg 1000 (fun t ht => by rw [hL t (by omega), hcan t (by omega)]; exact ⟨fun z => z.2, fun z => ⟨by omega, z⟩⟩)
            · rw [lo _ j (by omega)]
              have q := hmx j hj
              have ef : (fun f : Nat => cnt (dfP L (j : Int) f) 1000) = (fun f : Nat => cnt (fun t => canB g2.2.1 x t ∧ figD j t = f) 1000) := by
                funext f
                exact cnt_cg 1000 (fun t ht => by
                  show dB L t ∧ _ ↔ _
                  rw [hL t (by omega), hcan t (by omega)]
                  exact ⟨fun z => ⟨z.1.2, z.2⟩, fun z => ⟨⟨by omega, z.1⟩, z.2⟩⟩)
              rw [ef] at q; exact q
        · have hxm : (x : Int) < g.2.1 1000 13 := by omega
          have hx2 : x < 40 := by omega
          have e14 : ∀ j, j < 10 → g2.2.1 1014 (10 * x + j) = g.2.1 1014 (10 * x + j) := fun j hj => ho _ (by omega)
          have hf := canB_fine (h' := g2.2.1) hV hxm e14 (fun a i x y z => eo a i (by unfold mA; omega) (by unfold W_mark; omega)) (fun a i x y z => eo a i (by unfold mA; omega) (by unfold W_mark; omega))
          refine ⟨by rw [w2, c6o x y]; exact hC.r hxm, MK_keep (fun a z => hr.1 a (by unfold mA; omega)) (fun a k z => hr.2.1 a k (by unfold mA; omega) (by unfold W_mark; omega)) (fun a k z => hr.2.2.1 a k (by unfold mA; omega) (by unfold r6; omega)) (hr.2.2.2 _ (by unfold mA; omega) (by unfold a0; omega)) e14 hf.1 hf.2 (hC.k hxm)⟩
      · refine ⟨fun i x y => ?_, fun i x y => ?_, fun m2 x y => ?_⟩
        · rw [eo 1000 3 (by unfold mA; omega) (by unfold W_mark; omega)] at x; rw [hr.1 _ (by unfold mA; omega)]; exact hF.1 i x y
        · rw [eo 1000 7 (by unfold mA; omega) (by unfold W_mark; omega)] at x; rw [hr.1 _ (by unfold mA; omega)]; exact hF.2.1 i x y
        · rw [eN] at x
          rw [hr.1 (100 + m2) (by unfold mA; omega), hr.1 (200 + m2) (by unfold mA; omega), hr.1 (300 + m2) (by unfold mA; omega), hr.1 (400 + m2) (by unfold mA; omega), hr.1 (500 + m2) (by unfold mA; omega)]
          exact hF.2.2 m2 (by omega) y
    · exact absurd b4 a4
    · exact absurd a1 b1
  · have k1 : kp g g1 := by rw [← a3]; exact rel.rf
    have hk := k1.t0
    refine ⟨⟨_, a2⟩, (hP.kp k1).m, fun r2 g2 h2 => ?_⟩
    rw [hk.cnt (k := 13) (by omega), hk.cnt (k := 7) (by omega)] at h2
    rcases h2 with ⟨b1, b4, b2, b3⟩ | ⟨b1, b4, b2, b3⟩ | ⟨b1, b2, b3⟩
    · exfalso; first | exact b4 a4 | omega
    · exact ⟨a2.trans b2.symm, cpl_k0 hP k1 b3⟩
    · exact absurd a1 b1
  · have k1 : kp g g1 := by rw [← a3]; exact rel.rf
    have hk := k1.t0
    refine ⟨⟨_, a2⟩, (hP.kp k1).m, fun r2 g2 h2 => ?_⟩
    rw [hk.cnt (k := 13) (by omega), hk.cnt (k := 7) (by omega)] at h2
    rcases h2 with ⟨b1, b4, b2, b3⟩ | ⟨b1, b4, b2, b3⟩ | ⟨b1, b2, b3⟩
    · exact absurd b1 a1
    · exact absurd b1 a1
    · exact ⟨a2.trans b2.symm, cpl_k0 hP k1 b3⟩
