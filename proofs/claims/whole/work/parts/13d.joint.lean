def A_off (n a : Nat) : Prop := a = 60 + n
def W1_off (a k : Nat) : Prop := a = 1 ∧ k = 10
def W_off (a k : Nat) : Prop := (a = 1 ∧ k = 10) ∨ (1004 ≤ a ∧ a ≤ 1006) ∨ (a = 1000 ∧ (k = 0 ∨ k = 3))
def R_off (a : Nat) : Prop := a = 3
def A_die (n a : Nat) : Prop := a = 80 + n
def W1_die (a k : Nat) : Prop := a = 1 ∧ k = 11
def W_die (a k : Nat) : Prop := (a = 1 ∧ k = 11) ∨ (1008 ≤ a ∧ a ≤ 1012) ∨ (a = 1000 ∧ (k = 0 ∨ k = 7))
def R_die (a : Nat) : Prop := a = 4
set_option maxHeartbeats 1000000 in
theorem J_office {g g1 : GH} {r1 : AV} {t f e : Int} (hP : CPL g) (h1 : (fun r g' => (((0 ≤ t ∧ t ≤ 5) ∧ (0 ≤ f ∧ f ≤ 999) ∧ (f ≤ e ∧ e ≤ 999)) ∧ g.2.1 1000 3 ≠ 8 ∧ r = vI (g.2.1 1000 3) ∧ g' = gI (gR (gI (gI (gI (gN g (60 + (g.2.1 1000 3).toNat) (Sum.inl 6)) (60 + (g.2.1 1000 3).toNat) 0 t) (60 + (g.2.1 1000 3).toNat) 1 f) (60 + (g.2.1 1000 3).toNat) 2 e) 3 (g.2.1 1000 3).toNat (some (60 + (g.2.1 1000 3).toNat))) 1 10 (g.2.1 1000 3 + 1)) ∨ (((0 ≤ t ∧ t ≤ 5) ∧ (0 ≤ f ∧ f ≤ 999) ∧ (f ≤ e ∧ e ≤ 999)) ∧ g.2.1 1000 3 = 8 ∧ r = vI (-3) ∧ g = g') ∨ (¬ ((0 ≤ t ∧ t ≤ 5) ∧ (0 ≤ f ∧ f ≤ 999) ∧ (f ≤ e ∧ e ≤ 999)) ∧ r = vI (-1) ∧ g = g')) r1 g1) : (∃ z, r1 = vI z) ∧ (MR g1 ∧ MV g1.2.1) ∧ ∀ r2 g2, (fun r g' => (((0 ≤ t ∧ t ≤ 5) ∧ (0 ≤ f ∧ f ≤ 999) ∧ (f ≤ e ∧ e ≤ 999)) ∧ (gI g1 1000 0 0).2.1 1000 3 ≠ 8 ∧ r = vI ((gI g1 1000 0 0).2.1 1000 3) ∧ g' = gI (gI (gI (gI (gI g1 1000 0 0) 1004 ((gI g1 1000 0 0).2.1 1000 3).toNat t) 1005 ((gI g1 1000 0 0).2.1 1000 3).toNat f) 1006 ((gI g1 1000 0 0).2.1 1000 3).toNat e) 1000 3 ((gI g1 1000 0 0).2.1 1000 3 + 1)) ∨ (((0 ≤ t ∧ t ≤ 5) ∧ (0 ≤ f ∧ f ≤ 999) ∧ (f ≤ e ∧ e ≤ 999)) ∧ (gI g1 1000 0 0).2.1 1000 3 = 8 ∧ r = vI (-3) ∧ g' = gI g1 1000 0 0) ∨ (¬ ((0 ≤ t ∧ t ≤ 5) ∧ (0 ≤ f ∧ f ≤ 999) ∧ (f ≤ e ∧ e ≤ 999)) ∧ r = vI (-1) ∧ g' = gI g1 1000 0 0)) r2 g2 → r1 = r2 ∧ CPL g2 := by
  obtain ⟨⟨hM, hV⟩, ⟨hO, hl⟩, ⟨hof, hdi⟩, ⟨hC, hw, hv, hG⟩, ⟨hT, hTr, hF⟩, bk, hB, hBv⟩ := id hP
  have hcn := hV.1
  unfold MVc at hcn
  rcases h1 with ⟨a1, a4, a2, a3⟩ | ⟨a1, a4, a2, a3⟩ | ⟨a1, a2, a3⟩
  · obtain ⟨n, hn⟩ : ∃ n : Nat, (g.2.1 1000 3) = n := ⟨(g.2.1 1000 3).toNat, by omega⟩
    rw [hn, Int.toNat_natCast] at a3
    have hr1 : rel (A_off n) W1_off R_off a0 g g1 := by
      rw [a3]
      exact ((((((rel.rf.wN (show A_off n (60 + n) from rfl)).wI (Or.inr rfl)).wI (Or.inr rfl)).wI (Or.inr rfl)).wR (Or.inl (show R_off 3 from rfl))).wI (Or.inl (show W1_off 1 10 from ⟨rfl, rfl⟩)))
    have hA0 : ∀ a, 1000 ≤ a → ¬ A_off n a := by intro a x; unfold A_off; omega
    refine ⟨⟨_, a2⟩, (rlow hr1 (by intro a x; unfold A_off; omega) (by unfold R_off; omega) (by intro a k x y; unfold W1_off at y; unfold scr; omega) hP), fun r2 g2 h2 => ?_⟩
    have e3 : (gI g1 1000 0 0).2.1 1000 3 = g.2.1 1000 3 := (rel.i0 hr1 (by unfold A_off; omega) (by unfold W1_off; omega)).trans (if_neg (by omega))
    rw [e3] at h2
    rcases h2 with ⟨b1, b4, b2, b3⟩ | ⟨b1, b4, b2, b3⟩ | ⟨b1, b2, b3⟩
    · refine ⟨a2.trans b2.symm, ?_⟩
      rw [hn, Int.toNat_natCast] at b3
      have hr : rel (A_off n) W_off R_off a0 g g2 := by
        rw [b3]
        exact ((((((hr1.mono (fun _ z => z) (by intro a k z; unfold W1_off at z; unfold W_off; omega) (fun _ z => z) (fun _ z => z)).wI (Or.inl (by unfold W_off; omega))).wI (Or.inl (by unfold W_off; omega))).wI (Or.inl (by unfold W_off; omega))).wI (Or.inl (by unfold W_off; omega))).wI (Or.inl (by unfold W_off; omega)))
      have eo : ∀ a k, ¬ A_off n a → ¬ W_off a k → g2.2.1 a k = g.2.1 a k := fun a k y x => hr.2.1 a k y x
      have eN : g2.2.1 1000 3 = (n : Int) + 1 := by rw [b3]; exact gI_s
      have lo : ∀ x i, x < 1000 → g2.2.1 x i = g1.2.1 x i := fun x i h1 => by
        rw [b3, gI_n (Or.inl (by omega)), gI_n (Or.inl (by omega)), gI_n (Or.inl (by omega)), gI_n (Or.inl (by omega)), gI_n (Or.inl (by omega))]
      have q4 : g2.2.1 1004 n = t := by rw [b3, gI_n (Or.inl (by decide)), gI_n (Or.inl (by decide)), gI_n (Or.inl (by decide))]; exact gI_s
      have q5 : g2.2.1 1005 n = f := by rw [b3, gI_n (Or.inl (by decide)), gI_n (Or.inl (by decide))]; exact gI_s
      have q6 : g2.2.1 1006 n = e := by rw [b3, gI_n (Or.inl (by decide))]; exact gI_s
      have ro : ∀ x i, 1004 ≤ x → x ≤ 1006 → i ≠ n → g2.2.1 x i = g.2.1 x i := fun x i h1 h2 h3 => by
        rw [b3, gI_n (Or.inl (by omega)), gI_n (Or.inr h3), gI_n (Or.inr h3), gI_n (Or.inr h3)]
        exact (gI_n (Or.inl (by omega))).trans (hr1.2.1 x i (by unfold A_off; omega) (by unfold W1_off; omega))
      have s2 : g2.1 = g1.1 := by rw [b3]; rfl
      have w2 : g2.2.2.2 = g1.2.2.2 := by rw [b3]; rfl
      have c10 : g2.2.1 1 10 = (n : Int) + 1 := by rw [lo 1 10 (by decide), a3]; exact gI_s
      have d0 : g2.2.1 (60 + n) 0 = t := by rw [lo _ 0 (by omega), a3]; exact (gI_n (Or.inl (by omega))).trans ((gI_n (Or.inr (by decide))).trans ((gI_n (Or.inr (by decide))).trans gI_s))
      have d1 : g2.2.1 (60 + n) 1 = f := by rw [lo _ 1 (by omega), a3]; exact (gI_n (Or.inl (by omega))).trans ((gI_n (Or.inr (by decide))).trans gI_s)
      have d2 : g2.2.1 (60 + n) 2 = e := by rw [lo _ 2 (by omega), a3]; exact (gI_n (Or.inl (by omega))).trans gI_s
      refine ⟨⟨rel.MR hr (by intro a x; unfold A_off; omega) (by unfold R_off; omega) hM, ?_, ?_, ?_, (MVm.k (fun a k x => hr.2.1 a k (by unfold A_off; omega) (by unfold W_off; (try unfold scr); omega)) hV.2.2.2.1), (MVs.k (fun a k x => hr.2.1 a k (by unfold A_off; omega) (by unfold W_off; (try unfold scr); omega)) hV.2.2.2.2.1), (MVr.k (fun a k x => hr.2.1 a k (by unfold A_off; omega) (by unfold W_off; (try unfold scr); omega)) hV.2.2.2.2.2.1), (MVl.k (fun a k x => hr.2.1 a k (by unfold A_off; omega) (by unfold W_off; (try unfold scr); omega)) hV.2.2.2.2.2.2.1), (MVt.k (fun a k x => hr.2.1 a k (by unfold A_off; omega) (by unfold W_off; (try unfold scr); omega)) hV.2.2.2.2.2.2.2.1), (MVu.k (by omega) (fun a k x => hr.2.1 a k (by unfold A_off; omega) (by unfold W_off; (try unfold scr); omega)) hV.2.2.2.2.2.2.2.2)⟩, ⟨rel.CO hr (by unfold A_off; omega) (Or.inl (by unfold R_off; omega)) hO, rel.CL hr (by unfold A_off; omega) (by intro k; unfold W_off; (try unfold scr); omega) hl⟩, ⟨?_, rel.CDi hr (by intro a x; unfold A_off; omega) (by intro a k x; unfold W_off; (try unfold scr); omega) (by intro a x; unfold R_off; omega) (by omega) hdi⟩, ⟨?_, rel.CWs hr (by intro a x y; unfold A_off; omega) (by intro a x y; unfold R_off; omega) hw, rel.CWv hr (by intro a x; unfold A_off; omega) (by intro a k x; unfold W_off; (try unfold scr); omega) hv, rel.CGs hr (by intro a x y; unfold A_off; omega) (by unfold R_off; omega) hG⟩, ⟨rel.CT hr (by intro a x; unfold A_off; omega) (by intro a k x; unfold W_off; (try unfold scr); omega) (by unfold R_off; omega) hT, rel.CTr hr (by unfold A_off; omega) (by unfold a0; omega) hTr, ?_⟩, bk, rel.CB hr (by intro a x; unfold A_off; omega) (by intro a x; unfold R_off; omega) hB, rel.CBv hr hB.1 (by intro a x; unfold A_off; omega) (by intro a k x; have := hB.1; unfold W_off; (try unfold scr); omega) (by omega) hBv⟩
      · unfold MVc
        rw [eo 1000 7 (by unfold A_off; omega) (by unfold W_off; omega), eo 1000 13 (by unfold A_off; omega) (by unfold W_off; omega), eo 1000 15 (by unfold A_off; omega) (by unfold W_off; omega), eo 1000 29 (by unfold A_off; omega) (by unfold W_off; omega), eo 1000 35 (by unfold A_off; omega) (by unfold W_off; omega), eN]; omega
      · intro i hi
        rw [eN] at hi
        by_cases x : i = n
        · subst x; rw [q4, q5, q6]; omega
        · rw [ro 1004 i (by omega) (by omega) x, ro 1005 i (by omega) (by omega) x, ro 1006 i (by omega) (by omega) x]; exact hV.2.1 i (by omega)
      · intro i hi
        rw [eo 1000 7 (by unfold A_off; omega) (by unfold W_off; omega)] at hi
        have q := hV.2.2.1 i hi
        rw [eN, eo 1008 i (by unfold A_off; omega) (by unfold W_off; omega), eo 1009 i (by unfold A_off; omega) (by unfold W_off; omega), eo 1010 i (by unfold A_off; omega) (by unfold W_off; omega), eo 1011 i (by unfold A_off; omega) (by unfold W_off; omega), eo 1012 i (by unfold A_off; omega) (by unfold W_off; omega)]
        exact ⟨by omega, q.2⟩
      · refine ⟨by rw [c10, eN], fun i hi => ?_⟩
        rw [eN] at hi
        by_cases x : i = n
        · subst x
          refine ⟨by rw [w2, a3]; exact gR_s, by rw [s2, a3]; exact u1_s, by rw [d0, q4], by rw [d1, q5], by rw [d2, q6]⟩
        · have q := hof.2 i (by omega)
          rw [w2, a3]
          refine ⟨(gR_n (Or.inr x)).trans ((gN_r (sh := Sum.inl 6) (by omega)).trans q.1), by rw [hr.1 _ (by unfold A_off; omega)]; exact q.2.1, ?_, ?_, ?_⟩
          · rw [eo (60 + i) 0 (by unfold A_off; omega) (by unfold W_off; omega), ro 1004 i (by omega) (by omega) x]; exact q.2.2.1
          · rw [eo (60 + i) 1 (by unfold A_off; omega) (by unfold W_off; omega), ro 1005 i (by omega) (by omega) x]; exact q.2.2.2.1
          · rw [eo (60 + i) 2 (by unfold A_off; omega) (by unfold W_off; omega), ro 1006 i (by omega) (by omega) x]; exact q.2.2.2.2
      · refine ⟨by rw [hr.1 5 (by unfold A_off; omega)]; exact hC.1, by rw [hr.2.2.1 5 0 (by unfold A_off; omega) (by unfold R_off; omega)]; exact hC.2.1, by rw [hr.1 6 (by unfold A_off; omega)]; exact hC.2.2.1, by rw [eo 5 1 (by unfold A_off; omega) (by unfold W_off; omega), eo 1000 13 (by unfold A_off; omega) (by unfold W_off; omega)]; exact hC.2.2.2.1, fun m hm => ?_⟩
        rw [eo 1000 13 (by unfold A_off; omega) (by unfold W_off; omega)] at hm
        have hf := canB_fine (h' := g2.2.1) hV hm (fun j _ => eo 1014 _ (by unfold A_off; omega) (by unfold W_off; omega)) (fun a i x y z => eo a i (by unfold A_off; omega) (by unfold W_off; omega)) (fun a i x y z => ro a i x y (by omega))
        exact ⟨by rw [hr.2.2.1 6 m (by unfold A_off; omega) (by unfold R_off; omega)]; exact hC.r hm, MK_keep (fun a x => hr.1 a (by unfold A_off; omega)) (fun a k x => hr.2.1 a k (by unfold A_off; omega) (by unfold W_off; omega)) (fun a k x => hr.2.2.1 a k (by unfold A_off; omega) (by unfold R_off; omega)) (hr.2.2.2 _ (by unfold A_off; omega) (by unfold a0; omega)) (fun j _ => eo 1014 _ (by unfold A_off; omega) (by unfold W_off; omega)) hf.1 hf.2 (hC.k hm)⟩
      · refine ⟨fun i x y => ?_, fun i x y => ?_, fun m x y => ?_⟩
        · rw [eN] at x; rw [hr.1 _ (by unfold A_off; omega)]; exact hF.1 i (by omega) y
        · rw [eo 1000 7 (by unfold A_off; omega) (by unfold W_off; omega)] at x; rw [hr.1 _ (by unfold A_off; omega)]; exact hF.2.1 i x y
        · rw [eo 1000 13 (by unfold A_off; omega) (by unfold W_off; omega)] at x
          rw [hr.1 (100 + m) (by unfold A_off; omega), hr.1 (200 + m) (by unfold A_off; omega), hr.1 (300 + m) (by unfold A_off; omega), hr.1 (400 + m) (by unfold A_off; omega), hr.1 (500 + m) (by unfold A_off; omega)]
          exact hF.2.2 m x y
    · exact absurd b4 a4
    · exact absurd a1 b1
  · have k1 : kp g g1 := by rw [← a3]; exact rel.rf
    have hk := k1.t0
    refine ⟨⟨_, a2⟩, (hP.kp k1).m, fun r2 g2 h2 => ?_⟩
    rw [hk.cnt (k := 3) (by omega)] at h2
    rcases h2 with ⟨b1, b4, b2, b3⟩ | ⟨b1, b4, b2, b3⟩ | ⟨b1, b2, b3⟩
    · exfalso; first | exact b4 a4 | omega
    · exact ⟨a2.trans b2.symm, cpl_k0 hP k1 b3⟩
    · exact absurd a1 b1
  · have k1 : kp g g1 := by rw [← a3]; exact rel.rf
    have hk := k1.t0
    refine ⟨⟨_, a2⟩, (hP.kp k1).m, fun r2 g2 h2 => ?_⟩
    rw [hk.cnt (k := 3) (by omega)] at h2
    rcases h2 with ⟨b1, b4, b2, b3⟩ | ⟨b1, b4, b2, b3⟩ | ⟨b1, b2, b3⟩
    · exact absurd b1 a1
    · exact absurd b1 a1
    · exact ⟨a2.trans b2.symm, cpl_k0 hP k1 b3⟩
set_option maxHeartbeats 1000000 in
theorem J_die {g g1 : GH} {r1 : AV} {f k a e n : Int} (hP : CPL g) (h1 : (fun r g' => (((0 ≤ f ∧ f < g.2.1 1000 3) ∧ (0 ≤ k ∧ k ≤ 15) ∧ (0 ≤ a ∧ a ≤ 999) ∧ (a ≤ e ∧ e ≤ 999) ∧ (n = -9 ∨ (0 ≤ n ∧ n ≤ 999))) ∧ g.2.1 1000 7 ≠ 12 ∧ r = vI (g.2.1 1000 7) ∧ g' = gI (gR (gI (gI (gI (gI (gR (gN g (80 + (g.2.1 1000 7).toNat) (Sum.inl 2)) (80 + (g.2.1 1000 7).toNat) 0 (some (60 + f.toNat))) (80 + (g.2.1 1000 7).toNat) 1 k) (80 + (g.2.1 1000 7).toNat) 2 a) (80 + (g.2.1 1000 7).toNat) 3 e) (80 + (g.2.1 1000 7).toNat) 4 n) 4 (g.2.1 1000 7).toNat (some (80 + (g.2.1 1000 7).toNat))) 1 11 (g.2.1 1000 7 + 1)) ∨ (((0 ≤ f ∧ f < g.2.1 1000 3) ∧ (0 ≤ k ∧ k ≤ 15) ∧ (0 ≤ a ∧ a ≤ 999) ∧ (a ≤ e ∧ e ≤ 999) ∧ (n = -9 ∨ (0 ≤ n ∧ n ≤ 999))) ∧ g.2.1 1000 7 = 12 ∧ r = vI (-3) ∧ g = g') ∨ (¬ ((0 ≤ f ∧ f < g.2.1 1000 3) ∧ (0 ≤ k ∧ k ≤ 15) ∧ (0 ≤ a ∧ a ≤ 999) ∧ (a ≤ e ∧ e ≤ 999) ∧ (n = -9 ∨ (0 ≤ n ∧ n ≤ 999))) ∧ r = vI (-1) ∧ g = g')) r1 g1) : (∃ z, r1 = vI z) ∧ (MR g1 ∧ MV g1.2.1) ∧ ∀ r2 g2, (fun r g' => (((0 ≤ f ∧ f < (gI g1 1000 0 0).2.1 1000 3) ∧ (0 ≤ k ∧ k ≤ 15) ∧ (0 ≤ a ∧ a ≤ 999) ∧ (a ≤ e ∧ e ≤ 999) ∧ (n = -9 ∨ (0 ≤ n ∧ n ≤ 999))) ∧ (gI g1 1000 0 0).2.1 1000 7 ≠ 12 ∧ r = vI ((gI g1 1000 0 0).2.1 1000 7) ∧ g' = gI (gI (gI (gI (gI (gI (gI g1 1000 0 0) 1008 ((gI g1 1000 0 0).2.1 1000 7).toNat f) 1009 ((gI g1 1000 0 0).2.1 1000 7).toNat k) 1010 ((gI g1 1000 0 0).2.1 1000 7).toNat a) 1011 ((gI g1 1000 0 0).2.1 1000 7).toNat e) 1012 ((gI g1 1000 0 0).2.1 1000 7).toNat n) 1000 7 ((gI g1 1000 0 0).2.1 1000 7 + 1)) ∨ (((0 ≤ f ∧ f < (gI g1 1000 0 0).2.1 1000 3) ∧ (0 ≤ k ∧ k ≤ 15) ∧ (0 ≤ a ∧ a ≤ 999) ∧ (a ≤ e ∧ e ≤ 999) ∧ (n = -9 ∨ (0 ≤ n ∧ n ≤ 999))) ∧ (gI g1 1000 0 0).2.1 1000 7 = 12 ∧ r = vI (-3) ∧ g' = gI g1 1000 0 0) ∨ (¬ ((0 ≤ f ∧ f < (gI g1 1000 0 0).2.1 1000 3) ∧ (0 ≤ k ∧ k ≤ 15) ∧ (0 ≤ a ∧ a ≤ 999) ∧ (a ≤ e ∧ e ≤ 999) ∧ (n = -9 ∨ (0 ≤ n ∧ n ≤ 999))) ∧ r = vI (-1) ∧ g' = gI g1 1000 0 0)) r2 g2 → r1 = r2 ∧ CPL g2 := by
  obtain ⟨⟨hM, hV⟩, ⟨hO, hl⟩, ⟨hof, hdi⟩, ⟨hC, hw, hv, hG⟩, ⟨hT, hTr, hF⟩, bk, hB, hBv⟩ := id hP
  have hcn := hV.1
  unfold MVc at hcn
  rcases h1 with ⟨a1, a4, a2, a3⟩ | ⟨a1, a4, a2, a3⟩ | ⟨a1, a2, a3⟩
  · obtain ⟨m, hn⟩ : ∃ m : Nat, (g.2.1 1000 7) = m := ⟨(g.2.1 1000 7).toNat, by omega⟩
    rw [hn, Int.toNat_natCast] at a3
    have hr1 : rel (A_die m) W1_die R_die a0 g g1 := by
      rw [a3]
      exact ((((((((rel.rf.wN (show A_die m (80 + m) from rfl)).wR (Or.inr rfl)).wI (Or.inr rfl)).wI (Or.inr rfl)).wI (Or.inr rfl)).wI (Or.inr rfl)).wR (Or.inl (show R_die 4 from rfl))).wI (Or.inl (show W1_die 1 11 from ⟨rfl, rfl⟩)))
    refine ⟨⟨_, a2⟩, (rlow hr1 (by intro a x; unfold A_die; omega) (by unfold R_die; omega) (by intro a k x y; unfold W1_die at y; unfold scr; omega) hP), fun r2 g2 h2 => ?_⟩
    have e3 : (gI g1 1000 0 0).2.1 1000 3 = g.2.1 1000 3 := (rel.i0 hr1 (by unfold A_die; omega) (by unfold W1_die; omega)).trans (if_neg (by omega))
    have e7 : (gI g1 1000 0 0).2.1 1000 7 = g.2.1 1000 7 := (rel.i0 hr1 (by unfold A_die; omega) (by unfold W1_die; omega)).trans (if_neg (by omega))
    rw [e3, e7] at h2
    rcases h2 with ⟨b1, b4, b2, b3⟩ | ⟨b1, b4, b2, b3⟩ | ⟨b1, b2, b3⟩
    · refine ⟨a2.trans b2.symm, ?_⟩
      rw [hn, Int.toNat_natCast] at b3
      have hr : rel (A_die m) W_die R_die a0 g g2 := by
        rw [b3]
        exact ((((((((hr1.mono (fun _ z => z) (by intro a k z; unfold W1_die at z; unfold W_die; omega) (fun _ z => z) (fun _ z => z)).wI (Or.inl (by unfold W_die; omega))).wI (Or.inl (by unfold W_die; omega))).wI (Or.inl (by unfold W_die; omega))).wI (Or.inl (by unfold W_die; omega))).wI (Or.inl (by unfold W_die; omega))).wI (Or.inl (by unfold W_die; omega))).wI (Or.inl (by unfold W_die; omega)))
      have eo : ∀ a k, ¬ A_die m a → ¬ W_die a k → g2.2.1 a k = g.2.1 a k := fun a k y x => hr.2.1 a k y x
      have eN : g2.2.1 1000 7 = (m : Int) + 1 := by rw [b3]; exact gI_s
      have lo : ∀ x i, x < 1000 → g2.2.1 x i = g1.2.1 x i := fun x i h1 => by
        rw [b3, gI_n (Or.inl (by omega)), gI_n (Or.inl (by omega)), gI_n (Or.inl (by omega)), gI_n (Or.inl (by omega)), gI_n (Or.inl (by omega)), gI_n (Or.inl (by omega)), gI_n (Or.inl (by omega))]
      have q8 : g2.2.1 1008 m = f := by rw [b3, gI_n (Or.inl (by decide)), gI_n (Or.inl (by decide)), gI_n (Or.inl (by decide)), gI_n (Or.inl (by decide)), gI_n (Or.inl (by decide))]; exact gI_s
      have q9 : g2.2.1 1009 m = k := by rw [b3, gI_n (Or.inl (by decide)), gI_n (Or.inl (by decide)), gI_n (Or.inl (by decide)), gI_n (Or.inl (by decide))]; exact gI_s
      have q10 : g2.2.1 1010 m = a := by rw [b3, gI_n (Or.inl (by decide)), gI_n (Or.inl (by decide)), gI_n (Or.inl (by decide))]; exact gI_s
      have q11 : g2.2.1 1011 m = e := by rw [b3, gI_n (Or.inl (by decide)), gI_n (Or.inl (by decide))]; exact gI_s
      have q12 : g2.2.1 1012 m = n := by rw [b3, gI_n (Or.inl (by decide))]; exact gI_s
      have ro : ∀ x i, 1008 ≤ x → x ≤ 1012 → i ≠ m → g2.2.1 x i = g.2.1 x i := fun x i h1 h2 h3 => by
        rw [b3, gI_n (Or.inl (by omega)), gI_n (Or.inr h3), gI_n (Or.inr h3), gI_n (Or.inr h3), gI_n (Or.inr h3), gI_n (Or.inr h3)]
        exact (gI_n (Or.inl (by omega))).trans (hr1.2.1 x i (by unfold A_die; omega) (by unfold W1_die; omega))
      have s2 : g2.1 = g1.1 := by rw [b3]; rfl
      have w2 : g2.2.2.2 = g1.2.2.2 := by rw [b3]; rfl
      have c11 : g2.2.1 1 11 = (m : Int) + 1 := by rw [lo 1 11 (by decide), a3]; exact gI_s
      have d1 : g2.2.1 (80 + m) 1 = k := by rw [lo _ 1 (by omega), a3]; exact (gI_n (Or.inl (by omega))).trans ((gI_n (Or.inr (by decide))).trans ((gI_n (Or.inr (by decide))).trans ((gI_n (Or.inr (by decide))).trans gI_s)))
      have d2 : g2.2.1 (80 + m) 2 = a := by rw [lo _ 2 (by omega), a3]; exact (gI_n (Or.inl (by omega))).trans ((gI_n (Or.inr (by decide))).trans ((gI_n (Or.inr (by decide))).trans gI_s))
      have d3 : g2.2.1 (80 + m) 3 = e := by rw [lo _ 3 (by omega), a3]; exact (gI_n (Or.inl (by omega))).trans ((gI_n (Or.inr (by decide))).trans gI_s)
      have d4 : g2.2.1 (80 + m) 4 = n := by rw [lo _ 4 (by omega), a3]; exact (gI_n (Or.inl (by omega))).trans gI_s
      refine ⟨⟨rel.MR hr (by intro a x; unfold A_die; omega) (by unfold R_die; omega) hM, ?_, (MVo.k (fun a k x => hr.2.1 a k (by unfold A_die; omega) (by unfold W_die; (try unfold scr); omega)) hV.2.1), ?_, ?_, (MVs.k (fun a k x => hr.2.1 a k (by unfold A_die; omega) (by unfold W_die; (try unfold scr); omega)) hV.2.2.2.2.1), (MVr.k (fun a k x => hr.2.1 a k (by unfold A_die; omega) (by unfold W_die; (try unfold scr); omega)) hV.2.2.2.2.2.1), (MVl.k (fun a k x => hr.2.1 a k (by unfold A_die; omega) (by unfold W_die; (try unfold scr); omega)) hV.2.2.2.2.2.2.1), (MVt.k (fun a k x => hr.2.1 a k (by unfold A_die; omega) (by unfold W_die; (try unfold scr); omega)) hV.2.2.2.2.2.2.2.1), (MVu.k (by omega) (fun a k x => hr.2.1 a k (by unfold A_die; omega) (by unfold W_die; (try unfold scr); omega)) hV.2.2.2.2.2.2.2.2)⟩, ⟨rel.CO hr (by unfold A_die; omega) (Or.inl (by unfold R_die; omega)) hO, rel.CL hr (by unfold A_die; omega) (by intro k; unfold W_die; (try unfold scr); omega) hl⟩, ⟨rel.COf hr (by intro a x; unfold A_die; omega) (by intro a k x; unfold W_die; (try unfold scr); omega) (by unfold R_die; omega) (by omega) hof, ?_⟩, ⟨?_, rel.CWs hr (by intro a x y; unfold A_die; omega) (by intro a x y; unfold R_die; omega) hw, rel.CWv hr (by intro a x; unfold A_die; omega) (by intro a k x; unfold W_die; (try unfold scr); omega) hv, rel.CGs hr (by intro a x y; unfold A_die; omega) (by unfold R_die; omega) hG⟩, ⟨rel.CT hr (by intro a x; unfold A_die; omega) (by intro a k x; unfold W_die; (try unfold scr); omega) (by unfold R_die; omega) hT, rel.CTr hr (by unfold A_die; omega) (by unfold a0; omega) hTr, ?_⟩, bk, rel.CB hr (by intro a x; unfold A_die; omega) (by intro a x; unfold R_die; omega) hB, rel.CBv hr hB.1 (by intro a x; unfold A_die; omega) (by intro a k x; have := hB.1; unfold W_die; (try unfold scr); omega) (by omega) hBv⟩
      · unfold MVc
        rw [eo 1000 3 (by unfold A_die; omega) (by unfold W_die; omega), eo 1000 13 (by unfold A_die; omega) (by unfold W_die; omega), eo 1000 15 (by unfold A_die; omega) (by unfold W_die; omega), eo 1000 29 (by unfold A_die; omega) (by unfold W_die; omega), eo 1000 35 (by unfold A_die; omega) (by unfold W_die; omega), eN]; omega
      · intro i hi
        rw [eN] at hi
        rw [eo 1000 3 (by unfold A_die; omega) (by unfold W_die; omega)]
        by_cases x : i = m
        · subst x; rw [q8, q9, q10, q11, q12]; exact ⟨a1.1, a1.2.1, ⟨a1.2.2.1.1, a1.2.2.2.1⟩, a1.2.2.2.2⟩
        · rw [ro 1008 i (by omega) (by omega) x, ro 1009 i (by omega) (by omega) x, ro 1010 i (by omega) (by omega) x, ro 1011 i (by omega) (by omega) x, ro 1012 i (by omega) (by omega) x]; exact hV.2.2.1 i (by omega)
      · intro i h0 hi
        rw [eo 1000 13 (by unfold A_die; omega) (by unfold W_die; omega)] at hi
        have e4 : ∀ k, g2.2.1 1014 k = g.2.1 1014 k := fun k => eo 1014 k (by unfold A_die; omega) (by unfold W_die; omega)
        simp only [e4, eN]
        have q := hV.2.2.2.1 i h0 hi
        exact ⟨q.1, q.2.1, q.2.2.1.imp id (fun z => ⟨z.1, by have := z.2; omega⟩), q.2.2.2⟩
      · refine ⟨by rw [c11, eN], fun i hi => ?_⟩
        rw [eN] at hi
        by_cases x : i = m
        · subst x
          refine ⟨by rw [w2, a3]; exact gR_s, by rw [s2, a3]; exact u1_s, ?_, by rw [d1, q9], by rw [d2, q10], by rw [d3, q11], by rw [d4, q12]⟩
          rw [w2, q8, a3]; exact (gR_n (Or.inl (by omega))).trans gR_s
        · have q := hdi.2 i (by omega)
          rw [w2, a3]
          refine ⟨(gR_n (Or.inr x)).trans ((gR_n (Or.inl (by omega))).trans ((gN_r (sh := Sum.inl 2) (by omega)).trans q.1)), by rw [hr.1 _ (by unfold A_die; omega)]; exact q.2.1, ?_, ?_, ?_, ?_, ?_⟩
          · rw [ro 1008 i (by omega) (by omega) x]; exact (gR_n (Or.inl (by omega))).trans ((gR_n (Or.inl (by omega))).trans ((gN_r (sh := Sum.inl 2) (by omega)).trans q.2.2.1))
          · rw [eo (80 + i) 1 (by unfold A_die; omega) (by unfold W_die; omega), ro 1009 i (by omega) (by omega) x]; exact q.2.2.2.1
          · rw [eo (80 + i) 2 (by unfold A_die; omega) (by unfold W_die; omega), ro 1010 i (by omega) (by omega) x]; exact q.2.2.2.2.1
          · rw [eo (80 + i) 3 (by unfold A_die; omega) (by unfold W_die; omega), ro 1011 i (by omega) (by omega) x]; exact q.2.2.2.2.2.1
          · rw [eo (80 + i) 4 (by unfold A_die; omega) (by unfold W_die; omega), ro 1012 i (by omega) (by omega) x]; exact q.2.2.2.2.2.2
      · refine ⟨by rw [hr.1 5 (by unfold A_die; omega)]; exact hC.1, by rw [hr.2.2.1 5 0 (by unfold A_die; omega) (by unfold R_die; omega)]; exact hC.2.1, by rw [hr.1 6 (by unfold A_die; omega)]; exact hC.2.2.1, by rw [eo 5 1 (by unfold A_die; omega) (by unfold W_die; omega), eo 1000 13 (by unfold A_die; omega) (by unfold W_die; omega)]; exact hC.2.2.2.1, fun m2 hm => ?_⟩
        rw [eo 1000 13 (by unfold A_die; omega) (by unfold W_die; omega)] at hm
        have hf := canB_fine (h' := g2.2.1) hV hm (fun j _ => eo 1014 _ (by unfold A_die; omega) (by unfold W_die; omega)) (fun a i x y z => ro a i x y (by omega)) (fun a i x y z => eo a i (by unfold A_die; omega) (by unfold W_die; omega))
        exact ⟨by rw [hr.2.2.1 6 m2 (by unfold A_die; omega) (by unfold R_die; omega)]; exact hC.r hm, MK_keep (fun a x => hr.1 a (by unfold A_die; omega)) (fun a k x => hr.2.1 a k (by unfold A_die; omega) (by unfold W_die; omega)) (fun a k x => hr.2.2.1 a k (by unfold A_die; omega) (by unfold R_die; omega)) (hr.2.2.2 _ (by unfold A_die; omega) (by unfold a0; omega)) (fun j _ => eo 1014 _ (by unfold A_die; omega) (by unfold W_die; omega)) hf.1 hf.2 (hC.k hm)⟩
      · refine ⟨fun i x y => ?_, fun i x y => ?_, fun m2 x y => ?_⟩
        · rw [eo 1000 3 (by unfold A_die; omega) (by unfold W_die; omega)] at x; rw [hr.1 _ (by unfold A_die; omega)]; exact hF.1 i x y
        · rw [eN] at x; rw [hr.1 _ (by unfold A_die; omega)]; exact hF.2.1 i (by omega) y
        · rw [eo 1000 13 (by unfold A_die; omega) (by unfold W_die; omega)] at x
          rw [hr.1 (100 + m2) (by unfold A_die; omega), hr.1 (200 + m2) (by unfold A_die; omega), hr.1 (300 + m2) (by unfold A_die; omega), hr.1 (400 + m2) (by unfold A_die; omega), hr.1 (500 + m2) (by unfold A_die; omega)]
          exact hF.2.2 m2 x y
    · exact absurd b4 a4
    · exact absurd a1 b1
  · have k1 : kp g g1 := by rw [← a3]; exact rel.rf
    have hk := k1.t0
    refine ⟨⟨_, a2⟩, (hP.kp k1).m, fun r2 g2 h2 => ?_⟩
    rw [hk.cnt (k := 3) (by omega), hk.cnt (k := 7) (by omega)] at h2
    rcases h2 with ⟨b1, b4, b2, b3⟩ | ⟨b1, b4, b2, b3⟩ | ⟨b1, b2, b3⟩
    · exfalso; first | exact b4 a4 | omega
    · exact ⟨a2.trans b2.symm, cpl_k0 hP k1 b3⟩
    · exact absurd a1 b1
  · have k1 : kp g g1 := by rw [← a3]; exact rel.rf
    have hk := k1.t0
    refine ⟨⟨_, a2⟩, (hP.kp k1).m, fun r2 g2 h2 => ?_⟩
    rw [hk.cnt (k := 3) (by omega), hk.cnt (k := 7) (by omega)] at h2
    rcases h2 with ⟨b1, b4, b2, b3⟩ | ⟨b1, b4, b2, b3⟩ | ⟨b1, b2, b3⟩
    · exact absurd b1 a1
    · exact absurd b1 a1
    · exact ⟨a2.trans b2.symm, cpl_k0 hP k1 b3⟩
