def W_rf (sp a k : Nat) : Prop := (a = 26 ∧ 2 ≤ k) ∨ (a = sp ∧ k = 1) ∨ (sp + 2 ≤ a ∧ a ≤ sp + 13) ∨ scr a k
def W_rat (a k : Nat) : Prop := (a = 26 ∧ 1 ≤ k) ∨ (28 ≤ a ∧ a ≤ 55) ∨ (a = 1000 ∧ (k = 29 ∨ k = 35)) ∨ a = 1037 ∨ scr a k
def W1_rat (a k : Nat) : Prop := (a = 26 ∧ 1 ≤ k) ∨ (28 ≤ a ∧ a ≤ 55)
def R_rat (a : Nat) : Prop := a = 1
theorem tx_cg {h h' : Nat → Nat → Int} (e1 : h' 1000 29 = h 1000 29) (e2 : ∀ k, h' 1028 k = h 1028 k) : tx h' = tx h := by
  funext k; unfold tx; rw [e1, e2]
set_option maxHeartbeats 1000000 in
theorem J_rates {g g1 : GH} {r1 : AV} (hP : CPL g) (h1 : (fun r g' => ∃ bk g1 d, CB g bk ∧ sameB (xB (70 - bk)) g g1 ∧ rtE (tx g.2.1) (g.2.1 1000 33) d ∧ ((ftE (tx g.2.1) (g.2.1 1000 33) d < 0 ∧ r = vI d ∧ g1.2.1 (70 - bk) 1 = d ∧ (∀ i, i < d → ∀ j, j < 10 → g1.2.1 (70 - bk + 2 + i) j = vr (tx g.2.1) (rs (tx g.2.1) (g.2.1 1000 33) i) j) ∧ CBv g.2.1 bk ∧ g' = gI (gR (gR g1 1 9 (some bk)) 1 8 (some (70 - bk))) 26 1 0) ∨ (0 ≤ ftE (tx g.2.1) (g.2.1 1000 33) d ∧ r = vI (-10 - ftE (tx g.2.1) (g.2.1 1000 33) d) ∧ CBv g.2.1 bk ∧ g' = g1))) r1 g1) : (∃ z, r1 = vI z) ∧ (MR g1 ∧ MV g1.2.1) ∧ ∀ r2 g2, (fun r g' => ∃ d : Nat, rtE (tx (gI g1 1000 0 0).2.1) ((gI g1 1000 0 0).2.1 1000 33) d ∧ ((ftE (tx (gI g1 1000 0 0).2.1) ((gI g1 1000 0 0).2.1 1000 33) d < 0 ∧ r = vI (d : Int) ∧ sameB zX (gI g1 1000 0 0) g' ∧ g'.2.1 1000 35 = d ∧ g'.2.1 1000 29 = 0 ∧ (∀ i : Nat, i < d → ∀ j : Nat, j < 10 → g'.2.1 1037 (10 * i + j) = vr (tx (gI g1 1000 0 0).2.1) (rs (tx (gI g1 1000 0 0).2.1) ((gI g1 1000 0 0).2.1 1000 33) i) j) ∧ ∀ i : Nat, i < d → rlK (vr (tx (gI g1 1000 0 0).2.1) (rs (tx (gI g1 1000 0 0).2.1) ((gI g1 1000 0 0).2.1 1000 33) i))) ∨ (0 ≤ ftE (tx (gI g1 1000 0 0).2.1) ((gI g1 1000 0 0).2.1 1000 33) d ∧ r = vI (-10 - ftE (tx (gI g1 1000 0 0).2.1) ((gI g1 1000 0 0).2.1 1000 33) d) ∧ Keep (gI g1 1000 0 0) g'))) r2 g2 → r1 = r2 ∧ CPL g2 := by
  obtain ⟨⟨hM, hV⟩, ⟨hO, hl⟩, ⟨hof, hdi⟩, ⟨hC, hw, hv, hG⟩, ⟨hT, hTr, hF⟩, bk0, hB0, hBv0⟩ := id hP
  have hcn := hV.1
  unfold MVc at hcn
  obtain ⟨bk, gr, d, hB, s1, hd, h1⟩ := h1
  have hbk := hB.1
  rcases h1 with ⟨f0, a2, c1, c2, hBv, a3⟩ | ⟨f0, a2, hBv, a3⟩
  · have hr1 : rel a0 W1_rat R_rat a0 g g1 := by
      rw [a3]
      have r0 : rel a0 W1_rat R_rat a0 g gr := rel.of s1 (by intro a k z; unfold xB xT at z; unfold W1_rat; omega)
      exact ((r0.wR (Or.inl (show R_rat 1 from rfl))).wR (Or.inl (show R_rat 1 from rfl))).wI (Or.inl (by unfold W1_rat; omega))
    have L1 : ∀ a k, 1000 ≤ a → g1.2.1 a k = g.2.1 a k := fun a k x => hr1.2.1 a k (by unfold a0; omega) (by unfold W1_rat; omega)
    refine ⟨⟨_, a2⟩, (rlow hr1 (by intro a x; unfold a0; omega) (by unfold R_rat; omega) (by intro a k x y; unfold W1_rat at y; unfold scr; omega) hP), fun r2 g2 h2 => ?_⟩
    have eT : tx (gI g1 1000 0 0).2.1 = tx g.2.1 := tx_cg ((gI_n (Or.inr (by decide))).trans (L1 1000 29 (by decide))) (fun k => (gI_n (Or.inl (by decide))).trans (L1 1028 k (by decide)))
    have eU : (gI g1 1000 0 0).2.1 1000 33 = g.2.1 1000 33 := (gI_n (Or.inr (by decide))).trans (L1 1000 33 (by decide))
    obtain ⟨d', hd', h2⟩ := h2
    rw [eT, eU] at hd' h2
    have ed := hd.uniq hd'
    subst ed
    rcases h2 with ⟨f1, b2, s2, e35, e29, ec, ek⟩ | ⟨f1, b2, b3⟩
    · refine ⟨a2.trans b2.symm, ?_⟩
      have hr : rel a0 W_rat R_rat a0 g g2 := by
        have r1 : rel a0 W_rat R_rat a0 g (gI g1 1000 0 0) := (hr1.mono (fun _ z => z) (by intro a k z; unfold W1_rat at z; unfold W_rat; omega) (fun _ z => z) (fun _ z => z)).wI (Or.inl (by unfold W_rat scr; omega))
        exact r1.tr (rel.of s2 (by intro a k z; unfold zX at z; unfold W_rat; rcases z with z | z | z; exact Or.inr (Or.inr (Or.inr (Or.inr z))); omega; omega))
      have eo : ∀ a k, ¬ a0 a → ¬ W_rat a k → g2.2.1 a k = g.2.1 a k := fun a k y x => hr.2.1 a k y x
      have s2' : g2.2.2 = g1.2.2 := by rw [s2.2.1]; rfl
      have w2 : ∀ a k, g2.2.2.2 a k = g1.2.2.2 a k := fun a k => by rw [s2']
      have lo : ∀ x k, x < 1000 → g2.2.1 x k = g1.2.1 x k := fun x k hx => (s2.2.2 x k (by unfold zX scr; omega)).trans (gI_n (Or.inl (by omega)))
      have hd12 := hd.1
      have e26 : g2.2.1 26 1 = 0 := by rw [lo 26 1 (by decide), a3]; exact gI_s
      have er : ∀ k, k < 8 → g2.2.2.2 1 k = g.2.2.2 1 k := fun k hk => by
        rw [w2, a3]
        exact (gR_n (Or.inr (by omega))).trans ((gR_n (Or.inr (by omega))).trans (congrFun (congrFun (congrArg Prod.snd s1.2.1) 1) k))
      have lr : ∀ x k, 28 ≤ x → x ≤ 55 → g2.2.1 x k = gr.2.1 x k := fun x k h1 h2 => by rw [lo x k (by omega), a3]; exact gI_n (Or.inl (by omega))
      refine ⟨⟨rel.MR hr (by intro a x; unfold a0; omega) (by unfold R_rat; omega) hM, ?_, (MVo.k (fun a k x => hr.2.1 a k (by unfold a0; omega) (by unfold W_rat; (try unfold scr); omega)) hV.2.1), (MVd.k (fun a k x => hr.2.1 a k (by unfold a0; omega) (by unfold W_rat; (try unfold scr); omega)) hV.2.2.1), (MVm.k (fun a k x => hr.2.1 a k (by unfold a0; omega) (by unfold W_rat; (try unfold scr); omega)) hV.2.2.2.1), (MVs.k (fun a k x => hr.2.1 a k (by unfold a0; omega) (by unfold W_rat; (try unfold scr); omega)) hV.2.2.2.2.1), (MVr.k (fun a k x => hr.2.1 a k (by unfold a0; omega) (by unfold W_rat; (try unfold scr); omega)) hV.2.2.2.2.2.1), (MVl.k (fun a k x => hr.2.1 a k (by unfold a0; omega) (by unfold W_rat; (try unfold scr); omega)) hV.2.2.2.2.2.2.1), ?_, ?_⟩, ⟨rel.CO hr (by unfold a0; omega) (Or.inr er) hO, rel.CL hr (by unfold a0; omega) (by intro k; unfold W_rat; (try unfold scr); omega) hl⟩, ⟨rel.COf hr (by intro a x; unfold a0; omega) (by intro a k x; unfold W_rat; (try unfold scr); omega) (by unfold R_rat; omega) (by omega) hof, rel.CDi hr (by intro a x; unfold a0; omega) (by intro a k x; unfold W_rat; (try unfold scr); omega) (by intro a x; unfold R_rat; omega) (by omega) hdi⟩, ⟨rel.CMk hr (by intro a x; unfold kpC at x; unfold a0; omega) (by intro a k x; unfold kpC at x; unfold W_rat; (try unfold scr); omega) (by intro a x; unfold kpC at x; unfold R_rat; omega) (by intro a x; unfold kpC at x; unfold a0; omega) (by intro a k x y; unfold W_rat at y; (try unfold scr at y); unfold scr; omega) (by omega) hC, rel.CWs hr (by intro a x y; unfold a0; omega) (by intro a x y; unfold R_rat; omega) hw, rel.CWv hr (by intro a x; unfold a0; omega) (by intro a k x; unfold W_rat; (try unfold scr); omega) hv, rel.CGs hr (by intro a x y; unfold a0; omega) (by unfold R_rat; omega) hG⟩, ⟨?_, rel.CTr hr (by unfold a0; omega) (by unfold a0; omega) hTr, rel.FR hr (by intro a x; unfold a0; omega) (by intro k x; unfold W_rat; (try unfold scr); omega) hF⟩, (70 - bk), ?_, ?_⟩
      · unfold MVc
        rw [eo 1000 3 (by unfold a0; omega) (by unfold W_rat scr; omega), eo 1000 7 (by unfold a0; omega) (by unfold W_rat scr; omega), eo 1000 13 (by unfold a0; omega) (by unfold W_rat scr; omega), eo 1000 15 (by unfold a0; omega) (by unfold W_rat scr; omega), e29, e35]; omega
      · intro k hk; rw [e29] at hk; omega
      · intro i hi
        rw [e35] at hi
        have k := ek i (by omega)
        have v := ec i (by omega)
        unfold rlK at k
        unfold rulB
        have v0 := v 0 (by decide)
        rw [Nat.add_zero] at v0
        rw [v0, v 1 (by decide), v 2 (by decide), v 3 (by decide), v 4 (by decide), v 5 (by decide), v 6 (by decide), v 7 (by decide), v 8 (by decide), v 9 (by decide)]
        exact k
      · refine ⟨?_, ?_⟩
        · have := hT.1
          unfold TXs at this ⊢
          rw [hr.1 26 (by unfold a0; omega), hr.1 27 (by unfold a0; omega), hr.2.2.1 26 0 (by unfold a0; omega) (by unfold R_rat; omega)]; exact this
        · rw [e29]
          refine ⟨by omega, e26, fun k a b => by omega, fun k hk => ?_⟩
          unfold tx; rw [e29, if_neg (by omega)]
      · obtain ⟨q1, q2, q3, q4⟩ := hB
        refine ⟨by omega, ⟨by rw [w2, a3]; exact gR_s (g := gR gr 1 9 (some bk)), ?_⟩, ?_, ?_⟩
        · rw [w2, a3, show 70 - (70 - bk) = bk by omega]
          show (gR (gR gr 1 9 (some bk)) 1 8 (some (70 - bk))).2.2.2 1 9 = some bk
          exact (gR_n (Or.inr (by decide))).trans gR_s
        · obtain ⟨b1, b2, b3, b4⟩ := q3
          exact ⟨by rw [hr.1 28 (by unfold a0; omega)]; exact b1, by rw [hr.2.2.1 28 0 (by unfold a0; omega) (by unfold R_rat; omega)]; exact b2, by rw [hr.1 29 (by unfold a0; omega)]; exact b3, fun i hi => ⟨(hr.2.2.1 29 i (by unfold a0; omega) (by unfold R_rat; omega)).trans (b4 i hi).1, (hr.1 (28 + 2 + i) (by unfold a0; omega)).trans (b4 i hi).2⟩⟩
        · obtain ⟨b1, b2, b3, b4⟩ := q4
          exact ⟨by rw [hr.1 42 (by unfold a0; omega)]; exact b1, by rw [hr.2.2.1 42 0 (by unfold a0; omega) (by unfold R_rat; omega)]; exact b2, by rw [hr.1 43 (by unfold a0; omega)]; exact b3, fun i hi => ⟨(hr.2.2.1 43 i (by unfold a0; omega) (by unfold R_rat; omega)).trans (b4 i hi).1, (hr.1 (42 + 2 + i) (by unfold a0; omega)).trans (b4 i hi).2⟩⟩
      · refine ⟨by rw [lr (70 - bk) 1 (by omega) (by omega), c1, e35], fun i hi j hj => ?_⟩
        rw [e35] at hi
        rw [lr (70 - bk + 2 + i) j (by omega) (by omega), c2 i (by omega) j hj, ec i (by omega) j hj]
    · exfalso; omega
  · have hr1 : rel a0 (W_rf (70 - bk)) a0 a0 g g1 := by
      rw [a3]
      exact rel.of s1 (by intro a k z; unfold xB xT at z; unfold W_rf; omega)
    have L1 : ∀ a k, 1000 ≤ a → g1.2.1 a k = g.2.1 a k := fun a k x => by rw [a3]; exact s1.2.2 a k (by unfold xB xT; omega)
    refine ⟨⟨_, a2⟩, (rlow hr1 (by intro a x; unfold a0; omega) (by unfold a0; omega) (by intro a k x y; unfold W_rf at y; rcases y with y | y | y | y <;> first | omega | exact y) hP), fun r2 g2 h2 => ?_⟩
    have eT : tx (gI g1 1000 0 0).2.1 = tx g.2.1 := tx_cg ((gI_n (Or.inr (by decide))).trans (L1 1000 29 (by decide))) (fun k => (gI_n (Or.inl (by decide))).trans (L1 1028 k (by decide)))
    have eU : (gI g1 1000 0 0).2.1 1000 33 = g.2.1 1000 33 := (gI_n (Or.inr (by decide))).trans (L1 1000 33 (by decide))
    obtain ⟨d', hd', h2⟩ := h2
    rw [eT, eU] at hd' h2
    have ed := hd.uniq hd'
    subst ed
    rcases h2 with ⟨f1, b2, s2, e35, e29, ec, ek⟩ | ⟨f1, b2, b3⟩
    · exfalso; omega
    · refine ⟨a2.trans b2.symm, ?_⟩
      have hr : rel a0 (W_rf (70 - bk)) a0 a0 g g2 := (hr1.wI (Or.inl (by unfold W_rf scr; omega))).tr (rel.of b3 (by intro a k z; exact Or.inr (Or.inr (Or.inr z))))
      refine ⟨⟨rel.MR hr (by intro a x; unfold a0; omega) (by unfold a0; omega) hM, (MVc.k (fun a k x => hr.2.1 a k (by unfold a0; omega) (by unfold W_rf; (try unfold scr); omega)) hV.1), (MVo.k (fun a k x => hr.2.1 a k (by unfold a0; omega) (by unfold W_rf; (try unfold scr); omega)) hV.2.1), (MVd.k (fun a k x => hr.2.1 a k (by unfold a0; omega) (by unfold W_rf; (try unfold scr); omega)) hV.2.2.1), (MVm.k (fun a k x => hr.2.1 a k (by unfold a0; omega) (by unfold W_rf; (try unfold scr); omega)) hV.2.2.2.1), (MVs.k (fun a k x => hr.2.1 a k (by unfold a0; omega) (by unfold W_rf; (try unfold scr); omega)) hV.2.2.2.2.1), (MVr.k (fun a k x => hr.2.1 a k (by unfold a0; omega) (by unfold W_rf; (try unfold scr); omega)) hV.2.2.2.2.2.1), (MVl.k (fun a k x => hr.2.1 a k (by unfold a0; omega) (by unfold W_rf; (try unfold scr); omega)) hV.2.2.2.2.2.2.1), (MVt.k (fun a k x => hr.2.1 a k (by unfold a0; omega) (by unfold W_rf; (try unfold scr); omega)) hV.2.2.2.2.2.2.2.1), (MVu.k (by omega) (fun a k x => hr.2.1 a k (by unfold a0; omega) (by unfold W_rf; (try unfold scr); omega)) hV.2.2.2.2.2.2.2.2)⟩, ⟨rel.CO hr (by unfold a0; omega) (Or.inl (by unfold a0; omega)) hO, rel.CL hr (by unfold a0; omega) (by intro k; unfold W_rf; (try unfold scr); omega) hl⟩, ⟨rel.COf hr (by intro a x; unfold a0; omega) (by intro a k x; unfold W_rf; (try unfold scr); omega) (by unfold a0; omega) (by omega) hof, rel.CDi hr (by intro a x; unfold a0; omega) (by intro a k x; unfold W_rf; (try unfold scr); omega) (by intro a x; unfold a0; omega) (by omega) hdi⟩, ⟨rel.CMk hr (by intro a x; unfold kpC at x; unfold a0; omega) (by intro a k x; unfold kpC at x; unfold W_rf; (try unfold scr); omega) (by intro a x; unfold kpC at x; unfold a0; omega) (by intro a x; unfold kpC at x; unfold a0; omega) (by intro a k x y; unfold W_rf at y; (try unfold scr at y); unfold scr; omega) (by omega) hC, rel.CWs hr (by intro a x y; unfold a0; omega) (by intro a x y; unfold a0; omega) hw, rel.CWv hr (by intro a x; unfold a0; omega) (by intro a k x; unfold W_rf; (try unfold scr); omega) hv, rel.CGs hr (by intro a x y; unfold a0; omega) (by unfold a0; omega) hG⟩, ⟨rel.CT hr (by intro a x; unfold a0; omega) (by intro a k x; unfold W_rf; (try unfold scr); omega) (by unfold a0; omega) hT, rel.CTr hr (by unfold a0; omega) (by unfold a0; omega) hTr, rel.FR hr (by intro a x; unfold a0; omega) (by intro k x; unfold W_rf; (try unfold scr); omega) hF⟩, bk, rel.CB hr (by intro a x; unfold a0; omega) (by intro a x; unfold a0; omega) hB, rel.CBv hr hB.1 (by intro a x; unfold a0; omega) (by intro a k x; have := hB.1; unfold W_rf; (try unfold scr); omega) (by omega) hBv⟩
theorem J_trace {g g1 : GH} {r1 : AV} (hP : CPL g) (h1 : r1 = vL (g.2.2.1 1000 1) ∧ g = g1) : (∃ w, r1 = vL w) ∧ (MR g1 ∧ MV g1.2.1) ∧ ∀ r2 g2, (r2 = vL ((gI g1 1000 0 0).2.2.1 1000 1) ∧ g2 = gI g1 1000 0 0) → r1 = r2 ∧ CPL g2 := by
  obtain ⟨a1, a2⟩ := h1
  subst a2
  refine ⟨⟨_, a1⟩, hP.m, fun r2 g2 h2 => ?_⟩
  exact ⟨a1.trans h2.1.symm, cpl_k0 hP rel.rf h2.2⟩
