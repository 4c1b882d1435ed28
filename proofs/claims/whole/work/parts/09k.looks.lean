theorem mostV_mx (h : Nat → Nat → Int) (m i : Int) : ∀ n : Nat, isMx (fun f : Nat => fgC h m i f) n (mostV h m i n)
  | 0 => ⟨Int.le_refl _, fun f hf => absurd hf (Nat.not_lt_zero _), Or.inl rfl⟩
  | n + 1 => by
    obtain ⟨a1, a2, a3⟩ := mostV_mx h m i n
    show isMx _ (n + 1) (if mostV h m i n < fgC h m i n then fgC h m i n else mostV h m i n)
    refine ⟨by split <;> omega, fun f hf => ?_, ?_⟩
    · by_cases e : f = n
      · subst e; dsimp only; split <;> omega
      · have := a2 f (by omega); dsimp only at this ⊢; split <;> omega
    · split
      · exact Or.inr ⟨n, by omega, rfl⟩
      · rcases a3 with q | ⟨f, q1, q2⟩
        · exact Or.inl q
        · exact Or.inr ⟨f, by omega, q2⟩
theorem MKc.most {g : GH} {m : Nat} (h : MKc g m) {i : Nat} (hi : i < 3) : g.2.1 (400 + m) i = mostV g.2.1 m i 10 := (h.2 i hi).uniq (mostV_mx g.2.1 m i 10)
def lkL (p : Int × Int) : Int := if p.1 = -9 then 1001 else p.2
theorem lkS_off {h : Nat → Nat → Int} {c D : Int} {m : Nat} (hn : ¬ isOfB h c D m) : ∀ k i : Nat, i + k = 3 → lkS h c D (3 * m + 3) = lkS h c D (3 * m + i)
  | 0, i, e => by rw [show i = 3 by omega]
  | k + 1, i, e => by
    rw [lkS_off hn k (i + 1) (by omega), show 3 * m + (i + 1) = 3 * m + i + 1 from rfl]
    exact lkS_n (by omega) (fun q => hn q.1.1)
set_option maxHeartbeats 4000000 in
set_option maxRecDepth 100000 in
theorem c0_nextLook (g : GH) (c D : Int) (hC : CMk g) (hn : 0 ≤ g.2.1 1000 13 ∧ g.2.1 1000 13 ≤ 40) : AMet mX0_nextLook g [vA 5, vI c, vI D] (pZ g (lkS g.2.1 c D (3 * (g.2.1 1000 13).toNat)).1) := by
  refine AMet.of [vA 5, vI c, vI D, none, none, none, none, none, none] (by decide) rfl (Nat.le_of_ble_eq_true rfl) ?_
  refine a_bipush (z := (-9)) 2 dX0_nextLook_0 rfl (zrl rfl) rfl ?_
  refine a_istore_n 3 dX0_nextLook_2 (by decide) rfl rfl ?_
  refine a_sipush (z := 1001) 6 dX0_nextLook_3 rfl (zrl rfl) rfl ?_
  refine a_istore 8 dX0_nextLook_6 (by decide) rfl rfl ?_
  refine a_iconst (z := 0) 9 dX0_nextLook_8 rfl (zrl rfl) rfl ?_
  refine a_istore 11 dX0_nextLook_9 (by decide) rfl rfl ?_
  refine AW.loop (α := Nat) (fun p => (g.2.1 1000 13).toNat - p) (fun p => (p : Int) ≤ g.2.1 1000 13) (fun p => g) (fun p => [vA 5, vI c, vI D, vI (lkS g.2.1 c D (3 * p)).1, vI (lkL (lkS g.2.1 c D (3 * p))), vI (p : Int), none, none, none]) (fun p => []) ?_ 0 ?_
  · intro m hm ih11
    try dsimp only at hI ih ⊢
    refine a_iload 13 dX0_nextLook_11 rfl rfl ?_
    refine a_aload_n 14 dX0_nextLook_13 rfl rfl ?_
    refine a_getIz (g.2.1 1000 13) 17 dX0_nextLook_14 fX0_17 hC.1 rfl hC.2.2.2.1 rfl ?_
    refine a_icmp_ge 109 20 dX0_nextLook_17 (by decide) rfl (fun c17 => ?_) (fun c17 => ?_)
    · skip
      refine a_iload_n 110 dX0_nextLook_109 rfl rfl ?_
      refine a_ireturn dX0_nextLook_110 rfl ⟨Nat.zero_le _, Nat.zero_le _⟩ ?_
      have e : m = (g.2.1 1000 13).toNat := by omega
      subst e
      exact ⟨rfl, rfl⟩
    · skip
      refine a_aload_n 21 dX0_nextLook_20 rfl rfl ?_
      refine a_getR 24 dX0_nextLook_21 fX0_11 hC.1 rfl hC.2.1 rfl ?_
      refine a_iload 26 dX0_nextLook_24 rfl rfl ?_
      refine a_aald 27 dX0_nextLook_26 hC.2.2.1 rfl (by omega) (by omega) (hC.r (m := m) (by omega)) rfl ?_
      refine a_astore 29 dX0_nextLook_27 (by decide) rfl rfl ?_
      refine a_iconst (z := 0) 30 dX0_nextLook_29 rfl (zrl rfl) rfl ?_
      refine a_istore 32 dX0_nextLook_30 (by decide) rfl rfl ?_
      refine AW.loop (α := Nat) (fun p => 3 - p) (fun p => p ≤ 3) (fun p => g) (fun p => [vA 5, vI c, vI D, vI (lkS g.2.1 c D (3 * m + p)).1, vI (lkL (lkS g.2.1 c D (3 * m + p))), vI (m : Int), vA (100 + m), vI (p : Int), none]) (fun p => []) ?_ 0 ?_
      · intro i hi ih32
        try dsimp only at hI ih ⊢
        have hso := lkS_or g.2.1 c D (3 * m + i)
        have hmo := mostV_le g.2.1 m i 10
        refine a_iload 34 dX0_nextLook_32 rfl rfl ?_
        refine a_iconst (z := 3) 35 dX0_nextLook_34 rfl (zrl rfl) rfl ?_
        refine a_icmp_ge 103 38 dX0_nextLook_35 (by decide) rfl (fun c35 => ?_) (fun c35 => ?_)
        · skip
          refine a_iinc 106 dX0_nextLook_103 rfl (by unfold zr; omega) (by decide) rfl rfl ?_
          refine a_goto 11 dX0_nextLook_106 (by decide) ?_
          refine AW.kill 6 (AW.kill 7 (AW.kill 8 ?_))
          have h9 := ih11 (m + 1) (by omega) (by omega)
          rw [show 3 * (m + 1) = 3 * m + 3 from rfl] at h9
          first
          | (have e3 : i = 3 := by omega
             subst e3
             exact h9)
          | (rw [lkS_off (isN h42 c45) (3 - i) i (by omega)] at h9
             exact h9)
        · skip
          refine a_aload 40 dX0_nextLook_38 rfl rfl ?_
          refine a_iload_n 41 dX0_nextLook_40 rfl rfl ?_
          refine a_iload_n 42 dX0_nextLook_41 rfl rfl ?_
          refine a_callV 45 (c5_isOn _ _ _ (hC.k (m := m) (by omega)).1.1) cdX5_isOn lX0_21 dX0_nextLook_42 rfl (hC.k (m := m) (by omega)).1.1 rfl ⟨by decide, by decide, rfl, rfl⟩ ⟨Nat.zero_le _, Nat.zero_le _⟩ (Nat.le_of_ble_eq_true rfl) rfl ?_
          rintro _ _ - ⟨b42, rfl, rfl, h42⟩ -
          rw [(hC.k (m := m) (by omega)).2.1.on] at h42
          refine a_if_eq 103 48 dX0_nextLook_45 (by decide) rfl (fun c45 => ?_) (fun c45 => ?_)
          · skip
            refine a_iinc 106 dX0_nextLook_103 rfl (by unfold zr; omega) (by decide) rfl rfl ?_
            refine a_goto 11 dX0_nextLook_106 (by decide) ?_
            refine AW.kill 6 (AW.kill 7 (AW.kill 8 ?_))
            have h9 := ih11 (m + 1) (by omega) (by omega)
            rw [show 3 * (m + 1) = 3 * m + 3 from rfl] at h9
            first
            | (have e3 : i = 3 := by omega
               subst e3
               exact h9)
            | (rw [lkS_off (isN h42 c45) (3 - i) i (by omega)] at h9
               exact h9)
          · skip
            refine a_aload 50 dX0_nextLook_48 rfl rfl ?_
            refine a_getR 53 dX0_nextLook_50 fX0_73 (hC.k (m := m) (by omega)).1.1 rfl (hC.k (m := m) (by omega)).1.2.2.2.2.2.1 rfl ?_
            refine a_iload 55 dX0_nextLook_53 rfl rfl ?_
            refine a_ialdz (mostV g.2.1 m i 10) 56 dX0_nextLook_55 (hC.k (m := m) (by omega)).1.2.2.2.2.2.2 (by omega) (by omega) ((hC.k (m := m) (by omega)).2.2.2.2.2.most (by omega)) rfl ?_
            refine a_istore 58 dX0_nextLook_56 (by decide) rfl rfl ?_
            refine a_aload 60 dX0_nextLook_58 rfl rfl ?_
            refine a_iload 62 dX0_nextLook_60 rfl rfl ?_
            refine a_callV 65 (c5_isTorn _ _ (hC.k (m := m) (by omega)).1.1 (hC.k (m := m) (by omega)).2.2.2.1.1 (by omega)) cdX5_isTorn lX0_77 dX0_nextLook_62 rfl (hC.k (m := m) (by omega)).1.1 rfl ⟨by decide, by decide, rfl, rfl⟩ ⟨Nat.zero_le _, Nat.zero_le _⟩ (Nat.le_of_ble_eq_true rfl) rfl ?_
            rintro _ _ - ⟨b62, rfl, rfl, h62⟩ -
            rw [(hC.k (m := m) (by omega)).2.2.2.1.2 i (by omega), show 10 * m + 5 + i = (10 * (m : Int) + 5 + (i : Int)).toNat by omega] at h62
            refine a_if_eq 97 68 dX0_nextLook_65 (by decide) rfl (fun c65 => ?_) (fun c65 => ?_)
            · skip
              refine a_iinc 100 dX0_nextLook_97 rfl (by unfold zr; omega) (by decide) rfl rfl ?_
              refine a_goto 32 dX0_nextLook_100 (by decide) ?_
              refine AW.kill 8 ?_
              have h9 := ih32 (i + 1) (by omega) (by omega)
              rw [show 3 * m + (i + 1) = 3 * m + i + 1 from rfl] at h9
              have e9 := lkS_n (h := g.2.1) (c := c) (D := D) (m := m) (i := i) (by omega) (fun q => by
                first
                | exact isN h62 c65 q.1.2.1
                | (have q9 := q.1.2.2; omega)
                | (rcases q.2 with q2 | q2
                   · have q3 : lkL (lkS g.2.1 c D (3 * m + i)) = 1001 := if_pos q2
                     omega
                   · by_cases q4 : (lkS g.2.1 c D (3 * m + i)).1 = -9
                     · have q3 : lkL (lkS g.2.1 c D (3 * m + i)) = 1001 := if_pos q4
                       omega
                     · have q3 : lkL (lkS g.2.1 c D (3 * m + i)) = (lkS g.2.1 c D (3 * m + i)).2 := if_neg q4
                       omega))
              rw [e9] at h9
              exact h9
            · skip
              refine a_iload 70 dX0_nextLook_68 rfl rfl ?_
              refine a_aload 72 dX0_nextLook_70 rfl rfl ?_
              refine a_getIz (cnt (canB g.2.1 m) 1000) 75 dX0_nextLook_72 fX0_81 (hC.k (m := m) (by omega)).1.1 rfl (hC.k (m := m) (by omega)).2.2.2.2.2.1 rfl ?_
              refine a_icmp_ge 97 78 dX0_nextLook_75 (by decide) rfl (fun c75 => ?_) (fun c75 => ?_)
              · skip
                refine a_iinc 100 dX0_nextLook_97 rfl (by unfold zr; omega) (by decide) rfl rfl ?_
                refine a_goto 32 dX0_nextLook_100 (by decide) ?_
                refine AW.kill 8 ?_
                have h9 := ih32 (i + 1) (by omega) (by omega)
                rw [show 3 * m + (i + 1) = 3 * m + i + 1 from rfl] at h9
                have e9 := lkS_n (h := g.2.1) (c := c) (D := D) (m := m) (i := i) (by omega) (fun q => by
                  first
                  | exact isN h62 c65 q.1.2.1
                  | (have q9 := q.1.2.2; omega)
                  | (rcases q.2 with q2 | q2
                     · have q3 : lkL (lkS g.2.1 c D (3 * m + i)) = 1001 := if_pos q2
                       omega
                     · by_cases q4 : (lkS g.2.1 c D (3 * m + i)).1 = -9
                       · have q3 : lkL (lkS g.2.1 c D (3 * m + i)) = 1001 := if_pos q4
                         omega
                       · have q3 : lkL (lkS g.2.1 c D (3 * m + i)) = (lkS g.2.1 c D (3 * m + i)).2 := if_neg q4
                         omega))
                rw [e9] at h9
                exact h9
              · skip
                refine a_iload 80 dX0_nextLook_78 rfl rfl ?_
                refine a_iload 82 dX0_nextLook_80 rfl rfl ?_
                refine a_icmp_ge 97 85 dX0_nextLook_82 (by decide) rfl (fun c82 => ?_) (fun c82 => ?_)
                · skip
                  refine a_iinc 100 dX0_nextLook_97 rfl (by unfold zr; omega) (by decide) rfl rfl ?_
                  refine a_goto 32 dX0_nextLook_100 (by decide) ?_
                  refine AW.kill 8 ?_
                  have h9 := ih32 (i + 1) (by omega) (by omega)
                  rw [show 3 * m + (i + 1) = 3 * m + i + 1 from rfl] at h9
                  have e9 := lkS_n (h := g.2.1) (c := c) (D := D) (m := m) (i := i) (by omega) (fun q => by
                    first
                    | exact isN h62 c65 q.1.2.1
                    | (have q9 := q.1.2.2; omega)
                    | (rcases q.2 with q2 | q2
                       · have q3 : lkL (lkS g.2.1 c D (3 * m + i)) = 1001 := if_pos q2
                         omega
                       · by_cases q4 : (lkS g.2.1 c D (3 * m + i)).1 = -9
                         · have q3 : lkL (lkS g.2.1 c D (3 * m + i)) = 1001 := if_pos q4
                           omega
                         · have q3 : lkL (lkS g.2.1 c D (3 * m + i)) = (lkS g.2.1 c D (3 * m + i)).2 := if_neg q4
                           omega))
                  rw [e9] at h9
                  exact h9
                · skip
                  refine a_iload 87 dX0_nextLook_85 rfl rfl ?_
                  refine a_istore 89 dX0_nextLook_87 (by decide) rfl rfl ?_
                  refine a_iconst (z := 3) 90 dX0_nextLook_89 rfl (zrl rfl) rfl ?_
                  refine a_iload 92 dX0_nextLook_90 rfl rfl ?_
                  refine a_imul 93 dX0_nextLook_92 (by unfold zr; omega) rfl ?_
                  refine a_iload 95 dX0_nextLook_93 rfl rfl ?_
                  refine a_iadd 96 dX0_nextLook_95 (by unfold zr; omega) rfl ?_
                  refine a_istore_n 97 dX0_nextLook_96 (by decide) rfl rfl ?_
                  refine a_iinc 100 dX0_nextLook_97 rfl (by unfold zr; omega) (by decide) rfl rfl ?_
                  refine a_goto 32 dX0_nextLook_100 (by decide) ?_
                  refine AW.kill 8 ?_
                  have h9 := ih32 (i + 1) (by omega) (by omega)
                  rw [show 3 * m + (i + 1) = 3 * m + i + 1 from rfl] at h9
                  have e9 := lkS_y (h := g.2.1) (c := c) (D := D) (m := m) (i := i) (by omega) ⟨isT h42 c45, isT h62 c65, by omega⟩ (by
                    by_cases q : (lkS g.2.1 c D (3 * m + i)).1 = -9
                    · exact Or.inl q
                    · right
                      have q2 : lkL (lkS g.2.1 c D (3 * m + i)) = (lkS g.2.1 c D (3 * m + i)).2 := if_neg q
                      omega)
                  rw [e9] at h9
                  rw [show ((3 * m + i : Nat) : Int) = 3 * (m : Int) + (i : Int) by omega] at h9
                  rw [show lkL (3 * (m : Int) + (i : Int), mostV g.2.1 m i 10) = mostV g.2.1 m i 10 from if_neg (by dsimp only; omega)] at h9
                  exact h9
      · exact Nat.zero_le _
  · show ((0 : Nat) : Int) ≤ _
    omega
