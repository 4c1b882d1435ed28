theorem a_zaldz {M : MI} {T : TT} {kn : Nat × Nat} {g : GH} {pc : Nat} {ls st : List AV} {a n : Nat} {i : Int} (z : Int) (pc2 : Nat) (hd : decode M.2.1 pc = .ok (.baload, 1)) (hs : g.1 a = some (Sum.inr (.boolean, n))) (h0 : 0 ≤ i) (hi : i < n) (hz : g.2.1 a i.toNat = z) (hp : pc + 1 = pc2) (kk : AW M T kn g pc2 ls (vI z :: st)) : AW M T kn g pc ls (vI i :: vA a :: st) := by
  subst hz; exact a_zald pc2 hd hs h0 hi hp kk
def gSD (g : GH) (S Dn : Nat → Int) : GH := (g.1, fun a k => if a = 1021 then S k else if a = 1022 then Dn k else g.2.1 a k, g.2.2)
theorem gSD_S {g : GH} {S Dn : Nat → Int} {k : Nat} {z : Int} : gI (gSD g S Dn) 1021 k z = gSD g (u1 S k z) Dn := by
  unfold gI gSD u2 u1; dsimp only; congr 2; funext a k'
  by_cases h : a = 1021
  · subst h; simp
  · simp [h]
theorem gSD_D {g : GH} {S Dn : Nat → Int} {k : Nat} {z : Int} : gI (gSD g S Dn) 1022 k z = gSD g S (u1 Dn k z) := by
  unfold gI gSD u2 u1; dsimp only; congr 2; funext a k'
  by_cases h : a = 1022
  · subst h; simp
  · by_cases h2 : a = 1021
    · subst h2; simp
    · simp [h, h2]
theorem gSD_self (g : GH) : g = gSD g (g.2.1 1021) (g.2.1 1022) := by
  unfold gSD
  have : (fun a k => if a = 1021 then g.2.1 1021 k else if a = 1022 then g.2.1 1022 k else g.2.1 a k) = g.2.1 := by
    funext a k; split
    · rename_i h; rw [h]
    · split
      · rename_i h; rw [h]
      · rfl
  rw [this]
theorem gSD_same (g : GH) (S Dn : Nat → Int) : sameB (fun a _ => a = 1021 ∨ a = 1022) g (gSD g S Dn) := ⟨rfl, rfl, fun a k h => by
  show (if a = 1021 then S k else if a = 1022 then Dn k else g.2.1 a k) = _
  rw [if_neg (fun q => h (Or.inl q)), if_neg (fun q => h (Or.inr q))]⟩
theorem gSD_gSD (g : GH) (S Dn S' Dn' : Nat → Int) : gSD (gSD g S Dn) S' Dn' = gSD g S' Dn' := by
  unfold gSD; dsimp only; congr 2; funext a k
  by_cases h : a = 1021
  · simp [h]
  · by_cases h2 : a = 1022
    · simp [h2]
    · simp [h, h2]
theorem u1_self {S : Nat → Int} {t : Nat} : u1 S t (S t) = S := by funext k; unfold u1; split; · rename_i h; rw [h]
                                                                   · rfl
def pkB (S Dn : Nat → Int) (t : Nat) (a : Int) : Prop := (a = -9 ∧ ∀ k, k < t → Dn k = 1) ∨ (0 ≤ a ∧ a < t ∧ Dn a.toNat = 0 ∧ ∀ k, k < t → Dn k = 0 → S a.toNat ≤ S k)
theorem pkB.skip {S Dn : Nat → Int} {t : Nat} {a : Int} (h : pkB S Dn t a) (hd : Dn t = 1) : pkB S Dn (t + 1) a := by
  rcases h with ⟨h1, h2⟩ | ⟨h1, h2, h3, h4⟩
  · refine Or.inl ⟨h1, fun k hk => ?_⟩
    by_cases e : k = t
    · rw [e]; exact hd
    · exact h2 k (by omega)
  · refine Or.inr ⟨h1, by omega, h3, fun k hk h0 => ?_⟩
    by_cases e : k = t
    · rw [e] at h0; omega
    · exact h4 k (by omega) h0
theorem pkB.fst {S Dn : Nat → Int} {t : Nat} {a : Int} (hD : ∀ k, k < 6 → Dn k = 0 ∨ Dn k = 1) (ht : t < 6) (h : pkB S Dn t a) (h9 : a = -9) (hd : Dn t = 0) : pkB S Dn (t + 1) t := by
  rcases h with ⟨h1, h2⟩ | ⟨h1, h2, h3, h4⟩
  · refine Or.inr ⟨by omega, by omega, hd, fun k hk h0 => ?_⟩
    by_cases e : k = t
    · rw [e]; exact Int.le_refl _
    · have := h2 k (by omega); omega
  · omega
theorem pkB.less {S Dn : Nat → Int} {t : Nat} {a : Int} (h : pkB S Dn t a) (h9 : a ≠ -9) (hd : Dn t = 0) (hl : S t < S a.toNat) : pkB S Dn (t + 1) t := by
  rcases h with ⟨h1, h2⟩ | ⟨h1, h2, h3, h4⟩
  · omega
  · refine Or.inr ⟨by omega, by omega, hd, fun k hk h0 => ?_⟩
    by_cases e : k = t
    · rw [e]; exact Int.le_refl _
    · have := h4 k (by omega) h0; rw [Int.toNat_natCast]; omega
theorem pkB.keep {S Dn : Nat → Int} {t : Nat} {a : Int} (h : pkB S Dn t a) (h9 : a ≠ -9) (hl : S a.toNat ≤ S t) : pkB S Dn (t + 1) a := by
  rcases h with ⟨h1, h2⟩ | ⟨h1, h2, h3, h4⟩
  · omega
  · refine Or.inr ⟨h1, by omega, h3, fun k hk h0 => ?_⟩
    by_cases e : k = t
    · rw [e]; exact hl
    · exact h4 k (by omega) h0
/-- in the roads' loop, in the sailings' loop -/
def rdB (h : Nat → Nat → Int) (f : Nat) (d : Int) (Dn : Nat → Int) (a t : Nat) (S : Nat → Int) : Prop := dkA h f d S Dn a ∧ ∀ k, k < t → h 1020 (6 * a + k) ≠ -9 → S k ≤ S a + h 1020 (6 * a + k)
def slB (h : Nat → Nat → Int) (f : Nat) (d : Int) (Dn : Nat → Int) (a s : Nat) (S : Nat → Int) : Prop := rdB h f d Dn a 6 S ∧ ∀ i : Nat, i < s → h 1016 i = a → h 1019 i ≠ -9 → S a ≤ h 1018 i → S (h 1017 i).toNat ≤ h 1019 i
theorem rdB.no {h : Nat → Nat → Int} {f a t : Nat} {d : Int} {S Dn : Nat → Int} (q : rdB h f d Dn a t S) (hn : h 1020 (6 * a + t) = -9 ∨ S t ≤ S a + h 1020 (6 * a + t)) : rdB h f d Dn a (t + 1) S := by
  refine ⟨q.1, fun k hk h9 => ?_⟩
  by_cases e : k = t
  · rw [e] at h9 ⊢; omega
  · exact q.2 k (by omega) h9
theorem rdB.yes {h : Nat → Nat → Int} (hs : MVs h) (hr : MVr h) {f a t : Nat} {d : Int} {S Dn : Nat → Int} (q : rdB h f d Dn a t S) (ht : t < 6) (hn : h 1020 (6 * a + t) ≠ -9) (hl : S a + h 1020 (6 * a + t) < S t) : rdB h f d Dn a (t + 1) (u1 S t (S a + h 1020 (6 * a + t))) := by
  have h1 := q.1.relax hs hr (w := t) (c := S a + h 1020 (6 * a + t)) ⟨q.1.2.2.2.1.1, ht, Or.inl ⟨hn, rfl⟩⟩ hl
  refine ⟨h1.1, fun k hk h9 => ?_⟩
  rw [h1.2.1]
  by_cases e : k = t
  · rw [e, u1_s]; exact Int.le_refl _
  · exact Int.le_trans (h1.2.2 k) (q.2 k (by omega) h9)
theorem slB.no {h : Nat → Nat → Int} {f a s : Nat} {d : Int} {S Dn : Nat → Int} (q : slB h f d Dn a s S) (hn : ¬ (h 1016 s = a ∧ h 1019 s ≠ -9 ∧ S a ≤ h 1018 s) ∨ S (h 1017 s).toNat ≤ h 1019 s) : slB h f d Dn a (s + 1) S := by
  refine ⟨q.1, fun k hk h1 h2 h3 => ?_⟩
  by_cases e : k = s
  · rw [e] at h1 h2 h3 ⊢
    rcases hn with hn | hn
    · exact absurd ⟨h1, h2, h3⟩ hn
    · exact hn
  · exact q.2 k (by omega) h1 h2 h3
theorem slB.yes {h : Nat → Nat → Int} (hs : MVs h) (hr : MVr h) {f a s : Nat} {d : Int} {S Dn : Nat → Int} (q : slB h f d Dn a s S) (hi : (s : Int) < h 1000 15) (hn : h 1016 s = a ∧ h 1019 s ≠ -9 ∧ S a ≤ h 1018 s) (hl : h 1019 s < S (h 1017 s).toNat) : slB h f d Dn a (s + 1) (u1 S (h 1017 s).toNat (h 1019 s)) := by
  have hs9 := hs s hi
  have h1 := q.1.1.relax hs hr (w := (h 1017 s).toNat) (c := h 1019 s) ⟨q.1.1.2.2.2.1.1, by omega, Or.inr ⟨s, hi, hn.1, by omega, hn.2.1, hn.2.2, rfl⟩⟩ hl
  refine ⟨⟨h1.1, fun k hk h9 => ?_⟩, fun k hk z1 z2 z3 => ?_⟩
  · rw [h1.2.1]; exact Int.le_trans (h1.2.2 k) (q.1.2 k hk h9)
  · rw [h1.2.1] at z3
    by_cases e : k = s
    · rw [e, u1_s]; exact Int.le_refl _
    · exact Int.le_trans (h1.2.2 _) (q.2 k (by omega) z1 z2 z3)
set_option maxHeartbeats 4000000 in
set_option maxRecDepth 100000 in
theorem r_soonestOf (g : GH) (f d b : Int) (hM : MR g) (hV : MV g.2.1) (hf : 0 ≤ f ∧ f ≤ 5) (hd : 0 ≤ d ∧ d ≤ 999) (hb : 0 ≤ b ∧ b ≤ 5) : AMet mX12_soonestOf g [vA 1000, vI f, vI d, vI b] (fun r g' => ∃ S Dn, r = vI (soonV g.2.1 f.toNat d b.toNat) ∧ g' = gSD g S Dn ∧ isSoon g.2.1 f.toNat d b.toNat (soonV g.2.1 f.toNat d b.toNat)) := by
  refine AMet.of [vA 1000, vI f, vI d, vI b, none, none, none, none] (by decide) rfl (Nat.le_of_ble_eq_true rfl) ?_
  have hc := hV.1
  unfold MVc at hc
  have hVs := hV.2.2.2.2.1
  have hVr := hV.2.2.2.2.2.1
  skip
  refine a_iconst (z := 0) 1 dX12_soonestOf_0 rfl (zrl rfl) rfl ?_
  refine a_istore 3 dX12_soonestOf_1 (by decide) rfl rfl ?_
  refine AW.loop (α := GH × Nat) (fun p => 6 - p.2) (fun p => ∃ S Dn, p.1 = gSD g S Dn ∧ p.2 ≤ 6 ∧ ∀ k, k < p.2 → S k = (if k = f.toNat then d else 1000) ∧ Dn k = 0) (fun p => p.1) (fun p => [vA 1000, vI f, vI d, vI b, vI (p.2 : Int), none, none, none]) (fun p => []) ?_ (g, 0) ?_
  · rintro ⟨g2, t⟩ ⟨S, Dn, e8, hI, hS⟩ ih3
    try dsimp only at hI ih ⊢
    try dsimp only at e8 hI hS ih3 ⊢
    subst e8
    refine a_iload 5 dX12_soonestOf_3 rfl rfl ?_
    refine a_bipush (z := 6) 7 dX12_soonestOf_5 rfl (zrl rfl) rfl ?_
    refine a_icmp_ge 44 10 dX12_soonestOf_7 (by decide) rfl (fun c7 => ?_) (fun c7 => ?_)
    · skip
      refine a_iconst (z := 0) 45 dX12_soonestOf_44 rfl (zrl rfl) rfl ?_
      refine a_istore 47 dX12_soonestOf_45 (by decide) rfl rfl ?_
      refine AW.loop (α := GH × Nat) (fun p => 6 - p.2) (fun p => ∃ S Dn, p.1 = gSD g S Dn ∧ p.2 ≤ 6 ∧ dkI g.2.1 f.toNat d S Dn ∧ cnt (fun k => Dn k.toNat = 1) 6 = p.2) (fun p => p.1) (fun p => [vA 1000, vI f, vI d, vI b, vI (p.2 : Int), none, none, none]) (fun p => []) ?_ (gSD g S Dn, 0) ?_
      · rintro ⟨g2, r⟩ ⟨S, Dn, e8, hI, hS, hN⟩ ih47
        try dsimp only at hI ih ⊢
        try dsimp only at e8 hI hS hN ih47 ⊢
        subst e8
        have hD := hS.1.2.2.2
        refine a_iload 49 dX12_soonestOf_47 rfl rfl ?_
        refine a_bipush (z := 6) 51 dX12_soonestOf_49 rfl (zrl rfl) rfl ?_
        refine a_icmp_ge 343 54 dX12_soonestOf_51 (by decide) rfl (fun c51 => ?_) (fun c51 => ?_)
        · skip
          have e6 : r = 6 := by omega
          subst e6
          have hall := cnt_all hN
          have hE := dkI.end (b := b.toNat) hVs hVr (by omega) (by omega) hS (fun k hk => by have := hall k hk; simpa using this)
          refine a_aload_n 344 dX12_soonestOf_343 rfl rfl ?_
          refine a_getR 347 dX12_soonestOf_344 fX12_55 hM.1 rfl (mr_21 hM).1 rfl ?_
          refine a_iload_n 348 dX12_soonestOf_347 rfl rfl ?_
          refine a_ialdz (S b.toNat) 349 dX12_soonestOf_348 (mr_21 hM).2 (by omega) (by omega) rfl rfl ?_
          refine a_ireturn dX12_soonestOf_349 rfl ⟨Nat.zero_le _, Nat.zero_le _⟩ ?_
          exact ⟨S, Dn, congrArg vI (soonV_eq hE), rfl, by rw [← soonV_eq hE]; exact hE⟩
        · skip
          refine a_bipush (z := (-9)) 56 dX12_soonestOf_54 rfl (zrl rfl) rfl ?_
          refine a_istore 58 dX12_soonestOf_56 (by decide) rfl rfl ?_
          refine a_iconst (z := 0) 59 dX12_soonestOf_58 rfl (zrl rfl) rfl ?_
          refine a_istore 61 dX12_soonestOf_59 (by decide) rfl rfl ?_
          refine AW.loop (α := Nat × Int) (fun p => 6 - p.1) (fun p => p.1 ≤ 6 ∧ pkB S Dn p.1 p.2) (fun p => gSD g S Dn) (fun p => [vA 1000, vI f, vI d, vI b, vI (r : Int), vI p.2, vI (p.1 : Int), none]) (fun p => []) ?_ (0, -9) ?_
          · rintro ⟨t, a9⟩ ⟨hI2, hP⟩ ih61
            try dsimp only at hI ih ⊢
            try dsimp only at hI2 hP ih61 ⊢
            refine a_iload 63 dX12_soonestOf_61 rfl rfl ?_
            refine a_bipush (z := 6) 65 dX12_soonestOf_63 rfl (zrl rfl) rfl ?_
            refine a_icmp_ge 117 68 dX12_soonestOf_65 (by decide) rfl (fun c65 => ?_) (fun c65 => ?_)
            · skip
              have e6 : t = 6 := by omega
              subst e6
              have hu : ∃ k : Nat, k < 6 ∧ ¬ (Dn k = 1) := by
                obtain ⟨k, z1, z2⟩ := cnt_some (P := fun k => Dn k.toNat = 1) (n := 6) (by omega)
                exact ⟨k, z1, z2⟩
              have h99 : 0 ≤ a9 ∧ a9 < 6 ∧ Dn a9.toNat = 0 ∧ ∀ k, k < 6 → Dn k = 0 → S a9.toNat ≤ S k := by
                rcases hP with ⟨z1, z2⟩ | z
                · obtain ⟨k, y1, y2⟩ := hu; exact absurd (z2 k y1) y2
                · exact z
              clear ih61 hP
              obtain ⟨a, rfl⟩ := Int.eq_ofNat_of_zero_le h99.1
              rw [Int.toNat_natCast] at h99
              have ha : a < 6 := by omega
              have hA := dkA.start hS ha h99.2.2.1 h99.2.2.2
              refine a_aload_n 118 dX12_soonestOf_117 rfl rfl ?_
              refine a_getR 121 dX12_soonestOf_118 fX12_58 hM.1 rfl (mr_22 hM).1 rfl ?_
              refine a_iload 123 dX12_soonestOf_121 rfl rfl ?_
              refine a_iconst (z := 1) 124 dX12_soonestOf_123 rfl (zrl rfl) rfl ?_
              refine a_zast 125 dX12_soonestOf_124 (mr_22 hM).2 (by omega) (by omega) (Or.inr rfl) rfl ?_
              refine a_iconst (z := 0) 126 dX12_soonestOf_125 rfl (zrl rfl) rfl ?_
              refine a_istore 128 dX12_soonestOf_126 (by decide) rfl rfl ?_
              refine AW.loop (α := GH × Nat) (fun p => 6 - p.2) (fun p => ∃ S2, p.1 = gSD g S2 (u1 Dn a 1) ∧ p.2 ≤ 6 ∧ rdB g.2.1 f.toNat d (u1 Dn a 1) a p.2 S2) (fun p => p.1) (fun p => [vA 1000, vI f, vI d, vI b, vI (r : Int), vI (a : Int), vI (p.2 : Int), none]) (fun p => []) ?_ (gI (gSD g S Dn) 1022 (a : Int).toNat 1, 0) ?_
              · rintro ⟨g2, w⟩ ⟨S2, e8, hI3, hQ⟩ ih128
                try dsimp only at hI ih ⊢
                try dsimp only at e8 hI3 hQ ih128 ⊢
                subst e8
                have hq1 := hQ.1.1.1 a (by omega)
                refine a_iload 130 dX12_soonestOf_128 rfl rfl ?_
                refine a_bipush (z := 6) 132 dX12_soonestOf_130 rfl (zrl rfl) rfl ?_
                refine a_icmp_ge 210 135 dX12_soonestOf_132 (by decide) rfl (fun c132 => ?_) (fun c132 => ?_)
                · skip
                  refine a_iconst (z := 0) 211 dX12_soonestOf_210 rfl (zrl rfl) rfl ?_
                  refine a_istore 213 dX12_soonestOf_211 (by decide) rfl rfl ?_
                  refine AW.loop (α := GH × Nat) (fun p => (g.2.1 1000 15).toNat - p.2) (fun p => ∃ S2, p.1 = gSD g S2 (u1 Dn a 1) ∧ (p.2 : Int) ≤ g.2.1 1000 15 ∧ slB g.2.1 f.toNat d (u1 Dn a 1) a p.2 S2) (fun p => p.1) (fun p => [vA 1000, vI f, vI d, vI b, vI (r : Int), vI (a : Int), vI (p.2 : Int), none]) (fun p => []) ?_ (gSD g S2 (u1 Dn a 1), 0) ?_
                  · rintro ⟨g2, s⟩ ⟨S3, e8, hI4, hT⟩ ih213
                    try dsimp only at hI ih ⊢
                    try dsimp only at e8 hI4 hT ih213 ⊢
                    subst e8
                    refine a_iload 215 dX12_soonestOf_213 rfl rfl ?_
                    refine a_aload_n 216 dX12_soonestOf_215 rfl rfl ?_
                    refine a_getIz (g.2.1 1000 15) 219 dX12_soonestOf_216 fX12_139 hM.1 rfl rfl rfl ?_
                    refine a_icmp_ge 337 222 dX12_soonestOf_219 (by decide) rfl (fun c219 => ?_) (fun c219 => ?_)
                    · skip
                      have hdone := dkA.done hT.1.1 hT.1.2 (fun i hi => hT.2 i (by omega))
                      refine a_iinc 340 dX12_soonestOf_337 rfl (by unfold zr; omega) (by decide) rfl rfl ?_
                      refine a_goto 47 dX12_soonestOf_340 (by decide) ?_
                      refine AW.kill 5 (AW.kill 6 (AW.kill 7 ?_))
                      refine ih47 (_, r + 1) ⟨S3, _, rfl, by omega, hdone, ?_⟩ (by dsimp only; omega)
                      rw [cnt_upd (by omega) (by omega), hN]; rfl
                    · skip
                      refine AW.cut (J := 268) (P := fun z => isb z (g.2.1 1016 s = a ∧ g.2.1 1019 s ≠ -9 ∧ S3 a ≤ g.2.1 1018 s)) ?_ (fun J268 => ?_)
                      · intro z268 h268
                        have hs9 := hVs s (by omega)
                        have hq3 := hT.1.1.1.1 (g.2.1 1017 s).toNat (by omega)
                        refine a_istore 270 dX12_soonestOf_268 (by decide) rfl rfl ?_
                        refine a_aload_n 271 dX12_soonestOf_270 rfl rfl ?_
                        refine a_getR 274 dX12_soonestOf_271 fX12_55 hM.1 rfl (mr_21 hM).1 rfl ?_
                        refine a_aload_n 275 dX12_soonestOf_274 rfl rfl ?_
                        refine a_getR 278 dX12_soonestOf_275 fX12_43 hM.1 rfl (mr_17 hM).1 rfl ?_
                        refine a_iload 280 dX12_soonestOf_278 rfl rfl ?_
                        refine a_ialdz (g.2.1 1017 s) 281 dX12_soonestOf_280 (mr_17 hM).2 (by omega) (by omega) rfl rfl ?_
                        refine AW.cut (J := 330) (P := fun z => slB g.2.1 f.toNat d (u1 Dn a 1) a (s + 1) (u1 S3 (g.2.1 1017 s).toNat z)) ?_ (fun J330 => ?_)
                        · intro z330 h330
                          refine a_iast 331 dX12_soonestOf_330 (mr_21 hM).2 (by omega) (by omega) rfl ?_
                          refine a_iinc 334 dX12_soonestOf_331 rfl (by unfold zr; omega) (by decide) rfl rfl ?_
                          refine a_goto 213 dX12_soonestOf_334 (by decide) ?_
                          refine AW.kill 7 ?_
                          rw [gSD_S]
                          exact ih213 (_, s + 1) ⟨_, rfl, by dsimp only; omega, h330⟩ (by dsimp only; omega)
                        · skip
                          refine a_iload 283 dX12_soonestOf_281 rfl rfl ?_
                          refine a_if_eq 318 286 dX12_soonestOf_283 (by decide) rfl (fun c283 => ?_) (fun c283 => ?_)
                          · skip
                            refine a_aload_n 319 dX12_soonestOf_318 rfl rfl ?_
                            refine a_getR 322 dX12_soonestOf_319 fX12_55 hM.1 rfl (mr_21 hM).1 rfl ?_
                            refine a_aload_n 323 dX12_soonestOf_322 rfl rfl ?_
                            refine a_getR 326 dX12_soonestOf_323 fX12_43 hM.1 rfl (mr_17 hM).1 rfl ?_
                            refine a_iload 328 dX12_soonestOf_326 rfl rfl ?_
                            refine a_ialdz (g.2.1 1017 s) 329 dX12_soonestOf_328 (mr_17 hM).2 (by omega) (by omega) rfl rfl ?_
                            refine a_ialdz (S3 (g.2.1 1017 s).toNat) 330 dX12_soonestOf_329 (mr_21 hM).2 (by omega) (by omega) rfl rfl ?_
                            exact J330 _ (by first | exact hT.yes hVs hVr (by omega) (isT h268 c283) c305 | (rw [u1_self]; exact hT.no (Or.inr c305)) | (rw [u1_self]; exact hT.no (Or.inl (isN h268 c283))))
                          · skip
                            refine a_aload_n 287 dX12_soonestOf_286 rfl rfl ?_
                            refine a_getR 290 dX12_soonestOf_287 fX12_49 hM.1 rfl (mr_19 hM).1 rfl ?_
                            refine a_iload 292 dX12_soonestOf_290 rfl rfl ?_
                            refine a_ialdz (g.2.1 1019 s) 293 dX12_soonestOf_292 (mr_19 hM).2 (by omega) (by omega) rfl rfl ?_
                            refine a_aload_n 294 dX12_soonestOf_293 rfl rfl ?_
                            refine a_getR 297 dX12_soonestOf_294 fX12_55 hM.1 rfl (mr_21 hM).1 rfl ?_
                            refine a_aload_n 298 dX12_soonestOf_297 rfl rfl ?_
                            refine a_getR 301 dX12_soonestOf_298 fX12_43 hM.1 rfl (mr_17 hM).1 rfl ?_
                            refine a_iload 303 dX12_soonestOf_301 rfl rfl ?_
                            refine a_ialdz (g.2.1 1017 s) 304 dX12_soonestOf_303 (mr_17 hM).2 (by omega) (by omega) rfl rfl ?_
                            refine a_ialdz (S3 (g.2.1 1017 s).toNat) 305 dX12_soonestOf_304 (mr_21 hM).2 (by omega) (by omega) rfl rfl ?_
                            refine a_icmp_ge 318 308 dX12_soonestOf_305 (by decide) rfl (fun c305 => ?_) (fun c305 => ?_)
                            · skip
                              refine a_aload_n 319 dX12_soonestOf_318 rfl rfl ?_
                              refine a_getR 322 dX12_soonestOf_319 fX12_55 hM.1 rfl (mr_21 hM).1 rfl ?_
                              refine a_aload_n 323 dX12_soonestOf_322 rfl rfl ?_
                              refine a_getR 326 dX12_soonestOf_323 fX12_43 hM.1 rfl (mr_17 hM).1 rfl ?_
                              refine a_iload 328 dX12_soonestOf_326 rfl rfl ?_
                              refine a_ialdz (g.2.1 1017 s) 329 dX12_soonestOf_328 (mr_17 hM).2 (by omega) (by omega) rfl rfl ?_
                              refine a_ialdz (S3 (g.2.1 1017 s).toNat) 330 dX12_soonestOf_329 (mr_21 hM).2 (by omega) (by omega) rfl rfl ?_
                              exact J330 _ (by first | exact hT.yes hVs hVr (by omega) (isT h268 c283) c305 | (rw [u1_self]; exact hT.no (Or.inr c305)) | (rw [u1_self]; exact hT.no (Or.inl (isN h268 c283))))
                            · skip
                              refine a_aload_n 309 dX12_soonestOf_308 rfl rfl ?_
                              refine a_getR 312 dX12_soonestOf_309 fX12_49 hM.1 rfl (mr_19 hM).1 rfl ?_
                              refine a_iload 314 dX12_soonestOf_312 rfl rfl ?_
                              refine a_ialdz (g.2.1 1019 s) 315 dX12_soonestOf_314 (mr_19 hM).2 (by omega) (by omega) rfl rfl ?_
                              refine a_goto 330 dX12_soonestOf_315 (by decide) ?_
                              exact J330 _ (by first | exact hT.yes hVs hVr (by omega) (isT h268 c283) c305 | (rw [u1_self]; exact hT.no (Or.inr c305)) | (rw [u1_self]; exact hT.no (Or.inl (isN h268 c283))))
                      · skip
                        refine a_aload_n 223 dX12_soonestOf_222 rfl rfl ?_
                        refine a_getR 226 dX12_soonestOf_223 fX12_40 hM.1 rfl (mr_16 hM).1 rfl ?_
                        refine a_iload 228 dX12_soonestOf_226 rfl rfl ?_
                        refine a_ialdz (g.2.1 1016 s) 229 dX12_soonestOf_228 (mr_16 hM).2 (by omega) (by omega) rfl rfl ?_
                        refine a_iload 231 dX12_soonestOf_229 rfl rfl ?_
                        refine a_icmp_ne 267 234 dX12_soonestOf_231 (by decide) rfl (fun c231 => ?_) (fun c231 => ?_)
                        · skip
                          refine a_iconst (z := 0) 268 dX12_soonestOf_267 rfl (zrl rfl) rfl ?_
                          exact J268 _ (by omega)
                        · skip
                          refine a_aload_n 235 dX12_soonestOf_234 rfl rfl ?_
                          refine a_getR 238 dX12_soonestOf_235 fX12_49 hM.1 rfl (mr_19 hM).1 rfl ?_
                          refine a_iload 240 dX12_soonestOf_238 rfl rfl ?_
                          refine a_ialdz (g.2.1 1019 s) 241 dX12_soonestOf_240 (mr_19 hM).2 (by omega) (by omega) rfl rfl ?_
                          refine a_bipush (z := (-9)) 243 dX12_soonestOf_241 rfl (zrl rfl) rfl ?_
                          refine a_icmp_eq 267 246 dX12_soonestOf_243 (by decide) rfl (fun c243 => ?_) (fun c243 => ?_)
                          · skip
                            refine a_iconst (z := 0) 268 dX12_soonestOf_267 rfl (zrl rfl) rfl ?_
                            exact J268 _ (by omega)
                          · skip
                            refine a_aload_n 247 dX12_soonestOf_246 rfl rfl ?_
                            refine a_getR 250 dX12_soonestOf_247 fX12_46 hM.1 rfl (mr_18 hM).1 rfl ?_
                            refine a_iload 252 dX12_soonestOf_250 rfl rfl ?_
                            refine a_ialdz (g.2.1 1018 s) 253 dX12_soonestOf_252 (mr_18 hM).2 (by omega) (by omega) rfl rfl ?_
                            refine a_aload_n 254 dX12_soonestOf_253 rfl rfl ?_
                            refine a_getR 257 dX12_soonestOf_254 fX12_55 hM.1 rfl (mr_21 hM).1 rfl ?_
                            refine a_iload 259 dX12_soonestOf_257 rfl rfl ?_
                            refine a_ialdz (S3 a) 260 dX12_soonestOf_259 (mr_21 hM).2 (by omega) (by omega) rfl rfl ?_
                            refine a_icmp_lt 267 263 dX12_soonestOf_260 (by decide) rfl (fun c260 => ?_) (fun c260 => ?_)
                            · skip
                              refine a_iconst (z := 0) 268 dX12_soonestOf_267 rfl (zrl rfl) rfl ?_
                              exact J268 _ (by omega)
                            · skip
                              refine a_iconst (z := 1) 264 dX12_soonestOf_263 rfl (zrl rfl) rfl ?_
                              refine a_goto 268 dX12_soonestOf_264 (by decide) ?_
                              exact J268 _ (by omega)
                  · have e6 : w = 6 := by omega
                    subst e6
                    exact ⟨S2, rfl, by dsimp only; omega, hQ, fun k hk => absurd hk (Nat.not_lt_zero k)⟩
                · skip
                  have hr9 := hVr (6 * a + w) (by omega)
                  have hq2 := hQ.1.1.1 w (by omega)
                  refine a_aload_n 136 dX12_soonestOf_135 rfl rfl ?_
                  refine a_getR 139 dX12_soonestOf_136 fX12_52 hM.1 rfl (mr_20 hM).1 rfl ?_
                  refine a_bipush (z := 6) 141 dX12_soonestOf_139 rfl (zrl rfl) rfl ?_
                  refine a_iload 143 dX12_soonestOf_141 rfl rfl ?_
                  refine a_imul 144 dX12_soonestOf_143 (by unfold zr; omega) rfl ?_
                  refine a_iload 146 dX12_soonestOf_144 rfl rfl ?_
                  refine a_iadd 147 dX12_soonestOf_146 (by unfold zr; omega) rfl ?_
                  refine a_ialdz (g.2.1 1020 (6 * a + w)) 148 dX12_soonestOf_147 (mr_20 hM).2 (by omega) (by omega) rfl rfl ?_
                  refine a_istore 150 dX12_soonestOf_148 (by decide) rfl rfl ?_
                  refine a_aload_n 151 dX12_soonestOf_150 rfl rfl ?_
                  refine a_getR 154 dX12_soonestOf_151 fX12_55 hM.1 rfl (mr_21 hM).1 rfl ?_
                  refine a_iload 156 dX12_soonestOf_154 rfl rfl ?_
                  refine AW.cut (J := 203) (P := fun z => rdB g.2.1 f.toNat d (u1 Dn a 1) a (w + 1) (u1 S2 w z)) ?_ (fun J203 => ?_)
                  · intro z203 h203
                    refine a_iast 204 dX12_soonestOf_203 (mr_21 hM).2 (by omega) (by omega) rfl ?_
                    refine a_iinc 207 dX12_soonestOf_204 rfl (by unfold zr; omega) (by decide) rfl rfl ?_
                    refine a_goto 128 dX12_soonestOf_207 (by decide) ?_
                    refine AW.kill 7 ?_
                    rw [gSD_S, Int.toNat_natCast]
                    exact ih128 (_, w + 1) ⟨_, rfl, by omega, h203⟩ (by dsimp only; omega)
                  · skip
                    refine a_iload 158 dX12_soonestOf_156 rfl rfl ?_
                    refine a_bipush (z := (-9)) 160 dX12_soonestOf_158 rfl (zrl rfl) rfl ?_
                    refine a_icmp_eq 196 163 dX12_soonestOf_160 (by decide) rfl (fun c160 => ?_) (fun c160 => ?_)
                    · skip
                      refine a_aload_n 197 dX12_soonestOf_196 rfl rfl ?_
                      refine a_getR 200 dX12_soonestOf_197 fX12_55 hM.1 rfl (mr_21 hM).1 rfl ?_
                      refine a_iload 202 dX12_soonestOf_200 rfl rfl ?_
                      refine a_ialdz (S2 w) 203 dX12_soonestOf_202 (mr_21 hM).2 (by omega) (by omega) rfl rfl ?_
                      exact J203 _ (by first | exact hQ.yes hVs hVr (by omega) c160 c180 | (rw [u1_self]; exact hQ.no (Or.inr c180)) | (rw [u1_self]; exact hQ.no (Or.inl c160)))
                    · skip
                      refine a_aload_n 164 dX12_soonestOf_163 rfl rfl ?_
                      refine a_getR 167 dX12_soonestOf_164 fX12_55 hM.1 rfl (mr_21 hM).1 rfl ?_
                      refine a_iload 169 dX12_soonestOf_167 rfl rfl ?_
                      refine a_ialdz (S2 a) 170 dX12_soonestOf_169 (mr_21 hM).2 (by omega) (by omega) rfl rfl ?_
                      refine a_iload 172 dX12_soonestOf_170 rfl rfl ?_
                      refine a_iadd 173 dX12_soonestOf_172 (by unfold zr; omega) rfl ?_
                      refine a_aload_n 174 dX12_soonestOf_173 rfl rfl ?_
                      refine a_getR 177 dX12_soonestOf_174 fX12_55 hM.1 rfl (mr_21 hM).1 rfl ?_
                      refine a_iload 179 dX12_soonestOf_177 rfl rfl ?_
                      refine a_ialdz (S2 w) 180 dX12_soonestOf_179 (mr_21 hM).2 (by omega) (by omega) rfl rfl ?_
                      refine a_icmp_ge 196 183 dX12_soonestOf_180 (by decide) rfl (fun c180 => ?_) (fun c180 => ?_)
                      · skip
                        refine a_aload_n 197 dX12_soonestOf_196 rfl rfl ?_
                        refine a_getR 200 dX12_soonestOf_197 fX12_55 hM.1 rfl (mr_21 hM).1 rfl ?_
                        refine a_iload 202 dX12_soonestOf_200 rfl rfl ?_
                        refine a_ialdz (S2 w) 203 dX12_soonestOf_202 (mr_21 hM).2 (by omega) (by omega) rfl rfl ?_
                        exact J203 _ (by first | exact hQ.yes hVs hVr (by omega) c160 c180 | (rw [u1_self]; exact hQ.no (Or.inr c180)) | (rw [u1_self]; exact hQ.no (Or.inl c160)))
                      · skip
                        refine a_aload_n 184 dX12_soonestOf_183 rfl rfl ?_
                        refine a_getR 187 dX12_soonestOf_184 fX12_55 hM.1 rfl (mr_21 hM).1 rfl ?_
                        refine a_iload 189 dX12_soonestOf_187 rfl rfl ?_
                        refine a_ialdz (S2 a) 190 dX12_soonestOf_189 (mr_21 hM).2 (by omega) (by omega) rfl rfl ?_
                        refine a_iload 192 dX12_soonestOf_190 rfl rfl ?_
                        refine a_iadd 193 dX12_soonestOf_192 (by unfold zr; omega) rfl ?_
                        refine a_goto 203 dX12_soonestOf_193 (by decide) ?_
                        exact J203 _ (by first | exact hQ.yes hVs hVr (by omega) c160 c180 | (rw [u1_self]; exact hQ.no (Or.inr c180)) | (rw [u1_self]; exact hQ.no (Or.inl c160)))
              · exact ⟨S, by dsimp only; rw [gSD_D, Int.toNat_natCast], Nat.zero_le _, hA, fun k hk => absurd hk (Nat.not_lt_zero k)⟩
            · skip
              refine AW.cut (J := 109) (P := fun z => pkB S Dn (t + 1) z) ?_ (fun J109 => ?_)
              · intro z109 h109
                refine a_istore 111 dX12_soonestOf_109 (by decide) rfl rfl ?_
                refine a_iinc 114 dX12_soonestOf_111 rfl (by unfold zr; omega) (by decide) rfl rfl ?_
                refine a_goto 61 dX12_soonestOf_114 (by decide) ?_
                exact ih61 (t + 1, _) ⟨by omega, h109⟩ (by dsimp only; omega)
              · skip
                refine a_aload_n 69 dX12_soonestOf_68 rfl rfl ?_
                refine a_getR 72 dX12_soonestOf_69 fX12_58 hM.1 rfl (mr_22 hM).1 rfl ?_
                refine a_iload 74 dX12_soonestOf_72 rfl rfl ?_
                refine a_zaldz (Dn t) 75 dX12_soonestOf_74 (mr_22 hM).2 (by omega) (by omega) rfl rfl ?_
                refine a_if_ne 107 78 dX12_soonestOf_75 (by decide) rfl (fun c75 => ?_) (fun c75 => ?_)
                · skip
                  refine a_iload 109 dX12_soonestOf_107 rfl rfl ?_
                  exact J109 _ (by first | exact hP.less c82 c75 c99 | exact hP.fst hD (by omega) c82 c75 | exact hP.keep c82 c99 | exact hP.skip (by have := hD t (by omega); omega))
                · skip
                  refine a_iload 80 dX12_soonestOf_78 rfl rfl ?_
                  refine a_bipush (z := (-9)) 82 dX12_soonestOf_80 rfl (zrl rfl) rfl ?_
                  refine a_icmp_eq 102 85 dX12_soonestOf_82 (by decide) rfl (fun c82 => ?_) (fun c82 => ?_)
                  · skip
                    refine a_iload 104 dX12_soonestOf_102 rfl rfl ?_
                    refine a_goto 109 dX12_soonestOf_104 (by decide) ?_
                    exact J109 _ (by first | exact hP.less c82 c75 c99 | exact hP.fst hD (by omega) c82 c75 | exact hP.keep c82 c99 | exact hP.skip (by have := hD t (by omega); omega))
                  · skip
                    refine a_aload_n 86 dX12_soonestOf_85 rfl rfl ?_
                    refine a_getR 89 dX12_soonestOf_86 fX12_55 hM.1 rfl (mr_21 hM).1 rfl ?_
                    refine a_iload 91 dX12_soonestOf_89 rfl rfl ?_
                    refine a_ialdz (S t) 92 dX12_soonestOf_91 (mr_21 hM).2 (by omega) (by omega) rfl rfl ?_
                    refine a_aload_n 93 dX12_soonestOf_92 rfl rfl ?_
                    refine a_getR 96 dX12_soonestOf_93 fX12_55 hM.1 rfl (mr_21 hM).1 rfl ?_
                    refine a_iload 98 dX12_soonestOf_96 rfl rfl ?_
                    refine a_ialdz (S a9.toNat) 99 dX12_soonestOf_98 (mr_21 hM).2 (by rcases hP with ⟨z, -⟩ | z <;> omega) (by rcases hP with ⟨z, -⟩ | z <;> omega) rfl rfl ?_
                    refine a_icmp_ge 107 102 dX12_soonestOf_99 (by decide) rfl (fun c99 => ?_) (fun c99 => ?_)
                    · skip
                      refine a_iload 109 dX12_soonestOf_107 rfl rfl ?_
                      exact J109 _ (by first | exact hP.less c82 c75 c99 | exact hP.fst hD (by omega) c82 c75 | exact hP.keep c82 c99 | exact hP.skip (by have := hD t (by omega); omega))
                    · skip
                      refine a_iload 104 dX12_soonestOf_102 rfl rfl ?_
                      refine a_goto 109 dX12_soonestOf_104 (by decide) ?_
                      exact J109 _ (by first | exact hP.less c82 c75 c99 | exact hP.fst hD (by omega) c82 c75 | exact hP.keep c82 c99 | exact hP.skip (by have := hD t (by omega); omega))
          · exact ⟨Nat.zero_le _, Or.inl ⟨rfl, fun k hk => absurd hk (Nat.not_lt_zero k)⟩⟩
      · have e6 : t = 6 := by omega
        subst e6
        refine ⟨S, Dn, rfl, Nat.zero_le _, dkI.start hd (by omega) (fun k hk => (hS k hk).1) (fun k hk => (hS k hk).2), ?_⟩
        rw [cnt_congr (Q := fun _ => False) (fun k hk => by rw [Int.toNat_natCast, (hS k hk).2]; simp)]
        show cnt _ 6 = 0
        simp [cnt, ci]
    · skip
      refine a_aload_n 11 dX12_soonestOf_10 rfl rfl ?_
      refine a_getR 14 dX12_soonestOf_11 fX12_55 hM.1 rfl (mr_21 hM).1 rfl ?_
      refine a_iload 16 dX12_soonestOf_14 rfl rfl ?_
      refine AW.cut (J := 29) (P := fun z => z = (if t = f.toNat then d else 1000)) ?_ (fun J29 => ?_)
      · intro z29 h29
        refine a_iast 30 dX12_soonestOf_29 (mr_21 hM).2 (by omega) (by omega) rfl ?_
        refine a_aload_n 31 dX12_soonestOf_30 rfl rfl ?_
        refine a_getR 34 dX12_soonestOf_31 fX12_58 hM.1 rfl (mr_22 hM).1 rfl ?_
        refine a_iload 36 dX12_soonestOf_34 rfl rfl ?_
        refine a_iconst (z := 0) 37 dX12_soonestOf_36 rfl (zrl rfl) rfl ?_
        refine a_zast 38 dX12_soonestOf_37 (mr_22 hM).2 (by omega) (by omega) (Or.inl rfl) rfl ?_
        refine a_iinc 41 dX12_soonestOf_38 rfl (by unfold zr; omega) (by decide) rfl rfl ?_
        refine a_goto 3 dX12_soonestOf_41 (by decide) ?_
        rw [gSD_S, gSD_D, Int.toNat_natCast]
        refine ih3 (_, t + 1) ⟨_, _, rfl, by omega, fun k hk => ?_⟩ (by dsimp only; omega)
        by_cases e : k = t
        · subst e; rw [u1_s, u1_s]; exact ⟨h29, rfl⟩
        · rw [u1_n e, u1_n e]; exact hS k (by dsimp only at hk; omega)
      · skip
        refine a_iload 18 dX12_soonestOf_16 rfl rfl ?_
        refine a_iload_n 19 dX12_soonestOf_18 rfl rfl ?_
        refine a_icmp_ne 26 22 dX12_soonestOf_19 (by decide) rfl (fun c19 => ?_) (fun c19 => ?_)
        · skip
          refine a_sipush (z := 1000) 29 dX12_soonestOf_26 rfl (zrl rfl) rfl ?_
          exact J29 _ (by first | (rw [if_pos (by omega)]) | (rw [if_neg (by omega)]))
        · skip
          refine a_iload_n 23 dX12_soonestOf_22 rfl rfl ?_
          refine a_goto 29 dX12_soonestOf_23 (by decide) ?_
          exact J29 _ (by first | (rw [if_pos (by omega)]) | (rw [if_neg (by omega)]))
  · exact ⟨_, _, gSD_self g, Nat.zero_le _, fun k hk => absurd hk (Nat.not_lt_zero k)⟩
