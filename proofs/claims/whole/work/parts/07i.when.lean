def lX (a k : Nat) : Prop := iX a k ∨ a = 1026
theorem lX_scr : ∀ a k, lX a k → scr a k := by unfold lX iX scr; omega
theorem iX_lX : ∀ a k, iX a k → lX a k := fun _ _ h => Or.inl h
noncomputable def whenR (h : Nat → Nat → Int) (c D i l : Int) : Int := if ¬ (0 ≤ l ∧ l ≤ 1) then -1 else if ¬ okCD c D then -1 else if 10 < (WS h c D).length then -2 else if ¬ (0 ≤ i ∧ i ≤ (WS h c D).length - 1) then -1 else if (gst h (wk h c D) 0 (WS h c D).length).2.2 ≠ -9 then -9 else if l = 1 then lastJ h (wk h c D) (WS h c D).length ((WS h c D).length - 1 - i.toNat) else fsV h (wk h c D) i.toNat
/-- the last days from k on stand in the row -/
def lsB (h : Nat → Nat → Int) (w : Nat → Int) (n : Nat) (k : Int) (F : Nat → Int) : Prop := ∀ j : Nat, k < j → j < n → F j = lastJ h w n (n - 1 - j) ∧ fsV h w j ≤ lastJ h w n (n - 1 - j) ∧ lastJ h w n (n - 1 - j) ≤ 999
/-- the search for the last day of k stands at d -/
def seB (h : Nat → Nat → Int) (w : Nat → Int) (n k : Nat) (d e : Int) : Prop := (e = 0 ∨ e = 1) ∧ (fsV h w k ≤ d ∧ d ≤ 999) ∧ (∀ x, d < x → x ≤ 999 → ¬ okD h w n k x) ∧ (e = 0 → okD h w n k d)
theorem seB.down {h : Nat → Nat → Int} {w : Nat → Int} {n k : Nat} {d e : Int} (q : seB h w n k d e) (ho : okD h w n k (fsV h w k)) (hn : ¬ okD h w n k d) : seB h w n k (d - 1) 1 := by
  obtain ⟨q1, q2, q3, q4⟩ := q
  have : fsV h w k ≠ d := fun z => hn (z ▸ ho)
  refine ⟨Or.inr rfl, by omega, fun x h1 h2 => ?_, fun z => by omega⟩
  by_cases e : x = d
  · rw [e]; exact hn
  · exact q3 x (by omega) h2
theorem seB.stop {h : Nat → Nat → Int} {w : Nat → Int} {n k : Nat} {d e : Int} (q : seB h w n k d e) (hn : okD h w n k d) : seB h w n k d 0 := ⟨Or.inl rfl, q.2.1, q.2.2.1, fun _ => hn⟩
theorem seB.end {h : Nat → Nat → Int} {w : Nat → Int} {n k : Nat} {d : Int} (hk : k < n) (h0 : 0 ≤ fsV h w k) (q : seB h w n k d 0) : d = lastJ h w n (n - 1 - k) := by
  rw [lastJ_eq hk]
  exact ldV_eq ⟨⟨by have := q.2.1; omega, q.2.1.2⟩, q.2.2.2 rfl, q.2.2.1⟩
set_option maxHeartbeats 4000000 in
set_option maxRecDepth 100000 in
theorem r_when (g : GH) (c D i l : Int) (hM : MR g) (hV : MV g.2.1) : AMet mX12_when g [vA 1000, vI c, vI D, vI i, vI l] (fun r g' => r = vI (whenR (gI g 1000 0 0).2.1 c D i l) ∧ Keep (gI g 1000 0 0) g') := by
  refine AMet.of [vA 1000, vI c, vI D, vI i, vI l, none, none, none, none] (by decide) rfl (Nat.le_of_ble_eq_true rfl) ?_
  refine a_aload_n 1 dX12_when_0 rfl rfl ?_
  refine a_iconst (z := 0) 2 dX12_when_1 rfl (zrl rfl) rfl ?_
  refine a_putI 5 dX12_when_2 fX12_80 (Or.inl rfl) hM.1 (Or.inl rfl) rfl ?_
  have hM : MR (gI g 1000 0 0) := hM
  have hV : MV (gI g 1000 0 0).2.1 := MV_th hV
  have hc := hV.1
  unfold MVc at hc
  generalize gI g 1000 0 0 = g1 at hM hV hc ⊢
  refine a_iload 7 dX12_when_5 rfl rfl ?_
  refine a_iconst (z := 0) 8 dX12_when_7 rfl (zrl rfl) rfl ?_
  refine a_iconst (z := 1) 9 dX12_when_8 rfl (zrl rfl) rfl ?_
  refine a_callS 12 (r_in _ _ _ _) cdX12_in lX12_84 dX12_when_9 rfl rfl ⟨by decide, by decide, rfl, rfl⟩ ⟨Nat.zero_le _, Nat.zero_le _⟩ (Nat.le_of_ble_eq_true rfl) rfl ?_
  rintro _ _ - ⟨b9, rfl, rfl, h9⟩ -
  refine a_if_ne 17 15 dX12_when_12 (by decide) rfl (fun c12 => ?_) (fun c12 => ?_)
  · skip
    refine a_aload_n 18 dX12_when_17 rfl rfl ?_
    refine a_iload_n 19 dX12_when_18 rfl rfl ?_
    refine a_iload_n 20 dX12_when_19 rfl rfl ?_
    refine a_callV 23 (r_refuses _ _ _ hM hV) cdX12_refuses lX12_159 dX12_when_20 rfl hM.1 rfl ⟨by decide, by decide, rfl, rfl⟩ ⟨Nat.zero_le _, Nat.zero_le _⟩ (Nat.le_of_ble_eq_true rfl) rfl ?_
    rintro r20 g20 - ref20 -
    obtain ⟨rv, rfl, hrv⟩ : ∃ rv, r20 = vI rv ∧ ((¬ okCD c D ∧ rv = -1 ∧ g20 = g1) ∨ (okCD c D ∧ sameB wX g1 g20 ∧ wayB g1.2.1 c D g20.2.1 ∧ ((10 < (WS g1.2.1 c D).length ∧ rv = -2) ∨ ((WS g1.2.1 c D).length ≤ 10 ∧ rv = 0)))) := by
      rcases ref20 with ⟨z1, z2, z3⟩ | ⟨z1, z2, z3, ⟨z4, z5⟩ | ⟨z4, z5⟩⟩
      · exact ⟨_, z2, Or.inl ⟨z1, rfl, z3⟩⟩
      · exact ⟨_, z5, Or.inr ⟨z1, z2, z3, Or.inl ⟨z4, rfl⟩⟩⟩
      · exact ⟨_, z5, Or.inr ⟨z1, z2, z3, Or.inr ⟨z4, rfl⟩⟩⟩
    have hk0 : sameB wX g1 g20 := by
      rcases hrv with ⟨-, -, z3⟩ | ⟨-, z2, -⟩
      · rw [z3]; exact sameB.rf
      · exact z2
    clear ref20
    refine a_istore 25 dX12_when_23 (by decide) rfl rfl ?_
    refine a_iload 27 dX12_when_25 rfl rfl ?_
    refine a_if_ge 33 30 dX12_when_27 (by decide) rfl (fun c27 => ?_) (fun c27 => ?_)
    · skip
      have hok : okCD c D ∧ wayB g1.2.1 c D g20.2.1 ∧ (WS g1.2.1 c D).length ≤ 10 := by
        rcases hrv with ⟨-, z2, -⟩ | ⟨z1, z2, z3, ⟨z4, z5⟩ | ⟨z4, z5⟩⟩
        · omega
        · omega
        · exact ⟨z1, z3, z4⟩
      have hh0 := hk0.hk wX_scr
      have hwo := wOK_of hok.2.1 hh0 hok.2.2
      have hV0 := MV_keep wX_scr hk0 hV
      refine a_iload_n 34 dX12_when_33 rfl rfl ?_
      refine a_iconst (z := 0) 35 dX12_when_34 rfl (zrl rfl) rfl ?_
      refine a_aload_n 36 dX12_when_35 rfl rfl ?_
      refine a_getIz (((WS g1.2.1 c D).length : Int)) 39 dX12_when_36 fX12_146 (hk0.MR hM).1 rfl hok.2.1.1 rfl ?_
      refine a_iconst (z := 1) 40 dX12_when_39 rfl (zrl rfl) rfl ?_
      refine a_isub 41 dX12_when_40 (by unfold zr; omega) rfl ?_
      refine a_callS 44 (r_in _ _ _ _) cdX12_in lX12_84 dX12_when_41 rfl rfl ⟨by decide, by decide, rfl, rfl⟩ ⟨Nat.zero_le _, Nat.zero_le _⟩ (Nat.le_of_ble_eq_true rfl) rfl ?_
      rintro _ _ - ⟨b41, rfl, rfl, h41⟩ -
      refine a_if_ne 49 47 dX12_when_44 (by decide) rfl (fun c44 => ?_) (fun c44 => ?_)
      · skip
        refine a_aload_n 50 dX12_when_49 rfl rfl ?_
        refine a_iconst (z := 0) 51 dX12_when_50 rfl (zrl rfl) rfl ?_
        refine a_callV 54 (r_isGoing _ _ _ _ (hk0.MR hM) hV0 hwo (by omega)) cdX12_isGoing lX12_162 dX12_when_51 rfl (hk0.MR hM).1 rfl ⟨by decide, by decide, rfl, rfl⟩ ⟨Nat.zero_le _, Nat.zero_le _⟩ (Nat.le_of_ble_eq_true rfl) rfl ?_
        rintro _ g51 - ⟨⟨b51, rfl, h51⟩, hk51, hb51, hf51⟩ -
        rw [hh0.gst] at h51 hb51 hf51
        refine a_if_ne 60 57 dX12_when_54 (by decide) rfl (fun c54 => ?_) (fun c54 => ?_)
        · skip
          have hgo := isT h51 c54
          have hfs := hf51 hgo
          have hM51 : MR g1 → MR g51 := fun z => hk51.MR (hk0.MR z)
          have hh51 := hh0.tr (hk51.hk iX_scr)
          have hV51 := MV_keep iX_scr hk51 hV0
          have hw51 := hwo.keep hk51
          have htw : ∀ j, j < (WS g1.2.1 c D).length → 0 ≤ twn g1.2.1 (wk g1.2.1 c D j) ∧ twn g1.2.1 (wk g1.2.1 c D j) ≤ 5 := fun j hj => by
            have := wk_ok hj; exact twn_b hV ⟨this.1, this.2.1⟩ this.2.2
          have hgk := going_ok hV htw hgo
          refine a_aload_n 61 dX12_when_60 rfl rfl ?_
          refine a_getIz (((WS g1.2.1 c D).length : Int)) 64 dX12_when_61 fX12_146 (hk51.MR (hk0.MR hM)).1 rfl ((hk51.2.2 1000 23 (by unfold iX; omega)).trans hok.2.1.1) rfl ?_
          refine a_iconst (z := 1) 65 dX12_when_64 rfl (zrl rfl) rfl ?_
          refine a_isub 66 dX12_when_65 (by unfold zr; omega) rfl ?_
          refine a_istore 68 dX12_when_66 (by decide) rfl rfl ?_
          refine AW.loop (α := GH × Int) (fun p => (p.2 + 1 - i).toNat) (fun p => sameB lX g51 p.1 ∧ p.1.2.1 1025 = g51.2.1 1025 ∧ (i - 1 ≤ p.2 ∧ p.2 ≤ (WS g1.2.1 c D).length - 1) ∧ lsB g1.2.1 (wk g1.2.1 c D) (WS g1.2.1 c D).length p.2 (p.1.2.1 1026)) (fun p => p.1) (fun p => [vA 1000, vI c, vI D, vI i, vI l, vI rv, vI p.2, none, none]) (fun p => []) ?_ (g51, ((WS g1.2.1 c D).length : Int) - 1) ?_
          · rintro ⟨g2, k0⟩ ⟨hk2, hr2, hI, hls⟩ ih68
            try dsimp only at hI ih ⊢
            try dsimp only at hk2 hr2 hI hls ih68 ⊢
            refine a_iload 70 dX12_when_68 rfl rfl ?_
            refine a_iload_n 71 dX12_when_70 rfl rfl ?_
            refine a_icmp_lt 196 74 dX12_when_71 (by decide) rfl (fun c71 => ?_) (fun c71 => ?_)
            · skip
              refine a_iload 198 dX12_when_196 rfl rfl ?_
              refine a_iconst (z := 1) 199 dX12_when_198 rfl (zrl rfl) rfl ?_
              refine a_icmp_ne 211 202 dX12_when_199 (by decide) rfl (fun c199 => ?_) (fun c199 => ?_)
              · skip
                refine a_aload_n 212 dX12_when_211 rfl rfl ?_
                refine a_getR 215 dX12_when_212 fX12_65 (hk2.MR (hM51 hM)).1 rfl (mr_25 (hk2.MR (hM51 hM))).1 rfl ?_
                refine a_iload_n 216 dX12_when_215 rfl rfl ?_
                refine a_ialdz (fsV g1.2.1 (wk g1.2.1 c D) i.toNat) 217 dX12_when_216 (mr_25 (hk2.MR (hM51 hM))).2 (by omega) (by omega) ((congrFun hr2 i.toNat).trans ((hfs i.toNat (by omega) (by simp)).trans (by rw [hh0.gst]; rfl))) rfl ?_
                refine a_ireturn dX12_when_217 rfl ⟨Nat.zero_le _, Nat.zero_le _⟩ ?_
                refine ⟨congrArg vI ?_, ((hk0.mono wX_scr).tr (hk51.mono iX_scr)).tr (hk2.mono lX_scr)⟩
                unfold whenR
                rw [if_neg (by omega), if_neg (fun z => z hok.1), if_neg (by omega), if_neg (by omega), if_neg (fun z => z hgo)]
                first | rw [if_pos (by omega)] | rw [if_neg (by omega)]
              · skip
                refine a_aload_n 203 dX12_when_202 rfl rfl ?_
                refine a_getR 206 dX12_when_203 fX12_68 (hk2.MR (hM51 hM)).1 rfl (mr_26 (hk2.MR (hM51 hM))).1 rfl ?_
                refine a_iload_n 207 dX12_when_206 rfl rfl ?_
                refine a_ialdz (lastJ g1.2.1 (wk g1.2.1 c D) (WS g1.2.1 c D).length ((WS g1.2.1 c D).length - 1 - i.toNat)) 208 dX12_when_207 (mr_26 (hk2.MR (hM51 hM))).2 (by omega) (by omega) (hls i.toNat (by omega) (by omega)).1 rfl ?_
                refine a_goto 217 dX12_when_208 (by decide) ?_
                refine a_ireturn dX12_when_217 rfl ⟨Nat.zero_le _, Nat.zero_le _⟩ ?_
                refine ⟨congrArg vI ?_, ((hk0.mono wX_scr).tr (hk51.mono iX_scr)).tr (hk2.mono lX_scr)⟩
                unfold whenR
                rw [if_neg (by omega), if_neg (fun z => z hok.1), if_neg (by omega), if_neg (by omega), if_neg (fun z => z hgo)]
                first | rw [if_pos (by omega)] | rw [if_neg (by omega)]
            · skip
              obtain ⟨k, rfl⟩ : ∃ kk : Nat, k0 = kk := ⟨k0.toNat, by omega⟩
              have hkn : k < (WS g1.2.1 c D).length := by omega
              have hgk0 := hgk k hkn
              have hok0 : okD g1.2.1 (wk g1.2.1 c D) (WS g1.2.1 c D).length k (fsV g1.2.1 (wk g1.2.1 c D) k) := by
                refine ⟨hgk0.2.1, ?_⟩
                by_cases e : k + 1 = (WS g1.2.1 c D).length
                · exact Or.inl e
                · right
                  have z1 := hgk0.2.2 (by omega)
                  have z2 := hls (k + 1) (by omega) (by omega)
                  omega
              have hse : seB g1.2.1 (wk g1.2.1 c D) (WS g1.2.1 c D).length k 999 1 := ⟨Or.inr rfl, ⟨hgk0.1.2, Int.le_refl _⟩, fun x h1 h2 => by omega, fun z => by omega⟩
              have hwk := hw51.2.2 k hkn
              rw [hh51.cnt (by omega), hh51.row (a := 1014) (by omega)] at hwk
              refine a_sipush (z := 999) 77 dX12_when_74 rfl (zrl rfl) rfl ?_
              refine a_istore 79 dX12_when_77 (by decide) rfl rfl ?_
              refine a_iconst (z := 1) 80 dX12_when_79 rfl (zrl rfl) rfl ?_
              refine a_istore 82 dX12_when_80 (by decide) rfl rfl ?_
              refine AW.loop (α := GH × Int × Int) (fun p => (2 * p.2.1 + p.2.2).toNat) (fun p => sameB lX g51 p.1 ∧ p.1.2.1 1025 = g51.2.1 1025 ∧ p.1.2.1 1026 = g2.2.1 1026 ∧ seB g1.2.1 (wk g1.2.1 c D) (WS g1.2.1 c D).length k p.2.1 p.2.2) (fun p => p.1) (fun p => [vA 1000, vI c, vI D, vI i, vI l, vI rv, vI (k : Int), vI p.2.1, vI p.2.2]) (fun p => []) ?_ (g2, 999, 1) ?_
              · rintro ⟨g3, d, e⟩ ⟨h3s, h3a, h3b, hsd⟩ ih82
                try dsimp only at hI ih ⊢
                try dsimp only at h3s h3a h3b hsd ih82 ⊢
                have hk3M : MR g1 → MR g3 := fun z => h3s.MR (hM51 z)
                have hh3 := hh51.tr (h3s.hk lX_scr)
                have hV3 := MV_keep lX_scr h3s hV51
                have hse1 := hsd.1
                have hse2 := hsd.2.1
                refine a_iload 84 dX12_when_82 rfl rfl ?_
                refine a_if_eq 181 87 dX12_when_84 (by decide) rfl (fun c84 => ?_) (fun c84 => ?_)
                · skip
                  refine a_aload_n 182 dX12_when_181 rfl rfl ?_
                  refine a_getR 185 dX12_when_182 fX12_68 (h3s.MR (hM51 hM)).1 rfl (mr_26 (h3s.MR (hM51 hM))).1 rfl ?_
                  refine a_iload 187 dX12_when_185 rfl rfl ?_
                  refine a_iload 189 dX12_when_187 rfl rfl ?_
                  refine a_iast 190 dX12_when_189 (mr_26 (h3s.MR (hM51 hM))).2 (by omega) (by omega) rfl ?_
                  refine a_iinc 193 dX12_when_190 rfl (by unfold zr; omega) (by decide) rfl rfl ?_
                  refine a_goto 68 dX12_when_193 (by decide) ?_
                  refine AW.kill 7 (AW.kill 8 ?_)
                  have hend := seB.end hkn hgk0.1.1 (by have q := hsd; rw [c84] at q; exact q)
                  refine ih68 (gI g3 1026 (k : Int).toNat d, _) ⟨h3s.wr (Or.inr rfl), ?_, by dsimp only; omega, fun j h1 h2 => ?_⟩ (by dsimp only; omega)
                  · dsimp only; rw [← h3a]; funext z; exact gI_n (Or.inl (by decide))
                  · dsimp only at h1 ⊢
                    by_cases e9 : j = k
                    · subst e9
                      have := hsd.2.1
                      rw [Int.toNat_natCast, gI_s, ← hend]
                      exact ⟨rfl, this⟩
                    · rw [gI_n (Or.inr (by omega)), h3b]; exact hls j (by omega) h2
                · skip
                  refine AW.cutG (J := 161) (P := fun z g' => sameB lX g51 g' ∧ g'.2.1 1025 = g51.2.1 1025 ∧ g'.2.1 1026 = g2.2.1 1026 ∧ isb z (¬ okD g1.2.1 (wk g1.2.1 c D) (WS g1.2.1 c D).length k d)) ?_ (fun J161 => ?_)
                  · intro z161 g161 h161
                    refine a_istore 163 dX12_when_161 (by decide) rfl rfl ?_
                    refine a_iload 165 dX12_when_163 rfl rfl ?_
                    refine a_iload 167 dX12_when_165 rfl rfl ?_
                    refine a_if_eq 174 170 dX12_when_167 (by decide) rfl (fun c167 => ?_) (fun c167 => ?_)
                    · skip
                      refine a_iconst (z := 0) 175 dX12_when_174 rfl (zrl rfl) rfl ?_
                      refine a_isub 176 dX12_when_175 (by unfold zr; omega) rfl ?_
                      refine a_istore 178 dX12_when_176 (by decide) rfl rfl ?_
                      refine a_goto 82 dX12_when_178 (by decide) ?_
                      first
                      | (have hz : z161 = 0 := c167
                         subst hz
                         rw [show d - 0 = d by omega]
                         exact ih82 (g161, d, 0) ⟨h161.1, h161.2.1, h161.2.2.1, hsd.stop (Classical.not_not.mp (isN h161.2.2.2 rfl))⟩ (by dsimp only; omega))
                      | (have hz : z161 = 1 := by rcases h161.2.2.2 with z | z <;> omega
                         subst hz
                         exact ih82 (g161, d - 1, 1) ⟨h161.1, h161.2.1, h161.2.2.1, hsd.down hok0 (isT h161.2.2.2 (by decide))⟩ (by dsimp only; omega))
                    · skip
                      refine a_iconst (z := 1) 171 dX12_when_170 rfl (zrl rfl) rfl ?_
                      refine a_goto 175 dX12_when_171 (by decide) ?_
                      refine a_isub 176 dX12_when_175 (by unfold zr; omega) rfl ?_
                      refine a_istore 178 dX12_when_176 (by decide) rfl rfl ?_
                      refine a_goto 82 dX12_when_178 (by decide) ?_
                      first
                      | (have hz : z161 = 0 := c167
                         subst hz
                         rw [show d - 0 = d by omega]
                         exact ih82 (g161, d, 0) ⟨h161.1, h161.2.1, h161.2.2.1, hsd.stop (Classical.not_not.mp (isN h161.2.2.2 rfl))⟩ (by dsimp only; omega))
                      | (have hz : z161 = 1 := by rcases h161.2.2.2 with z | z <;> omega
                         subst hz
                         exact ih82 (g161, d - 1, 1) ⟨h161.1, h161.2.1, h161.2.2.1, hsd.down hok0 (isT h161.2.2.2 (by decide))⟩ (by dsimp only; omega))
                  · skip
                    refine a_aload_n 88 dX12_when_87 rfl rfl ?_
                    refine a_aload_n 89 dX12_when_88 rfl rfl ?_
                    refine a_getR 92 dX12_when_89 fX12_62 (h3s.MR (hM51 hM)).1 rfl (mr_24 (h3s.MR (hM51 hM))).1 rfl ?_
                    refine a_iload 94 dX12_when_92 rfl rfl ?_
                    refine a_ialdz ((wk g1.2.1 c D) k) 95 dX12_when_94 (mr_24 (h3s.MR (hM51 hM))).2 (by omega) (by omega) ((h3s.2.2 1024 k (by unfold lX iX; omega)).trans hwk.1) rfl ?_
                    refine a_iload 97 dX12_when_95 rfl rfl ?_
                    refine a_callV 100 (r_canBe _ _ _ (hk3M hM) hV3 (by rw [hh3.cnt (by omega)]; exact hwk.2.1) (by omega)) cdX12_canBe lX12_128 dX12_when_97 rfl (h3s.MR (hM51 hM)).1 rfl ⟨by decide, by decide, rfl, rfl⟩ ⟨Nat.zero_le _, Nat.zero_le _⟩ (Nat.le_of_ble_eq_true rfl) rfl ?_
                    rintro _ _ - ⟨b97, rfl, rfl, h97⟩ -
                    rw [hh3.canB] at h97
                    refine a_if_eq 156 103 dX12_when_100 (by decide) rfl (fun c100 => ?_) (fun c100 => ?_)
                    · skip
                      refine a_iconst (z := 1) 157 dX12_when_156 rfl (zrl rfl) rfl ?_
                      refine a_goto 161 dX12_when_157 (by decide) ?_
                      first
                      | exact J161 _ _ ⟨h3s, h3a, h3b, Or.inl ⟨rfl, fun q => isN h97 c100 q.1⟩⟩
                      | exact J161 _ _ ⟨h3s, h3a, h3b, Or.inr ⟨rfl, Classical.not_not.mpr ⟨isT h97 c100, Or.inl (by omega)⟩⟩⟩
                      | (refine J161 _ _ ⟨h3s.tr (hr141.mono (by unfold lX iX; omega)), ?_, ?_, ?_⟩
                         · rw [← h3a]; funext z; exact hr141.2.2 1025 z (by omega)
                         · rw [← h3b]; funext z; exact hr141.2.2 1026 z (by omega)
                         · first
                           | exact Or.inr ⟨rfl, Classical.not_not.mpr ⟨isT h97 c100, Or.inr c153⟩⟩
                           | exact Or.inl ⟨rfl, fun q => by
                               rcases q.2 with y | y
                               · omega
                               · omega⟩)
                    · skip
                      refine a_iload 105 dX12_when_103 rfl rfl ?_
                      refine a_aload_n 106 dX12_when_105 rfl rfl ?_
                      refine a_getIz (((WS g1.2.1 c D).length : Int)) 109 dX12_when_106 fX12_146 (h3s.MR (hM51 hM)).1 rfl ((h3s.2.2 1000 23 (by unfold lX iX; omega)).trans hw51.1) rfl ?_
                      refine a_iconst (z := 1) 110 dX12_when_109 rfl (zrl rfl) rfl ?_
                      refine a_isub 111 dX12_when_110 (by unfold zr; omega) rfl ?_
                      refine a_icmp_ge 160 114 dX12_when_111 (by decide) rfl (fun c111 => ?_) (fun c111 => ?_)
                      · skip
                        refine a_iconst (z := 0) 161 dX12_when_160 rfl (zrl rfl) rfl ?_
                        first
                        | exact J161 _ _ ⟨h3s, h3a, h3b, Or.inl ⟨rfl, fun q => isN h97 c100 q.1⟩⟩
                        | exact J161 _ _ ⟨h3s, h3a, h3b, Or.inr ⟨rfl, Classical.not_not.mpr ⟨isT h97 c100, Or.inl (by omega)⟩⟩⟩
                        | (refine J161 _ _ ⟨h3s.tr (hr141.mono (by unfold lX iX; omega)), ?_, ?_, ?_⟩
                           · rw [← h3a]; funext z; exact hr141.2.2 1025 z (by omega)
                           · rw [← h3b]; funext z; exact hr141.2.2 1026 z (by omega)
                           · first
                             | exact Or.inr ⟨rfl, Classical.not_not.mpr ⟨isT h97 c100, Or.inr c153⟩⟩
                             | exact Or.inl ⟨rfl, fun q => by
                                 rcases q.2 with y | y
                                 · omega
                                 · omega⟩)
                      · skip
                        refine a_aload_n 115 dX12_when_114 rfl rfl ?_
                        have hwk1 := hw51.2.2 (k + 1) (by omega)
                        rw [hh51.cnt (by omega), hh51.row (a := 1014) (by omega)] at hwk1
                        have ht0 := htw k hkn
                        have ht1 := htw (k + 1) (by omega)
                        have hlsk := hls (k + 1) (by omega) (by omega)
                        refine a_aload_n 116 dX12_when_115 rfl rfl ?_
                        refine a_aload_n 117 dX12_when_116 rfl rfl ?_
                        refine a_getR 120 dX12_when_117 fX12_62 (h3s.MR (hM51 hM)).1 rfl (mr_24 (h3s.MR (hM51 hM))).1 rfl ?_
                        refine a_iload 122 dX12_when_120 rfl rfl ?_
                        refine a_ialdz ((wk g1.2.1 c D) k) 123 dX12_when_122 (mr_24 (h3s.MR (hM51 hM))).2 (by omega) (by omega) ((h3s.2.2 1024 k (by unfold lX iX; omega)).trans hwk.1) rfl ?_
                        refine a_callV 126 (r_townOf _ _ (hk3M hM) hV3 (by rw [hh3.cnt (by omega)]; exact hwk.2.1) (by rw [hh3.row (by omega)]; exact hwk.2.2)) cdX12_townOf lX12_149 dX12_when_123 rfl (h3s.MR (hM51 hM)).1 rfl ⟨by decide, by decide, rfl, rfl⟩ ⟨Nat.zero_le _, Nat.zero_le _⟩ (Nat.le_of_ble_eq_true rfl) rfl ?_
                        rintro _ _ - ⟨rfl, rfl⟩ -
                        have e123 : g3.2.1 1004 (g3.2.1 1008 (g3.2.1 1014 (10 * ((wk g1.2.1 c D) k) + 2).toNat).toNat).toNat = twn g1.2.1 ((wk g1.2.1 c D) k) := congrFun hh3.twn _
                        rw [e123]
                        refine a_iload 128 dX12_when_126 rfl rfl ?_
                        refine a_aload_n 129 dX12_when_128 rfl rfl ?_
                        refine a_aload_n 130 dX12_when_129 rfl rfl ?_
                        refine a_getR 133 dX12_when_130 fX12_62 (h3s.MR (hM51 hM)).1 rfl (mr_24 (h3s.MR (hM51 hM))).1 rfl ?_
                        refine a_iload 135 dX12_when_133 rfl rfl ?_
                        refine a_iconst (z := 1) 136 dX12_when_135 rfl (zrl rfl) rfl ?_
                        refine a_iadd 137 dX12_when_136 (by unfold zr; omega) rfl ?_
                        refine a_ialdz ((wk g1.2.1 c D) (k + 1)) 138 dX12_when_137 (mr_24 (h3s.MR (hM51 hM))).2 (by omega) (by omega) ((h3s.2.2 1024 (k + 1) (by unfold lX iX; omega)).trans hwk1.1) rfl ?_
                        refine a_callV 141 (r_townOf _ _ (hk3M hM) hV3 (by rw [hh3.cnt (by omega)]; exact hwk1.2.1) (by rw [hh3.row (by omega)]; exact hwk1.2.2)) cdX12_townOf lX12_149 dX12_when_138 rfl (h3s.MR (hM51 hM)).1 rfl ⟨by decide, by decide, rfl, rfl⟩ ⟨Nat.zero_le _, Nat.zero_le _⟩ (Nat.le_of_ble_eq_true rfl) rfl ?_
                        rintro _ _ - ⟨rfl, rfl⟩ -
                        have e138 : g3.2.1 1004 (g3.2.1 1008 (g3.2.1 1014 (10 * ((wk g1.2.1 c D) (k + 1)) + 2).toNat).toNat).toNat = twn g1.2.1 ((wk g1.2.1 c D) (k + 1)) := congrFun hh3.twn _
                        rw [e138]
                        refine a_callV 144 (r_soonestOf _ _ _ _ (hk3M hM) hV3 (by omega) (by omega) (by omega)) cdX12_soonestOf lX12_142 dX12_when_141 rfl (h3s.MR (hM51 hM)).1 rfl ⟨by decide, by decide, rfl, rfl⟩ ⟨Nat.zero_le _, Nat.zero_le _⟩ (Nat.le_of_ble_eq_true rfl) rfl ?_
                        rintro _ g141 - ⟨S141, D141, rfl, e141, hs141⟩ -
                        rw [hh3.soonV] at hs141 ⊢
                        rw [hh3.isSoon] at hs141
                        have hr141 := (gSD_same g3 S141 D141)
                        rw [← e141] at hr141
                        have hsb := soon_b hV (by omega) hs141
                        refine a_aload_n 145 dX12_when_144 rfl rfl ?_
                        refine a_getR 148 dX12_when_145 fX12_68 (hr141.MR (hk3M hM)).1 rfl (mr_26 (hr141.MR (hk3M hM))).1 rfl ?_
                        refine a_iload 150 dX12_when_148 rfl rfl ?_
                        refine a_iconst (z := 1) 151 dX12_when_150 rfl (zrl rfl) rfl ?_
                        refine a_iadd 152 dX12_when_151 (by unfold zr; omega) rfl ?_
                        refine a_ialdz (lastJ g1.2.1 (wk g1.2.1 c D) (WS g1.2.1 c D).length ((WS g1.2.1 c D).length - 1 - (k + 1))) 153 dX12_when_152 (mr_26 (hr141.MR (hk3M hM))).2 (by omega) (by omega) ((hr141.2.2 1026 (k + 1) (by omega)).trans ((congrFun h3b (k + 1)).trans hlsk.1)) rfl ?_
                        refine a_icmp_le 160 156 dX12_when_153 (by decide) rfl (fun c153 => ?_) (fun c153 => ?_)
                        · skip
                          refine a_iconst (z := 0) 161 dX12_when_160 rfl (zrl rfl) rfl ?_
                          first
                          | exact J161 _ _ ⟨h3s, h3a, h3b, Or.inl ⟨rfl, fun q => isN h97 c100 q.1⟩⟩
                          | exact J161 _ _ ⟨h3s, h3a, h3b, Or.inr ⟨rfl, Classical.not_not.mpr ⟨isT h97 c100, Or.inl (by omega)⟩⟩⟩
                          | (refine J161 _ _ ⟨h3s.tr (hr141.mono (by unfold lX iX; omega)), ?_, ?_, ?_⟩
                             · rw [← h3a]; funext z; exact hr141.2.2 1025 z (by omega)
                             · rw [← h3b]; funext z; exact hr141.2.2 1026 z (by omega)
                             · first
                               | exact Or.inr ⟨rfl, Classical.not_not.mpr ⟨isT h97 c100, Or.inr c153⟩⟩
                               | exact Or.inl ⟨rfl, fun q => by
                                   rcases q.2 with y | y
                                   · omega
                                   · omega⟩)
                        · skip
                          refine a_iconst (z := 1) 157 dX12_when_156 rfl (zrl rfl) rfl ?_
                          refine a_goto 161 dX12_when_157 (by decide) ?_
                          first
                          | exact J161 _ _ ⟨h3s, h3a, h3b, Or.inl ⟨rfl, fun q => isN h97 c100 q.1⟩⟩
                          | exact J161 _ _ ⟨h3s, h3a, h3b, Or.inr ⟨rfl, Classical.not_not.mpr ⟨isT h97 c100, Or.inl (by omega)⟩⟩⟩
                          | (refine J161 _ _ ⟨h3s.tr (hr141.mono (by unfold lX iX; omega)), ?_, ?_, ?_⟩
                             · rw [← h3a]; funext z; exact hr141.2.2 1025 z (by omega)
                             · rw [← h3b]; funext z; exact hr141.2.2 1026 z (by omega)
                             · first
                               | exact Or.inr ⟨rfl, Classical.not_not.mpr ⟨isT h97 c100, Or.inr c153⟩⟩
                               | exact Or.inl ⟨rfl, fun q => by
                                   rcases q.2 with y | y
                                   · omega
                                   · omega⟩)
              · exact ⟨hk2, hr2, rfl, hse⟩
          · exact ⟨sameB.rf, rfl, by dsimp only; omega, fun j h1 h2 => by dsimp only at h1; omega⟩
        · skip
          refine a_bipush (z := (-9)) 59 dX12_when_57 rfl (zrl rfl) rfl ?_
          refine a_ireturn dX12_when_59 rfl ⟨Nat.zero_le _, Nat.zero_le _⟩ ?_
          exact ⟨congrArg vI (by unfold whenR; rw [if_neg (by omega), if_neg (fun z => z hok.1), if_neg (by omega), if_neg (by omega), if_pos (isN h51 c54)]), (hk0.mono wX_scr).tr (hk51.mono iX_scr)⟩
      · skip
        refine a_iconst (z := (-1)) 48 dX12_when_47 rfl (zrl rfl) rfl ?_
        refine a_ireturn dX12_when_48 rfl ⟨Nat.zero_le _, Nat.zero_le _⟩ ?_
        exact ⟨congrArg vI (by unfold whenR; rw [if_neg (by omega), if_neg (fun z => z hok.1), if_neg (by omega), if_pos (by omega)]), hk0.mono wX_scr⟩
    · skip
      refine a_iload 32 dX12_when_30 rfl rfl ?_
      refine a_ireturn dX12_when_32 rfl ⟨Nat.zero_le _, Nat.zero_le _⟩ ?_
      rcases hrv with ⟨z1, z2, z3⟩ | ⟨z1, z2, z3, ⟨z4, z5⟩ | ⟨z4, z5⟩⟩
      · exact ⟨congrArg vI (by unfold whenR; rw [if_neg (by omega), if_pos z1]; exact z2), hk0.mono wX_scr⟩
      · exact ⟨congrArg vI (by unfold whenR; rw [if_neg (by omega), if_neg (fun z => z z1), if_pos z4]; exact z5), hk0.mono wX_scr⟩
      · omega
  · skip
    refine a_iconst (z := (-1)) 16 dX12_when_15 rfl (zrl rfl) rfl ?_
    refine a_ireturn dX12_when_16 rfl ⟨Nat.zero_le _, Nat.zero_le _⟩ ?_
    exact ⟨congrArg vI (by unfold whenR; rw [if_pos (by omega)]), sameB.rf⟩
