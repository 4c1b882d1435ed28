/-- the typed text, a byte a place; -1 behind it -/
def tx (h : Nat → Nat → Int) (k : Int) : Int := if k < h 1000 29 then h 1028 k.toNat else -1
/-- e is the first place from k on that is not of P -/
def isSk (P : Int → Prop) (k e : Int) : Prop := k ≤ e ∧ (∀ x, k ≤ x → x < e → P x) ∧ ¬ P e
theorem isSk.uniq {P : Int → Prop} {k e e' : Int} (a : isSk P k e) (b : isSk P k e') : e = e' := by
  obtain ⟨a1, a2, a3⟩ := a; obtain ⟨b1, b2, b3⟩ := b
  rcases Int.lt_trichotomy e e' with z | z | z
  · exact absurd (b2 e a1 z) a3
  · exact z
  · exact absurd (a2 e' b1 z) b3
noncomputable def skE (P : Int → Prop) (k : Int) : Int := @Classical.epsilon Int ⟨0⟩ (isSk P k)
theorem skE_eq {P : Int → Prop} {k z : Int} (hz : isSk P k z) : skE P k = z := (hz.uniq (@Classical.epsilon_spec_aux Int ⟨0⟩ (isSk P k) ⟨z, hz⟩)).symm
abbrev ltB (b : Int) : Prop := 97 ≤ b ∧ b ≤ 122
abbrev dgB (b : Int) : Prop := 48 ≤ b ∧ b ≤ 57
abbrev sgB (b : Int) : Prop := b = 62 ∨ b = 44 ∨ b = 45 ∨ b = 58 ∨ b = 43 ∨ b = 47 ∨ b = 59
/-- the first letters of a word as one number -/
def wv (T : Int → Int) (q : Int) : Nat → Int
  | 0 => 0
  | j + 1 => if j < 4 then 256 * wv T q j + T (q + j) else wv T q j
/-- a row of figures as a number, held at 10000 -/
def nv (T : Int → Int) (q : Int) : Nat → Int
  | 0 => 0
  | j + 1 => if j < 4 then 10 * nv T q j + T (q + j) - 48 else 10000
def wE (T : Int → Int) (q : Int) (n : Nat) : Int := if n < 5 then wOf (wv T q n) else -9
abbrev nB (T : Int → Int) (q : Int) (n : Nat) : Prop := nv T q n > 9999 ∨ (T q = 48 ∧ n > 1)
/-- the token at q: next, token, place, value -/
noncomputable def lxq (T : Int → Int) (q v : Int) : Int × Int × Int × Int :=
  if T q < 0 then (q, 0, q, v)
  else if ltB (T q) then (skE (fun x => ltB (T x)) q, if wE T q (skE (fun x => ltB (T x)) q - q).toNat = -9 then 4 else 1, q, wE T q (skE (fun x => ltB (T x)) q - q).toNat)
  else if dgB (T q) then (skE (fun x => dgB (T x)) q, if nB T q (skE (fun x => dgB (T x)) q - q).toNat then 4 else 2, q, nv T q (skE (fun x => dgB (T x)) q - q).toNat)
  else (q + 1, if sgB (T q) then 3 else 4, q, T q)
noncomputable def lx (T : Int → Int) (p v : Int) : Int × Int × Int × Int := lxq T (skE (fun x => T x = 32) p) v
theorem lx_q {T : Int → Int} {p q v : Int} (h : isSk (fun x => T x = 32) p q) : lx T p v = lxq T q v := by unfold lx; rw [skE_eq h]
theorem lx_end {T : Int → Int} {p q v : Int} (h : isSk (fun x => T x = 32) p q) (hq : T q < 0) : (q, 0, q, v) = lx T p v := by
  rw [lx_q h]; unfold lxq; rw [if_pos hq]
theorem lx_wd {T : Int → Int} {p q v : Int} {n : Nat} (h : isSk (fun x => T x = 32) p q) (hq : ltB (T q)) (he : isSk (fun x => ltB (T x)) q (q + n)) : (q + n, if wE T q n = -9 then 4 else 1, q, wE T q n) = lx T p v := by
  rw [lx_q h]; unfold lxq; rw [if_neg (show ¬ T q < 0 by omega), if_pos hq, skE_eq he, show (q + (n : Int) - q).toNat = n by omega]
theorem lx_nm {T : Int → Int} {p q v : Int} {n : Nat} (h : isSk (fun x => T x = 32) p q) (hq : dgB (T q)) (he : isSk (fun x => dgB (T x)) q (q + n)) : (q + n, if nB T q n then 4 else 2, q, nv T q n) = lx T p v := by
  rw [lx_q h]; unfold lxq; rw [if_neg (show ¬ T q < 0 by omega), if_neg (show ¬ ltB (T q) by omega), if_pos hq, skE_eq he, show (q + (n : Int) - q).toNat = n by omega]
theorem lx_sg {T : Int → Int} {p q v : Int} (h : isSk (fun x => T x = 32) p q) (h0 : 0 ≤ T q) (h1 : ¬ ltB (T q)) (h2 : ¬ dgB (T q)) : (q + 1, if sgB (T q) then 3 else 4, q, T q) = lx T p v := by
  rw [lx_q h]; unfold lxq; rw [if_neg (show ¬ T q < 0 by omega), if_neg h1, if_neg h2]
def aX (a k : Nat) : Prop := a = 1000 ∧ 30 ≤ k ∧ k ≤ 33
theorem aX_scr : ∀ a k, aX a k → scr a k := by unfold aX scr; omega
theorem tx_same {g g' : GH} {k : Int} (h : sameB aX g g') : (if k < g'.2.1 1000 29 then g'.2.1 1028 k.toNat else -1) = tx g.2.1 k := by
  rw [h.2.2 1000 29 (by unfold aX; omega), h.2.2 1028 _ (by unfold aX; omega)]; rfl
theorem tx_in {h : Nat → Nat → Int} {k : Int} (hq : 0 ≤ tx h k) : k < h 1000 29 := by
  unfold tx at hq; split at hq <;> omega
theorem tx_b {h : Nat → Nat → Int} (hV : MVt h) {k : Int} (hk : 0 ≤ k) : -1 ≤ tx h k ∧ tx h k ≤ 255 := by
  unfold tx; split
  · have := hV k.toNat (by omega); omega
  · omega
abbrev psq (h : Nat → Nat → Int) : Int × Int × Int × Int := (h 1000 30, h 1000 31, h 1000 32, h 1000 33)
theorem wv_le {T : Int → Int} {q : Int} : ∀ j : Nat, (∀ x, q ≤ x → x < q + j → ltB (T x)) → 0 ≤ wv T q j ∧ (j = 0 → wv T q j = 0) ∧ (j = 1 → wv T q j ≤ 122) ∧ (j = 2 → wv T q j ≤ 31354) ∧ (j = 3 → wv T q j ≤ 8026746) ∧ wv T q j ≤ 2054847098
  | 0, _ => ⟨Int.le_refl _, fun _ => rfl, by omega, by omega, by omega, by show (0 : Int) ≤ _; decide⟩
  | j + 1, h => by
    have h1 := wv_le j (fun x a b => h x a (by omega))
    have h2 := h (q + j) (by omega) (by omega)
    show 0 ≤ (if j < 4 then 256 * wv T q j + T (q + j) else wv T q j) ∧ (_ → (if j < 4 then 256 * wv T q j + T (q + j) else wv T q j) = 0) ∧ (_ → (if j < 4 then 256 * wv T q j + T (q + j) else wv T q j) ≤ _) ∧ (_ → (if j < 4 then 256 * wv T q j + T (q + j) else wv T q j) ≤ _) ∧ (_ → (if j < 4 then 256 * wv T q j + T (q + j) else wv T q j) ≤ _) ∧ (if j < 4 then 256 * wv T q j + T (q + j) else wv T q j) ≤ _
    split <;> omega
theorem nv_le {T : Int → Int} {q : Int} : ∀ j : Nat, (∀ x, q ≤ x → x < q + j → dgB (T x)) → 0 ≤ nv T q j ∧ (j = 0 → nv T q j = 0) ∧ (j ≤ 1 → nv T q j ≤ 9) ∧ (j ≤ 2 → nv T q j ≤ 99) ∧ (j ≤ 3 → nv T q j ≤ 999) ∧ (j ≤ 4 → nv T q j ≤ 9999) ∧ nv T q j ≤ 10000
  | 0, _ => ⟨Int.le_refl _, fun _ => rfl, fun _ => by show (0 : Int) ≤ _; decide, fun _ => by show (0 : Int) ≤ _; decide, fun _ => by show (0 : Int) ≤ _; decide, fun _ => by show (0 : Int) ≤ _; decide, by show (0 : Int) ≤ _; decide⟩
  | j + 1, h => by
    have h1 := nv_le j (fun x a b => h x a (by omega))
    have h2 := h (q + j) (by omega) (by omega)
    show 0 ≤ (if j < 4 then 10 * nv T q j + T (q + j) - 48 else 10000) ∧ (_ → (if j < 4 then 10 * nv T q j + T (q + j) - 48 else 10000) = 0) ∧ (_ → (if j < 4 then 10 * nv T q j + T (q + j) - 48 else 10000) ≤ _) ∧ (_ → (if j < 4 then 10 * nv T q j + T (q + j) - 48 else 10000) ≤ _) ∧ (_ → (if j < 4 then 10 * nv T q j + T (q + j) - 48 else 10000) ≤ _) ∧ (_ → (if j < 4 then 10 * nv T q j + T (q + j) - 48 else 10000) ≤ _) ∧ (if j < 4 then 10 * nv T q j + T (q + j) - 48 else 10000) ≤ _
    split <;> omega
set_option maxHeartbeats 4000000 in
set_option maxRecDepth 100000 in
theorem r_advances (g : GH) (hM : MR g) (hV : MV g.2.1) (hn : 0 ≤ g.2.1 1000 30 ∧ g.2.1 1000 30 ≤ g.2.1 1000 29) : AMet mX12_advances g [vA 1000] (fun _ g' => sameB aX g g' ∧ psq g'.2.1 = lx (tx g.2.1) (g.2.1 1000 30) (g.2.1 1000 33) ∧ (0 ≤ g'.2.1 1000 30 ∧ g'.2.1 1000 30 ≤ g.2.1 1000 29) ∧ (0 ≤ g'.2.1 1000 32 ∧ g'.2.1 1000 32 ≤ g.2.1 1000 29) ∧ (0 ≤ g'.2.1 1000 31 ∧ g'.2.1 1000 31 ≤ 4)) := by
  refine AMet.of [vA 1000, none, none, none] (by decide) rfl (Nat.le_of_ble_eq_true rfl) ?_
  have hc := hV.1
  unfold MVc at hc
  have hb := fun k hk => tx_b (h := g.2.1) hV.2.2.2.2.2.2.2.1 (k := k) hk
  refine AW.loop (α := GH × Int) (fun p => (g.2.1 1000 29 - p.2).toNat) (fun p => sameB aX g p.1 ∧ p.1.2.1 1000 30 = p.2 ∧ p.1.2.1 1000 33 = g.2.1 1000 33 ∧ (g.2.1 1000 30 ≤ p.2 ∧ p.2 ≤ g.2.1 1000 29) ∧ ∀ x, g.2.1 1000 30 ≤ x → x < p.2 → (tx g.2.1) x = 32) (fun p => p.1) (fun p => [vA 1000, none, none, none]) (fun p => []) ?_ (g, g.2.1 1000 30) ?_
  · rintro ⟨g2, k⟩ ⟨h2, hk2, hv2, hkb, hk⟩ ih0
    try dsimp only at hI ih ⊢
    try dsimp only at h2 hk2 hv2 hkb hk ih0 ⊢
    refine a_aload_n 1 dX12_advances_0 rfl rfl ?_
    refine a_aload_n 2 dX12_advances_1 rfl rfl ?_
    refine a_getIz (k) 5 dX12_advances_2 fX12_177 (h2.MR hM).1 rfl hk2 rfl ?_
    refine a_callV 8 (r_byteAt _ _ (h2.MR hM) (by omega) (by rw [h2.2.2 1000 29 (by unfold aX; omega)]; omega)) cdX12_byteAt lX12_180 dX12_advances_5 rfl (h2.MR hM).1 rfl ⟨by decide, by decide, rfl, rfl⟩ ⟨Nat.zero_le _, Nat.zero_le _⟩ (Nat.le_of_ble_eq_true rfl) rfl ?_
    rintro _ _ - ⟨rfl, rfl⟩ -
    rw [tx_same h2]
    refine a_bipush (z := 32) 10 dX12_advances_8 rfl (zrl rfl) rfl ?_
    refine a_icmp_ne 26 13 dX12_advances_10 (by decide) rfl (fun c10 => ?_) (fun c10 => ?_)
    · skip
      refine a_aload_n 27 dX12_advances_26 rfl rfl ?_
      refine a_aload_n 28 dX12_advances_27 rfl rfl ?_
      refine a_getIz (k) 31 dX12_advances_28 fX12_177 (h2.MR hM).1 rfl hk2 rfl ?_
      refine a_putI 34 dX12_advances_31 fX12_183 (Or.inl rfl) (h2.MR hM).1 (Or.inl rfl) rfl ?_
      have h3 : sameB aX g (gI g2 1000 32 k) := h2.wr ⟨rfl, by decide, by decide⟩
      have hk3 : (gI g2 1000 32 k).2.1 1000 30 = k := (gI_n (Or.inr (by decide))).trans hk2
      have hv3 : (gI g2 1000 32 k).2.1 1000 33 = g.2.1 1000 33 := (gI_n (Or.inr (by decide))).trans hv2
      have hp3 : (gI g2 1000 32 k).2.1 1000 32 = k := gI_s
      generalize gI g2 1000 32 k = g3 at h3 hk3 hv3 hp3 ⊢
      have hsk : isSk (fun x => (tx g.2.1) x = 32) (g.2.1 1000 30) k := ⟨hkb.1, hk, c10⟩
      have hbk := hb k (by omega)
      refine a_aload_n 35 dX12_advances_34 rfl rfl ?_
      refine a_aload_n 36 dX12_advances_35 rfl rfl ?_
      refine a_getIz (k) 39 dX12_advances_36 fX12_177 (h3.MR hM).1 rfl hk3 rfl ?_
      refine a_callV 42 (r_byteAt _ _ (h3.MR hM) (by omega) (by rw [h3.2.2 1000 29 (by unfold aX; omega)]; omega)) cdX12_byteAt lX12_180 dX12_advances_39 rfl (h3.MR hM).1 rfl ⟨by decide, by decide, rfl, rfl⟩ ⟨Nat.zero_le _, Nat.zero_le _⟩ (Nat.le_of_ble_eq_true rfl) rfl ?_
      rintro _ _ - ⟨rfl, rfl⟩ -
      rw [tx_same h3]
      refine a_istore_n 43 dX12_advances_42 (by decide) rfl rfl ?_
      refine a_iload_n 44 dX12_advances_43 rfl rfl ?_
      refine a_if_ge 55 47 dX12_advances_44 (by decide) rfl (fun c44 => ?_) (fun c44 => ?_)
      · skip
        refine a_iload_n 56 dX12_advances_55 rfl rfl ?_
        refine a_bipush (z := 97) 58 dX12_advances_56 rfl (zrl rfl) rfl ?_
        refine a_bipush (z := 122) 60 dX12_advances_58 rfl (zrl rfl) rfl ?_
        refine a_callS 63 (r_in _ _ _ _) cdX12_in lX12_84 dX12_advances_60 rfl rfl ⟨by decide, by decide, rfl, rfl⟩ ⟨Nat.zero_le _, Nat.zero_le _⟩ (Nat.le_of_ble_eq_true rfl) rfl ?_
        rintro _ _ - ⟨b60, rfl, rfl, h60⟩ -
        refine a_if_eq 167 66 dX12_advances_63 (by decide) rfl (fun c63 => ?_) (fun c63 => ?_)
        · skip
          refine a_iload_n 168 dX12_advances_167 rfl rfl ?_
          refine a_bipush (z := 48) 170 dX12_advances_168 rfl (zrl rfl) rfl ?_
          refine a_bipush (z := 57) 172 dX12_advances_170 rfl (zrl rfl) rfl ?_
          refine a_callS 175 (r_in _ _ _ _) cdX12_in lX12_84 dX12_advances_172 rfl rfl ⟨by decide, by decide, rfl, rfl⟩ ⟨Nat.zero_le _, Nat.zero_le _⟩ (Nat.le_of_ble_eq_true rfl) rfl ?_
          rintro _ _ - ⟨b172, rfl, rfl, h172⟩ -
          refine a_if_eq 286 178 dX12_advances_175 (by decide) rfl (fun c175 => ?_) (fun c175 => ?_)
          · skip
            refine a_aload_n 287 dX12_advances_286 rfl rfl ?_
            refine a_iload_n 288 dX12_advances_287 rfl rfl ?_
            refine a_putI 291 dX12_advances_288 fX12_192 (Or.inl rfl) (h3.MR hM).1 (Or.inl rfl) rfl ?_
            have h5 : sameB aX g (gI g3 1000 33 ((tx g.2.1) k)) := h3.wr ⟨rfl, by decide, by decide⟩
            have k530 : (gI g3 1000 33 ((tx g.2.1) k)).2.1 1000 30 = k := (gI_n (Or.inr (by decide))).trans hk3
            have k532 : (gI g3 1000 33 ((tx g.2.1) k)).2.1 1000 32 = k := (gI_n (Or.inr (by decide))).trans hp3
            have k533 : (gI g3 1000 33 ((tx g.2.1) k)).2.1 1000 33 = ((tx g.2.1) k) := gI_s
            generalize gI g3 1000 33 ((tx g.2.1) k) = g5 at h5 k530 k532 k533 ⊢
            refine a_aload_n 292 dX12_advances_291 rfl rfl ?_
            refine a_dup 293 dX12_advances_292 (by intro w h; cases h) rfl ?_
            refine a_getIz (k) 296 dX12_advances_293 fX12_177 (h5.MR hM).1 rfl k530 rfl ?_
            refine a_iconst (z := 1) 297 dX12_advances_296 rfl (zrl rfl) rfl ?_
            refine a_iadd 298 dX12_advances_297 (by unfold zr; omega) rfl ?_
            refine a_putI 301 dX12_advances_298 fX12_177 (Or.inl rfl) (h5.MR hM).1 (Or.inl rfl) rfl ?_
            have h6 : sameB aX g (gI g5 1000 30 (k + 1)) := h5.wr ⟨rfl, by decide, by decide⟩
            have k632 : (gI g5 1000 30 (k + 1)).2.1 1000 32 = k := (gI_n (Or.inr (by decide))).trans k532
            have k633 : (gI g5 1000 30 (k + 1)).2.1 1000 33 = (tx g.2.1) k := (gI_n (Or.inr (by decide))).trans k533
            have k630 : (gI g5 1000 30 (k + 1)).2.1 1000 30 = (k + 1) := gI_s
            generalize gI g5 1000 30 (k + 1) = g6 at h6 k630 k632 k633 ⊢
            refine AW.cut (J := 348) (P := fun z => isb z (sgB ((tx g.2.1) k))) ?_ (fun J348 => ?_)
            · intro z348 h348
              refine a_istore_n 349 dX12_advances_348 (by decide) rfl rfl ?_
              refine a_aload_n 350 dX12_advances_349 rfl rfl ?_
              refine AW.cut (J := 359) (P := fun z => z = (if sgB ((tx g.2.1) k) then 3 else 4)) ?_ (fun J359 => ?_)
              · intro z359 h359
                refine a_putI 362 dX12_advances_359 fX12_186 (Or.inl rfl) (h6.MR hM).1 (Or.inl rfl) rfl ?_
                refine a_return dX12_advances_362 rfl ⟨Nat.zero_le _, Nat.zero_le _⟩ ?_
                first
                | (have hq : tx g.2.1 k < 0 := c44
                   have h7 : sameB aX g (gI g3 1000 31 0) := h3.wr ⟨rfl, by decide, by decide⟩
                   have k730 : (gI g3 1000 31 0).2.1 1000 30 = k := (gI_n (Or.inr (by decide))).trans hk3
                   have k732 : (gI g3 1000 31 0).2.1 1000 32 = k := (gI_n (Or.inr (by decide))).trans hp3
                   have k733 : (gI g3 1000 31 0).2.1 1000 33 = g.2.1 1000 33 := (gI_n (Or.inr (by decide))).trans hv3
                   have k731 : (gI g3 1000 31 0).2.1 1000 31 = 0 := gI_s
                   generalize gI g3 1000 31 0 = g7 at h7 k730 k732 k733 k731 ⊢
                   refine ⟨h7, ?_, ?_, ?_, ?_⟩
                   · unfold psq; rw [k730, k731, k732, k733]; exact lx_end hsk hq
                   · rw [k730]; omega
                   · rw [k732]; omega
                   · rw [k731]; omega)
                | (have hq := isT h60 c63
                   have h7 : sameB aX g (gI g5 1000 31 z161) := h5.wr ⟨rfl, by decide, by decide⟩
                   have k730 : (gI g5 1000 31 z161).2.1 1000 30 = k + j := (gI_n (Or.inr (by decide))).trans k530
                   have k732 : (gI g5 1000 31 z161).2.1 1000 32 = k := (gI_n (Or.inr (by decide))).trans k532
                   have k733 : (gI g5 1000 31 z161).2.1 1000 33 = z143 := (gI_n (Or.inr (by decide))).trans k533
                   have k731 : (gI g5 1000 31 z161).2.1 1000 31 = z161 := gI_s
                   generalize gI g5 1000 31 z161 = g7 at h7 k730 k732 k733 k731 ⊢
                   refine ⟨h7, ?_, ?_, ?_, ?_⟩
                   · unfold psq; rw [k730, k731, k732, k733]; exact (by rw [h161, h143]; exact lx_wd hsk hq hse)
                   · rw [k730]; omega
                   · rw [k732]; omega
                   · rw [k731]; rw [h161]; split <;> omega)
                | (have hq := isT h172 c175
                   have h7 : sameB aX g (gI g4 1000 31 z280) := h4.wr ⟨rfl, by decide, by decide⟩
                   have k730 : (gI g4 1000 31 z280).2.1 1000 30 = k + j := (gI_n (Or.inr (by decide))).trans hk4
                   have k732 : (gI g4 1000 31 z280).2.1 1000 32 = k := (gI_n (Or.inr (by decide))).trans hp4
                   have k733 : (gI g4 1000 31 z280).2.1 1000 33 = nv (tx g.2.1) k j := (gI_n (Or.inr (by decide))).trans hv4
                   have k731 : (gI g4 1000 31 z280).2.1 1000 31 = z280 := gI_s
                   generalize gI g4 1000 31 z280 = g7 at h7 k730 k732 k733 k731 ⊢
                   refine ⟨h7, ?_, ?_, ?_, ?_⟩
                   · unfold psq; rw [k730, k731, k732, k733]; exact (by rw [h280]; exact lx_nm hsk hq hse)
                   · rw [k730]; omega
                   · rw [k732]; omega
                   · rw [k731]; rw [h280]; split <;> omega)
                | (have hq := isN h172 c175
                   have hin := tx_in (h := g.2.1) (k := k) (by omega)
                   have h7 : sameB aX g (gI g6 1000 31 z359) := h6.wr ⟨rfl, by decide, by decide⟩
                   have k730 : (gI g6 1000 31 z359).2.1 1000 30 = (k + 1) := (gI_n (Or.inr (by decide))).trans k630
                   have k732 : (gI g6 1000 31 z359).2.1 1000 32 = k := (gI_n (Or.inr (by decide))).trans k632
                   have k733 : (gI g6 1000 31 z359).2.1 1000 33 = (tx g.2.1) k := (gI_n (Or.inr (by decide))).trans k633
                   have k731 : (gI g6 1000 31 z359).2.1 1000 31 = z359 := gI_s
                   generalize gI g6 1000 31 z359 = g7 at h7 k730 k732 k733 k731 ⊢
                   refine ⟨h7, ?_, ?_, ?_, ?_⟩
                   · unfold psq; rw [k730, k731, k732, k733]; exact (by rw [h359]; exact lx_sg hsk (by omega) (isN h60 c63) hq)
                   · rw [k730]; omega
                   · rw [k732]; omega
                   · rw [k731]; rw [h359]; split <;> omega)
              · skip
                refine a_iload_n 351 dX12_advances_350 rfl rfl ?_
                refine a_if_eq 358 354 dX12_advances_351 (by decide) rfl (fun c351 => ?_) (fun c351 => ?_)
                · skip
                  refine a_iconst (z := 4) 359 dX12_advances_358 rfl (zrl rfl) rfl ?_
                  exact J359 _ (by first | rw [if_pos (by omega)] | rw [if_neg (by omega)])
                · skip
                  refine a_iconst (z := 3) 355 dX12_advances_354 rfl (zrl rfl) rfl ?_
                  refine a_goto 359 dX12_advances_355 (by decide) ?_
                  exact J359 _ (by first | rw [if_pos (by omega)] | rw [if_neg (by omega)])
            · skip
              refine a_iload_n 302 dX12_advances_301 rfl rfl ?_
              refine a_bipush (z := 62) 304 dX12_advances_302 rfl (zrl rfl) rfl ?_
              refine a_icmp_eq 343 307 dX12_advances_304 (by decide) rfl (fun c304 => ?_) (fun c304 => ?_)
              · skip
                refine a_iconst (z := 1) 344 dX12_advances_343 rfl (zrl rfl) rfl ?_
                refine a_goto 348 dX12_advances_344 (by decide) ?_
                exact J348 _ (by omega)
              · skip
                refine a_iload_n 308 dX12_advances_307 rfl rfl ?_
                refine a_bipush (z := 44) 310 dX12_advances_308 rfl (zrl rfl) rfl ?_
                refine a_icmp_eq 343 313 dX12_advances_310 (by decide) rfl (fun c310 => ?_) (fun c310 => ?_)
                · skip
                  refine a_iconst (z := 1) 344 dX12_advances_343 rfl (zrl rfl) rfl ?_
                  refine a_goto 348 dX12_advances_344 (by decide) ?_
                  exact J348 _ (by omega)
                · skip
                  refine a_iload_n 314 dX12_advances_313 rfl rfl ?_
                  refine a_bipush (z := 45) 316 dX12_advances_314 rfl (zrl rfl) rfl ?_
                  refine a_icmp_eq 343 319 dX12_advances_316 (by decide) rfl (fun c316 => ?_) (fun c316 => ?_)
                  · skip
                    refine a_iconst (z := 1) 344 dX12_advances_343 rfl (zrl rfl) rfl ?_
                    refine a_goto 348 dX12_advances_344 (by decide) ?_
                    exact J348 _ (by omega)
                  · skip
                    refine a_iload_n 320 dX12_advances_319 rfl rfl ?_
                    refine a_bipush (z := 58) 322 dX12_advances_320 rfl (zrl rfl) rfl ?_
                    refine a_icmp_eq 343 325 dX12_advances_322 (by decide) rfl (fun c322 => ?_) (fun c322 => ?_)
                    · skip
                      refine a_iconst (z := 1) 344 dX12_advances_343 rfl (zrl rfl) rfl ?_
                      refine a_goto 348 dX12_advances_344 (by decide) ?_
                      exact J348 _ (by omega)
                    · skip
                      refine a_iload_n 326 dX12_advances_325 rfl rfl ?_
                      refine a_bipush (z := 43) 328 dX12_advances_326 rfl (zrl rfl) rfl ?_
                      refine a_icmp_eq 343 331 dX12_advances_328 (by decide) rfl (fun c328 => ?_) (fun c328 => ?_)
                      · skip
                        refine a_iconst (z := 1) 344 dX12_advances_343 rfl (zrl rfl) rfl ?_
                        refine a_goto 348 dX12_advances_344 (by decide) ?_
                        exact J348 _ (by omega)
                      · skip
                        refine a_iload_n 332 dX12_advances_331 rfl rfl ?_
                        refine a_bipush (z := 47) 334 dX12_advances_332 rfl (zrl rfl) rfl ?_
                        refine a_icmp_eq 343 337 dX12_advances_334 (by decide) rfl (fun c334 => ?_) (fun c334 => ?_)
                        · skip
                          refine a_iconst (z := 1) 344 dX12_advances_343 rfl (zrl rfl) rfl ?_
                          refine a_goto 348 dX12_advances_344 (by decide) ?_
                          exact J348 _ (by omega)
                        · skip
                          refine a_iload_n 338 dX12_advances_337 rfl rfl ?_
                          refine a_bipush (z := 59) 340 dX12_advances_338 rfl (zrl rfl) rfl ?_
                          refine a_icmp_ne 347 343 dX12_advances_340 (by decide) rfl (fun c340 => ?_) (fun c340 => ?_)
                          · skip
                            refine a_iconst (z := 0) 348 dX12_advances_347 rfl (zrl rfl) rfl ?_
                            exact J348 _ (by omega)
                          · skip
                            refine a_iconst (z := 1) 344 dX12_advances_343 rfl (zrl rfl) rfl ?_
                            refine a_goto 348 dX12_advances_344 (by decide) ?_
                            exact J348 _ (by omega)
          · skip
            refine a_aload_n 179 dX12_advances_178 rfl rfl ?_
            refine a_iconst (z := 0) 180 dX12_advances_179 rfl (zrl rfl) rfl ?_
            refine a_putI 183 dX12_advances_180 fX12_192 (Or.inl rfl) (h3.MR hM).1 (Or.inl rfl) rfl ?_
            have h33 : sameB aX g (gI g3 1000 33 0) := h3.wr ⟨rfl, by decide, by decide⟩
            have k3330 : (gI g3 1000 33 0).2.1 1000 30 = k := (gI_n (Or.inr (by decide))).trans hk3
            have k3332 : (gI g3 1000 33 0).2.1 1000 32 = k := (gI_n (Or.inr (by decide))).trans hp3
            have k3333 : (gI g3 1000 33 0).2.1 1000 33 = 0 := gI_s
            generalize gI g3 1000 33 0 = g33 at h33 k3330 k3332 k3333 ⊢
            refine a_iconst (z := 0) 184 dX12_advances_183 rfl (zrl rfl) rfl ?_
            refine a_istore_n 185 dX12_advances_184 (by decide) rfl rfl ?_
            refine AW.loop (α := GH × Nat) (fun p => (g.2.1 1000 29 - k - p.2).toNat) (fun p => sameB aX g p.1 ∧ p.1.2.1 1000 30 = k + p.2 ∧ p.1.2.1 1000 32 = k ∧ p.1.2.1 1000 33 = nv (tx g.2.1) k p.2 ∧ k + (p.2 : Int) ≤ g.2.1 1000 29 ∧ ∀ x, k ≤ x → x < k + p.2 → dgB ((tx g.2.1) x)) (fun p => p.1) (fun p => [vA 1000, vI ((tx g.2.1) k), vI (p.2 : Int), none]) (fun p => []) ?_ (g33, 0) ?_
            · rintro ⟨g4, j⟩ ⟨h4, hk4, hp4, hv4, hkb4, hj⟩ ih185
              try dsimp only at hI ih ⊢
              try dsimp only at h4 hk4 hp4 hv4 hkb4 hj ih185 ⊢
              have hw := nv_le j hj
              have hbj := hb (k + j) (by omega)
              refine a_aload_n 186 dX12_advances_185 rfl rfl ?_
              refine a_aload_n 187 dX12_advances_186 rfl rfl ?_
              refine a_getIz (k + j) 190 dX12_advances_187 fX12_177 (h4.MR hM).1 rfl hk4 rfl ?_
              refine a_callV 193 (r_byteAt _ _ (h4.MR hM) (by omega) (by rw [h4.2.2 1000 29 (by unfold aX; omega)]; omega)) cdX12_byteAt lX12_180 dX12_advances_190 rfl (h4.MR hM).1 rfl ⟨by decide, by decide, rfl, rfl⟩ ⟨Nat.zero_le _, Nat.zero_le _⟩ (Nat.le_of_ble_eq_true rfl) rfl ?_
              rintro _ _ - ⟨rfl, rfl⟩ -
              rw [tx_same h4]
              refine a_bipush (z := 48) 195 dX12_advances_193 rfl (zrl rfl) rfl ?_
              refine a_bipush (z := 57) 197 dX12_advances_195 rfl (zrl rfl) rfl ?_
              refine a_callS 200 (r_in _ _ _ _) cdX12_in lX12_84 dX12_advances_197 rfl rfl ⟨by decide, by decide, rfl, rfl⟩ ⟨Nat.zero_le _, Nat.zero_le _⟩ (Nat.le_of_ble_eq_true rfl) rfl ?_
              rintro _ _ - ⟨b197, rfl, rfl, h197⟩ -
              refine a_if_eq 253 203 dX12_advances_200 (by decide) rfl (fun c200 => ?_) (fun c200 => ?_)
              · skip
                have hse : isSk (fun x => dgB ((tx g.2.1) x)) k (k + j) := ⟨by omega, hj, isN h197 c200⟩
                refine a_aload_n 254 dX12_advances_253 rfl rfl ?_
                refine AW.cut (J := 280) (P := fun z => z = (if nB (tx g.2.1) k j then 4 else 2)) ?_ (fun J280 => ?_)
                · intro z280 h280
                  refine a_putI 283 dX12_advances_280 fX12_186 (Or.inl rfl) (h4.MR hM).1 (Or.inl rfl) rfl ?_
                  refine a_goto 362 dX12_advances_283 (by decide) ?_
                  refine a_return dX12_advances_362 rfl ⟨Nat.zero_le _, Nat.zero_le _⟩ ?_
                  first
                  | (have hq : tx g.2.1 k < 0 := c44
                     have h7 : sameB aX g (gI g3 1000 31 0) := h3.wr ⟨rfl, by decide, by decide⟩
                     have k730 : (gI g3 1000 31 0).2.1 1000 30 = k := (gI_n (Or.inr (by decide))).trans hk3
                     have k732 : (gI g3 1000 31 0).2.1 1000 32 = k := (gI_n (Or.inr (by decide))).trans hp3
                     have k733 : (gI g3 1000 31 0).2.1 1000 33 = g.2.1 1000 33 := (gI_n (Or.inr (by decide))).trans hv3
                     have k731 : (gI g3 1000 31 0).2.1 1000 31 = 0 := gI_s
                     generalize gI g3 1000 31 0 = g7 at h7 k730 k732 k733 k731 ⊢
                     refine ⟨h7, ?_, ?_, ?_, ?_⟩
                     · unfold psq; rw [k730, k731, k732, k733]; exact lx_end hsk hq
                     · rw [k730]; omega
                     · rw [k732]; omega
                     · rw [k731]; omega)
                  | (have hq := isT h60 c63
                     have h7 : sameB aX g (gI g5 1000 31 z161) := h5.wr ⟨rfl, by decide, by decide⟩
                     have k730 : (gI g5 1000 31 z161).2.1 1000 30 = k + j := (gI_n (Or.inr (by decide))).trans k530
                     have k732 : (gI g5 1000 31 z161).2.1 1000 32 = k := (gI_n (Or.inr (by decide))).trans k532
                     have k733 : (gI g5 1000 31 z161).2.1 1000 33 = z143 := (gI_n (Or.inr (by decide))).trans k533
                     have k731 : (gI g5 1000 31 z161).2.1 1000 31 = z161 := gI_s
                     generalize gI g5 1000 31 z161 = g7 at h7 k730 k732 k733 k731 ⊢
                     refine ⟨h7, ?_, ?_, ?_, ?_⟩
                     · unfold psq; rw [k730, k731, k732, k733]; exact (by rw [h161, h143]; exact lx_wd hsk hq hse)
                     · rw [k730]; omega
                     · rw [k732]; omega
                     · rw [k731]; rw [h161]; split <;> omega)
                  | (have hq := isT h172 c175
                     have h7 : sameB aX g (gI g4 1000 31 z280) := h4.wr ⟨rfl, by decide, by decide⟩
                     have k730 : (gI g4 1000 31 z280).2.1 1000 30 = k + j := (gI_n (Or.inr (by decide))).trans hk4
                     have k732 : (gI g4 1000 31 z280).2.1 1000 32 = k := (gI_n (Or.inr (by decide))).trans hp4
                     have k733 : (gI g4 1000 31 z280).2.1 1000 33 = nv (tx g.2.1) k j := (gI_n (Or.inr (by decide))).trans hv4
                     have k731 : (gI g4 1000 31 z280).2.1 1000 31 = z280 := gI_s
                     generalize gI g4 1000 31 z280 = g7 at h7 k730 k732 k733 k731 ⊢
                     refine ⟨h7, ?_, ?_, ?_, ?_⟩
                     · unfold psq; rw [k730, k731, k732, k733]; exact (by rw [h280]; exact lx_nm hsk hq hse)
                     · rw [k730]; omega
                     · rw [k732]; omega
                     · rw [k731]; rw [h280]; split <;> omega)
                  | (have hq := isN h172 c175
                     have hin := tx_in (h := g.2.1) (k := k) (by omega)
                     have h7 : sameB aX g (gI g6 1000 31 z359) := h6.wr ⟨rfl, by decide, by decide⟩
                     have k730 : (gI g6 1000 31 z359).2.1 1000 30 = (k + 1) := (gI_n (Or.inr (by decide))).trans k630
                     have k732 : (gI g6 1000 31 z359).2.1 1000 32 = k := (gI_n (Or.inr (by decide))).trans k632
                     have k733 : (gI g6 1000 31 z359).2.1 1000 33 = (tx g.2.1) k := (gI_n (Or.inr (by decide))).trans k633
                     have k731 : (gI g6 1000 31 z359).2.1 1000 31 = z359 := gI_s
                     generalize gI g6 1000 31 z359 = g7 at h7 k730 k732 k733 k731 ⊢
                     refine ⟨h7, ?_, ?_, ?_, ?_⟩
                     · unfold psq; rw [k730, k731, k732, k733]; exact (by rw [h359]; exact lx_sg hsk (by omega) (isN h60 c63) hq)
                     · rw [k730]; omega
                     · rw [k732]; omega
                     · rw [k731]; rw [h359]; split <;> omega)
                · skip
                  refine a_aload_n 255 dX12_advances_254 rfl rfl ?_
                  refine a_getIz (nv (tx g.2.1) k j) 258 dX12_advances_255 fX12_192 (h4.MR hM).1 rfl hv4 rfl ?_
                  refine a_sipush (z := 9999) 261 dX12_advances_258 rfl (zrl rfl) rfl ?_
                  refine a_icmp_gt 275 264 dX12_advances_261 (by decide) rfl (fun c261 => ?_) (fun c261 => ?_)
                  · skip
                    refine a_iconst (z := 4) 276 dX12_advances_275 rfl (zrl rfl) rfl ?_
                    refine a_goto 280 dX12_advances_276 (by decide) ?_
                    exact J280 _ (by first | rw [if_pos (by omega)] | rw [if_neg (by omega)])
                  · skip
                    refine a_iload_n 265 dX12_advances_264 rfl rfl ?_
                    refine a_bipush (z := 48) 267 dX12_advances_265 rfl (zrl rfl) rfl ?_
                    refine a_icmp_ne 279 270 dX12_advances_267 (by decide) rfl (fun c267 => ?_) (fun c267 => ?_)
                    · skip
                      refine a_iconst (z := 2) 280 dX12_advances_279 rfl (zrl rfl) rfl ?_
                      exact J280 _ (by first | rw [if_pos (by omega)] | rw [if_neg (by omega)])
                    · skip
                      refine a_iload_n 271 dX12_advances_270 rfl rfl ?_
                      refine a_iconst (z := 1) 272 dX12_advances_271 rfl (zrl rfl) rfl ?_
                      refine a_icmp_le 279 275 dX12_advances_272 (by decide) rfl (fun c272 => ?_) (fun c272 => ?_)
                      · skip
                        refine a_iconst (z := 2) 280 dX12_advances_279 rfl (zrl rfl) rfl ?_
                        exact J280 _ (by first | rw [if_pos (by omega)] | rw [if_neg (by omega)])
                      · skip
                        refine a_iconst (z := 4) 276 dX12_advances_275 rfl (zrl rfl) rfl ?_
                        refine a_goto 280 dX12_advances_276 (by decide) ?_
                        exact J280 _ (by first | rw [if_pos (by omega)] | rw [if_neg (by omega)])
              · skip
                refine a_aload_n 204 dX12_advances_203 rfl rfl ?_
                refine AW.cut (J := 234) (P := fun z => z = nv (tx g.2.1) k (j + 1)) ?_ (fun J234 => ?_)
                · intro z234 h234
                  subst h234
                  refine a_putI 237 dX12_advances_234 fX12_192 (Or.inl rfl) (h4.MR hM).1 (Or.inl rfl) rfl ?_
                  refine a_iinc 240 dX12_advances_237 rfl (by unfold zr; omega) (by decide) rfl rfl ?_
                  refine a_aload_n 241 dX12_advances_240 rfl rfl ?_
                  refine a_dup 242 dX12_advances_241 (by intro w h; cases h) rfl ?_
                  refine a_getIz (k + j) 245 dX12_advances_242 fX12_177 (h4.MR hM).1 rfl ((gI_n (Or.inr (by decide))).trans hk4) rfl ?_
                  refine a_iconst (z := 1) 246 dX12_advances_245 rfl (zrl rfl) rfl ?_
                  refine a_iadd 247 dX12_advances_246 (by unfold zr; omega) rfl ?_
                  refine a_putI 250 dX12_advances_247 fX12_177 (Or.inl rfl) (h4.MR hM).1 (Or.inl rfl) rfl ?_
                  refine a_goto 185 dX12_advances_250 (by decide) ?_
                  have hlt := tx_in (h := g.2.1) (k := k + j) (by omega)
                  refine ih185 (gI (gI g4 1000 33 (nv (tx g.2.1) k (j + 1))) 1000 30 (k + j + 1), j + 1) ⟨(h4.wr ⟨rfl, by decide, by decide⟩).wr ⟨rfl, by decide, by decide⟩, ?_, (gI_n (Or.inr (by decide))).trans ((gI_n (Or.inr (by decide))).trans hp4), (gI_n (Or.inr (by decide))).trans gI_s, by dsimp only; omega, fun x a b => ?_⟩ (by dsimp only; omega)
                  · show (gI (gI g4 1000 33 (nv (tx g.2.1) k (j + 1))) 1000 30 (k + j + 1)).2.1 1000 30 = _
                    rw [gI_s]; dsimp only; omega
                  · dsimp only at b
                    by_cases e : x = k + j
                    · rw [e]; exact isT h197 c200
                    · exact hj x a (by omega)
                · skip
                  refine a_iload_n 205 dX12_advances_204 rfl rfl ?_
                  refine a_iconst (z := 4) 206 dX12_advances_205 rfl (zrl rfl) rfl ?_
                  refine a_icmp_ge 231 209 dX12_advances_206 (by decide) rfl (fun c206 => ?_) (fun c206 => ?_)
                  · skip
                    refine a_sipush (z := 10000) 234 dX12_advances_231 rfl (zrl rfl) rfl ?_
                    exact J234 _ (by show _ = (if j < 4 then 10 * nv (tx g.2.1) k j + (tx g.2.1) (k + j) - 48 else 10000); first | rw [if_pos (by omega)] | rw [if_neg (by omega)])
                  · skip
                    refine a_bipush (z := 10) 211 dX12_advances_209 rfl (zrl rfl) rfl ?_
                    refine a_aload_n 212 dX12_advances_211 rfl rfl ?_
                    refine a_getIz (nv (tx g.2.1) k j) 215 dX12_advances_212 fX12_192 (h4.MR hM).1 rfl hv4 rfl ?_
                    refine a_imul 216 dX12_advances_215 (by unfold zr; omega) rfl ?_
                    refine a_aload_n 217 dX12_advances_216 rfl rfl ?_
                    refine a_aload_n 218 dX12_advances_217 rfl rfl ?_
                    refine a_getIz (k + j) 221 dX12_advances_218 fX12_177 (h4.MR hM).1 rfl hk4 rfl ?_
                    refine a_callV 224 (r_byteAt _ _ (h4.MR hM) (by omega) (by rw [h4.2.2 1000 29 (by unfold aX; omega)]; omega)) cdX12_byteAt lX12_180 dX12_advances_221 rfl (h4.MR hM).1 rfl ⟨by decide, by decide, rfl, rfl⟩ ⟨Nat.zero_le _, Nat.zero_le _⟩ (Nat.le_of_ble_eq_true rfl) rfl ?_
                    rintro _ _ - ⟨rfl, rfl⟩ -
                    rw [tx_same h4]
                    refine a_iadd 225 dX12_advances_224 (by unfold zr; omega) rfl ?_
                    refine a_bipush (z := 48) 227 dX12_advances_225 rfl (zrl rfl) rfl ?_
                    refine a_isub 228 dX12_advances_227 (by unfold zr; omega) rfl ?_
                    refine a_goto 234 dX12_advances_228 (by decide) ?_
                    exact J234 _ (by show _ = (if j < 4 then 10 * nv (tx g.2.1) k j + (tx g.2.1) (k + j) - 48 else 10000); first | rw [if_pos (by omega)] | rw [if_neg (by omega)])
            · exact ⟨h33, by show g33.2.1 1000 30 = k + ((0 : Nat) : Int); omega, k3332, k3333, by dsimp only; omega, fun x a b => by dsimp only at b; omega⟩
        · skip
          refine a_iconst (z := 0) 67 dX12_advances_66 rfl (zrl rfl) rfl ?_
          refine a_istore_n 68 dX12_advances_67 (by decide) rfl rfl ?_
          refine a_iconst (z := 0) 69 dX12_advances_68 rfl (zrl rfl) rfl ?_
          refine a_istore_n 70 dX12_advances_69 (by decide) rfl rfl ?_
          refine AW.loop (α := GH × Nat) (fun p => (g.2.1 1000 29 - k - p.2).toNat) (fun p => sameB aX g p.1 ∧ p.1.2.1 1000 30 = k + p.2 ∧ p.1.2.1 1000 32 = k ∧ k + (p.2 : Int) ≤ g.2.1 1000 29 ∧ ∀ x, k ≤ x → x < k + p.2 → ltB ((tx g.2.1) x)) (fun p => p.1) (fun p => [vA 1000, vI ((tx g.2.1) k), vI (wv (tx g.2.1) k p.2), vI (p.2 : Int)]) (fun p => []) ?_ (g3, 0) ?_
          · rintro ⟨g4, j⟩ ⟨h4, hk4, hp4, hkb4, hj⟩ ih70
            try dsimp only at hI ih ⊢
            try dsimp only at h4 hk4 hp4 hkb4 hj ih70 ⊢
            have hw := wv_le j hj
            have hbj := hb (k + j) (by omega)
            refine a_aload_n 71 dX12_advances_70 rfl rfl ?_
            refine a_aload_n 72 dX12_advances_71 rfl rfl ?_
            refine a_getIz (k + j) 75 dX12_advances_72 fX12_177 (h4.MR hM).1 rfl hk4 rfl ?_
            refine a_callV 78 (r_byteAt _ _ (h4.MR hM) (by omega) (by rw [h4.2.2 1000 29 (by unfold aX; omega)]; omega)) cdX12_byteAt lX12_180 dX12_advances_75 rfl (h4.MR hM).1 rfl ⟨by decide, by decide, rfl, rfl⟩ ⟨Nat.zero_le _, Nat.zero_le _⟩ (Nat.le_of_ble_eq_true rfl) rfl ?_
            rintro _ _ - ⟨rfl, rfl⟩ -
            rw [tx_same h4]
            refine a_bipush (z := 97) 80 dX12_advances_78 rfl (zrl rfl) rfl ?_
            refine a_bipush (z := 122) 82 dX12_advances_80 rfl (zrl rfl) rfl ?_
            refine a_callS 85 (r_in _ _ _ _) cdX12_in lX12_84 dX12_advances_82 rfl rfl ⟨by decide, by decide, rfl, rfl⟩ ⟨Nat.zero_le _, Nat.zero_le _⟩ (Nat.le_of_ble_eq_true rfl) rfl ?_
            rintro _ _ - ⟨b82, rfl, rfl, h82⟩ -
            refine a_if_eq 128 88 dX12_advances_85 (by decide) rfl (fun c85 => ?_) (fun c85 => ?_)
            · skip
              have hse : isSk (fun x => ltB ((tx g.2.1) x)) k (k + j) := ⟨by omega, hj, isN h82 c85⟩
              refine a_aload_n 129 dX12_advances_128 rfl rfl ?_
              refine AW.cut (J := 143) (P := fun z => z = wE (tx g.2.1) k j) ?_ (fun J143 => ?_)
              · intro z143 h143
                refine a_putI 146 dX12_advances_143 fX12_192 (Or.inl rfl) (h4.MR hM).1 (Or.inl rfl) rfl ?_
                have h5 : sameB aX g (gI g4 1000 33 z143) := h4.wr ⟨rfl, by decide, by decide⟩
                have k530 : (gI g4 1000 33 z143).2.1 1000 30 = k + j := (gI_n (Or.inr (by decide))).trans hk4
                have k532 : (gI g4 1000 33 z143).2.1 1000 32 = k := (gI_n (Or.inr (by decide))).trans hp4
                have k533 : (gI g4 1000 33 z143).2.1 1000 33 = z143 := gI_s
                generalize gI g4 1000 33 z143 = g5 at h5 k530 k532 k533 ⊢
                refine a_aload_n 147 dX12_advances_146 rfl rfl ?_
                refine AW.cut (J := 161) (P := fun z => z = (if wE (tx g.2.1) k j = -9 then 4 else 1)) ?_ (fun J161 => ?_)
                · intro z161 h161
                  refine a_putI 164 dX12_advances_161 fX12_186 (Or.inl rfl) (h5.MR hM).1 (Or.inl rfl) rfl ?_
                  refine a_goto 362 dX12_advances_164 (by decide) ?_
                  refine a_return dX12_advances_362 rfl ⟨Nat.zero_le _, Nat.zero_le _⟩ ?_
                  first
                  | (have hq : tx g.2.1 k < 0 := c44
                     have h7 : sameB aX g (gI g3 1000 31 0) := h3.wr ⟨rfl, by decide, by decide⟩
                     have k730 : (gI g3 1000 31 0).2.1 1000 30 = k := (gI_n (Or.inr (by decide))).trans hk3
                     have k732 : (gI g3 1000 31 0).2.1 1000 32 = k := (gI_n (Or.inr (by decide))).trans hp3
                     have k733 : (gI g3 1000 31 0).2.1 1000 33 = g.2.1 1000 33 := (gI_n (Or.inr (by decide))).trans hv3
                     have k731 : (gI g3 1000 31 0).2.1 1000 31 = 0 := gI_s
                     generalize gI g3 1000 31 0 = g7 at h7 k730 k732 k733 k731 ⊢
                     refine ⟨h7, ?_, ?_, ?_, ?_⟩
                     · unfold psq; rw [k730, k731, k732, k733]; exact lx_end hsk hq
                     · rw [k730]; omega
                     · rw [k732]; omega
                     · rw [k731]; omega)
                  | (have hq := isT h60 c63
                     have h7 : sameB aX g (gI g5 1000 31 z161) := h5.wr ⟨rfl, by decide, by decide⟩
                     have k730 : (gI g5 1000 31 z161).2.1 1000 30 = k + j := (gI_n (Or.inr (by decide))).trans k530
                     have k732 : (gI g5 1000 31 z161).2.1 1000 32 = k := (gI_n (Or.inr (by decide))).trans k532
                     have k733 : (gI g5 1000 31 z161).2.1 1000 33 = z143 := (gI_n (Or.inr (by decide))).trans k533
                     have k731 : (gI g5 1000 31 z161).2.1 1000 31 = z161 := gI_s
                     generalize gI g5 1000 31 z161 = g7 at h7 k730 k732 k733 k731 ⊢
                     refine ⟨h7, ?_, ?_, ?_, ?_⟩
                     · unfold psq; rw [k730, k731, k732, k733]; exact (by rw [h161, h143]; exact lx_wd hsk hq hse)
                     · rw [k730]; omega
                     · rw [k732]; omega
                     · rw [k731]; rw [h161]; split <;> omega)
                  | (have hq := isT h172 c175
                     have h7 : sameB aX g (gI g4 1000 31 z280) := h4.wr ⟨rfl, by decide, by decide⟩
                     have k730 : (gI g4 1000 31 z280).2.1 1000 30 = k + j := (gI_n (Or.inr (by decide))).trans hk4
                     have k732 : (gI g4 1000 31 z280).2.1 1000 32 = k := (gI_n (Or.inr (by decide))).trans hp4
                     have k733 : (gI g4 1000 31 z280).2.1 1000 33 = nv (tx g.2.1) k j := (gI_n (Or.inr (by decide))).trans hv4
                     have k731 : (gI g4 1000 31 z280).2.1 1000 31 = z280 := gI_s
                     generalize gI g4 1000 31 z280 = g7 at h7 k730 k732 k733 k731 ⊢
                     refine ⟨h7, ?_, ?_, ?_, ?_⟩
                     · unfold psq; rw [k730, k731, k732, k733]; exact (by rw [h280]; exact lx_nm hsk hq hse)
                     · rw [k730]; omega
                     · rw [k732]; omega
                     · rw [k731]; rw [h280]; split <;> omega)
                  | (have hq := isN h172 c175
                     have hin := tx_in (h := g.2.1) (k := k) (by omega)
                     have h7 : sameB aX g (gI g6 1000 31 z359) := h6.wr ⟨rfl, by decide, by decide⟩
                     have k730 : (gI g6 1000 31 z359).2.1 1000 30 = (k + 1) := (gI_n (Or.inr (by decide))).trans k630
                     have k732 : (gI g6 1000 31 z359).2.1 1000 32 = k := (gI_n (Or.inr (by decide))).trans k632
                     have k733 : (gI g6 1000 31 z359).2.1 1000 33 = (tx g.2.1) k := (gI_n (Or.inr (by decide))).trans k633
                     have k731 : (gI g6 1000 31 z359).2.1 1000 31 = z359 := gI_s
                     generalize gI g6 1000 31 z359 = g7 at h7 k730 k732 k733 k731 ⊢
                     refine ⟨h7, ?_, ?_, ?_, ?_⟩
                     · unfold psq; rw [k730, k731, k732, k733]; exact (by rw [h359]; exact lx_sg hsk (by omega) (isN h60 c63) hq)
                     · rw [k730]; omega
                     · rw [k732]; omega
                     · rw [k731]; rw [h359]; split <;> omega)
                · skip
                  refine a_aload_n 148 dX12_advances_147 rfl rfl ?_
                  refine a_getIz (z143) 151 dX12_advances_148 fX12_192 (h5.MR hM).1 rfl k533 rfl ?_
                  refine a_bipush (z := (-9)) 153 dX12_advances_151 rfl (zrl rfl) rfl ?_
                  refine a_icmp_ne 160 156 dX12_advances_153 (by decide) rfl (fun c153 => ?_) (fun c153 => ?_)
                  · skip
                    refine a_iconst (z := 1) 161 dX12_advances_160 rfl (zrl rfl) rfl ?_
                    exact J161 _ (by first | rw [if_pos (by omega)] | rw [if_neg (by omega)])
                  · skip
                    refine a_iconst (z := 4) 157 dX12_advances_156 rfl (zrl rfl) rfl ?_
                    refine a_goto 161 dX12_advances_157 (by decide) ?_
                    exact J161 _ (by first | rw [if_pos (by omega)] | rw [if_neg (by omega)])
              · skip
                refine a_iload_n 130 dX12_advances_129 rfl rfl ?_
                refine a_iconst (z := 5) 131 dX12_advances_130 rfl (zrl rfl) rfl ?_
                refine a_icmp_ge 141 134 dX12_advances_131 (by decide) rfl (fun c131 => ?_) (fun c131 => ?_)
                · skip
                  refine a_bipush (z := (-9)) 143 dX12_advances_141 rfl (zrl rfl) rfl ?_
                  exact J143 _ (by unfold wE; first | rw [if_pos (by omega)] | rw [if_neg (by omega)])
                · skip
                  refine a_iload_n 135 dX12_advances_134 rfl rfl ?_
                  refine a_callS 138 (r_wordOf _ _) cdX12_wordOf lX12_189 dX12_advances_135 rfl rfl ⟨by decide, by decide, rfl, rfl⟩ ⟨Nat.zero_le _, Nat.zero_le _⟩ (Nat.le_of_ble_eq_true rfl) rfl ?_
                  rintro _ _ - ⟨rfl, rfl⟩ -
                  refine a_goto 143 dX12_advances_138 (by decide) ?_
                  exact J143 _ (by unfold wE; first | rw [if_pos (by omega)] | rw [if_neg (by omega)])
            · skip
              refine AW.cut (J := 111) (P := fun z => z = wv (tx g.2.1) k (j + 1)) ?_ (fun J111 => ?_)
              · intro z111 h111
                subst h111
                refine a_istore_n 112 dX12_advances_111 (by decide) rfl rfl ?_
                refine a_iinc 115 dX12_advances_112 rfl (by unfold zr; omega) (by decide) rfl rfl ?_
                refine a_aload_n 116 dX12_advances_115 rfl rfl ?_
                refine a_dup 117 dX12_advances_116 (by intro w h; cases h) rfl ?_
                refine a_getIz (k + j) 120 dX12_advances_117 fX12_177 (h4.MR hM).1 rfl hk4 rfl ?_
                refine a_iconst (z := 1) 121 dX12_advances_120 rfl (zrl rfl) rfl ?_
                refine a_iadd 122 dX12_advances_121 (by unfold zr; omega) rfl ?_
                refine a_putI 125 dX12_advances_122 fX12_177 (Or.inl rfl) (h4.MR hM).1 (Or.inl rfl) rfl ?_
                refine a_goto 70 dX12_advances_125 (by decide) ?_
                have hlt := tx_in (h := g.2.1) (k := k + j) (by omega)
                refine ih70 (gI g4 1000 30 (k + j + 1), j + 1) ⟨h4.wr ⟨rfl, by decide, by decide⟩, ?_, (gI_n (Or.inr (by decide))).trans hp4, by dsimp only; omega, fun x a b => ?_⟩ (by dsimp only; omega)
                · show (gI g4 1000 30 (k + j + 1)).2.1 1000 30 = _
                  rw [gI_s]; dsimp only; omega
                · dsimp only at b
                  by_cases e : x = k + j
                  · rw [e]; exact isT h82 c85
                  · exact hj x a (by omega)
              · skip
                refine a_iload_n 89 dX12_advances_88 rfl rfl ?_
                refine a_iconst (z := 4) 90 dX12_advances_89 rfl (zrl rfl) rfl ?_
                refine a_icmp_ge 110 93 dX12_advances_90 (by decide) rfl (fun c90 => ?_) (fun c90 => ?_)
                · skip
                  refine a_iload_n 111 dX12_advances_110 rfl rfl ?_
                  exact J111 _ (by show _ = (if j < 4 then 256 * wv (tx g.2.1) k j + (tx g.2.1) (k + j) else wv (tx g.2.1) k j); first | rw [if_pos (by omega)] | rw [if_neg (by omega)])
                · skip
                  refine a_sipush (z := 256) 96 dX12_advances_93 rfl (zrl rfl) rfl ?_
                  refine a_iload_n 97 dX12_advances_96 rfl rfl ?_
                  refine a_imul 98 dX12_advances_97 (by unfold zr; omega) rfl ?_
                  refine a_aload_n 99 dX12_advances_98 rfl rfl ?_
                  refine a_aload_n 100 dX12_advances_99 rfl rfl ?_
                  refine a_getIz (k + j) 103 dX12_advances_100 fX12_177 (h4.MR hM).1 rfl hk4 rfl ?_
                  refine a_callV 106 (r_byteAt _ _ (h4.MR hM) (by omega) (by rw [h4.2.2 1000 29 (by unfold aX; omega)]; omega)) cdX12_byteAt lX12_180 dX12_advances_103 rfl (h4.MR hM).1 rfl ⟨by decide, by decide, rfl, rfl⟩ ⟨Nat.zero_le _, Nat.zero_le _⟩ (Nat.le_of_ble_eq_true rfl) rfl ?_
                  rintro _ _ - ⟨rfl, rfl⟩ -
                  rw [tx_same h4]
                  refine a_iadd 107 dX12_advances_106 (by unfold zr; omega) rfl ?_
                  refine a_goto 111 dX12_advances_107 (by decide) ?_
                  exact J111 _ (by show _ = (if j < 4 then 256 * wv (tx g.2.1) k j + (tx g.2.1) (k + j) else wv (tx g.2.1) k j); first | rw [if_pos (by omega)] | rw [if_neg (by omega)])
          · exact ⟨h3, by show g3.2.1 1000 30 = k + ((0 : Nat) : Int); omega, hp3, by dsimp only; omega, fun x a b => by dsimp only at b; omega⟩
      · skip
        refine a_aload_n 48 dX12_advances_47 rfl rfl ?_
        refine a_iconst (z := 0) 49 dX12_advances_48 rfl (zrl rfl) rfl ?_
        refine a_putI 52 dX12_advances_49 fX12_186 (Or.inl rfl) (h3.MR hM).1 (Or.inl rfl) rfl ?_
        refine a_goto 362 dX12_advances_52 (by decide) ?_
        refine a_return dX12_advances_362 rfl ⟨Nat.zero_le _, Nat.zero_le _⟩ ?_
        first
        | (have hq : tx g.2.1 k < 0 := c44
           have h7 : sameB aX g (gI g3 1000 31 0) := h3.wr ⟨rfl, by decide, by decide⟩
           have k730 : (gI g3 1000 31 0).2.1 1000 30 = k := (gI_n (Or.inr (by decide))).trans hk3
           have k732 : (gI g3 1000 31 0).2.1 1000 32 = k := (gI_n (Or.inr (by decide))).trans hp3
           have k733 : (gI g3 1000 31 0).2.1 1000 33 = g.2.1 1000 33 := (gI_n (Or.inr (by decide))).trans hv3
           have k731 : (gI g3 1000 31 0).2.1 1000 31 = 0 := gI_s
           generalize gI g3 1000 31 0 = g7 at h7 k730 k732 k733 k731 ⊢
           refine ⟨h7, ?_, ?_, ?_, ?_⟩
           · unfold psq; rw [k730, k731, k732, k733]; exact lx_end hsk hq
           · rw [k730]; omega
           · rw [k732]; omega
           · rw [k731]; omega)
        | (have hq := isT h60 c63
           have h7 : sameB aX g (gI g5 1000 31 z161) := h5.wr ⟨rfl, by decide, by decide⟩
           have k730 : (gI g5 1000 31 z161).2.1 1000 30 = k + j := (gI_n (Or.inr (by decide))).trans k530
           have k732 : (gI g5 1000 31 z161).2.1 1000 32 = k := (gI_n (Or.inr (by decide))).trans k532
           have k733 : (gI g5 1000 31 z161).2.1 1000 33 = z143 := (gI_n (Or.inr (by decide))).trans k533
           have k731 : (gI g5 1000 31 z161).2.1 1000 31 = z161 := gI_s
           generalize gI g5 1000 31 z161 = g7 at h7 k730 k732 k733 k731 ⊢
           refine ⟨h7, ?_, ?_, ?_, ?_⟩
           · unfold psq; rw [k730, k731, k732, k733]; exact (by rw [h161, h143]; exact lx_wd hsk hq hse)
           · rw [k730]; omega
           · rw [k732]; omega
           · rw [k731]; rw [h161]; split <;> omega)
        | (have hq := isT h172 c175
           have h7 : sameB aX g (gI g4 1000 31 z280) := h4.wr ⟨rfl, by decide, by decide⟩
           have k730 : (gI g4 1000 31 z280).2.1 1000 30 = k + j := (gI_n (Or.inr (by decide))).trans hk4
           have k732 : (gI g4 1000 31 z280).2.1 1000 32 = k := (gI_n (Or.inr (by decide))).trans hp4
           have k733 : (gI g4 1000 31 z280).2.1 1000 33 = nv (tx g.2.1) k j := (gI_n (Or.inr (by decide))).trans hv4
           have k731 : (gI g4 1000 31 z280).2.1 1000 31 = z280 := gI_s
           generalize gI g4 1000 31 z280 = g7 at h7 k730 k732 k733 k731 ⊢
           refine ⟨h7, ?_, ?_, ?_, ?_⟩
           · unfold psq; rw [k730, k731, k732, k733]; exact (by rw [h280]; exact lx_nm hsk hq hse)
           · rw [k730]; omega
           · rw [k732]; omega
           · rw [k731]; rw [h280]; split <;> omega)
        | (have hq := isN h172 c175
           have hin := tx_in (h := g.2.1) (k := k) (by omega)
           have h7 : sameB aX g (gI g6 1000 31 z359) := h6.wr ⟨rfl, by decide, by decide⟩
           have k730 : (gI g6 1000 31 z359).2.1 1000 30 = (k + 1) := (gI_n (Or.inr (by decide))).trans k630
           have k732 : (gI g6 1000 31 z359).2.1 1000 32 = k := (gI_n (Or.inr (by decide))).trans k632
           have k733 : (gI g6 1000 31 z359).2.1 1000 33 = (tx g.2.1) k := (gI_n (Or.inr (by decide))).trans k633
           have k731 : (gI g6 1000 31 z359).2.1 1000 31 = z359 := gI_s
           generalize gI g6 1000 31 z359 = g7 at h7 k730 k732 k733 k731 ⊢
           refine ⟨h7, ?_, ?_, ?_, ?_⟩
           · unfold psq; rw [k730, k731, k732, k733]; exact (by rw [h359]; exact lx_sg hsk (by omega) (isN h60 c63) hq)
           · rw [k730]; omega
           · rw [k732]; omega
           · rw [k731]; rw [h359]; split <;> omega)
    · skip
      refine a_aload_n 14 dX12_advances_13 rfl rfl ?_
      refine a_dup 15 dX12_advances_14 (by intro w h; cases h) rfl ?_
      refine a_getIz (k) 18 dX12_advances_15 fX12_177 (h2.MR hM).1 rfl hk2 rfl ?_
      refine a_iconst (z := 1) 19 dX12_advances_18 rfl (zrl rfl) rfl ?_
      refine a_iadd 20 dX12_advances_19 (by unfold zr; omega) rfl ?_
      refine a_putI 23 dX12_advances_20 fX12_177 (Or.inl rfl) (h2.MR hM).1 (Or.inl rfl) rfl ?_
      refine a_goto 0 dX12_advances_23 (by decide) ?_
      have hlt := tx_in (h := g.2.1) (k := k) (by omega)
      refine ih0 (gI g2 1000 30 (k + 1), k + 1) ⟨h2.wr ⟨rfl, by decide, by decide⟩, gI_s, (gI_n (Or.inr (by decide))).trans hv2, by dsimp only; omega, fun x a b => ?_⟩ (by dsimp only; omega)
      dsimp only at b
      by_cases e : x = k
      · rw [e]; exact c10
      · exact hk x a (by omega)
  · exact ⟨sameB.rf, rfl, rfl, by dsimp only; omega, fun x a b => by dsimp only at b; omega⟩
