theorem sameB.sh {X : Nat → Nat → Prop} {g g' : GH} {a : Nat} {x : Option Sh} (h : sameB X g g') (q : g.1 a = x) : g'.1 a = x := by rw [h.1]; exact q
theorem sameB.rr {X : Nat → Nat → Prop} {g g' : GH} {a k : Nat} {x : Option Nat} (h : sameB X g g') (q : g.2.2.2 a k = x) : g'.2.2.2 a k = x := by rw [h.2.1]; exact q
theorem sameB.lg {X : Nat → Nat → Prop} {g g' : GH} (h : sameB X g g') : g'.2.2.1 = g.2.2.1 := by rw [h.2.1]
/-- z is the greatest of F's n numbers, 0 at least -/
def isMx (F : Nat → Int) (n : Nat) (z : Int) : Prop := 0 ≤ z ∧ (∀ f, f < n → F f ≤ z) ∧ (z = 0 ∨ ∃ f, f < n ∧ F f = z)
theorem isMx.uniq {F : Nat → Int} {n : Nat} {y z : Int} (a : isMx F n y) (b : isMx F n z) : y = z := by
  obtain ⟨a1, a2, a3⟩ := a; obtain ⟨b1, b2, b3⟩ := b
  have h1 : y ≤ z := by rcases a3 with q | ⟨f, q1, q2⟩; omega; have := b2 f q1; omega
  have h2 : z ≤ y := by rcases b3 with q | ⟨f, q1, q2⟩; omega; have := a2 f q1; omega
  omega
theorem isMx.cg {F G : Nat → Int} {n : Nat} {z : Int} (a : isMx F n z) (h : ∀ f, f < n → F f = G f) : isMx G n z := by
  obtain ⟨a1, a2, a3⟩ := a
  refine ⟨a1, fun f hf => by rw [← h f hf]; exact a2 f hf, ?_⟩
  rcases a3 with q | ⟨f, q1, q2⟩
  · exact Or.inl q
  · exact Or.inr ⟨f, q1, by rw [← h f q1]; exact q2⟩
theorem isMx.inc {F G : Nat → Int} {n : Nat} {z : Int} {f : Nat} (a : isMx F n z) (hf : f < n) (h1 : G f = F f + 1) (h2 : ∀ k, k < n → k ≠ f → G k = F k) : isMx G n (if z < G f then G f else z) := by
  obtain ⟨a1, a2, a3⟩ := a
  have := a2 f hf
  refine ⟨by split <;> omega, fun k hk => ?_, ?_⟩
  · by_cases e : k = f
    · subst e; split <;> omega
    · have := a2 k hk; rw [h2 k hk e]; split <;> omega
  · split
    · exact Or.inr ⟨f, hf, rfl⟩
    · rcases a3 with q | ⟨k, q1, q2⟩
      · exact Or.inl q
      · refine Or.inr ⟨k, q1, ?_⟩
        rw [h2 k q1 (fun e => by subst e; omega)]; exact q2
theorem figD_b {i d : Int} (h0 : 0 ≤ d) (h1 : d ≤ 999) : 0 ≤ figD i d ∧ figD i d ≤ 9 := by
  unfold figD; split
  · omega
  · split <;> omega
/-- the days of the set with figure f at place i -/
abbrev dfP (L : Nat → Int64) (i f : Int) (d : Int) : Prop := dB L d ∧ figD i d = f
theorem cnt_s (P : Int → Prop) (n : Nat) : (P n → cnt P (n + 1) = cnt P n + 1) ∧ (¬ P n → cnt P (n + 1) = cnt P n) := ⟨fun h => by show cnt P n + ci (P n) = _; rw [ci_t h], fun h => by show cnt P n + ci (P n) = _; rw [ci_f h]; omega⟩
set_option maxHeartbeats 4000000 in
set_option maxRecDepth 100000 in
theorem c5_mostDaysByFigure (g : GH) (i : Int) {k s w n : Nat} (hk : g.1 k = some (Sum.inl 5)) (hks : g.2.2.2 k 3 = some s) (hs : g.1 s = some (Sum.inl 1)) (hw : g.2.2.2 s 0 = some w) (ha : g.1 w = some (Sum.inr (.long, 16))) (hn : g.1 n = some (Sum.inr (.int, 10))) (hi : 0 ≤ i ∧ i ≤ 2) : AMet mX5_mostDaysByFigure g [vA k, vI i, vA n] (fun r g' => ∃ z, r = vI z ∧ isMx (fun f : Nat => cnt (dfP (g.2.2.1 w) i f) 1000) 10 z ∧ sameB (fun a _ => a = n) g g') := by
  refine AMet.of [vA k, vI i, vA n, none, none, none] (by decide) rfl (Nat.le_of_ble_eq_true rfl) ?_
  refine a_aload_n 1 dX5_mostDaysByFigure_0 rfl rfl ?_
  refine a_iconst (z := 0) 2 dX5_mostDaysByFigure_1 rfl (zrl rfl) rfl ?_
  refine a_callS 5 (j_fill _ _ hn (by decide)) cdJ7_fill_53178 lX5_102 dX5_mostDaysByFigure_2 rfl rfl ⟨by decide, by decide, rfl, rfl⟩ ⟨Nat.zero_le _, Nat.zero_le _⟩ (Nat.le_of_ble_eq_true rfl) rfl ?_
  rintro _ g2 - rfl -
  have h2 : sameB (fun a _ => a = n) g (gF g n 10 0) := ⟨rfl, rfl, fun a k q => gF_n q⟩
  have hz2 : ∀ f : Nat, f < 10 → (gF g n 10 0).2.1 n f = 0 := fun f hf => gF_i hf
  generalize gF g n 10 0 = g2 at h2 hz2 ⊢
  refine a_iconst (z := 0) 6 dX5_mostDaysByFigure_5 rfl (zrl rfl) rfl ?_
  refine a_istore_n 7 dX5_mostDaysByFigure_6 (by decide) rfl rfl ?_
  refine a_iconst (z := 0) 8 dX5_mostDaysByFigure_7 rfl (zrl rfl) rfl ?_
  refine a_istore 10 dX5_mostDaysByFigure_8 (by decide) rfl rfl ?_
  refine AW.loop (α := GH × Nat × Int) (fun p => 1000 - p.2.1) (fun p => sameB (fun a _ => a = n) g p.1 ∧ p.2.1 ≤ 1000 ∧ (∀ f : Nat, f < 10 → p.1.2.1 n f = cnt (dfP (g.2.2.1 w) i f) p.2.1) ∧ isMx (fun f : Nat => cnt (dfP (g.2.2.1 w) i f) p.2.1) 10 p.2.2 ∧ p.2.2 ≤ p.2.1) (fun p => p.1) (fun p => [vA k, vI i, vA n, vI p.2.2, vI (p.2.1 : Int), none]) (fun p => []) ?_ (g2, 0, 0) ?_
  · rintro ⟨g3, d, z⟩ ⟨h3, hd, hc, hm, hzd⟩ ih10
    try dsimp only at hI ih ⊢
    try dsimp only at h3 hd hc hm hzd ih10 ⊢
    have hz0 := hm.1
    refine a_iload 12 dX5_mostDaysByFigure_10 rfl rfl ?_
    refine a_sipush (z := 1000) 15 dX5_mostDaysByFigure_12 rfl (zrl rfl) rfl ?_
    refine a_icmp_ge 74 18 dX5_mostDaysByFigure_15 (by decide) rfl (fun c15 => ?_) (fun c15 => ?_)
    · skip
      refine a_iload_n 75 dX5_mostDaysByFigure_74 rfl rfl ?_
      refine a_ireturn dX5_mostDaysByFigure_75 rfl ⟨Nat.zero_le _, Nat.zero_le _⟩ ?_
      have e : d = 1000 := by omega
      subst e
      exact ⟨z, rfl, hm, h3⟩
    · skip
      refine a_iload 20 dX5_mostDaysByFigure_18 rfl rfl ?_
      refine a_iload_n 21 dX5_mostDaysByFigure_20 rfl rfl ?_
      refine a_callS 24 (c11_figureOf _ _ _ (by omega)) cdX11_figureOf lX5_89 dX5_mostDaysByFigure_21 rfl rfl ⟨by decide, by decide, rfl, rfl⟩ ⟨Nat.zero_le _, Nat.zero_le _⟩ (Nat.le_of_ble_eq_true rfl) rfl ?_
      rintro _ _ - ⟨rfl, rfl⟩ -
      refine a_istore 26 dX5_mostDaysByFigure_24 (by decide) rfl rfl ?_
      refine a_aload_n 27 dX5_mostDaysByFigure_26 rfl rfl ?_
      refine a_getR 30 dX5_mostDaysByFigure_27 fX5_12 (h3.sh hk) rfl (h3.rr hks) rfl ?_
      refine a_iload 32 dX5_mostDaysByFigure_30 rfl rfl ?_
      refine a_callV 35 (c1_has _ _ (h3.sh hs) (h3.rr hw) (h3.sh ha)) cdX1_has lX5_108 dX5_mostDaysByFigure_32 rfl (h3.sh hs) rfl ⟨by decide, by decide, rfl, rfl⟩ ⟨Nat.zero_le _, Nat.zero_le _⟩ (Nat.le_of_ble_eq_true rfl) rfl ?_
      rintro _ _ - ⟨b32, rfl, rfl, h32⟩ -
      rw [h3.lg] at h32
      refine a_if_eq 68 38 dX5_mostDaysByFigure_35 (by decide) rfl (fun c35 => ?_) (fun c35 => ?_)
      · skip
        refine a_iinc 71 dX5_mostDaysByFigure_68 rfl (by unfold zr; omega) (by decide) rfl rfl ?_
        refine a_goto 10 dX5_mostDaysByFigure_71 (by decide) ?_
        refine AW.kill 5 ?_
        have hf := figD_b (i := i) (d := (d : Int)) (by omega) (by omega)
        have hno : ¬ dB (g.2.2.1 w) d := fun q => by
          first
          | exact isN h32 c35 ⟨by omega, q⟩
          | exact isN h45 c48 (by omega)
        have e2 : ∀ x : Nat, cnt (dfP (g.2.2.1 w) i x) (d + 1) = cnt (dfP (g.2.2.1 w) i x) d := fun x => (cnt_s _ d).2 (fun q => hno q.1)
        exact ih10 (g3, d + 1, z) ⟨h3, by dsimp only; omega, fun x hx => by dsimp only; rw [e2 x]; exact hc x hx, hm.cg (fun x _ => (e2 x).symm), by dsimp only; omega⟩ (by dsimp only; omega)
      · skip
        refine a_iload 40 dX5_mostDaysByFigure_38 rfl rfl ?_
        refine a_iconst (z := 0) 41 dX5_mostDaysByFigure_40 rfl (zrl rfl) rfl ?_
        refine a_aload_n 42 dX5_mostDaysByFigure_41 rfl rfl ?_
        refine a_alen 43 dX5_mostDaysByFigure_42 (h3.sh hn) (by omega) rfl ?_
        refine a_iconst (z := 1) 44 dX5_mostDaysByFigure_43 rfl (zrl rfl) rfl ?_
        refine a_isub 45 dX5_mostDaysByFigure_44 (by unfold zr; omega) rfl ?_
        refine a_callS 48 (c11_within _ _ _ _) cdX11_within lX5_111 dX5_mostDaysByFigure_45 rfl rfl ⟨by decide, by decide, rfl, rfl⟩ ⟨Nat.zero_le _, Nat.zero_le _⟩ (Nat.le_of_ble_eq_true rfl) rfl ?_
        rintro _ _ - ⟨b45, rfl, rfl, h45⟩ -
        refine a_if_eq 68 51 dX5_mostDaysByFigure_48 (by decide) rfl (fun c48 => ?_) (fun c48 => ?_)
        · skip
          refine a_iinc 71 dX5_mostDaysByFigure_68 rfl (by unfold zr; omega) (by decide) rfl rfl ?_
          refine a_goto 10 dX5_mostDaysByFigure_71 (by decide) ?_
          refine AW.kill 5 ?_
          have hf := figD_b (i := i) (d := (d : Int)) (by omega) (by omega)
          have hno : ¬ dB (g.2.2.1 w) d := fun q => by
            first
            | exact isN h32 c35 ⟨by omega, q⟩
            | exact isN h45 c48 (by omega)
          have e2 : ∀ x : Nat, cnt (dfP (g.2.2.1 w) i x) (d + 1) = cnt (dfP (g.2.2.1 w) i x) d := fun x => (cnt_s _ d).2 (fun q => hno q.1)
          exact ih10 (g3, d + 1, z) ⟨h3, by dsimp only; omega, fun x hx => by dsimp only; rw [e2 x]; exact hc x hx, hm.cg (fun x _ => (e2 x).symm), by dsimp only; omega⟩ (by dsimp only; omega)
        · skip
          have hfb := figD_b (i := i) (d := (d : Int)) (by omega) (by omega)
          have hcc : 0 ≤ g3.2.1 n (figD i d).toNat ∧ g3.2.1 n (figD i d).toNat ≤ d := by rw [hc (figD i d).toNat (by omega)]; exact cnt_le _ _
          refine a_aload_n 52 dX5_mostDaysByFigure_51 rfl rfl ?_
          refine a_iload 54 dX5_mostDaysByFigure_52 rfl rfl ?_
          refine a_dup2 55 dX5_mostDaysByFigure_54 (by intro w h; cases h) (by intro w h; cases h) rfl ?_
          refine a_iald 56 dX5_mostDaysByFigure_55 (h3.sh hn) (by omega) (by omega) rfl ?_
          refine a_iconst (z := 1) 57 dX5_mostDaysByFigure_56 rfl (zrl rfl) rfl ?_
          refine a_iadd 58 dX5_mostDaysByFigure_57 (by unfold zr; omega) rfl ?_
          refine a_iast 59 dX5_mostDaysByFigure_58 (h3.sh hn) (by omega) (by omega) rfl ?_
          refine a_iload_n 60 dX5_mostDaysByFigure_59 rfl rfl ?_
          refine a_aload_n 61 dX5_mostDaysByFigure_60 rfl rfl ?_
          refine a_iload 63 dX5_mostDaysByFigure_61 rfl rfl ?_
          refine a_iald 64 dX5_mostDaysByFigure_63 (h3.sh hn) (by omega) (by omega) rfl ?_
          refine a_max 67 klX5_115 dX5_mostDaysByFigure_64 ⟨by decide, by decide, rfl, rfl⟩ ⟨Nat.zero_le _, Nat.zero_le _⟩ (Nat.le_of_ble_eq_true rfl) rfl ?_
          refine a_istore_n 68 dX5_mostDaysByFigure_67 (by decide) rfl rfl ?_
          refine a_iinc 71 dX5_mostDaysByFigure_68 rfl (by unfold zr; omega) (by decide) rfl rfl ?_
          refine a_goto 10 dX5_mostDaysByFigure_71 (by decide) ?_
          refine AW.kill 5 ?_
          have hf := figD_b (i := i) (d := (d : Int)) (by omega) (by omega)
          have hin := isT h32 c35
          obtain ⟨f, hfe⟩ : ∃ f : Nat, figD i d = f := ⟨(figD i d).toNat, by omega⟩
          rw [hfe, Int.toNat_natCast]
          have hcf := hc f (by omega)
          rw [hcf]
          have hcl := cnt_le (dfP (g.2.2.1 w) i f) d
          have e1 : cnt (dfP (g.2.2.1 w) i f) (d + 1) = cnt (dfP (g.2.2.1 w) i f) d + 1 := (cnt_s _ d).1 ⟨hin.2, hfe⟩
          have e2 : ∀ x : Nat, x ≠ f → cnt (dfP (g.2.2.1 w) i x) (d + 1) = cnt (dfP (g.2.2.1 w) i x) d := fun x hx => (cnt_s _ d).2 (fun q => hx (by have := q.2; omega))
          rw [gI_s]
          have hm2 := hm.inc (G := (fun f : Nat => cnt (dfP (g.2.2.1 w) i f) (d + 1))) (f := f) (by omega) e1 (fun x _ hx => e2 x hx)
          try dsimp only at hm2
          rw [e1] at hm2
          refine ih10 (gI g3 n f (cnt (dfP (g.2.2.1 w) i f) d + 1), d + 1, if z < cnt (dfP (g.2.2.1 w) i f) d + 1 then cnt (dfP (g.2.2.1 w) i f) d + 1 else z) ⟨h3.wr rfl, by dsimp only; omega, fun x hx => ?_, hm2, by dsimp only; split <;> omega⟩ (by dsimp only; omega)
          show (gI g3 n f _).2.1 n x = cnt (dfP (g.2.2.1 w) i x) (d + 1)
          by_cases e : x = f
          · subst e; rw [gI_s, e1]
          · rw [gI_n (Or.inr e), e2 x e]; exact hc x hx
  · exact ⟨h2, Nat.zero_le _, hz2, ⟨Int.le_refl _, fun f _ => Int.le_refl _, Or.inl rfl⟩, Int.le_refl _⟩
/-- the words of one set anew -/
def gW (g : GH) (w : Nat) (L : Nat → Int64) : GH := (g.1, g.2.1, fun a => if a = w then L else g.2.2.1 a, g.2.2.2)
theorem gW_w {g : GH} {w : Nat} {L : Nat → Int64} : (gW g w L).2.2.1 w = L := if_pos rfl
theorem gW_0 {g : GH} {w : Nat} : gW g w (g.2.2.1 w) = g := by
  have : (fun a => if a = w then g.2.2.1 w else g.2.2.1 a) = g.2.2.1 := by funext a; split; rename_i q; rw [q]; rfl
  show (g.1, g.2.1, _, g.2.2.2) = g
  rw [this]
theorem gW_L {g : GH} {w i : Nat} {L : Nat → Int64} {v : Int64} : gL (gW g w L) w i v = gW g w (fun k => if k = i then v else L k) := by
  have : u2 (gW g w L).2.2.1 w i v = (gW g w (fun k => if k = i then v else L k)).2.2.1 := by
    funext a k
    show (if a = w ∧ k = i then v else (if a = w then L else g.2.2.1 a) k) = (if a = w then (fun k => if k = i then v else L k) else g.2.2.1 a) k
    by_cases h1 : a = w
    · rw [if_pos h1, if_pos h1]
      by_cases h2 : k = i
      · rw [if_pos ⟨h1, h2⟩, if_pos h2]
      · rw [if_neg (fun q => h2 q.2), if_neg h2]
    · rw [if_neg (fun q => h1 q.1), if_neg h1, if_neg h1]
  show (g.1, g.2.1, u2 (gW g w L).2.2.1 w i v, g.2.2.2) = _
  rw [this]; rfl
theorem ne_of_sh {g : GH} {a b : Nat} {x : Sh} (h : g.1 a = none) (q : g.1 b = some x) : b ≠ a := fun e => by rw [e, h] at q; cases q
/-- the heap with a mark's days found, but for the rows n and q -/
noncomputable abbrev gD (g : GH) (k w n : Nat) (L : Nat → Int64) : GH := gN (gI (gW g w L) k 12 (cnt (dB L) 1000)) n (Sum.inr (.int, 10))
set_option maxHeartbeats 4000000 in
set_option maxRecDepth 100000 in
theorem c5_findDays (g : GH) {k s w n q : Nat} (F : Int → Prop) (hk : g.1 k = some (Sum.inl 5)) (hks : g.2.2.2 k 3 = some s) (hs : g.1 s = some (Sum.inl 1)) (hw : g.2.2.2 s 0 = some w) (ha : g.1 w = some (Sum.inr (.long, 16))) (hkq : g.2.2.2 k 4 = some q) (hq : g.1 q = some (Sum.inr (.int, 3))) (hn : g.1 n = none) (hlt : n < 1000000) (h0 : 0 ≤ g.2.1 k 5) (hL0 : ∀ x, ¬ dB (g.2.2.1 w) x) (hF : ∀ (L : Nat → Int64) (d : Int), 0 ≤ d → d ≤ 999 → AMet mX5_fitsDie (gW g w L) [vA k, vI d] (pB (gW g w L) (F d))) : AMet mX5_findDays g [vA k] (fun _ g' => ∃ L : Nat → Int64, (∀ x : Int, 0 ≤ x → (dB L x ↔ x ≤ 999 ∧ fitD (g.2.1 k 5) x ∧ F x)) ∧ sameB (fun a _ => a = n ∨ a = q) (gD g k w n L) g' ∧ ∀ i : Nat, i < 3 → isMx (fun f : Nat => cnt (dfP L (i : Int) f) 1000) 10 (g'.2.1 q i)) := by
  refine AMet.of [vA k, none, none] (by decide) rfl (Nat.le_of_ble_eq_true rfl) ?_
  refine a_iconst (z := 0) 1 dX5_findDays_0 rfl (zrl rfl) rfl ?_
  refine a_istore_n 2 dX5_findDays_1 (by decide) rfl rfl ?_
  refine AW.loop (α := GH × (Nat → Int64) × Nat) (fun p => 1000 - p.2.2) (fun p => p.1 = gW g w p.2.1 ∧ p.2.2 ≤ 1000 ∧ ∀ x : Int, 0 ≤ x → (dB p.2.1 x ↔ x < p.2.2 ∧ fitD (g.2.1 k 5) x ∧ F x)) (fun p => p.1) (fun p => [vA k, vI (p.2.2 : Int), none]) (fun p => []) ?_ (g, g.2.2.1 w, 0) ?_
  · rintro ⟨g3, L, d⟩ ⟨e3, hd, hI⟩ ih2
    try dsimp only at hI ih ⊢
    try dsimp only at e3 hd hI ih2 ⊢
    subst e3
    refine a_iload_n 3 dX5_findDays_2 rfl rfl ?_
    refine a_sipush (z := 1000) 6 dX5_findDays_3 rfl (zrl rfl) rfl ?_
    refine a_icmp_ge 39 9 dX5_findDays_6 (by decide) rfl (fun c6 => ?_) (fun c6 => ?_)
    · skip
      refine a_aload_n 40 dX5_findDays_39 rfl rfl ?_
      refine a_aload_n 41 dX5_findDays_40 rfl rfl ?_
      refine a_getR 44 dX5_findDays_41 fX5_12 hk rfl hks rfl ?_
      refine a_callV 47 (c1_size _ hs hw ha) cdX1_size lX5_74 dX5_findDays_44 rfl hs rfl ⟨by decide, by decide, rfl, rfl⟩ ⟨Nat.zero_le _, Nat.zero_le _⟩ (Nat.le_of_ble_eq_true rfl) rfl ?_
      rintro _ _ - ⟨rfl, rfl⟩ -
      rw [gW_w, show (1024 : Nat) = 1000 + 24 from rfl, cnt_0 24 (fun x a b z => by have := ((hI x (by omega)).mp z).1; omega)]
      refine a_putI 50 dX5_findDays_47 fX5_78 (Or.inl rfl) hk (Or.inl rfl) rfl ?_
      refine a_bipush (z := 10) 52 dX5_findDays_50 rfl (zrl rfl) rfl ?_
      refine a_newa .int (n) 54 dX5_findDays_52 rfl ac_int (by decide) ⟨rfl, rfl⟩ (by decide) (by decide) hn hlt (by decide) (by decide) rfl ?_
      have nk := ne_of_sh hn hk
      have ns := ne_of_sh hn hs
      have nw := ne_of_sh hn ha
      have nq := ne_of_sh hn hq
      obtain ⟨g6, e6⟩ : ∃ x, x = gD g k w n L := ⟨_, rfl⟩
      rw [show gN (gI (gW g w L) k 12 (cnt (dB L) 1000)) n (Sum.inr (FieldType.int, (10 : Int).toNat)) = g6 from e6.symm]
      have hk6 : g6.1 k = some (Sum.inl 5) := by rw [e6]; exact (u1_n nk).trans hk
      have hs6 : g6.1 s = some (Sum.inl 1) := by rw [e6]; exact (u1_n ns).trans hs
      have ha6 : g6.1 w = some (Sum.inr (.long, 16)) := by rw [e6]; exact (u1_n nw).trans ha
      have hq6 : g6.1 q = some (Sum.inr (.int, 3)) := by rw [e6]; exact (u1_n nq).trans hq
      have hn6 : g6.1 n = some (Sum.inr (.int, 10)) := by rw [e6]; exact u1_s
      have hks6 : g6.2.2.2 k 3 = some s := by rw [e6]; show u1 g.2.2.2 n (fun _ => none) k 3 = _; rw [u1_n nk]; exact hks
      have hkq6 : g6.2.2.2 k 4 = some q := by rw [e6]; show u1 g.2.2.2 n (fun _ => none) k 4 = _; rw [u1_n nk]; exact hkq
      have hw6 : g6.2.2.2 s 0 = some w := by rw [e6]; show u1 g.2.2.2 n (fun _ => none) s 0 = _; rw [u1_n ns]; exact hw
      have hL6 : g6.2.2.1 w = L := by rw [e6]; show u1 (gW g w L).2.2.1 n (fun _ => 0) w = _; rw [u1_n nw]; exact gW_w
      refine a_astore_n 55 dX5_findDays_54 (by decide) rfl rfl ?_
      refine a_iconst (z := 0) 56 dX5_findDays_55 rfl (zrl rfl) rfl ?_
      refine a_istore_n 57 dX5_findDays_56 (by decide) rfl rfl ?_
      refine AW.loop (α := GH × Nat) (fun p => 3 - p.2) (fun p => sameB (fun a _ => a = n ∨ a = q) g6 p.1 ∧ p.2 ≤ 3 ∧ ∀ i : Nat, i < p.2 → isMx (fun f : Nat => cnt (dfP L (i : Int) f) 1000) 10 (p.1.2.1 q i)) (fun p => p.1) (fun p => [vA k, vA n, vI (p.2 : Int)]) (fun p => []) ?_ (g6, 0) ?_
      · rintro ⟨g7, j⟩ ⟨h7, hj, hm⟩ ih57
        try dsimp only at hI ih ⊢
        try dsimp only at h7 hj hm ih57 ⊢
        refine a_iload_n 58 dX5_findDays_57 rfl rfl ?_
        refine a_iconst (z := 3) 59 dX5_findDays_58 rfl (zrl rfl) rfl ?_
        refine a_icmp_ge 80 62 dX5_findDays_59 (by decide) rfl (fun c59 => ?_) (fun c59 => ?_)
        · skip
          refine a_return dX5_findDays_80 rfl ⟨by decide, by decide⟩ ?_
          have e : d = 1000 := by omega
          have e2 : j = 3 := by omega
          subst e2
          refine ⟨L, fun x hx => ?_, by rw [← e6]; exact h7, hm⟩
          rw [hI x hx, e]
          constructor
          · intro z; exact ⟨by omega, z.2⟩
          · intro z; exact ⟨by omega, z.2⟩
        · skip
          refine a_aload_n 63 dX5_findDays_62 rfl rfl ?_
          refine a_getR 66 dX5_findDays_63 fX5_18 (h7.sh hk6) rfl (h7.rr hkq6) rfl ?_
          refine a_iload_n 67 dX5_findDays_66 rfl rfl ?_
          refine a_aload_n 68 dX5_findDays_67 rfl rfl ?_
          refine a_iload_n 69 dX5_findDays_68 rfl rfl ?_
          refine a_aload_n 70 dX5_findDays_69 rfl rfl ?_
          refine a_callV 73 (c5_mostDaysByFigure _ _ (h7.sh hk6) (h7.rr hks6) (h7.sh hs6) (h7.rr hw6) (h7.sh ha6) (h7.sh hn6) (by omega)) cdX5_mostDaysByFigure lX5_81 dX5_findDays_70 rfl (h7.sh hk6) rfl ⟨by decide, by decide, rfl, rfl⟩ ⟨by decide, by decide⟩ (Nat.le_of_ble_eq_true rfl) rfl ?_
          rintro _ g8 - ⟨z8, rfl, m8, s8⟩ -
          rw [h7.lg, hL6] at m8
          have h8 := h7.tr (s8.mono (fun a _ z => Or.inl z))
          have hz8 : 0 ≤ z8 := m8.1
          refine a_iast 74 dX5_findDays_73 (h8.sh hq6) (by omega) (by omega) rfl ?_
          refine a_iinc 77 dX5_findDays_74 rfl (by unfold zr; omega) (by decide) rfl rfl ?_
          refine a_goto 57 dX5_findDays_77 (by decide) ?_
          refine ih57 (gI g8 q (j : Int).toNat z8, j + 1) ⟨h8.wr (Or.inr rfl), by dsimp only; omega, fun i hi => ?_⟩ (by dsimp only; omega)
          show isMx _ 10 ((gI g8 q (j : Int).toNat z8).2.1 q i)
          by_cases e : i = j
          · subst e; rw [Int.toNat_natCast, gI_s]; exact m8
          · rw [gI_n (Or.inr (by omega)), s8.2.2 q i nq]; exact hm i (by dsimp only at hi; omega)
      · exact ⟨sameB.rf, Nat.zero_le _, fun i h => absurd h (Nat.not_lt_zero _)⟩
    · skip
      refine a_aload_n 10 dX5_findDays_9 rfl rfl ?_
      refine a_iload_n 11 dX5_findDays_10 rfl rfl ?_
      refine a_callV 14 (c5_fitsDate _ _ hk h0 (by omega)) cdX5_fitsDate lX5_63 dX5_findDays_11 rfl hk rfl ⟨by decide, by decide, rfl, rfl⟩ ⟨Nat.zero_le _, Nat.zero_le _⟩ (Nat.le_of_ble_eq_true rfl) rfl ?_
      rintro _ _ - ⟨b11, rfl, rfl, h11⟩ -
      refine a_if_eq 33 17 dX5_findDays_14 (by decide) rfl (fun c14 => ?_) (fun c14 => ?_)
      · skip
        refine a_iinc 36 dX5_findDays_33 rfl (by unfold zr; omega) (by decide) rfl rfl ?_
        refine a_goto 2 dX5_findDays_36 (by decide) ?_
        refine ih2 (gW g w L, L, d + 1) ⟨rfl, by dsimp only; omega, fun x hx => ?_⟩ (by dsimp only; omega)
        rw [hI x hx]
        dsimp only
        constructor
        · intro z; exact ⟨by omega, z.2⟩
        · intro z
          refine ⟨?_, z.2⟩
          have hne : x ≠ d := fun e => by
            rw [e] at z
            first
            | exact isN h11 c14 z.2.1
            | exact isN h19 c22 z.2.2
          omega
      · skip
        refine a_aload_n 18 dX5_findDays_17 rfl rfl ?_
        refine a_iload_n 19 dX5_findDays_18 rfl rfl ?_
        refine a_callV 22 (hF _ _ (by omega) (by omega)) cdX5_fitsDie lX5_67 dX5_findDays_19 rfl hk rfl ⟨by decide, by decide, rfl, rfl⟩ ⟨Nat.zero_le _, Nat.zero_le _⟩ (Nat.le_of_ble_eq_true rfl) rfl ?_
        rintro _ _ - ⟨b19, rfl, rfl, h19⟩ -
        refine a_if_eq 33 25 dX5_findDays_22 (by decide) rfl (fun c22 => ?_) (fun c22 => ?_)
        · skip
          refine a_iinc 36 dX5_findDays_33 rfl (by unfold zr; omega) (by decide) rfl rfl ?_
          refine a_goto 2 dX5_findDays_36 (by decide) ?_
          refine ih2 (gW g w L, L, d + 1) ⟨rfl, by dsimp only; omega, fun x hx => ?_⟩ (by dsimp only; omega)
          rw [hI x hx]
          dsimp only
          constructor
          · intro z; exact ⟨by omega, z.2⟩
          · intro z
            refine ⟨?_, z.2⟩
            have hne : x ≠ d := fun e => by
              rw [e] at z
              first
              | exact isN h11 c14 z.2.1
              | exact isN h19 c22 z.2.2
            omega
        · skip
          refine a_aload_n 26 dX5_findDays_25 rfl rfl ?_
          refine a_getR 29 dX5_findDays_26 fX5_12 hk rfl hks rfl ?_
          refine a_iload_n 30 dX5_findDays_29 rfl rfl ?_
          refine a_callV 33 (c1_add _ _ hs hw ha) cdX1_add lX5_70 dX5_findDays_30 rfl hs rfl ⟨by decide, by decide, rfl, rfl⟩ ⟨Nat.zero_le _, Nat.zero_le _⟩ (Nat.le_of_ble_eq_true rfl) rfl ?_
          rintro _ g30 - e30 -
          rw [if_pos (by omega), gW_L, gW_w] at e30
          subst e30
          refine a_iinc 36 dX5_findDays_33 rfl (by unfold zr; omega) (by decide) rfl rfl ?_
          refine a_goto 2 dX5_findDays_36 (by decide) ?_
          refine ih2 (gW g w (fun kk => if kk = ((d : Int) / 64).toNat then L ((d : Int) / 64).toNat ||| ((1 : Int64) <<< ((Int32.ofInt ((d : Int) % 64)).toInt64 &&& 63)) else L kk), (fun kk => if kk = ((d : Int) / 64).toNat then L ((d : Int) / 64).toNat ||| ((1 : Int64) <<< ((Int32.ofInt ((d : Int) % 64)).toInt64 &&& 63)) else L kk), d + 1) ⟨rfl, by dsimp only; omega, fun x hx => ?_⟩ (by dsimp only; omega)
          show dB (fun kk => if kk = ((d : Int) / 64).toNat then L ((d : Int) / 64).toNat ||| ((1 : Int64) <<< ((Int32.ofInt ((d : Int) % 64)).toInt64 &&& 63)) else L kk) x ↔ _
          rw [dB_add (by omega) hx, hI x hx]
          dsimp only
          constructor
          · rintro (z | z)
            · exact ⟨by omega, z.2⟩
            · rw [z]; exact ⟨by omega, isT h11 c14, isT h19 c22⟩
          · intro z
            by_cases e : x = d
            · exact Or.inr e
            · exact Or.inl ⟨by omega, z.2⟩
  · exact ⟨gW_0.symm, Nat.zero_le _, fun x hx => ⟨fun z => absurd z (hL0 x), fun z => by have := z.1; dsimp only at this; omega⟩⟩
