theorem a_getIz {M : MI} {T : TT} {kn : Nat × Nat} {g : GH} {pc : Nat} {ls st : List AV} {a ci k index : Nat} (z : Int) (pc2 : Nat) (hd : decode M.2.1 pc = .ok (.getfield index, 3)) (hf : FL M.1.cls index ci k) (hs : g.1 a = some (Sum.inl ci)) (ht : tI (tyc ci k) = true) (hz : g.2.1 a k = z) (hp : pc + 3 = pc2) (kk : AW M T kn g pc2 ls (vI z :: st)) : AW M T kn g pc ls (vA a :: st) := by
  subst hz; exact a_getI pc2 hd hf hs ht hp kk
theorem a_ialdz {M : MI} {T : TT} {kn : Nat × Nat} {g : GH} {pc : Nat} {ls st : List AV} {a n : Nat} {i : Int} (z : Int) (pc2 : Nat) (hd : decode M.2.1 pc = .ok (.iaload, 1)) (hs : g.1 a = some (Sum.inr (.int, n))) (h0 : 0 ≤ i) (hi : i < n) (hz : g.2.1 a i.toNat = z) (hp : pc + 1 = pc2) (kk : AW M T kn g pc2 ls (vI z :: st)) : AW M T kn g pc ls (vI i :: vA a :: st) := by
  subst hz; exact a_iald pc2 hd hs h0 hi hp kk
theorem zrl {z : Int} (h : (decide (-2147483648 ≤ z) && decide (z ≤ 2147483647)) = true) : zr z := by
  simp only [Bool.and_eq_true, decide_eq_true_eq] at h; exact h
