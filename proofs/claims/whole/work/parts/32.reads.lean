/-! ===== BEGIN how far a clause goes ===== -/
theorem tri_b {tx : Nat → Nat} {L m1 m2 m3 pl : Nat} (hL : L ≤ 240) (hpl : pl < L) : pl < (triF tx L m1 m2 m3 pl).2.2.2.2 ∧ (triF tx L m1 m2 m3 pl).2.2.2.2 ≤ 240 ∧ (triF tx L m1 m2 m3 pl).2.2.2.1 ≤ 3 := by
  obtain ⟨k1, p1, x1, k2, p2, x2, k3, p3, x3, k4, p4, hu1, hu2, hu3, hen⟩ := tri_ex tx L m1 m2 m3 pl
  rw [tri_eq hu1 hu2 hu3 hen]
  have b1 := nuF_b (tx := tx) (L := L) (m := m1) (kd := 0) (pl := pl + 1) hL (by omega) (by decide)
  rw [hu1] at b1
  have b2 := nuF_b (tx := tx) (L := L) (m := m2) (kd := k1) (pl := p1) hL b1.2.1 b1.1
  rw [hu2] at b2
  have b3 := nuF_b (tx := tx) (L := L) (m := m3) (kd := k2) (pl := p2) hL b2.2.1 b2.1
  rw [hu3] at b3
  have b4 := enF_b (tx := tx) (L := L) (kd := k3) (pl := p3) hL b3.2.1 b3.1
  rw [hen] at b4
  dsimp only at b1 b2 b3 b4 ⊢
  omega
theorem vo_b {tx : Nat → Nat} {L pl : Nat} (hL : L ≤ 240) (hpl : pl < L) : pl < (enF tx L (nuF tx L 999 0 (pl + 1)).1 (nuF tx L 999 0 (pl + 1)).2.1).2 ∧ (enF tx L (nuF tx L 999 0 (pl + 1)).1 (nuF tx L 999 0 (pl + 1)).2.1).2 ≤ 240 ∧ (enF tx L (nuF tx L 999 0 (pl + 1)).1 (nuF tx L 999 0 (pl + 1)).2.1).1 ≤ 3 := by
  have b1 := nuF_b (tx := tx) (L := L) (m := 999) (kd := 0) (pl := pl + 1) hL (by omega) (by decide)
  have b4 := enF_b (tx := tx) (L := L) (kd := (nuF tx L 999 0 (pl + 1)).1) (pl := (nuF tx L 999 0 (pl + 1)).2.1) hL b1.2.1 b1.1
  omega
theorem cl_b {tx : Nat → Nat} {L pl : Nat} {K : KK} (hL : L ≤ 240) (hpl : pl < L) : (clF tx L pl K).1.2 ≤ 240 ∧ (clF tx L pl K).1.1 ≤ 3 ∧ ((clF tx L pl K).1.1 = 0 → pl < (clF tx L pl K).1.2 ∧ (clF tx L pl K).2.1 = true) := by
  obtain ⟨kb, ka, ks, kw, n2, v2, kS, kU, kK, kV⟩ := K
  simp only [clF]
  have t1 := tri_b (tx := tx) (m1 := 99) (m2 := 99) (m3 := 999) hL hpl
  have t2 := tri_b (tx := tx) (m1 := 999) (m2 := 99) (m3 := 99) hL hpl
  have t3 := vo_b (tx := tx) hL hpl
  split
  · exact ⟨by dsimp only; omega, by dsimp only; omega, fun h => absurd (show (3 : Nat) = 0 from h) (by decide)⟩
  · split
    · exact ⟨t1.2.1, t1.2.2, fun _ => ⟨t1.1, rfl⟩⟩
    · split
      · next h => exact ⟨t2.2.1, t2.2.2, fun _ => ⟨t2.1, h.2⟩⟩
      · split
        · next h => exact ⟨t3.2.1, t3.2.2, fun _ => ⟨t3.1, h.2⟩⟩
        · exact ⟨by dsimp only; omega, by dsimp only; omega, fun h => absurd (show (1 : Nat) = 0 from h) (by decide)⟩
/-- where the reading stands still -/
theorem pa_end {tx : Nat → Nat} {L f kd pl : Nat} {K : KK} (h : ¬ (kd = 0 ∧ pl < L)) : paF tx L f kd pl K = ((kd, pl), K) := by
  cases f with
  | zero => rfl
  | succ f => simp only [paF]; rw [if_neg h]
theorem pa_go {tx : Nat → Nat} {L f pl : Nat} {K : KK} (h : pl < L) : paF tx L (f + 1) 0 pl K = paF tx L f (clF tx L pl K).1.1 (skP tx L (clF tx L pl K).1.1 (clF tx L pl K).1.2) (clF tx L pl K).2 := by
  simp only [paF]
  exact if_pos ⟨trivial, h⟩
/-! ===== END ===== -/
