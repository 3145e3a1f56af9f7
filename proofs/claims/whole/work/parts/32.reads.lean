/-! ===== BEGIN how far a clause goes ===== -/
theorem tri_b {tx : Nat → Nat} {L m1 m2 m3 pl : Nat} (hL : L ≤ 240) (hpl : pl < L) : pl < (triF tx L m1 m2 m3 pl).2.2.2.2 ∧ (triF tx L m1 m2 m3 pl).2.2.2.2 ≤ 240 ∧ (triF tx L m1 m2 m3 pl).2.2.2.1 ≤ 3 := by
  obtain ⟨k1, p1, x1, k2, p2, x2, k3, p3, x3, k4, p4, hu1, hu2, hu3, hen⟩ := tri_ex tx L m1 m2 m3 pl
  rw [tri_eq hu1 hu2 hu3 hen]
  have b1 := nuF_b (tx := tx) (L := L) (m := m1) (kd := 0) (pl := pl + 1) hL (by omega) (by decide)
  rw [hu1] at b1
  have b2 := nuF_b (tx := tx) (L := L) (m := m2) (kd := k1) (pl := p1) hL b1.2.1 b1.1
  rw [hu2] at b2
  have b3 := nuF_b (tx := tx) (L := L) (m := m3) (kd := k2) (pl := p2) hL b2.2.1 b2.1
  rw [hu3] at b3
  have b4 := enF_b (tx := tx) (L := L) (kd := k3) (pl := p3) hL b3.2.1 b3.1
  rw [hen] at b4
  dsimp only at b1 b2 b3 b4 ⊢
  omega
theorem vo_b {tx : Nat → Nat} {L pl : Nat} (hL : L ≤ 240) (hpl : pl < L) : pl < (enF tx L (nuF tx L 999 0 (pl + 1)).1 (nuF tx L 999 0 (pl + 1)).2.1).2 ∧ (enF tx L (nuF tx L 999 0 (pl + 1)).1 (nuF tx L 999 0 (pl + 1)).2.1).2 ≤ 240 ∧ (enF tx L (nuF tx L 999 0 (pl + 1)).1 (nuF tx L 999 0 (pl + 1)).2.1).1 ≤ 3 := by
  have b1 := nuF_b (tx := tx) (L := L) (m := 999) (kd := 0) (pl := pl + 1) hL (by omega) (by decide)
  have b4 := enF_b (tx := tx) (L := L) (kd := (nuF tx L 999 0 (pl + 1)).1) (pl := (nuF tx L 999 0 (pl + 1)).2.1) hL b1.2.1 b1.1
  omega
theorem cl_b {tx : Nat → Nat} {L pl : Nat} {K : KK} (hL : L ≤ 240) (hpl : pl < L) : (clF tx L pl K).1.2 ≤ 240 ∧ (clF tx L pl K).1.1 ≤ 3 ∧ ((clF tx L pl K).1.1 = 0 → pl < (clF tx L pl K).1.2 ∧ (clF tx L pl K).2.1 = true) := by
  obtain ⟨kb, ka, ks, kw, n2, v2, kS, kU, kK, kV⟩ := K
  simp only [clF]
  have t1 := tri_b (tx := tx) (m1 := 99) (m2 := 99) (m3 := 999) hL hpl
  have t2 := tri_b (tx := tx) (m1 := 999) (m2 := 99) (m3 := 99) hL hpl
  have t3 := vo_b (tx := tx) hL hpl
  split
  · exact ⟨by dsimp only; omega, by dsimp only; omega, fun h => absurd (show (3 : Nat) = 0 from h) (by decide)⟩
  · split
    · exact ⟨t1.2.1, t1.2.2, fun _ => ⟨t1.1, rfl⟩⟩
    · split
      · next h => exact ⟨t2.2.1, t2.2.2, fun _ => ⟨t2.1, h.2⟩⟩
      · split
        · next h => exact ⟨t3.2.1, t3.2.2, fun _ => ⟨t3.1, h.2⟩⟩
        · exact ⟨by dsimp only; omega, by dsimp only; omega, fun h => absurd (show (1 : Nat) = 0 from h) (by decide)⟩
/-- where the reading stands still -/
theorem pa_end {tx : Nat → Nat} {L f kd pl : Nat} {K : KK} (h : ¬ (kd = 0 ∧ pl < L)) : paF tx L f kd pl K = ((kd, pl), K) := by
  cases f with
  | zero => rfl
  | succ f => simp only [paF]; rw [if_neg h]
theorem pa_go {tx : Nat → Nat} {L f pl : Nat} {K : KK} (h : pl < L) : paF tx L (f + 1) 0 pl K = paF tx L f (clF tx L pl K).1.1 (skP tx L (clF tx L pl K).1.1 (clF tx L pl K).1.2) (clF tx L pl K).2 := by
  simp only [paF]
  exact if_pos ⟨trivial, h⟩
theorem bI_fits (b : Bool) : fits .boolean (.int (bI b)) = true := by cases b <;> decide
theorem isr0 {b : Bool} (h : (!b) = true) : (0 : Int32) = bI b := by
  cases b
  · rfl
  · cases h
theorem isr1 {b : Bool} (h : (!b) = false) : (1 : Int32) = bI b := by
  cases b
  · cases h
  · rfl
/-! ===== END ===== -/

set_option maxHeartbeats 4000000 in
set_option maxRecDepth 100000 in
theorem c_X7_reads {G : GT} {B : Nat} {l : Launch} {H : Heap} {a : Nat} {tx : Nat → Nat} {L : Nat} {fp ra rf rw rx : Int32} {ir kb : Bool} {n nv ct nx sd sn bn : Nat} (hO : Mo G H a tx L fp ra rf rw rx ir kb n nv ct nx sd sn bn) (hZ : Mz G H a) (hB : B ≤ a) : AM G B l yX7_reads cX7_reads 2 (some .boolean) 5 0 0 [.ref a] H (fun rv H' => rv = some (.int (bI (decide ((P0 tx L).1.1 = 0)))) ∧ (∃ (ra' rf' rw' rx' : Int32) (ir' : Bool), Mo G H' a tx L fp ra' rf' rw' rx' ir' kb n nv ct nx sd sn bn ∧ Mz G H' a ∧ ((P0 tx L).1.1 ≠ 0 → ra' = nI (P0 tx L).1.2 ∧ rf' = nI (P0 tx L).1.1) ∧ ((P0 tx L).1.1 = 0 → ir' = (P0 tx L).2.1 ∧ rw' = nI (P0 tx L).2.2.2.2.2.1 ∧ rx' = nI (P0 tx L).2.2.2.2.2.2.1 ∧ MwK G H' a (P0 tx L).2 ∧ (((P0 tx L).2).1 = false → ((P0 tx L).2).2.2.2.2.1 = 0 ∧ ((P0 tx L).2).2.2.2.2.2.1 = 0)) ∧ ∀ q : Nat, q ≠ a ∧ ¬ (a + 2 ≤ q ∧ q < a + 5) → H'[q]? = H[q]?)) := by
  have hO0 := hO
  obtain ⟨hm, ⟨fT, hTx, eT⟩, hL9, hT8⟩ := hO
  unfold mxL at hm
  have hsk0 := sk_b tx L 0
  have hF : ∀ q : Nat, q ≠ a ∧ ¬ (a + 2 ≤ q ∧ q < a + 5) → H[q]? = H[q]? := fun _ _ => rfl
  have hG : ∀ q : Nat, q ≠ a → H[q]? = H[q]? := fun _ _ => rfl
  refine AM.ofZ (lv := [(0, .ref a)]) (by decide +kernel) (Nat.le_of_ble_eq_true rfl) rfl ?_ (fun _ _ h => ⟨_, h.1⟩)
  refine a_iconst 1 dX7_reads_0 (by decide) ?_
  refine a_istore_n (lv' := [(1, .int 1), (0, .ref a)]) dX7_reads_1 rfl (by decide) rfl ?_
  refine a_aload_n 1 dX7_reads_2 rfl rfl ?_
  refine a_iconst 0 dX7_reads_3 (by decide) ?_
  refine a_put f_X7_67 p_X7_67 dX7_reads_4 hm (Nat.le_of_ble_eq_true rfl) rfl rfl (by omega) (fun H1 hm hz1 hq1 => ?_)
  have hm : Ob G H1 a 7 [.int (nI L), .ref (a + 1), .int fp, .int 0, .int rf, .int rw, .int rx, .ref (a + 2), .ref (a + 3), .ref (a + 4), .int (bI ir), .int (bI kb), .int (nI n), .int (nI nv), .ref (a + 5), .ref (a + 6), .ref (a + 7), .ref (a + 8), .int (nI ct), .int (nI nx), .ref (a + 9), .long (lN sd), .int (nI sn), .ref (a + 10), .int (nI bn), .ref (a + 11), .ref (a + 12), .ref (a + 13), .ref (a + 14)] := hm
  have hTx := hTx.kept (hq1 _ (by omega))
  have hF : ∀ q : Nat, q ≠ a ∧ ¬ (a + 2 ≤ q ∧ q < a + 5) → H1[q]? = H[q]? := fun q hq => (hq1 q (by omega)).trans (hF q hq)
  have hG : ∀ q : Nat, q ≠ a → H1[q]? = H[q]? := fun q hq => (hq1 q (by omega)).trans (hG q hq)
  refine a_aload_n 1 dX7_reads_7 rfl rfl ?_
  refine a_iconst 0 dX7_reads_8 (by decide) ?_
  refine a_put f_X7_91 p_X7_91 dX7_reads_9 hm (Nat.le_of_ble_eq_true rfl) rfl rfl (by omega) (fun H2 hm hz2 hq2 => ?_)
  have hm : Ob G H2 a 7 [.int (nI L), .ref (a + 1), .int fp, .int 0, .int rf, .int 0, .int rx, .ref (a + 2), .ref (a + 3), .ref (a + 4), .int (bI ir), .int (bI kb), .int (nI n), .int (nI nv), .ref (a + 5), .ref (a + 6), .ref (a + 7), .ref (a + 8), .int (nI ct), .int (nI nx), .ref (a + 9), .long (lN sd), .int (nI sn), .ref (a + 10), .int (nI bn), .ref (a + 11), .ref (a + 12), .ref (a + 13), .ref (a + 14)] := hm
  have hTx := hTx.kept (hq2 _ (by omega))
  have hF : ∀ q : Nat, q ≠ a ∧ ¬ (a + 2 ≤ q ∧ q < a + 5) → H2[q]? = H[q]? := fun q hq => (hq2 q (by omega)).trans (hF q hq)
  have hG : ∀ q : Nat, q ≠ a → H2[q]? = H[q]? := fun q hq => (hq2 q (by omega)).trans (hG q hq)
  refine a_aload_n 1 dX7_reads_12 rfl rfl ?_
  refine a_iconst 0 dX7_reads_13 (by decide) ?_
  refine a_put f_X7_94 p_X7_94 dX7_reads_14 hm (Nat.le_of_ble_eq_true rfl) rfl rfl (by omega) (fun H3 hm hz3 hq3 => ?_)
  have hm : Ob G H3 a 7 [.int (nI L), .ref (a + 1), .int fp, .int 0, .int rf, .int 0, .int 0, .ref (a + 2), .ref (a + 3), .ref (a + 4), .int (bI ir), .int (bI kb), .int (nI n), .int (nI nv), .ref (a + 5), .ref (a + 6), .ref (a + 7), .ref (a + 8), .int (nI ct), .int (nI nx), .ref (a + 9), .long (lN sd), .int (nI sn), .ref (a + 10), .int (nI bn), .ref (a + 11), .ref (a + 12), .ref (a + 13), .ref (a + 14)] := hm
  have hTx := hTx.kept (hq3 _ (by omega))
  have hF : ∀ q : Nat, q ≠ a ∧ ¬ (a + 2 ≤ q ∧ q < a + 5) → H3[q]? = H[q]? := fun q hq => (hq3 q (by omega)).trans (hF q hq)
  have hG : ∀ q : Nat, q ≠ a → H3[q]? = H[q]? := fun q hq => (hq3 q (by omega)).trans (hG q hq)
  refine a_aload_n 1 dX7_reads_17 rfl rfl ?_
  have hO1 : Mo G H3 a tx L fp (nI 0) rf (nI 0) (nI 0) ir kb n nv ct nx sd sn bn := ⟨by unfold mxL; exact hm, ⟨fT, hTx, eT⟩, hL9, hT8⟩
  refine a_callVv (As := []) (rest := []) (d := 1) (mc := 0) (ms := 0) (ci := 7) l_X7_77 im_X7_blanks se_X7_blanks ⟨_, rfl, rfl⟩ dX7_reads_18 ⟨Nat.le_of_ble_eq_true rfl, Nat.le_of_ble_eq_true rfl⟩ rfl (Nat.le_of_ble_eq_true rfl) ⟨Nat.le_of_ble_eq_true rfl, Nat.le_of_ble_eq_true rfl⟩ hm (c_X7_blanks (by decide) hO1 hB) (fun H4 hp4 => ?_)
  obtain ⟨hO2, hfr⟩ := hp4
  have hF : ∀ q : Nat, q ≠ a ∧ ¬ (a + 2 ≤ q ∧ q < a + 5) → H4[q]? = H[q]? := fun q hq => (hfr q (by omega)).trans (hF q hq)
  have hG : ∀ q : Nat, q ≠ a → H4[q]? = H[q]? := fun q hq => (hfr q (by omega)).trans (hG q hq)
  have L21 : ∀ (fu : Nat) (f pl : Nat) (K : KK) (rf1 : Int32) (Hk : Heap), pl ≤ 240 → L - pl ≤ f → P0 tx L = paF tx L f 0 pl K → ((K).1 = false → (K).2.2.2.2.1 = 0 ∧ (K).2.2.2.2.2.1 = 0) → Mo G Hk a tx L fp (nI pl) rf1 (nI K.2.2.2.2.1) (nI K.2.2.2.2.2.1) ir kb n nv ct nx sd sn bn → MwK G Hk a K → (∀ q : Nat, q ≠ a ∧ ¬ (a + 2 ≤ q ∧ q < a + 5) → Hk[q]? = H[q]?) → L - pl < fu → AW G B l { frames := 5, cells := 0, slots := 0, locals := 27 * 5 } yX7_reads.cls cX7_reads 2 false (fun rv H' ce' sl' => (rv = some (.int (bI (decide ((P0 tx L).1.1 = 0)))) ∧ (∃ (ra' rf' rw' rx' : Int32) (ir' : Bool), Mo G H' a tx L fp ra' rf' rw' rx' ir' kb n nv ct nx sd sn bn ∧ Mz G H' a ∧ ((P0 tx L).1.1 ≠ 0 → ra' = nI (P0 tx L).1.2 ∧ rf' = nI (P0 tx L).1.1) ∧ ((P0 tx L).1.1 = 0 → ir' = (P0 tx L).2.1 ∧ rw' = nI (P0 tx L).2.2.2.2.2.1 ∧ rx' = nI (P0 tx L).2.2.2.2.2.2.1 ∧ MwK G H' a (P0 tx L).2 ∧ (((P0 tx L).2).1 = false → ((P0 tx L).2).2.2.2.2.1 = 0 ∧ ((P0 tx L).2).2.2.2.2.2.1 = 0)) ∧ ∀ q : Nat, q ≠ a ∧ ¬ (a + 2 ≤ q ∧ q < a + 5) → H'[q]? = H[q]?)) ∧ ce' = 0 ∧ sl' = 0) 21 [(0, .ref a), (1, .int (bI (!K.1)))] [] Hk 0 0 := by
    intro fu
    induction fu with
    | zero => intro f pl K rf1 Hk hpl hf hg hinv hO hW hF hm21; exact absurd hm21 (Nat.not_lt_zero _)
    | succ fu ih21 =>
      intro f pl K rf1 Hk hpl hf hg hinv hO hW hF hm21
      have hO1 := hO
      obtain ⟨hm, ⟨fT, hTx, eT⟩, -, -⟩ := id hO
      unfold mxL at hm
      have hG : ∀ q : Nat, q ≠ a → Hk[q]? = Hk[q]? := fun _ _ => rfl
      refine a_aload_n 0 dX7_reads_21 rfl rfl ?_
      refine a_get f_X7_67 dX7_reads_22 hm rfl ?_
      refine a_aload_n 0 dX7_reads_25 rfl rfl ?_
      refine a_get f_X7_63 dX7_reads_26 hm rfl ?_
      refine a_icmpgeN (a := pl) (b := L) 51 dX7_reads_29 (by decide) (by omega) (by omega) (fun c29 => ?_) (fun c29 => ?_)
      · skip
        have hE : P0 tx L = ((0, pl), K) := by
          rw [hg, pa_end (by omega)]
        refine a_aload_n 0 dX7_reads_51 rfl rfl ?_
        refine a_iload_n 1 dX7_reads_52 rfl rfl ?_
        refine a_ifneB 60 dX7_reads_53 (by decide) (fun c53 => ?_) (fun c53 => ?_)
        · skip
          refine a_iconst 0 dX7_reads_60 (by decide) ?_
          refine a_toeq (bI K.1) (isr0 c53) ?_
          refine a_put f_X7_110 p_X7_110 dX7_reads_61 hm (Nat.le_of_ble_eq_true rfl) (bI_narrow _) (bI_fits _) (by omega) (fun H5 hm hz5 hq5 => ?_)
          have hm : Ob G H5 a 7 [.int (nI L), .ref (a + 1), .int fp, .int (nI pl), .int rf1, .int (nI K.2.2.2.2.1), .int (nI K.2.2.2.2.2.1), .ref (a + 2), .ref (a + 3), .ref (a + 4), .int (bI K.1), .int (bI kb), .int (nI n), .int (nI nv), .ref (a + 5), .ref (a + 6), .ref (a + 7), .ref (a + 8), .int (nI ct), .int (nI nx), .ref (a + 9), .long (lN sd), .int (nI sn), .ref (a + 10), .int (nI bn), .ref (a + 11), .ref (a + 12), .ref (a + 13), .ref (a + 14)] := hm
          have hTx := hTx.kept (hq5 _ (by omega))
          have hF : ∀ q : Nat, q ≠ a ∧ ¬ (a + 2 ≤ q ∧ q < a + 5) → H5[q]? = H[q]? := fun q hq => (hq5 q (by omega)).trans (hF q hq)
          have hG : ∀ q : Nat, q ≠ a → H5[q]? = Hk[q]? := fun q hq => (hq5 q (by omega)).trans (hG q hq)
          refine a_iconst 1 dX7_reads_64 (by decide) ?_
          refine a_ret dX7_reads_65 ⟨⟨ri ?_, ?_⟩, rfl, rfl⟩
          · rw [hE]; rfl
          · rw [hE]
            obtain ⟨⟨fb, hb1, hb2⟩, ⟨fw, hw1, hw2⟩, ⟨fv, hv1, hv2⟩, hnn⟩ := hW
            exact ⟨_, _, _, _, _, ⟨by unfold mxL; exact hm, ⟨fT, hTx, eT⟩, hL9, hT8⟩, ⟨⟨_, hb1.kept (hG _ (by omega))⟩, ⟨_, hw1.kept (hG _ (by omega))⟩, ⟨_, hv1.kept (hG _ (by omega))⟩⟩, fun h => absurd rfl h, fun _ => ⟨rfl, rfl, rfl, ⟨⟨_, hb1.kept (hG _ (by omega)), hb2⟩, ⟨_, hw1.kept (hG _ (by omega)), hw2⟩, ⟨_, hv1.kept (hG _ (by omega)), hv2⟩, hnn⟩, hinv⟩, hF⟩
        · skip
          refine a_iconst 1 dX7_reads_56 (by decide) ?_
          refine a_goto 61 dX7_reads_57 (by decide) ?_
          refine a_toeq (bI K.1) (isr1 c53) ?_
          refine a_put f_X7_110 p_X7_110 dX7_reads_61 hm (Nat.le_of_ble_eq_true rfl) (bI_narrow _) (bI_fits _) (by omega) (fun H6 hm hz6 hq6 => ?_)
          have hm : Ob G H6 a 7 [.int (nI L), .ref (a + 1), .int fp, .int (nI pl), .int rf1, .int (nI K.2.2.2.2.1), .int (nI K.2.2.2.2.2.1), .ref (a + 2), .ref (a + 3), .ref (a + 4), .int (bI K.1), .int (bI kb), .int (nI n), .int (nI nv), .ref (a + 5), .ref (a + 6), .ref (a + 7), .ref (a + 8), .int (nI ct), .int (nI nx), .ref (a + 9), .long (lN sd), .int (nI sn), .ref (a + 10), .int (nI bn), .ref (a + 11), .ref (a + 12), .ref (a + 13), .ref (a + 14)] := hm
          have hTx := hTx.kept (hq6 _ (by omega))
          have hF : ∀ q : Nat, q ≠ a ∧ ¬ (a + 2 ≤ q ∧ q < a + 5) → H6[q]? = H[q]? := fun q hq => (hq6 q (by omega)).trans (hF q hq)
          have hG : ∀ q : Nat, q ≠ a → H6[q]? = Hk[q]? := fun q hq => (hq6 q (by omega)).trans (hG q hq)
          refine a_iconst 1 dX7_reads_64 (by decide) ?_
          refine a_ret dX7_reads_65 ⟨⟨ri ?_, ?_⟩, rfl, rfl⟩
          · rw [hE]; rfl
          · rw [hE]
            obtain ⟨⟨fb, hb1, hb2⟩, ⟨fw, hw1, hw2⟩, ⟨fv, hv1, hv2⟩, hnn⟩ := hW
            exact ⟨_, _, _, _, _, ⟨by unfold mxL; exact hm, ⟨fT, hTx, eT⟩, hL9, hT8⟩, ⟨⟨_, hb1.kept (hG _ (by omega))⟩, ⟨_, hw1.kept (hG _ (by omega))⟩, ⟨_, hv1.kept (hG _ (by omega))⟩⟩, fun h => absurd rfl h, fun _ => ⟨rfl, rfl, rfl, ⟨⟨_, hb1.kept (hG _ (by omega)), hb2⟩, ⟨_, hw1.kept (hG _ (by omega)), hw2⟩, ⟨_, hv1.kept (hG _ (by omega)), hv2⟩, hnn⟩, hinv⟩, hF⟩
      · skip
        refine a_aload_n 0 dX7_reads_32 rfl rfl ?_
        refine a_iload_n 1 dX7_reads_33 rfl rfl ?_
        refine a_callVi (As := [.int (bI (!K.1))]) (rest := []) (d := 4) (mc := 0) (ms := 0) (x := bI (decide ((clF tx L pl K).1.1 = 0))) (ci := 7) l_X7_107 im_X7_readsClause se_X7_readsClause ⟨_, rfl, rfl⟩ dX7_reads_34 ⟨Nat.le_of_ble_eq_true rfl, Nat.le_of_ble_eq_true rfl⟩ rfl (Nat.le_of_ble_eq_true rfl) ⟨Nat.le_of_ble_eq_true rfl, Nat.le_of_ble_eq_true rfl⟩ hm (c_X7_clause c29 hinv hO hW hB) (fun H7 hp7 => ?_)
        obtain ⟨rw2, rx2, hO2, hZ2, hS2, hfr⟩ := hp7
        have hcb := cl_b (tx := tx) (K := K) hL9 c29
        have hF : ∀ q : Nat, q ≠ a ∧ ¬ (a + 2 ≤ q ∧ q < a + 5) → H7[q]? = H[q]? := fun q hq => (hfr q (by omega)).trans (hF q hq)
        refine a_ifneB 42 dX7_reads_37 (by decide) (fun c37 => ?_) (fun c37 => ?_)
        · skip
          have h1 := of_decide_eq_true c37
          have hm2 := hO2.1
          unfold mxL at hm2
          refine a_iconst 0 dX7_reads_42 (by decide) ?_
          refine a_toeq (bI (!(clF tx L pl K).2.1)) (by rw [(hcb.2.2 h1).2]; rfl) ?_
          refine a_istore_n (lv' := [(1, .int (bI (!(clF tx L pl K).2.1))), (0, .ref a)]) dX7_reads_43 rfl (by decide) rfl ?_
          refine a_aload_n 1 dX7_reads_44 rfl rfl ?_
          refine a_callVv (As := []) (rest := []) (d := 1) (mc := 0) (ms := 0) (ci := 7) l_X7_77 im_X7_blanks se_X7_blanks ⟨_, rfl, rfl⟩ dX7_reads_45 ⟨Nat.le_of_ble_eq_true rfl, Nat.le_of_ble_eq_true rfl⟩ rfl (Nat.le_of_ble_eq_true rfl) ⟨Nat.le_of_ble_eq_true rfl, Nat.le_of_ble_eq_true rfl⟩ hm2 (c_X7_blanks hcb.1 hO2 hB) (fun H8 hp8 => ?_)
          obtain ⟨hO3, hfr3⟩ := hp8
          obtain ⟨g, rfl⟩ : ∃ g, f = g + 1 := ⟨f - 1, by omega⟩
          obtain ⟨ew, ex, hW2⟩ := hS2 h1
          have hskb := sk_b tx L (clF tx L pl K).1.2
          have hE : P0 tx L = paF tx L g 0 (sk tx L (clF tx L pl K).1.2) (clF tx L pl K).2 := by
            rw [hg, pa_go c29]
            unfold skP
            rw [if_pos h1, h1]
          have hcb3 := hcb.2.2 h1
          subst ew
          subst ex
          have hF : ∀ q : Nat, q ≠ a ∧ ¬ (a + 2 ≤ q ∧ q < a + 5) → H8[q]? = H[q]? := fun q hq => (hfr3 q (by omega)).trans (hF q hq)
          refine a_goto 21 dX7_reads_48 (by decide) ?_
          refine a_sub [1, 0] rfl ?_
          exact ih21 g _ (clF tx L pl K).2 _ _ (by omega) (by omega) hE (fun h => by rw [hcb3.2] at h; cases h) hO3 (by obtain ⟨⟨f2, h2, g2⟩, ⟨f3, h3, g3⟩, ⟨f4, h4, g4⟩, g5⟩ := hW2; exact ⟨⟨_, h2.kept (hfr3 _ (by omega)), g2⟩, ⟨_, h3.kept (hfr3 _ (by omega)), g3⟩, ⟨_, h4.kept (hfr3 _ (by omega)), g4⟩, g5⟩) hF (by omega)
        · skip
          have h1 := of_decide_eq_false c37
          obtain ⟨g, rfl⟩ : ∃ g, f = g + 1 := ⟨f - 1, by omega⟩
          have hE : P0 tx L = clF tx L pl K := by
            rw [hg, pa_go c29, pa_end (fun h => h1 h.1)]
            unfold skP
            rw [if_neg h1]
          refine a_iconst 0 dX7_reads_40 (by decide) ?_
          refine a_ret dX7_reads_41 ⟨⟨ri ?_, ?_⟩, rfl, rfl⟩
          · rw [hE, decide_eq_false h1]; rfl
          · rw [hE]
            exact ⟨_, _, _, _, _, hO2, hZ2, fun _ => ⟨rfl, if_neg h1⟩, fun h => absurd h h1, hF⟩
  refine a_sub [1, 0] rfl ?_
  exact L21 _ 240 _ (kk0 zD zD zD zD) _ _ (by omega) (by omega) (by show paF tx L 240 0 (skP tx L 0 0) _ = _; unfold skP; rw [if_pos rfl]) (fun _ => ⟨rfl, rfl⟩) hO2 (by obtain ⟨⟨f2, h2⟩, ⟨f3, h3⟩, ⟨f4, h4⟩⟩ := hZ; exact ⟨⟨_, h2.kept (hG _ (by omega)), fun h => by cases h⟩, ⟨_, h3.kept (hG _ (by omega)), fun i hi => absurd hi (Nat.not_lt_zero _)⟩, ⟨_, h4.kept (hG _ (by omega)), fun i hi => absurd hi (Nat.not_lt_zero _)⟩, Nat.zero_le _, Nat.zero_le _⟩) hF (Nat.lt_succ_self _)
