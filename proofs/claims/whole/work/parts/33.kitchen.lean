/-! ===== BEGIN BeansBoxModel: a kitchen ===== -/
theorem pa_kb0 {tx : Nat → Nat} {L f kd pl : Nat} {K : KK} (hL : L ≤ 240) (h0 : (paF tx L f kd pl K).1.1 = 0) (h1 : (paF tx L f kd pl K).2.1 = false) : (paF tx L f kd pl K).2 = K := by
  induction f generalizing kd pl K with
  | zero => rfl
  | succ f ih =>
    simp only [paF] at h0 h1 ⊢
    by_cases e : kd = 0 ∧ pl < L
    · rw [if_pos e] at h0 h1 ⊢
      have h2 := ih h0 h1
      by_cases e2 : (clF tx L pl K).1.1 = 0
      · have h3 := ((cl_b (tx := tx) (K := K) hL e.2).2.2 e2).2
        rw [h2, h3] at h1
        cases h1
      · rw [pa_end (fun h => e2 h.1)] at h0
        exact absurd h0 e2
    · rw [if_neg e]
theorem Mu.zero2 {G : GT} {H : Heap} {p nx ct n n2 : Nat} {pu : Nat → DD} (h : Mu G H p nx ct n pu) : Mu G H p nx 0 n2 pu := by
  obtain ⟨f, h1, -, h3, -⟩ := h
  exact ⟨f, h1, fun i hi hv => absurd hv (Nat.not_lt_zero _), h3, Nat.zero_le _⟩
theorem kp_00 {fz : DD} : ∀ i, i < 2 → upd (upd fz 0 (bI false)) 1 (bI false) i = bI ((fun _ => false) i) := by
  intro i hi
  unfold upd
  by_cases e : i = 1
  · rw [if_pos e]
  · rw [if_neg e, if_pos (by omega)]
def BgN (kS kU : DD) (k : Nat) (g : DD) : Prop := (∀ i, i < k → g i = kS i) ∧ (∀ i, i < k → g (8 + i) = kU i) ∧ ∀ j, 16 ≤ j → j < 27 → g j = if j = 26 then -1 else 0
theorem bg_up {g kS kU : DD} {k : Nat} {x y : Int32} (hk : k < 8) (h : BgN kS kU k g) (hx : x = kS k) (hy : y = kU k) : BgN kS kU (k + 1) (upd (upd g k x) (8 + k) y) := by
  obtain ⟨h1, h2, h3⟩ := h
  refine ⟨fun i hi => ?_, fun i hi => ?_, fun j hj hj2 => ?_⟩
  · unfold upd
    rw [if_neg (by omega)]
    by_cases e : i = k
    · rw [if_pos e, e]; exact hx
    · rw [if_neg e]; exact h1 i (by omega)
  · unfold upd
    by_cases e : i = k
    · rw [if_pos (by omega), e]; exact hy
    · rw [if_neg (by omega), if_neg (by omega)]; exact h2 i (by omega)
  · unfold upd
    rw [if_neg (by omega), if_neg (by omega)]; exact h3 j hj hj2
theorem bg_0 {g kS kU : DD} (h : ∀ j, j < 27 → g j = if j = 26 then -1 else 0) : BgN kS kU 0 g :=
  ⟨fun i hi => absurd hi (Nat.not_lt_zero _), fun i hi => absurd hi (Nat.not_lt_zero _), fun j _ hj => h j hj⟩
theorem bg_na {g kS kU : DD} {n : Nat} (hn : n ≤ 8) (h : BgN kS kU n g) : NA n g (bgF kS kU) := by
  obtain ⟨h1, h2, h3⟩ := h
  refine ⟨fun i hi => ?_, fun i hi => ?_, fun i hi => ?_, h3 24 (by decide) (by decide), h3 25 (by decide) (by decide), h3 26 (by decide) (by decide)⟩
  · rw [h1 i hi]; unfold bgF; rw [if_pos (by omega)]
  · rw [h2 i hi]; unfold bgF; rw [if_neg (by omega), if_pos (by omega), show 8 + i - 8 = i by omega]
  · rw [h3 (16 + i) (by omega) (by omega)]; unfold bgF; rw [if_neg (by omega : ¬ 16 + i = 26), if_neg (by omega), if_neg (by omega)]
/-! ===== END ===== -/

set_option maxHeartbeats 4000000 in
set_option maxRecDepth 100000 in
theorem c_X7_kitchen_fault {G : GT} {B : Nat} {l : Launch} {H : Heap} {a : Nat} {tx : Nat → Nat} {L : Nat} {fp : Int32} {kb : Bool} {ka ks kw : Int32} {n nv : Nat} {kK kV dd : DD} {sd nx ct : Nat} {pu : Nat → DD} {sn : Nat} {sw sg : Nat → Nat} {bn : Nat} {bw : Nat → Nat} {bt : DD} {ik : Nat → Bool} {iD : Nat → DD} {iS : Nat → Nat} (hP : (P0 tx L).1.1 ≠ 0) (hX : Mx G H a tx L fp kb ka ks kw n nv kK kV dd sd nx ct pu sn sw sg bn bw bt ik iD iS) (hB : B ≤ a) : AM G B l yX7_kitchen cX7_kitchen 3 (some .int) 6 0 0 [.ref a] H (fun rv H' => rv = some (.int ((-10) - nI (P0 tx L).1.1)) ∧ (Mx G H' a tx 0 (nI (P0 tx L).1.2) kb ka ks kw n nv kK kV dd sd nx ct pu sn sw sg bn bw bt ik iD iS ∧ ∀ q : Nat, ¬ (a ≤ q ∧ q < a + 15) → H'[q]? = H[q]?)) := by
  have hX0 := hX
  obtain ⟨ra, rf, rw, rx, ir, hM, hT, hU, hS, hK9, hJ9⟩ := hX
  have hM0 := hM
  obtain ⟨hm, ⟨fB, hBx, eB0, eB1, eB2⟩, ⟨fK, hKx, eK⟩, ⟨fV, hVx, eV⟩, ⟨fN, hNx, eS, eU, eO, e24, e25, e26⟩, hn, hnv⟩ := hM
  unfold mxL at hm
  have hT0 := hT
  obtain ⟨⟨fT, hTx, eT⟩, hq2, hq3, hq4, hL9, hT8⟩ := hT
  have hO0 : Mo G H a tx L fp ra rf rw rx ir kb n nv ct nx sd sn bn := ⟨by unfold mxL; exact hm, ⟨fT, hTx, eT⟩, hL9, hT8⟩
  have hZ0 : Mz G H a := ⟨hq2, hq3, hq4⟩
  have hF : ∀ q : Nat, ¬ (a ≤ q ∧ q < a + 15) → H[q]? = H[q]? := fun _ _ => rfl
  refine AM.ofI (lv := [(0, .ref a)]) (by decide +kernel) (Nat.le_of_ble_eq_true rfl) rfl ?_ (fun _ h => by cases h.1)
  refine a_aload_n 0 dX7_kitchen_0 rfl rfl ?_
  refine a_callVi (As := []) (rest := []) (d := 5) (mc := 0) (ms := 0) (x := bI (decide ((P0 tx L).1.1 = 0))) (ci := 7) l_X7_114 im_X7_reads se_X7_reads ⟨_, rfl, rfl⟩ dX7_kitchen_1 ⟨Nat.le_of_ble_eq_true rfl, Nat.le_of_ble_eq_true rfl⟩ rfl (Nat.le_of_ble_eq_true rfl) ⟨Nat.le_of_ble_eq_true rfl, Nat.le_of_ble_eq_true rfl⟩ hm (c_X7_reads hO0 hZ0 hB) (fun H1 hp1 => ?_)
  obtain ⟨ra2, rf2, rw2, rx2, ir2, hO2, hZ2, hbad, -, hfr⟩ := hp1
  obtain ⟨rfl, rfl⟩ := hbad hP
  obtain ⟨hm, ⟨fT2, hT2, -⟩, -, -⟩ := hO2
  unfold mxL at hm
  obtain ⟨⟨f2, z2⟩, ⟨f3, z3⟩, ⟨f4, z4⟩⟩ := hZ2
  have hU := hU.kept (H1 := H1) (hfr _ (by omega))
  have hS := hS.kept (H1 := H1) (hfr _ (by omega))
  have hK9 := hK9.kept (H1 := H1) (hfr _ (by omega))
  have hJ9 := hJ9.kept (H1 := H1) (fun q c1 c2 => hfr q (by omega))
  have hBx := hBx.kept (hfr _ (by omega))
  have hKx := hKx.kept (hfr _ (by omega))
  have hVx := hVx.kept (hfr _ (by omega))
  have hNx := hNx.kept (hfr _ (by omega))
  have hF : ∀ q : Nat, ¬ (a ≤ q ∧ q < a + 15) → H1[q]? = H[q]? := fun q hq => (hfr q (by omega)).trans (hF q hq)
  refine a_toeq (bI false) (by rw [decide_eq_false hP]) ?_
  have hG : ∀ q : Nat, q ≠ a → H1[q]? = H1[q]? := fun _ _ => rfl
  refine a_istore_n (lv' := [(1, .int (bI false)), (0, .ref a)]) dX7_kitchen_4 rfl (by decide) rfl ?_
  refine a_aload_n 1 dX7_kitchen_5 rfl rfl ?_
  refine a_iconst 0 dX7_kitchen_6 (by decide) ?_
  refine a_put f_X7_63 p_X7_63 dX7_kitchen_7 hm (Nat.le_of_ble_eq_true rfl) rfl rfl (by omega) (fun H2 hm hz2 hq2 => ?_)
  have hm : Ob G H2 a 7 [.int 0, .ref (a + 1), .int fp, .int (nI ((P0 tx L).1.2)), .int (nI ((P0 tx L).1.1)), .int rw2, .int rx2, .ref (a + 2), .ref (a + 3), .ref (a + 4), .int (bI ir2), .int (bI kb), .int (nI n), .int (nI nv), .ref (a + 5), .ref (a + 6), .ref (a + 7), .ref (a + 8), .int (nI ct), .int (nI nx), .ref (a + 9), .long (lN sd), .int (nI sn), .ref (a + 10), .int (nI bn), .ref (a + 11), .ref (a + 12), .ref (a + 13), .ref (a + 14)] := hm
  have hBx := hBx.kept (hq2 _ (by omega))
  have hKx := hKx.kept (hq2 _ (by omega))
  have hVx := hVx.kept (hq2 _ (by omega))
  have hNx := hNx.kept (hq2 _ (by omega))
  have hF : ∀ q : Nat, ¬ (a ≤ q ∧ q < a + 15) → H2[q]? = H[q]? := fun q hq => (hq2 q (by omega)).trans (hF q hq)
  have hG : ∀ q : Nat, q ≠ a → H2[q]? = H1[q]? := fun q hq => (hq2 q (by omega)).trans (hG q hq)
  refine a_iload_n 0 dX7_kitchen_10 rfl rfl ?_
  refine a_ifneB 30 dX7_kitchen_11 (by decide) (fun c11 => ?_) (fun c11 => ?_)
  · skip
    cases c11
  · skip
    refine a_aload_n 1 dX7_kitchen_14 rfl rfl ?_
    refine a_aload_n 1 dX7_kitchen_15 rfl rfl ?_
    refine a_get f_X7_67 dX7_kitchen_16 hm rfl ?_
    refine a_put f_X7_13 p_X7_13 dX7_kitchen_19 hm (Nat.le_of_ble_eq_true rfl) rfl rfl (by omega) (fun H3 hm hz3 hq3 => ?_)
    have hm : Ob G H3 a 7 [.int 0, .ref (a + 1), .int (nI ((P0 tx L).1.2)), .int (nI ((P0 tx L).1.2)), .int (nI ((P0 tx L).1.1)), .int rw2, .int rx2, .ref (a + 2), .ref (a + 3), .ref (a + 4), .int (bI ir2), .int (bI kb), .int (nI n), .int (nI nv), .ref (a + 5), .ref (a + 6), .ref (a + 7), .ref (a + 8), .int (nI ct), .int (nI nx), .ref (a + 9), .long (lN sd), .int (nI sn), .ref (a + 10), .int (nI bn), .ref (a + 11), .ref (a + 12), .ref (a + 13), .ref (a + 14)] := hm
    have hBx := hBx.kept (hq3 _ (by omega))
    have hKx := hKx.kept (hq3 _ (by omega))
    have hVx := hVx.kept (hq3 _ (by omega))
    have hNx := hNx.kept (hq3 _ (by omega))
    have hF : ∀ q : Nat, ¬ (a ≤ q ∧ q < a + 15) → H3[q]? = H[q]? := fun q hq => (hq3 q (by omega)).trans (hF q hq)
    have hG : ∀ q : Nat, q ≠ a → H3[q]? = H1[q]? := fun q hq => (hq3 q (by omega)).trans (hG q hq)
    refine a_bipush (-10) dX7_kitchen_22 (by decide) ?_
    refine a_aload_n 1 dX7_kitchen_24 rfl rfl ?_
    refine a_get f_X7_74 dX7_kitchen_25 hm rfl ?_
    refine a_isub dX7_kitchen_28 ?_
    refine a_ret dX7_kitchen_29 ⟨⟨ri ?_, ?_⟩, rfl, rfl⟩
    · rfl
    · have hU := hU.kept (H1 := _) (hG _ (by omega))
      have hS := hS.kept (H1 := _) (hG _ (by omega))
      have hK9 := hK9.kept (H1 := _) (hG _ (by omega))
      have hJ9 := hJ9.kept (H1 := _) (fun q c1 c2 => hG q (by omega))
      exact ⟨⟨_, _, _, _, _, ⟨by unfold mxL; exact hm, ⟨fB, hBx, eB0, eB1, eB2⟩, ⟨fK, hKx, eK⟩, ⟨fV, hVx, eV⟩, ⟨_, hNx, ⟨eS, eU, eO, e24, e25, e26⟩⟩, hn, hnv⟩, ⟨⟨_, hT2.kept (hG _ (by omega)), fun i hi => absurd hi (Nat.not_lt_zero _)⟩, ⟨_, z2.kept (hG _ (by omega))⟩, ⟨_, z3.kept (hG _ (by omega))⟩, ⟨_, z4.kept (hG _ (by omega))⟩, by decide, fun i hi => absurd hi (Nat.not_lt_zero _)⟩, hU, hS, hK9, hJ9⟩, hF⟩
set_option maxHeartbeats 4000000 in
set_option maxRecDepth 100000 in
theorem c_X7_kitchen_t {G : GT} {B : Nat} {l : Launch} {H : Heap} {a : Nat} {tx : Nat → Nat} {L : Nat} {fp : Int32} {kb : Bool} {ka ks kw : Int32} {n nv : Nat} {kK kV dd : DD} {sd nx ct : Nat} {pu : Nat → DD} {sn : Nat} {sw sg : Nat → Nat} {bn : Nat} {bw : Nat → Nat} {bt : DD} {ik : Nat → Bool} {iD : Nat → DD} {iS : Nat → Nat} {pl : Nat} {ka2 ks2 kw2 : Int32} {n2 v2 : Nat} {kS2 kU2 kK2 kV2 : DD} (hP : P0 tx L = ((0, pl), (true, ka2, ks2, kw2, n2, v2, kS2, kU2, kK2, kV2))) (hX : Mx G H a tx L fp kb ka ks kw n nv kK kV dd sd nx ct pu sn sw sg bn bw bt ik iD iS) (hB : B ≤ a) : AM G B l yX7_kitchen cX7_kitchen 3 (some .int) 6 0 0 [.ref a] H (fun rv H' => rv = some (.int (nI n2)) ∧ (Mx G H' a tx 0 (-1) true ka2 ks2 kw2 n2 v2 kK2 kV2 (bgF kS2 kU2) sd nx 0 pu 0 sw sg 0 bw bt (fun _ => false) iD iS ∧ ∀ q : Nat, ¬ (a ≤ q ∧ q < a + 15) → H'[q]? = H[q]?)) := by
  have hX0 := hX
  obtain ⟨ra, rf, rw, rx, ir, hM, hT, hU, hS, hK9, hJ9⟩ := hX
  have hM0 := hM
  obtain ⟨hm, ⟨fB, hBx, eB0, eB1, eB2⟩, ⟨fK, hKx, eK⟩, ⟨fV, hVx, eV⟩, ⟨fN, hNx, eS, eU, eO, e24, e25, e26⟩, hn, hnv⟩ := hM
  unfold mxL at hm
  have hT0 := hT
  obtain ⟨⟨fT, hTx, eT⟩, hq2, hq3, hq4, hL9, hT8⟩ := hT
  have hO0 : Mo G H a tx L fp ra rf rw rx ir kb n nv ct nx sd sn bn := ⟨by unfold mxL; exact hm, ⟨fT, hTx, eT⟩, hL9, hT8⟩
  have hZ0 : Mz G H a := ⟨hq2, hq3, hq4⟩
  obtain ⟨⟨fz, hzx, -⟩, ⟨fk, hk13, -⟩, ⟨fg, hg14, -⟩⟩ := id hJ9
  have hF : ∀ q : Nat, ¬ (a ≤ q ∧ q < a + 15) → H[q]? = H[q]? := fun _ _ => rfl
  have hG : ∀ q : Nat, q ≠ a ∧ ¬ (a + 2 ≤ q ∧ q < a + 9) ∧ q ≠ a + 12 → H[q]? = H[q]? := fun _ _ => rfl
  refine AM.ofI (lv := [(0, .ref a)]) (by decide +kernel) (Nat.le_of_ble_eq_true rfl) rfl ?_ (fun _ h => by cases h.1)
  refine a_aload_n 0 dX7_kitchen_0 rfl rfl ?_
  refine a_callVi (As := []) (rest := []) (d := 5) (mc := 0) (ms := 0) (x := bI (decide ((P0 tx L).1.1 = 0))) (ci := 7) l_X7_114 im_X7_reads se_X7_reads ⟨_, rfl, rfl⟩ dX7_kitchen_1 ⟨Nat.le_of_ble_eq_true rfl, Nat.le_of_ble_eq_true rfl⟩ rfl (Nat.le_of_ble_eq_true rfl) ⟨Nat.le_of_ble_eq_true rfl, Nat.le_of_ble_eq_true rfl⟩ hm (c_X7_reads hO0 hZ0 hB) (fun H1 hp1 => ?_)
  rw [hP] at hp1
  dsimp only at hp1
  obtain ⟨ra2, rf2, rw2, rx2, ir2, hO2, hZ2, -, hgood, hfr⟩ := hp1
  obtain ⟨rfl, rfl, rfl, hW, -⟩ := hgood rfl
  obtain ⟨hm, -, -, -⟩ := hO2
  unfold mxL at hm
  obtain ⟨⟨fb, hb2, eb⟩, ⟨fw, hw3, ew⟩, ⟨fv, hv4, ev⟩, hn2, hv2⟩ := hW
  obtain ⟨eb0, eb1, eb2⟩ := eb rfl
  dsimp only at hb2 eb0 eb1 eb2 hw3 ew hv4 ev hn2 hv2
  have hBx := hBx.kept (hfr _ (by omega))
  have hKx := hKx.kept (hfr _ (by omega))
  have hVx := hVx.kept (hfr _ (by omega))
  have hNx := hNx.kept (hfr _ (by omega))
  have hzx := hzx.kept (hfr _ (by omega))
  have hF : ∀ q : Nat, ¬ (a ≤ q ∧ q < a + 15) → H1[q]? = H[q]? := fun q hq => (hfr q (by omega)).trans (hF q hq)
  have hG : ∀ q : Nat, q ≠ a ∧ ¬ (a + 2 ≤ q ∧ q < a + 9) ∧ q ≠ a + 12 → H1[q]? = H[q]? := fun q hq => (hfr q (by omega)).trans (hG q hq)
  refine a_toeq (bI true) (by rw [hP]; rfl) ?_
  refine a_istore_n (lv' := [(1, .int (bI true)), (0, .ref a)]) dX7_kitchen_4 rfl (by decide) rfl ?_
  refine a_aload_n 1 dX7_kitchen_5 rfl rfl ?_
  refine a_iconst 0 dX7_kitchen_6 (by decide) ?_
  refine a_put f_X7_63 p_X7_63 dX7_kitchen_7 hm (Nat.le_of_ble_eq_true rfl) rfl rfl (by omega) (fun H2 hm hz2 hq2 => ?_)
  have hm : Ob G H2 a 7 [.int 0, .ref (a + 1), .int fp, .int ra2, .int rf2, .int (nI n2), .int (nI v2), .ref (a + 2), .ref (a + 3), .ref (a + 4), .int (bI true), .int (bI kb), .int (nI n), .int (nI nv), .ref (a + 5), .ref (a + 6), .ref (a + 7), .ref (a + 8), .int (nI ct), .int (nI nx), .ref (a + 9), .long (lN sd), .int (nI sn), .ref (a + 10), .int (nI bn), .ref (a + 11), .ref (a + 12), .ref (a + 13), .ref (a + 14)] := hm
  have hBx := hBx.kept (hq2 _ (by omega))
  have hKx := hKx.kept (hq2 _ (by omega))
  have hVx := hVx.kept (hq2 _ (by omega))
  have hNx := hNx.kept (hq2 _ (by omega))
  have hzx := hzx.kept (hq2 _ (by omega))
  have hb2 := hb2.kept (hq2 _ (by omega))
  have hw3 := hw3.kept (hq2 _ (by omega))
  have hv4 := hv4.kept (hq2 _ (by omega))
  have hF : ∀ q : Nat, ¬ (a ≤ q ∧ q < a + 15) → H2[q]? = H[q]? := fun q hq => (hq2 q (by omega)).trans (hF q hq)
  have hG : ∀ q : Nat, q ≠ a ∧ ¬ (a + 2 ≤ q ∧ q < a + 9) ∧ q ≠ a + 12 → H2[q]? = H[q]? := fun q hq => (hq2 q (by omega)).trans (hG q hq)
  refine a_iload_n 0 dX7_kitchen_10 rfl rfl ?_
  refine a_ifneB 30 dX7_kitchen_11 (by decide) (fun c11 => ?_) (fun c11 => ?_)
  · skip
    refine a_aload_n 1 dX7_kitchen_30 rfl rfl ?_
    refine a_iconst (-1) dX7_kitchen_31 (by decide) ?_
    refine a_put f_X7_13 p_X7_13 dX7_kitchen_32 hm (Nat.le_of_ble_eq_true rfl) rfl rfl (by omega) (fun H3 hm hz3 hq3 => ?_)
    have hm : Ob G H3 a 7 [.int 0, .ref (a + 1), .int (-1), .int ra2, .int rf2, .int (nI n2), .int (nI v2), .ref (a + 2), .ref (a + 3), .ref (a + 4), .int (bI true), .int (bI kb), .int (nI n), .int (nI nv), .ref (a + 5), .ref (a + 6), .ref (a + 7), .ref (a + 8), .int (nI ct), .int (nI nx), .ref (a + 9), .long (lN sd), .int (nI sn), .ref (a + 10), .int (nI bn), .ref (a + 11), .ref (a + 12), .ref (a + 13), .ref (a + 14)] := hm
    have hBx := hBx.kept (hq3 _ (by omega))
    have hKx := hKx.kept (hq3 _ (by omega))
    have hVx := hVx.kept (hq3 _ (by omega))
    have hNx := hNx.kept (hq3 _ (by omega))
    have hzx := hzx.kept (hq3 _ (by omega))
    have hb2 := hb2.kept (hq3 _ (by omega))
    have hw3 := hw3.kept (hq3 _ (by omega))
    have hv4 := hv4.kept (hq3 _ (by omega))
    have hF : ∀ q : Nat, ¬ (a ≤ q ∧ q < a + 15) → H3[q]? = H[q]? := fun q hq => (hq3 q (by omega)).trans (hF q hq)
    have hG : ∀ q : Nat, q ≠ a ∧ ¬ (a + 2 ≤ q ∧ q < a + 9) ∧ q ≠ a + 12 → H3[q]? = H[q]? := fun q hq => (hq3 q (by omega)).trans (hG q hq)
    refine a_aload_n 1 dX7_kitchen_35 rfl rfl ?_
    refine a_aload_n 1 dX7_kitchen_36 rfl rfl ?_
    refine a_get f_X7_110 dX7_kitchen_37 hm rfl ?_
    refine a_put f_X7_117 p_X7_117 dX7_kitchen_40 hm (Nat.le_of_ble_eq_true rfl) (bI_narrow _) rfl (by omega) (fun H4 hm hz4 hq4 => ?_)
    have hm : Ob G H4 a 7 [.int 0, .ref (a + 1), .int (-1), .int ra2, .int rf2, .int (nI n2), .int (nI v2), .ref (a + 2), .ref (a + 3), .ref (a + 4), .int (bI true), .int (bI true), .int (nI n), .int (nI nv), .ref (a + 5), .ref (a + 6), .ref (a + 7), .ref (a + 8), .int (nI ct), .int (nI nx), .ref (a + 9), .long (lN sd), .int (nI sn), .ref (a + 10), .int (nI bn), .ref (a + 11), .ref (a + 12), .ref (a + 13), .ref (a + 14)] := hm
    have hBx := hBx.kept (hq4 _ (by omega))
    have hKx := hKx.kept (hq4 _ (by omega))
    have hVx := hVx.kept (hq4 _ (by omega))
    have hNx := hNx.kept (hq4 _ (by omega))
    have hzx := hzx.kept (hq4 _ (by omega))
    have hb2 := hb2.kept (hq4 _ (by omega))
    have hw3 := hw3.kept (hq4 _ (by omega))
    have hv4 := hv4.kept (hq4 _ (by omega))
    have hF : ∀ q : Nat, ¬ (a ≤ q ∧ q < a + 15) → H4[q]? = H[q]? := fun q hq => (hq4 q (by omega)).trans (hF q hq)
    have hG : ∀ q : Nat, q ≠ a ∧ ¬ (a + 2 ≤ q ∧ q < a + 9) ∧ q ≠ a + 12 → H4[q]? = H[q]? := fun q hq => (hq4 q (by omega)).trans (hG q hq)
    refine a_aload_n 1 dX7_kitchen_43 rfl rfl ?_
    refine a_aload_n 1 dX7_kitchen_44 rfl rfl ?_
    refine a_get f_X7_110 dX7_kitchen_45 hm rfl ?_
    refine a_ifeqB 58 dX7_kitchen_48 (by decide) (fun c48 => ?_) (fun c48 => ?_)
    · skip
      cases c48
    · skip
      refine a_aload_n 1 dX7_kitchen_51 rfl rfl ?_
      refine a_get f_X7_91 dX7_kitchen_52 hm rfl ?_
      refine a_goto 59 dX7_kitchen_55 (by decide) ?_
      refine a_put f_X7_120 p_X7_120 dX7_kitchen_59 hm (Nat.le_of_ble_eq_true rfl) rfl rfl (by omega) (fun H5 hm hz5 hq5 => ?_)
      have hm : Ob G H5 a 7 [.int 0, .ref (a + 1), .int (-1), .int ra2, .int rf2, .int (nI n2), .int (nI v2), .ref (a + 2), .ref (a + 3), .ref (a + 4), .int (bI true), .int (bI true), .int (nI n2), .int (nI nv), .ref (a + 5), .ref (a + 6), .ref (a + 7), .ref (a + 8), .int (nI ct), .int (nI nx), .ref (a + 9), .long (lN sd), .int (nI sn), .ref (a + 10), .int (nI bn), .ref (a + 11), .ref (a + 12), .ref (a + 13), .ref (a + 14)] := hm
      have hBx := hBx.kept (hq5 _ (by omega))
      have hKx := hKx.kept (hq5 _ (by omega))
      have hVx := hVx.kept (hq5 _ (by omega))
      have hNx := hNx.kept (hq5 _ (by omega))
      have hzx := hzx.kept (hq5 _ (by omega))
      have hb2 := hb2.kept (hq5 _ (by omega))
      have hw3 := hw3.kept (hq5 _ (by omega))
      have hv4 := hv4.kept (hq5 _ (by omega))
      have hF : ∀ q : Nat, ¬ (a ≤ q ∧ q < a + 15) → H5[q]? = H[q]? := fun q hq => (hq5 q (by omega)).trans (hF q hq)
      have hG : ∀ q : Nat, q ≠ a ∧ ¬ (a + 2 ≤ q ∧ q < a + 9) ∧ q ≠ a + 12 → H5[q]? = H[q]? := fun q hq => (hq5 q (by omega)).trans (hG q hq)
      refine a_aload_n 1 dX7_kitchen_62 rfl rfl ?_
      refine a_aload_n 1 dX7_kitchen_63 rfl rfl ?_
      refine a_get f_X7_110 dX7_kitchen_64 hm rfl ?_
      refine a_ifeqB 77 dX7_kitchen_67 (by decide) (fun c67 => ?_) (fun c67 => ?_)
      · skip
        cases c67
      · skip
        refine a_aload_n 1 dX7_kitchen_70 rfl rfl ?_
        refine a_get f_X7_94 dX7_kitchen_71 hm rfl ?_
        refine a_goto 78 dX7_kitchen_74 (by decide) ?_
        refine a_put f_X7_123 p_X7_123 dX7_kitchen_78 hm (Nat.le_of_ble_eq_true rfl) rfl rfl (by omega) (fun H6 hm hz6 hq6 => ?_)
        have hm : Ob G H6 a 7 [.int 0, .ref (a + 1), .int (-1), .int ra2, .int rf2, .int (nI n2), .int (nI v2), .ref (a + 2), .ref (a + 3), .ref (a + 4), .int (bI true), .int (bI true), .int (nI n2), .int (nI v2), .ref (a + 5), .ref (a + 6), .ref (a + 7), .ref (a + 8), .int (nI ct), .int (nI nx), .ref (a + 9), .long (lN sd), .int (nI sn), .ref (a + 10), .int (nI bn), .ref (a + 11), .ref (a + 12), .ref (a + 13), .ref (a + 14)] := hm
        have hBx := hBx.kept (hq6 _ (by omega))
        have hKx := hKx.kept (hq6 _ (by omega))
        have hVx := hVx.kept (hq6 _ (by omega))
        have hNx := hNx.kept (hq6 _ (by omega))
        have hzx := hzx.kept (hq6 _ (by omega))
        have hb2 := hb2.kept (hq6 _ (by omega))
        have hw3 := hw3.kept (hq6 _ (by omega))
        have hv4 := hv4.kept (hq6 _ (by omega))
        have hF : ∀ q : Nat, ¬ (a ≤ q ∧ q < a + 15) → H6[q]? = H[q]? := fun q hq => (hq6 q (by omega)).trans (hF q hq)
        have hG : ∀ q : Nat, q ≠ a ∧ ¬ (a + 2 ≤ q ∧ q < a + 9) ∧ q ≠ a + 12 → H6[q]? = H[q]? := fun q hq => (hq6 q (by omega)).trans (hG q hq)
        refine a_iconst 0 dX7_kitchen_81 (by decide) ?_
        refine a_istore_n (lv' := [(2, .int 0), (1, .int (bI true)), (0, .ref a)]) dX7_kitchen_82 rfl (by decide) rfl ?_
        have L83 : ∀ (fu : Nat) (k : Nat) (Hk : Heap) (gB : DD), k ≤ 3 → Ob G Hk a 7 [.int 0, .ref (a + 1), .int (-1), .int ra2, .int rf2, .int (nI n2), .int (nI v2), .ref (a + 2), .ref (a + 3), .ref (a + 4), .int (bI true), .int (bI true), .int (nI n2), .int (nI v2), .ref (a + 5), .ref (a + 6), .ref (a + 7), .ref (a + 8), .int (nI ct), .int (nI nx), .ref (a + 9), .long (lN sd), .int (nI sn), .ref (a + 10), .int (nI bn), .ref (a + 11), .ref (a + 12), .ref (a + 13), .ref (a + 14)] → Ai G Hk (a + 2) 3 fb → Ai G Hk (a + 3) 24 fw → Ai G Hk (a + 4) 4 fv → Ai G Hk (a + 5) 3 gB → Ai G Hk (a + 6) 8 fK → Ai G Hk (a + 7) 4 fV → Ai G Hk (a + 8) 27 fN → Az G Hk (a + 12) 2 fz → (∀ j, j < k → gB j = fb j) → (∀ q : Nat, q ≠ a ∧ ¬ (a + 2 ≤ q ∧ q < a + 9) ∧ q ≠ a + 12 → Hk[q]? = H[q]?) → (∀ q : Nat, ¬ (a ≤ q ∧ q < a + 15) → Hk[q]? = H[q]?) → 3 - k < fu → AW G B l { frames := 6, cells := 0, slots := 0, locals := 27 * 6 } yX7_kitchen.cls cX7_kitchen 3 false (fun rv H' ce' sl' => (rv = some (.int (nI n2)) ∧ (Mx G H' a tx 0 (-1) true ka2 ks2 kw2 n2 v2 kK2 kV2 (bgF kS2 kU2) sd nx 0 pu 0 sw sg 0 bw bt (fun _ => false) iD iS ∧ ∀ q : Nat, ¬ (a ≤ q ∧ q < a + 15) → H'[q]? = H[q]?)) ∧ ce' = 0 ∧ sl' = 0) 83 [(0, .ref a), (2, .int (nI k))] [] Hk 0 0 := by
          intro fu
          induction fu with
          | zero => intro k Hk gB hk hm hb2 hw3 hv4 hBx hKx hVx hNx hzx e1 hG hF hm83; exact absurd hm83 (Nat.not_lt_zero _)
          | succ fu ih83 =>
            intro k Hk gB hk hm hb2 hw3 hv4 hBx hKx hVx hNx hzx e1 hG hF hm83
            refine a_iload_n 1 dX7_kitchen_83 rfl rfl ?_
            refine a_iconst 3 dX7_kitchen_84 (by decide) ?_
            refine a_icmpgeN (a := k) (b := 3) 117 dX7_kitchen_85 (by decide) (by omega) (by omega) (fun c85 => ?_) (fun c85 => ?_)
            · skip
              have hk3 : k = 3 := by omega
              subst hk3
              refine a_iconst 0 dX7_kitchen_117 (by decide) ?_
              refine a_istore_n (lv' := [(2, .int 0), (0, .ref a)]) dX7_kitchen_118 rfl (by decide) rfl ?_
              have L119 : ∀ (fu : Nat) (k : Nat) (Hk : Heap) (gN : DD), k ≤ 27 → Ob G Hk a 7 [.int 0, .ref (a + 1), .int (-1), .int ra2, .int rf2, .int (nI n2), .int (nI v2), .ref (a + 2), .ref (a + 3), .ref (a + 4), .int (bI true), .int (bI true), .int (nI n2), .int (nI v2), .ref (a + 5), .ref (a + 6), .ref (a + 7), .ref (a + 8), .int (nI ct), .int (nI nx), .ref (a + 9), .long (lN sd), .int (nI sn), .ref (a + 10), .int (nI bn), .ref (a + 11), .ref (a + 12), .ref (a + 13), .ref (a + 14)] → Ai G Hk (a + 2) 3 fb → Ai G Hk (a + 3) 24 fw → Ai G Hk (a + 4) 4 fv → Ai G Hk (a + 5) 3 gB → Ai G Hk (a + 6) 8 fK → Ai G Hk (a + 7) 4 fV → Ai G Hk (a + 8) 27 gN → Az G Hk (a + 12) 2 fz → (∀ j, j < k → gN j = if j = 26 then -1 else 0) → (∀ q : Nat, q ≠ a ∧ ¬ (a + 2 ≤ q ∧ q < a + 9) ∧ q ≠ a + 12 → Hk[q]? = H[q]?) → (∀ q : Nat, ¬ (a ≤ q ∧ q < a + 15) → Hk[q]? = H[q]?) → 27 - k < fu → AW G B l { frames := 6, cells := 0, slots := 0, locals := 27 * 6 } yX7_kitchen.cls cX7_kitchen 3 false (fun rv H' ce' sl' => (rv = some (.int (nI n2)) ∧ (Mx G H' a tx 0 (-1) true ka2 ks2 kw2 n2 v2 kK2 kV2 (bgF kS2 kU2) sd nx 0 pu 0 sw sg 0 bw bt (fun _ => false) iD iS ∧ ∀ q : Nat, ¬ (a ≤ q ∧ q < a + 15) → H'[q]? = H[q]?)) ∧ ce' = 0 ∧ sl' = 0) 119 [(0, .ref a), (2, .int (nI k))] [] Hk 0 0 := by
                intro fu
                induction fu with
                | zero => intro k Hk gN hk hm hb2 hw3 hv4 hBx hKx hVx hNx hzx e2 hG hF hm119; exact absurd hm119 (Nat.not_lt_zero _)
                | succ fu ih119 =>
                  intro k Hk gN hk hm hb2 hw3 hv4 hBx hKx hVx hNx hzx e2 hG hF hm119
                  refine a_iload_n 1 dX7_kitchen_119 rfl rfl ?_
                  refine a_bipush 27 dX7_kitchen_120 (by decide) ?_
                  refine a_icmpgeN (a := k) (b := 27) 148 dX7_kitchen_122 (by decide) (by omega) (by omega) (fun c122 => ?_) (fun c122 => ?_)
                  · skip
                    have hk27 : k = 27 := by omega
                    subst hk27
                    have e27 := e2
                    refine a_iconst 0 dX7_kitchen_148 (by decide) ?_
                    refine a_istore_n (lv' := [(2, .int 0), (0, .ref a)]) dX7_kitchen_149 rfl (by decide) rfl ?_
                    have L150 : ∀ (fu : Nat) (k : Nat) (Hk : Heap) (gN gK : DD), k ≤ n2 → Ob G Hk a 7 [.int 0, .ref (a + 1), .int (-1), .int ra2, .int rf2, .int (nI n2), .int (nI v2), .ref (a + 2), .ref (a + 3), .ref (a + 4), .int (bI true), .int (bI true), .int (nI n2), .int (nI v2), .ref (a + 5), .ref (a + 6), .ref (a + 7), .ref (a + 8), .int (nI ct), .int (nI nx), .ref (a + 9), .long (lN sd), .int (nI sn), .ref (a + 10), .int (nI bn), .ref (a + 11), .ref (a + 12), .ref (a + 13), .ref (a + 14)] → Ai G Hk (a + 2) 3 fb → Ai G Hk (a + 3) 24 fw → Ai G Hk (a + 4) 4 fv → Ai G Hk (a + 5) 3 gB → Ai G Hk (a + 6) 8 gK → Ai G Hk (a + 7) 4 fV → Ai G Hk (a + 8) 27 gN → Az G Hk (a + 12) 2 fz → BgN kS2 kU2 k gN → (∀ j, j < k → gK j = kK2 j) → (∀ q : Nat, q ≠ a ∧ ¬ (a + 2 ≤ q ∧ q < a + 9) ∧ q ≠ a + 12 → Hk[q]? = H[q]?) → (∀ q : Nat, ¬ (a ≤ q ∧ q < a + 15) → Hk[q]? = H[q]?) → n2 - k < fu → AW G B l { frames := 6, cells := 0, slots := 0, locals := 27 * 6 } yX7_kitchen.cls cX7_kitchen 3 false (fun rv H' ce' sl' => (rv = some (.int (nI n2)) ∧ (Mx G H' a tx 0 (-1) true ka2 ks2 kw2 n2 v2 kK2 kV2 (bgF kS2 kU2) sd nx 0 pu 0 sw sg 0 bw bt (fun _ => false) iD iS ∧ ∀ q : Nat, ¬ (a ≤ q ∧ q < a + 15) → H'[q]? = H[q]?)) ∧ ce' = 0 ∧ sl' = 0) 150 [(0, .ref a), (2, .int (nI k))] [] Hk 0 0 := by
                      intro fu
                      induction fu with
                      | zero => intro k Hk gN gK hk hm hb2 hw3 hv4 hBx hKx hVx hNx hzx e3 e4 hG hF hm150; exact absurd hm150 (Nat.not_lt_zero _)
                      | succ fu ih150 =>
                        intro k Hk gN gK hk hm hb2 hw3 hv4 hBx hKx hVx hNx hzx e3 e4 hG hF hm150
                        refine a_iload_n 1 dX7_kitchen_150 rfl rfl ?_
                        refine a_aload_n 0 dX7_kitchen_151 rfl rfl ?_
                        refine a_get f_X7_120 dX7_kitchen_152 hm rfl ?_
                        refine a_icmpgeN (a := k) (b := n2) 213 dX7_kitchen_155 (by decide) (by omega) (by omega) (fun c155 => ?_) (fun c155 => ?_)
                        · skip
                          have hkn : k = n2 := by omega
                          rw [hkn] at e3 e4
                          refine a_iconst 0 dX7_kitchen_213 (by decide) ?_
                          refine a_istore_n (lv' := [(2, .int 0), (0, .ref a)]) dX7_kitchen_214 rfl (by decide) rfl ?_
                          have L215 : ∀ (fu : Nat) (k : Nat) (Hk : Heap) (gV : DD), k ≤ v2 → Ob G Hk a 7 [.int 0, .ref (a + 1), .int (-1), .int ra2, .int rf2, .int (nI n2), .int (nI v2), .ref (a + 2), .ref (a + 3), .ref (a + 4), .int (bI true), .int (bI true), .int (nI n2), .int (nI v2), .ref (a + 5), .ref (a + 6), .ref (a + 7), .ref (a + 8), .int (nI ct), .int (nI nx), .ref (a + 9), .long (lN sd), .int (nI sn), .ref (a + 10), .int (nI bn), .ref (a + 11), .ref (a + 12), .ref (a + 13), .ref (a + 14)] → Ai G Hk (a + 2) 3 fb → Ai G Hk (a + 3) 24 fw → Ai G Hk (a + 4) 4 fv → Ai G Hk (a + 5) 3 gB → Ai G Hk (a + 6) 8 gK → Ai G Hk (a + 7) 4 gV → Ai G Hk (a + 8) 27 gN → Az G Hk (a + 12) 2 fz → (∀ j, j < k → gV j = kV2 j) → (∀ q : Nat, q ≠ a ∧ ¬ (a + 2 ≤ q ∧ q < a + 9) ∧ q ≠ a + 12 → Hk[q]? = H[q]?) → (∀ q : Nat, ¬ (a ≤ q ∧ q < a + 15) → Hk[q]? = H[q]?) → v2 - k < fu → AW G B l { frames := 6, cells := 0, slots := 0, locals := 27 * 6 } yX7_kitchen.cls cX7_kitchen 3 false (fun rv H' ce' sl' => (rv = some (.int (nI n2)) ∧ (Mx G H' a tx 0 (-1) true ka2 ks2 kw2 n2 v2 kK2 kV2 (bgF kS2 kU2) sd nx 0 pu 0 sw sg 0 bw bt (fun _ => false) iD iS ∧ ∀ q : Nat, ¬ (a ≤ q ∧ q < a + 15) → H'[q]? = H[q]?)) ∧ ce' = 0 ∧ sl' = 0) 215 [(0, .ref a), (2, .int (nI k))] [] Hk 0 0 := by
                            intro fu
                            induction fu with
                            | zero => intro k Hk gV hk hm hb2 hw3 hv4 hBx hKx hVx hNx hzx e5 hG hF hm215; exact absurd hm215 (Nat.not_lt_zero _)
                            | succ fu ih215 =>
                              intro k Hk gV hk hm hb2 hw3 hv4 hBx hKx hVx hNx hzx e5 hG hF hm215
                              refine a_iload_n 1 dX7_kitchen_215 rfl rfl ?_
                              refine a_aload_n 0 dX7_kitchen_216 rfl rfl ?_
                              refine a_get f_X7_123 dX7_kitchen_217 hm rfl ?_
                              refine a_icmpgeN (a := k) (b := v2) 241 dX7_kitchen_220 (by decide) (by omega) (by omega) (fun c220 => ?_) (fun c220 => ?_)
                              · skip
                                refine a_aload_n 0 dX7_kitchen_241 rfl rfl ?_
                                refine a_iconst 0 dX7_kitchen_242 (by decide) ?_
                                refine a_put f_X7_126 p_X7_126 dX7_kitchen_243 hm (Nat.le_of_ble_eq_true rfl) rfl rfl (by omega) (fun H7 hm hz7 hq7 => ?_)
                                have hm : Ob G H7 a 7 [.int 0, .ref (a + 1), .int (-1), .int ra2, .int rf2, .int (nI n2), .int (nI v2), .ref (a + 2), .ref (a + 3), .ref (a + 4), .int (bI true), .int (bI true), .int (nI n2), .int (nI v2), .ref (a + 5), .ref (a + 6), .ref (a + 7), .ref (a + 8), .int (nI ct), .int (nI nx), .ref (a + 9), .long (lN sd), .int 0, .ref (a + 10), .int (nI bn), .ref (a + 11), .ref (a + 12), .ref (a + 13), .ref (a + 14)] := hm
                                have hb2 := hb2.kept (hq7 _ (by omega))
                                have hw3 := hw3.kept (hq7 _ (by omega))
                                have hv4 := hv4.kept (hq7 _ (by omega))
                                have hBx := hBx.kept (hq7 _ (by omega))
                                have hKx := hKx.kept (hq7 _ (by omega))
                                have hVx := hVx.kept (hq7 _ (by omega))
                                have hNx := hNx.kept (hq7 _ (by omega))
                                have hzx := hzx.kept (hq7 _ (by omega))
                                have hF : ∀ q : Nat, ¬ (a ≤ q ∧ q < a + 15) → H7[q]? = H[q]? := fun q hq => (hq7 q (by omega)).trans (hF q hq)
                                have hG : ∀ q : Nat, q ≠ a ∧ ¬ (a + 2 ≤ q ∧ q < a + 9) ∧ q ≠ a + 12 → H7[q]? = H[q]? := fun q hq => (hq7 q (by omega)).trans (hG q hq)
                                refine a_aload_n 0 dX7_kitchen_246 rfl rfl ?_
                                refine a_iconst 0 dX7_kitchen_247 (by decide) ?_
                                refine a_put f_X7_129 p_X7_129 dX7_kitchen_248 hm (Nat.le_of_ble_eq_true rfl) rfl rfl (by omega) (fun H8 hm hz8 hq8 => ?_)
                                have hm : Ob G H8 a 7 [.int 0, .ref (a + 1), .int (-1), .int ra2, .int rf2, .int (nI n2), .int (nI v2), .ref (a + 2), .ref (a + 3), .ref (a + 4), .int (bI true), .int (bI true), .int (nI n2), .int (nI v2), .ref (a + 5), .ref (a + 6), .ref (a + 7), .ref (a + 8), .int (nI ct), .int (nI nx), .ref (a + 9), .long (lN sd), .int 0, .ref (a + 10), .int 0, .ref (a + 11), .ref (a + 12), .ref (a + 13), .ref (a + 14)] := hm
                                have hb2 := hb2.kept (hq8 _ (by omega))
                                have hw3 := hw3.kept (hq8 _ (by omega))
                                have hv4 := hv4.kept (hq8 _ (by omega))
                                have hBx := hBx.kept (hq8 _ (by omega))
                                have hKx := hKx.kept (hq8 _ (by omega))
                                have hVx := hVx.kept (hq8 _ (by omega))
                                have hNx := hNx.kept (hq8 _ (by omega))
                                have hzx := hzx.kept (hq8 _ (by omega))
                                have hF : ∀ q : Nat, ¬ (a ≤ q ∧ q < a + 15) → H8[q]? = H[q]? := fun q hq => (hq8 q (by omega)).trans (hF q hq)
                                have hG : ∀ q : Nat, q ≠ a ∧ ¬ (a + 2 ≤ q ∧ q < a + 9) ∧ q ≠ a + 12 → H8[q]? = H[q]? := fun q hq => (hq8 q (by omega)).trans (hG q hq)
                                refine a_aload_n 0 dX7_kitchen_251 rfl rfl ?_
                                refine a_iconst 0 dX7_kitchen_252 (by decide) ?_
                                refine a_put f_X7_132 p_X7_132 dX7_kitchen_253 hm (Nat.le_of_ble_eq_true rfl) rfl rfl (by omega) (fun H9 hm hz9 hq9 => ?_)
                                have hm : Ob G H9 a 7 [.int 0, .ref (a + 1), .int (-1), .int ra2, .int rf2, .int (nI n2), .int (nI v2), .ref (a + 2), .ref (a + 3), .ref (a + 4), .int (bI true), .int (bI true), .int (nI n2), .int (nI v2), .ref (a + 5), .ref (a + 6), .ref (a + 7), .ref (a + 8), .int 0, .int (nI nx), .ref (a + 9), .long (lN sd), .int 0, .ref (a + 10), .int 0, .ref (a + 11), .ref (a + 12), .ref (a + 13), .ref (a + 14)] := hm
                                have hb2 := hb2.kept (hq9 _ (by omega))
                                have hw3 := hw3.kept (hq9 _ (by omega))
                                have hv4 := hv4.kept (hq9 _ (by omega))
                                have hBx := hBx.kept (hq9 _ (by omega))
                                have hKx := hKx.kept (hq9 _ (by omega))
                                have hVx := hVx.kept (hq9 _ (by omega))
                                have hNx := hNx.kept (hq9 _ (by omega))
                                have hzx := hzx.kept (hq9 _ (by omega))
                                have hF : ∀ q : Nat, ¬ (a ≤ q ∧ q < a + 15) → H9[q]? = H[q]? := fun q hq => (hq9 q (by omega)).trans (hF q hq)
                                have hG : ∀ q : Nat, q ≠ a ∧ ¬ (a + 2 ≤ q ∧ q < a + 9) ∧ q ≠ a + 12 → H9[q]? = H[q]? := fun q hq => (hq9 q (by omega)).trans (hG q hq)
                                refine a_aload_n 0 dX7_kitchen_256 rfl rfl ?_
                                refine a_get f_X7_47 dX7_kitchen_257 hm rfl ?_
                                refine a_iconst 0 dX7_kitchen_260 (by decide) ?_
                                refine a_toeq (nI 0) rfl ?_
                                refine a_iconst 0 dX7_kitchen_261 (by decide) ?_
                                refine a_toeq (bI false) rfl ?_
                                refine a_zast dX7_kitchen_262 hzx (vp_in_nI (by decide) (by decide)) (by omega) (fun H10 hzx hz10 hq10 => ?_)
                                have hzx : Az G H10 (a + 12) 2 (upd fz (nI 0).toNatClampNeg (bI false)) := hzx
                                have hzx : Az G H10 (a + 12) 2 (upd fz 0 (bI false)) := hzx.to (fun j _ => by rw [nI_clamp (by decide)])
                                have hm := hm.kept (hq10 _ (by omega))
                                have hb2 := hb2.kept (hq10 _ (by omega))
                                have hw3 := hw3.kept (hq10 _ (by omega))
                                have hv4 := hv4.kept (hq10 _ (by omega))
                                have hBx := hBx.kept (hq10 _ (by omega))
                                have hKx := hKx.kept (hq10 _ (by omega))
                                have hVx := hVx.kept (hq10 _ (by omega))
                                have hNx := hNx.kept (hq10 _ (by omega))
                                have hF : ∀ q : Nat, ¬ (a ≤ q ∧ q < a + 15) → H10[q]? = H[q]? := fun q hq => (hq10 q (by omega)).trans (hF q hq)
                                have hG : ∀ q : Nat, q ≠ a ∧ ¬ (a + 2 ≤ q ∧ q < a + 9) ∧ q ≠ a + 12 → H10[q]? = H[q]? := fun q hq => (hq10 q (by omega)).trans (hG q hq)
                                refine a_aload_n 0 dX7_kitchen_263 rfl rfl ?_
                                refine a_get f_X7_47 dX7_kitchen_264 hm rfl ?_
                                refine a_iconst 1 dX7_kitchen_267 (by decide) ?_
                                refine a_toeq (nI 1) rfl ?_
                                refine a_iconst 0 dX7_kitchen_268 (by decide) ?_
                                refine a_toeq (bI false) rfl ?_
                                refine a_zast dX7_kitchen_269 hzx (vp_in_nI (by decide) (by decide)) (by omega) (fun H11 hzx hz11 hq11 => ?_)
                                have hzx : Az G H11 (a + 12) 2 (upd (upd fz 0 (bI false)) (nI 1).toNatClampNeg (bI false)) := hzx
                                have hzx : Az G H11 (a + 12) 2 (upd (upd fz 0 (bI false)) 1 (bI false)) := hzx.to (fun j _ => by rw [nI_clamp (by decide)])
                                have hm := hm.kept (hq11 _ (by omega))
                                have hb2 := hb2.kept (hq11 _ (by omega))
                                have hw3 := hw3.kept (hq11 _ (by omega))
                                have hv4 := hv4.kept (hq11 _ (by omega))
                                have hBx := hBx.kept (hq11 _ (by omega))
                                have hKx := hKx.kept (hq11 _ (by omega))
                                have hVx := hVx.kept (hq11 _ (by omega))
                                have hNx := hNx.kept (hq11 _ (by omega))
                                have hF : ∀ q : Nat, ¬ (a ≤ q ∧ q < a + 15) → H11[q]? = H[q]? := fun q hq => (hq11 q (by omega)).trans (hF q hq)
                                have hG : ∀ q : Nat, q ≠ a ∧ ¬ (a + 2 ≤ q ∧ q < a + 9) ∧ q ≠ a + 12 → H11[q]? = H[q]? := fun q hq => (hq11 q (by omega)).trans (hG q hq)
                                refine a_aload_n 0 dX7_kitchen_270 rfl rfl ?_
                                refine a_get f_X7_120 dX7_kitchen_271 hm rfl ?_
                                refine a_ret dX7_kitchen_274 ⟨⟨ri ?_, ?_⟩, rfl, rfl⟩
                                · rfl
                                · have hU := hU.kept (H1 := _) (hG _ (by omega))
                                  have hS := hS.kept (H1 := _) (hG _ (by omega))
                                  have hK9 := hK9.kept (H1 := _) (hG _ (by omega))
                                  exact ⟨⟨_, _, _, _, _, ⟨by unfold mxL; exact hm, ⟨_, hBx, (e1 0 (by decide)).trans eb0, (e1 1 (by decide)).trans eb1, (e1 2 (by decide)).trans eb2⟩, ⟨_, hKx, e4⟩, ⟨_, hVx, fun i hi => e5 i (by omega)⟩, ⟨_, hNx, bg_na hn2 e3⟩, hn2, hv2⟩, ⟨⟨_, hTx.kept (hG _ (by omega)), fun i hi => absurd hi (Nat.not_lt_zero _)⟩, ⟨_, hb2⟩, ⟨_, hw3⟩, ⟨_, hv4⟩, by decide, fun i hi => absurd hi (Nat.not_lt_zero _)⟩, Mu.zero2 hU, hS.none, hK9.none, ⟨⟨_, hzx, kp_00⟩, ⟨_, hk13.kept (hG _ (by omega)), fun i hi h => by cases h⟩, ⟨_, hg14.kept (hG _ (by omega)), fun i hi h => by cases h⟩⟩⟩, hF⟩
                              · skip
                                refine a_aload_n 0 dX7_kitchen_223 rfl rfl ?_
                                refine a_get f_X7_32 dX7_kitchen_224 hm rfl ?_
                                refine a_iload_n 1 dX7_kitchen_227 rfl rfl ?_
                                refine a_aload_n 0 dX7_kitchen_228 rfl rfl ?_
                                refine a_get f_X7_23 dX7_kitchen_229 hm rfl ?_
                                refine a_iload_n 1 dX7_kitchen_232 rfl rfl ?_
                                refine a_ialdN (j := k) dX7_kitchen_233 hv4 (by omega) (by decide) ?_
                                refine a_iastN (j := k) dX7_kitchen_234 hVx (by omega) (by decide) (by omega) (fun H12 hVx hz12 hq12 => ?_)
                                have hVx : Ai G H12 (a + 7) 4 (upd gV k (fv k)) := hVx
                                have hm := hm.kept (hq12 _ (by omega))
                                have hb2 := hb2.kept (hq12 _ (by omega))
                                have hw3 := hw3.kept (hq12 _ (by omega))
                                have hv4 := hv4.kept (hq12 _ (by omega))
                                have hBx := hBx.kept (hq12 _ (by omega))
                                have hKx := hKx.kept (hq12 _ (by omega))
                                have hNx := hNx.kept (hq12 _ (by omega))
                                have hzx := hzx.kept (hq12 _ (by omega))
                                have hF : ∀ q : Nat, ¬ (a ≤ q ∧ q < a + 15) → H12[q]? = H[q]? := fun q hq => (hq12 q (by omega)).trans (hF q hq)
                                have hG : ∀ q : Nat, q ≠ a ∧ ¬ (a + 2 ≤ q ∧ q < a + 9) ∧ q ≠ a + 12 → H12[q]? = H[q]? := fun q hq => (hq12 q (by omega)).trans (hG q hq)
                                refine a_iincN (q := 1) (lv' := [(2, .int (nI (k + 1))), (0, .ref a)]) dX7_kitchen_235 rfl (by decide) rfl ?_
                                refine a_goto 215 dX7_kitchen_238 (by decide) ?_
                                refine a_sub [1, 0] rfl ?_
                                exact ih215 _ _ _ (by omega) hm hb2 hw3 hv4 hBx hKx hVx hNx hzx (upd_to (e := kV2) e5 (ev k (by omega))) hG hF (by omega)
                          refine a_sub [1, 0] rfl ?_
                          exact L215 _ 0 _ _ (Nat.zero_le _) hm hb2 hw3 hv4 hBx hKx hVx hNx hzx (fun j hj => absurd hj (Nat.not_lt_zero _)) hG hF (Nat.lt_succ_self _)
                        · skip
                          refine a_aload_n 0 dX7_kitchen_158 rfl rfl ?_
                          refine a_get f_X7_35 dX7_kitchen_159 hm rfl ?_
                          refine a_iload_n 1 dX7_kitchen_162 rfl rfl ?_
                          refine a_aload_n 0 dX7_kitchen_163 rfl rfl ?_
                          refine a_get f_X7_20 dX7_kitchen_164 hm rfl ?_
                          refine a_iconst 3 dX7_kitchen_167 (by decide) ?_
                          refine a_iload_n 1 dX7_kitchen_168 rfl rfl ?_
                          refine a_imulN (a := 3) (b := k) dX7_kitchen_169 ?_
                          refine a_ialdN (j := 3 * k) dX7_kitchen_170 hw3 (by omega) (by decide) ?_
                          refine a_iastN (j := k) dX7_kitchen_171 hNx (by omega) (by decide) (by omega) (fun H13 hNx hz13 hq13 => ?_)
                          have hNx : Ai G H13 (a + 8) 27 (upd gN k (fw (3 * k))) := hNx
                          have hm := hm.kept (hq13 _ (by omega))
                          have hb2 := hb2.kept (hq13 _ (by omega))
                          have hw3 := hw3.kept (hq13 _ (by omega))
                          have hv4 := hv4.kept (hq13 _ (by omega))
                          have hBx := hBx.kept (hq13 _ (by omega))
                          have hKx := hKx.kept (hq13 _ (by omega))
                          have hVx := hVx.kept (hq13 _ (by omega))
                          have hzx := hzx.kept (hq13 _ (by omega))
                          have hF : ∀ q : Nat, ¬ (a ≤ q ∧ q < a + 15) → H13[q]? = H[q]? := fun q hq => (hq13 q (by omega)).trans (hF q hq)
                          have hG : ∀ q : Nat, q ≠ a ∧ ¬ (a + 2 ≤ q ∧ q < a + 9) ∧ q ≠ a + 12 → H13[q]? = H[q]? := fun q hq => (hq13 q (by omega)).trans (hG q hq)
                          refine a_aload_n 0 dX7_kitchen_172 rfl rfl ?_
                          refine a_get f_X7_35 dX7_kitchen_173 hm rfl ?_
                          refine a_bipush 8 dX7_kitchen_176 (by decide) ?_
                          refine a_iload_n 1 dX7_kitchen_178 rfl rfl ?_
                          refine a_iaddN (a := 8) (b := k) dX7_kitchen_179 ?_
                          refine a_aload_n 0 dX7_kitchen_180 rfl rfl ?_
                          refine a_get f_X7_20 dX7_kitchen_181 hm rfl ?_
                          refine a_iconst 3 dX7_kitchen_184 (by decide) ?_
                          refine a_iload_n 1 dX7_kitchen_185 rfl rfl ?_
                          refine a_imulN (a := 3) (b := k) dX7_kitchen_186 ?_
                          refine a_iconst 1 dX7_kitchen_187 (by decide) ?_
                          refine a_iaddN (a := 3 * k) (b := 1) dX7_kitchen_188 ?_
                          refine a_ialdN (j := (3 * k) + 1) dX7_kitchen_189 hw3 (by omega) (by decide) ?_
                          refine a_iastN (j := 8 + k) dX7_kitchen_190 hNx (by omega) (by decide) (by omega) (fun H14 hNx hz14 hq14 => ?_)
                          have hNx : Ai G H14 (a + 8) 27 (upd (upd gN k (fw (3 * k))) (8 + k) (fw ((3 * k) + 1))) := hNx
                          have hm := hm.kept (hq14 _ (by omega))
                          have hb2 := hb2.kept (hq14 _ (by omega))
                          have hw3 := hw3.kept (hq14 _ (by omega))
                          have hv4 := hv4.kept (hq14 _ (by omega))
                          have hBx := hBx.kept (hq14 _ (by omega))
                          have hKx := hKx.kept (hq14 _ (by omega))
                          have hVx := hVx.kept (hq14 _ (by omega))
                          have hzx := hzx.kept (hq14 _ (by omega))
                          have hF : ∀ q : Nat, ¬ (a ≤ q ∧ q < a + 15) → H14[q]? = H[q]? := fun q hq => (hq14 q (by omega)).trans (hF q hq)
                          have hG : ∀ q : Nat, q ≠ a ∧ ¬ (a + 2 ≤ q ∧ q < a + 9) ∧ q ≠ a + 12 → H14[q]? = H[q]? := fun q hq => (hq14 q (by omega)).trans (hG q hq)
                          refine a_aload_n 0 dX7_kitchen_191 rfl rfl ?_
                          refine a_get f_X7_29 dX7_kitchen_192 hm rfl ?_
                          refine a_iload_n 1 dX7_kitchen_195 rfl rfl ?_
                          refine a_aload_n 0 dX7_kitchen_196 rfl rfl ?_
                          refine a_get f_X7_20 dX7_kitchen_197 hm rfl ?_
                          refine a_iconst 3 dX7_kitchen_200 (by decide) ?_
                          refine a_iload_n 1 dX7_kitchen_201 rfl rfl ?_
                          refine a_imulN (a := 3) (b := k) dX7_kitchen_202 ?_
                          refine a_iconst 2 dX7_kitchen_203 (by decide) ?_
                          refine a_iaddN (a := 3 * k) (b := 2) dX7_kitchen_204 ?_
                          refine a_ialdN (j := (3 * k) + 2) dX7_kitchen_205 hw3 (by omega) (by decide) ?_
                          refine a_iastN (j := k) dX7_kitchen_206 hKx (by omega) (by decide) (by omega) (fun H15 hKx hz15 hq15 => ?_)
                          have hKx : Ai G H15 (a + 6) 8 (upd gK k (fw ((3 * k) + 2))) := hKx
                          have hm := hm.kept (hq15 _ (by omega))
                          have hb2 := hb2.kept (hq15 _ (by omega))
                          have hw3 := hw3.kept (hq15 _ (by omega))
                          have hv4 := hv4.kept (hq15 _ (by omega))
                          have hBx := hBx.kept (hq15 _ (by omega))
                          have hVx := hVx.kept (hq15 _ (by omega))
                          have hNx := hNx.kept (hq15 _ (by omega))
                          have hzx := hzx.kept (hq15 _ (by omega))
                          have hF : ∀ q : Nat, ¬ (a ≤ q ∧ q < a + 15) → H15[q]? = H[q]? := fun q hq => (hq15 q (by omega)).trans (hF q hq)
                          have hG : ∀ q : Nat, q ≠ a ∧ ¬ (a + 2 ≤ q ∧ q < a + 9) ∧ q ≠ a + 12 → H15[q]? = H[q]? := fun q hq => (hq15 q (by omega)).trans (hG q hq)
                          refine a_iincN (q := 1) (lv' := [(2, .int (nI (k + 1))), (0, .ref a)]) dX7_kitchen_207 rfl (by decide) rfl ?_
                          refine a_goto 150 dX7_kitchen_210 (by decide) ?_
                          refine a_sub [1, 0] rfl ?_
                          exact ih150 _ _ _ _ (by omega) hm hb2 hw3 hv4 hBx hKx hVx hNx hzx (bg_up (by omega) e3 (ew k (by omega)).1 (ew k (by omega)).2.1) (upd_to (e := kK2) e4 (ew k (by omega)).2.2) hG hF (by omega)
                    refine a_sub [1, 0] rfl ?_
                    exact L150 _ 0 _ _ _ (Nat.zero_le _) hm hb2 hw3 hv4 hBx hKx hVx hNx hzx (bg_0 e27) (fun j hj => absurd hj (Nat.not_lt_zero _)) hG hF (Nat.lt_succ_self _)
                  · skip
                    refine a_aload_n 0 dX7_kitchen_125 rfl rfl ?_
                    refine a_get f_X7_35 dX7_kitchen_126 hm rfl ?_
                    refine a_iload_n 1 dX7_kitchen_129 rfl rfl ?_
                    refine a_iload_n 1 dX7_kitchen_130 rfl rfl ?_
                    refine a_bipush 26 dX7_kitchen_131 (by decide) ?_
                    refine a_icmpneN (a := k) (b := 26) 140 dX7_kitchen_133 (by decide) (by omega) (by omega) (fun c133 => ?_) (fun c133 => ?_)
                    · skip
                      refine a_iconst 0 dX7_kitchen_140 (by decide) ?_
                      refine a_iastN (j := k) dX7_kitchen_141 hNx (by omega) (by decide) (by omega) (fun H16 hNx hz16 hq16 => ?_)
                      have hNx : Ai G H16 (a + 8) 27 (upd gN k 0) := hNx
                      have hm := hm.kept (hq16 _ (by omega))
                      have hb2 := hb2.kept (hq16 _ (by omega))
                      have hw3 := hw3.kept (hq16 _ (by omega))
                      have hv4 := hv4.kept (hq16 _ (by omega))
                      have hBx := hBx.kept (hq16 _ (by omega))
                      have hKx := hKx.kept (hq16 _ (by omega))
                      have hVx := hVx.kept (hq16 _ (by omega))
                      have hzx := hzx.kept (hq16 _ (by omega))
                      have hF : ∀ q : Nat, ¬ (a ≤ q ∧ q < a + 15) → H16[q]? = H[q]? := fun q hq => (hq16 q (by omega)).trans (hF q hq)
                      have hG : ∀ q : Nat, q ≠ a ∧ ¬ (a + 2 ≤ q ∧ q < a + 9) ∧ q ≠ a + 12 → H16[q]? = H[q]? := fun q hq => (hq16 q (by omega)).trans (hG q hq)
                      refine a_iincN (q := 1) (lv' := [(2, .int (nI (k + 1))), (0, .ref a)]) dX7_kitchen_142 rfl (by decide) rfl ?_
                      refine a_goto 119 dX7_kitchen_145 (by decide) ?_
                      refine a_sub [1, 0] rfl ?_
                      exact ih119 _ _ _ (by omega) hm hb2 hw3 hv4 hBx hKx hVx hNx hzx (upd_to (e := fun j => if j = 26 then -1 else 0) e2 (if_neg c133).symm) hG hF (by omega)
                    · skip
                      refine a_iconst (-1) dX7_kitchen_136 (by decide) ?_
                      refine a_goto 141 dX7_kitchen_137 (by decide) ?_
                      refine a_iastN (j := k) dX7_kitchen_141 hNx (by omega) (by decide) (by omega) (fun H17 hNx hz17 hq17 => ?_)
                      have hNx : Ai G H17 (a + 8) 27 (upd gN k (-1)) := hNx
                      have hm := hm.kept (hq17 _ (by omega))
                      have hb2 := hb2.kept (hq17 _ (by omega))
                      have hw3 := hw3.kept (hq17 _ (by omega))
                      have hv4 := hv4.kept (hq17 _ (by omega))
                      have hBx := hBx.kept (hq17 _ (by omega))
                      have hKx := hKx.kept (hq17 _ (by omega))
                      have hVx := hVx.kept (hq17 _ (by omega))
                      have hzx := hzx.kept (hq17 _ (by omega))
                      have hF : ∀ q : Nat, ¬ (a ≤ q ∧ q < a + 15) → H17[q]? = H[q]? := fun q hq => (hq17 q (by omega)).trans (hF q hq)
                      have hG : ∀ q : Nat, q ≠ a ∧ ¬ (a + 2 ≤ q ∧ q < a + 9) ∧ q ≠ a + 12 → H17[q]? = H[q]? := fun q hq => (hq17 q (by omega)).trans (hG q hq)
                      refine a_iincN (q := 1) (lv' := [(2, .int (nI (k + 1))), (0, .ref a)]) dX7_kitchen_142 rfl (by decide) rfl ?_
                      refine a_goto 119 dX7_kitchen_145 (by decide) ?_
                      refine a_sub [1, 0] rfl ?_
                      exact ih119 _ _ _ (by omega) hm hb2 hw3 hv4 hBx hKx hVx hNx hzx (upd_to (e := fun j => if j = 26 then -1 else 0) e2 (if_pos c133).symm) hG hF (by omega)
              refine a_sub [1, 0] rfl ?_
              exact L119 _ 0 _ _ (Nat.zero_le _) hm hb2 hw3 hv4 hBx hKx hVx hNx hzx (fun j hj => absurd hj (Nat.not_lt_zero _)) hG hF (Nat.lt_succ_self _)
            · skip
              refine a_aload_n 0 dX7_kitchen_88 rfl rfl ?_
              refine a_get f_X7_26 dX7_kitchen_89 hm rfl ?_
              refine a_iload_n 1 dX7_kitchen_92 rfl rfl ?_
              refine a_aload_n 0 dX7_kitchen_93 rfl rfl ?_
              refine a_get f_X7_110 dX7_kitchen_94 hm rfl ?_
              refine a_ifeqB 109 dX7_kitchen_97 (by decide) (fun c97 => ?_) (fun c97 => ?_)
              · skip
                cases c97
              · skip
                refine a_aload_n 0 dX7_kitchen_100 rfl rfl ?_
                refine a_get f_X7_17 dX7_kitchen_101 hm rfl ?_
                refine a_iload_n 1 dX7_kitchen_104 rfl rfl ?_
                refine a_ialdN (j := k) dX7_kitchen_105 hb2 (by omega) (by decide) ?_
                refine a_goto 110 dX7_kitchen_106 (by decide) ?_
                refine a_iastN (j := k) dX7_kitchen_110 hBx (by omega) (by decide) (by omega) (fun H18 hBx hz18 hq18 => ?_)
                have hBx : Ai G H18 (a + 5) 3 (upd gB k (fb k)) := hBx
                have hm := hm.kept (hq18 _ (by omega))
                have hb2 := hb2.kept (hq18 _ (by omega))
                have hw3 := hw3.kept (hq18 _ (by omega))
                have hv4 := hv4.kept (hq18 _ (by omega))
                have hKx := hKx.kept (hq18 _ (by omega))
                have hVx := hVx.kept (hq18 _ (by omega))
                have hNx := hNx.kept (hq18 _ (by omega))
                have hzx := hzx.kept (hq18 _ (by omega))
                have hF : ∀ q : Nat, ¬ (a ≤ q ∧ q < a + 15) → H18[q]? = H[q]? := fun q hq => (hq18 q (by omega)).trans (hF q hq)
                have hG : ∀ q : Nat, q ≠ a ∧ ¬ (a + 2 ≤ q ∧ q < a + 9) ∧ q ≠ a + 12 → H18[q]? = H[q]? := fun q hq => (hq18 q (by omega)).trans (hG q hq)
                refine a_iincN (q := 1) (lv' := [(2, .int (nI (k + 1))), (0, .ref a)]) dX7_kitchen_111 rfl (by decide) rfl ?_
                refine a_goto 83 dX7_kitchen_114 (by decide) ?_
                refine a_sub [1, 0] rfl ?_
                exact ih83 _ _ _ (by omega) hm hb2 hw3 hv4 hBx hKx hVx hNx hzx (upd_to (e := fun j => fb j) e1 rfl) hG hF (by omega)
        refine a_sub [2, 0] rfl ?_
        exact L83 _ 0 _ _ (Nat.zero_le _) hm hb2 hw3 hv4 hBx hKx hVx hNx hzx (fun j hj => absurd hj (Nat.not_lt_zero _)) hG hF (Nat.lt_succ_self _)
  · skip
    cases c11
set_option maxHeartbeats 4000000 in
set_option maxRecDepth 100000 in
theorem c_X7_kitchen_f {G : GT} {B : Nat} {l : Launch} {H : Heap} {a : Nat} {tx : Nat → Nat} {L : Nat} {fp : Int32} {kb : Bool} {ka ks kw : Int32} {n nv : Nat} {kK kV dd : DD} {sd nx ct : Nat} {pu : Nat → DD} {sn : Nat} {sw sg : Nat → Nat} {bn : Nat} {bw : Nat → Nat} {bt : DD} {ik : Nat → Bool} {iD : Nat → DD} {iS : Nat → Nat} {pl : Nat} (hP : P0 tx L = ((0, pl), (false, 0, 0, 0, 0, 0, zD, zD, zD, zD))) (hX : Mx G H a tx L fp kb ka ks kw n nv kK kV dd sd nx ct pu sn sw sg bn bw bt ik iD iS) (hB : B ≤ a) : AM G B l yX7_kitchen cX7_kitchen 3 (some .int) 6 0 0 [.ref a] H (fun rv H' => rv = some (.int 0) ∧ (Mx G H' a tx 0 (-1) false 0 0 0 0 0 zD zD (bgF zD zD) sd nx 0 pu 0 sw sg 0 bw bt (fun _ => false) iD iS ∧ ∀ q : Nat, ¬ (a ≤ q ∧ q < a + 15) → H'[q]? = H[q]?)) := by
  have hX0 := hX
  obtain ⟨ra, rf, rw, rx, ir, hM, hT, hU, hS, hK9, hJ9⟩ := hX
  have hM0 := hM
  obtain ⟨hm, ⟨fB, hBx, eB0, eB1, eB2⟩, ⟨fK, hKx, eK⟩, ⟨fV, hVx, eV⟩, ⟨fN, hNx, eS, eU, eO, e24, e25, e26⟩, hn, hnv⟩ := hM
  unfold mxL at hm
  have hT0 := hT
  obtain ⟨⟨fT, hTx, eT⟩, hq2, hq3, hq4, hL9, hT8⟩ := hT
  have hO0 : Mo G H a tx L fp ra rf rw rx ir kb n nv ct nx sd sn bn := ⟨by unfold mxL; exact hm, ⟨fT, hTx, eT⟩, hL9, hT8⟩
  have hZ0 : Mz G H a := ⟨hq2, hq3, hq4⟩
  obtain ⟨⟨fz, hzx, -⟩, ⟨fk, hk13, -⟩, ⟨fg, hg14, -⟩⟩ := id hJ9
  have hF : ∀ q : Nat, ¬ (a ≤ q ∧ q < a + 15) → H[q]? = H[q]? := fun _ _ => rfl
  have hG : ∀ q : Nat, q ≠ a ∧ ¬ (a + 2 ≤ q ∧ q < a + 9) ∧ q ≠ a + 12 → H[q]? = H[q]? := fun _ _ => rfl
  refine AM.ofI (lv := [(0, .ref a)]) (by decide +kernel) (Nat.le_of_ble_eq_true rfl) rfl ?_ (fun _ h => by cases h.1)
  refine a_aload_n 0 dX7_kitchen_0 rfl rfl ?_
  refine a_callVi (As := []) (rest := []) (d := 5) (mc := 0) (ms := 0) (x := bI (decide ((P0 tx L).1.1 = 0))) (ci := 7) l_X7_114 im_X7_reads se_X7_reads ⟨_, rfl, rfl⟩ dX7_kitchen_1 ⟨Nat.le_of_ble_eq_true rfl, Nat.le_of_ble_eq_true rfl⟩ rfl (Nat.le_of_ble_eq_true rfl) ⟨Nat.le_of_ble_eq_true rfl, Nat.le_of_ble_eq_true rfl⟩ hm (c_X7_reads hO0 hZ0 hB) (fun H1 hp1 => ?_)
  rw [hP] at hp1
  dsimp only at hp1
  obtain ⟨ra2, rf2, rw2, rx2, ir2, hO2, hZ2, -, hgood, hfr⟩ := hp1
  obtain ⟨rfl, rfl, rfl, hW, -⟩ := hgood rfl
  obtain ⟨hm, -, -, -⟩ := hO2
  unfold mxL at hm
  obtain ⟨⟨fb, hb2, -⟩, ⟨fw, hw3, -⟩, ⟨fv, hv4, -⟩, -, -⟩ := hW
  have hBx := hBx.kept (hfr _ (by omega))
  have hKx := hKx.kept (hfr _ (by omega))
  have hVx := hVx.kept (hfr _ (by omega))
  have hNx := hNx.kept (hfr _ (by omega))
  have hzx := hzx.kept (hfr _ (by omega))
  have hF : ∀ q : Nat, ¬ (a ≤ q ∧ q < a + 15) → H1[q]? = H[q]? := fun q hq => (hfr q (by omega)).trans (hF q hq)
  have hG : ∀ q : Nat, q ≠ a ∧ ¬ (a + 2 ≤ q ∧ q < a + 9) ∧ q ≠ a + 12 → H1[q]? = H[q]? := fun q hq => (hfr q (by omega)).trans (hG q hq)
  refine a_toeq (bI true) (by rw [hP]; rfl) ?_
  refine a_istore_n (lv' := [(1, .int (bI true)), (0, .ref a)]) dX7_kitchen_4 rfl (by decide) rfl ?_
  refine a_aload_n 1 dX7_kitchen_5 rfl rfl ?_
  refine a_iconst 0 dX7_kitchen_6 (by decide) ?_
  refine a_put f_X7_63 p_X7_63 dX7_kitchen_7 hm (Nat.le_of_ble_eq_true rfl) rfl rfl (by omega) (fun H2 hm hz2 hq2 => ?_)
  have hm : Ob G H2 a 7 [.int 0, .ref (a + 1), .int fp, .int ra2, .int rf2, .int (nI 0), .int (nI 0), .ref (a + 2), .ref (a + 3), .ref (a + 4), .int (bI false), .int (bI kb), .int (nI n), .int (nI nv), .ref (a + 5), .ref (a + 6), .ref (a + 7), .ref (a + 8), .int (nI ct), .int (nI nx), .ref (a + 9), .long (lN sd), .int (nI sn), .ref (a + 10), .int (nI bn), .ref (a + 11), .ref (a + 12), .ref (a + 13), .ref (a + 14)] := hm
  have hBx := hBx.kept (hq2 _ (by omega))
  have hKx := hKx.kept (hq2 _ (by omega))
  have hVx := hVx.kept (hq2 _ (by omega))
  have hNx := hNx.kept (hq2 _ (by omega))
  have hzx := hzx.kept (hq2 _ (by omega))
  have hb2 := hb2.kept (hq2 _ (by omega))
  have hw3 := hw3.kept (hq2 _ (by omega))
  have hv4 := hv4.kept (hq2 _ (by omega))
  have hF : ∀ q : Nat, ¬ (a ≤ q ∧ q < a + 15) → H2[q]? = H[q]? := fun q hq => (hq2 q (by omega)).trans (hF q hq)
  have hG : ∀ q : Nat, q ≠ a ∧ ¬ (a + 2 ≤ q ∧ q < a + 9) ∧ q ≠ a + 12 → H2[q]? = H[q]? := fun q hq => (hq2 q (by omega)).trans (hG q hq)
  refine a_iload_n 0 dX7_kitchen_10 rfl rfl ?_
  refine a_ifneB 30 dX7_kitchen_11 (by decide) (fun c11 => ?_) (fun c11 => ?_)
  · skip
    refine a_aload_n 1 dX7_kitchen_30 rfl rfl ?_
    refine a_iconst (-1) dX7_kitchen_31 (by decide) ?_
    refine a_put f_X7_13 p_X7_13 dX7_kitchen_32 hm (Nat.le_of_ble_eq_true rfl) rfl rfl (by omega) (fun H3 hm hz3 hq3 => ?_)
    have hm : Ob G H3 a 7 [.int 0, .ref (a + 1), .int (-1), .int ra2, .int rf2, .int (nI 0), .int (nI 0), .ref (a + 2), .ref (a + 3), .ref (a + 4), .int (bI false), .int (bI kb), .int (nI n), .int (nI nv), .ref (a + 5), .ref (a + 6), .ref (a + 7), .ref (a + 8), .int (nI ct), .int (nI nx), .ref (a + 9), .long (lN sd), .int (nI sn), .ref (a + 10), .int (nI bn), .ref (a + 11), .ref (a + 12), .ref (a + 13), .ref (a + 14)] := hm
    have hBx := hBx.kept (hq3 _ (by omega))
    have hKx := hKx.kept (hq3 _ (by omega))
    have hVx := hVx.kept (hq3 _ (by omega))
    have hNx := hNx.kept (hq3 _ (by omega))
    have hzx := hzx.kept (hq3 _ (by omega))
    have hb2 := hb2.kept (hq3 _ (by omega))
    have hw3 := hw3.kept (hq3 _ (by omega))
    have hv4 := hv4.kept (hq3 _ (by omega))
    have hF : ∀ q : Nat, ¬ (a ≤ q ∧ q < a + 15) → H3[q]? = H[q]? := fun q hq => (hq3 q (by omega)).trans (hF q hq)
    have hG : ∀ q : Nat, q ≠ a ∧ ¬ (a + 2 ≤ q ∧ q < a + 9) ∧ q ≠ a + 12 → H3[q]? = H[q]? := fun q hq => (hq3 q (by omega)).trans (hG q hq)
    refine a_aload_n 1 dX7_kitchen_35 rfl rfl ?_
    refine a_aload_n 1 dX7_kitchen_36 rfl rfl ?_
    refine a_get f_X7_110 dX7_kitchen_37 hm rfl ?_
    refine a_put f_X7_117 p_X7_117 dX7_kitchen_40 hm (Nat.le_of_ble_eq_true rfl) (bI_narrow _) rfl (by omega) (fun H4 hm hz4 hq4 => ?_)
    have hm : Ob G H4 a 7 [.int 0, .ref (a + 1), .int (-1), .int ra2, .int rf2, .int (nI 0), .int (nI 0), .ref (a + 2), .ref (a + 3), .ref (a + 4), .int (bI false), .int (bI false), .int (nI n), .int (nI nv), .ref (a + 5), .ref (a + 6), .ref (a + 7), .ref (a + 8), .int (nI ct), .int (nI nx), .ref (a + 9), .long (lN sd), .int (nI sn), .ref (a + 10), .int (nI bn), .ref (a + 11), .ref (a + 12), .ref (a + 13), .ref (a + 14)] := hm
    have hBx := hBx.kept (hq4 _ (by omega))
    have hKx := hKx.kept (hq4 _ (by omega))
    have hVx := hVx.kept (hq4 _ (by omega))
    have hNx := hNx.kept (hq4 _ (by omega))
    have hzx := hzx.kept (hq4 _ (by omega))
    have hb2 := hb2.kept (hq4 _ (by omega))
    have hw3 := hw3.kept (hq4 _ (by omega))
    have hv4 := hv4.kept (hq4 _ (by omega))
    have hF : ∀ q : Nat, ¬ (a ≤ q ∧ q < a + 15) → H4[q]? = H[q]? := fun q hq => (hq4 q (by omega)).trans (hF q hq)
    have hG : ∀ q : Nat, q ≠ a ∧ ¬ (a + 2 ≤ q ∧ q < a + 9) ∧ q ≠ a + 12 → H4[q]? = H[q]? := fun q hq => (hq4 q (by omega)).trans (hG q hq)
    refine a_aload_n 1 dX7_kitchen_43 rfl rfl ?_
    refine a_aload_n 1 dX7_kitchen_44 rfl rfl ?_
    refine a_get f_X7_110 dX7_kitchen_45 hm rfl ?_
    refine a_ifeqB 58 dX7_kitchen_48 (by decide) (fun c48 => ?_) (fun c48 => ?_)
    · skip
      refine a_iconst 0 dX7_kitchen_58 (by decide) ?_
      refine a_put f_X7_120 p_X7_120 dX7_kitchen_59 hm (Nat.le_of_ble_eq_true rfl) rfl rfl (by omega) (fun H5 hm hz5 hq5 => ?_)
      have hm : Ob G H5 a 7 [.int 0, .ref (a + 1), .int (-1), .int ra2, .int rf2, .int (nI 0), .int (nI 0), .ref (a + 2), .ref (a + 3), .ref (a + 4), .int (bI false), .int (bI false), .int 0, .int (nI nv), .ref (a + 5), .ref (a + 6), .ref (a + 7), .ref (a + 8), .int (nI ct), .int (nI nx), .ref (a + 9), .long (lN sd), .int (nI sn), .ref (a + 10), .int (nI bn), .ref (a + 11), .ref (a + 12), .ref (a + 13), .ref (a + 14)] := hm
      have hBx := hBx.kept (hq5 _ (by omega))
      have hKx := hKx.kept (hq5 _ (by omega))
      have hVx := hVx.kept (hq5 _ (by omega))
      have hNx := hNx.kept (hq5 _ (by omega))
      have hzx := hzx.kept (hq5 _ (by omega))
      have hb2 := hb2.kept (hq5 _ (by omega))
      have hw3 := hw3.kept (hq5 _ (by omega))
      have hv4 := hv4.kept (hq5 _ (by omega))
      have hF : ∀ q : Nat, ¬ (a ≤ q ∧ q < a + 15) → H5[q]? = H[q]? := fun q hq => (hq5 q (by omega)).trans (hF q hq)
      have hG : ∀ q : Nat, q ≠ a ∧ ¬ (a + 2 ≤ q ∧ q < a + 9) ∧ q ≠ a + 12 → H5[q]? = H[q]? := fun q hq => (hq5 q (by omega)).trans (hG q hq)
      refine a_aload_n 1 dX7_kitchen_62 rfl rfl ?_
      refine a_aload_n 1 dX7_kitchen_63 rfl rfl ?_
      refine a_get f_X7_110 dX7_kitchen_64 hm rfl ?_
      refine a_ifeqB 77 dX7_kitchen_67 (by decide) (fun c67 => ?_) (fun c67 => ?_)
      · skip
        refine a_iconst 0 dX7_kitchen_77 (by decide) ?_
        refine a_put f_X7_123 p_X7_123 dX7_kitchen_78 hm (Nat.le_of_ble_eq_true rfl) rfl rfl (by omega) (fun H6 hm hz6 hq6 => ?_)
        have hm : Ob G H6 a 7 [.int 0, .ref (a + 1), .int (-1), .int ra2, .int rf2, .int (nI 0), .int (nI 0), .ref (a + 2), .ref (a + 3), .ref (a + 4), .int (bI false), .int (bI false), .int 0, .int 0, .ref (a + 5), .ref (a + 6), .ref (a + 7), .ref (a + 8), .int (nI ct), .int (nI nx), .ref (a + 9), .long (lN sd), .int (nI sn), .ref (a + 10), .int (nI bn), .ref (a + 11), .ref (a + 12), .ref (a + 13), .ref (a + 14)] := hm
        have hBx := hBx.kept (hq6 _ (by omega))
        have hKx := hKx.kept (hq6 _ (by omega))
        have hVx := hVx.kept (hq6 _ (by omega))
        have hNx := hNx.kept (hq6 _ (by omega))
        have hzx := hzx.kept (hq6 _ (by omega))
        have hb2 := hb2.kept (hq6 _ (by omega))
        have hw3 := hw3.kept (hq6 _ (by omega))
        have hv4 := hv4.kept (hq6 _ (by omega))
        have hF : ∀ q : Nat, ¬ (a ≤ q ∧ q < a + 15) → H6[q]? = H[q]? := fun q hq => (hq6 q (by omega)).trans (hF q hq)
        have hG : ∀ q : Nat, q ≠ a ∧ ¬ (a + 2 ≤ q ∧ q < a + 9) ∧ q ≠ a + 12 → H6[q]? = H[q]? := fun q hq => (hq6 q (by omega)).trans (hG q hq)
        refine a_iconst 0 dX7_kitchen_81 (by decide) ?_
        refine a_istore_n (lv' := [(2, .int 0), (1, .int (bI true)), (0, .ref a)]) dX7_kitchen_82 rfl (by decide) rfl ?_
        have L83 : ∀ (fu : Nat) (k : Nat) (Hk : Heap) (gB : DD), k ≤ 3 → Ob G Hk a 7 [.int 0, .ref (a + 1), .int (-1), .int ra2, .int rf2, .int (nI 0), .int (nI 0), .ref (a + 2), .ref (a + 3), .ref (a + 4), .int (bI false), .int (bI false), .int 0, .int 0, .ref (a + 5), .ref (a + 6), .ref (a + 7), .ref (a + 8), .int (nI ct), .int (nI nx), .ref (a + 9), .long (lN sd), .int (nI sn), .ref (a + 10), .int (nI bn), .ref (a + 11), .ref (a + 12), .ref (a + 13), .ref (a + 14)] → Ai G Hk (a + 2) 3 fb → Ai G Hk (a + 3) 24 fw → Ai G Hk (a + 4) 4 fv → Ai G Hk (a + 5) 3 gB → Ai G Hk (a + 6) 8 fK → Ai G Hk (a + 7) 4 fV → Ai G Hk (a + 8) 27 fN → Az G Hk (a + 12) 2 fz → (∀ j, j < k → gB j = 0) → (∀ q : Nat, q ≠ a ∧ ¬ (a + 2 ≤ q ∧ q < a + 9) ∧ q ≠ a + 12 → Hk[q]? = H[q]?) → (∀ q : Nat, ¬ (a ≤ q ∧ q < a + 15) → Hk[q]? = H[q]?) → 3 - k < fu → AW G B l { frames := 6, cells := 0, slots := 0, locals := 27 * 6 } yX7_kitchen.cls cX7_kitchen 3 false (fun rv H' ce' sl' => (rv = some (.int 0) ∧ (Mx G H' a tx 0 (-1) false 0 0 0 0 0 zD zD (bgF zD zD) sd nx 0 pu 0 sw sg 0 bw bt (fun _ => false) iD iS ∧ ∀ q : Nat, ¬ (a ≤ q ∧ q < a + 15) → H'[q]? = H[q]?)) ∧ ce' = 0 ∧ sl' = 0) 83 [(0, .ref a), (2, .int (nI k))] [] Hk 0 0 := by
          intro fu
          induction fu with
          | zero => intro k Hk gB hk hm hb2 hw3 hv4 hBx hKx hVx hNx hzx e1 hG hF hm83; exact absurd hm83 (Nat.not_lt_zero _)
          | succ fu ih83 =>
            intro k Hk gB hk hm hb2 hw3 hv4 hBx hKx hVx hNx hzx e1 hG hF hm83
            refine a_iload_n 1 dX7_kitchen_83 rfl rfl ?_
            refine a_iconst 3 dX7_kitchen_84 (by decide) ?_
            refine a_icmpgeN (a := k) (b := 3) 117 dX7_kitchen_85 (by decide) (by omega) (by omega) (fun c85 => ?_) (fun c85 => ?_)
            · skip
              have hk3 : k = 3 := by omega
              subst hk3
              refine a_iconst 0 dX7_kitchen_117 (by decide) ?_
              refine a_istore_n (lv' := [(2, .int 0), (0, .ref a)]) dX7_kitchen_118 rfl (by decide) rfl ?_
              have L119 : ∀ (fu : Nat) (k : Nat) (Hk : Heap) (gN : DD), k ≤ 27 → Ob G Hk a 7 [.int 0, .ref (a + 1), .int (-1), .int ra2, .int rf2, .int (nI 0), .int (nI 0), .ref (a + 2), .ref (a + 3), .ref (a + 4), .int (bI false), .int (bI false), .int 0, .int 0, .ref (a + 5), .ref (a + 6), .ref (a + 7), .ref (a + 8), .int (nI ct), .int (nI nx), .ref (a + 9), .long (lN sd), .int (nI sn), .ref (a + 10), .int (nI bn), .ref (a + 11), .ref (a + 12), .ref (a + 13), .ref (a + 14)] → Ai G Hk (a + 2) 3 fb → Ai G Hk (a + 3) 24 fw → Ai G Hk (a + 4) 4 fv → Ai G Hk (a + 5) 3 gB → Ai G Hk (a + 6) 8 fK → Ai G Hk (a + 7) 4 fV → Ai G Hk (a + 8) 27 gN → Az G Hk (a + 12) 2 fz → (∀ j, j < k → gN j = if j = 26 then -1 else 0) → (∀ q : Nat, q ≠ a ∧ ¬ (a + 2 ≤ q ∧ q < a + 9) ∧ q ≠ a + 12 → Hk[q]? = H[q]?) → (∀ q : Nat, ¬ (a ≤ q ∧ q < a + 15) → Hk[q]? = H[q]?) → 27 - k < fu → AW G B l { frames := 6, cells := 0, slots := 0, locals := 27 * 6 } yX7_kitchen.cls cX7_kitchen 3 false (fun rv H' ce' sl' => (rv = some (.int 0) ∧ (Mx G H' a tx 0 (-1) false 0 0 0 0 0 zD zD (bgF zD zD) sd nx 0 pu 0 sw sg 0 bw bt (fun _ => false) iD iS ∧ ∀ q : Nat, ¬ (a ≤ q ∧ q < a + 15) → H'[q]? = H[q]?)) ∧ ce' = 0 ∧ sl' = 0) 119 [(0, .ref a), (2, .int (nI k))] [] Hk 0 0 := by
                intro fu
                induction fu with
                | zero => intro k Hk gN hk hm hb2 hw3 hv4 hBx hKx hVx hNx hzx e2 hG hF hm119; exact absurd hm119 (Nat.not_lt_zero _)
                | succ fu ih119 =>
                  intro k Hk gN hk hm hb2 hw3 hv4 hBx hKx hVx hNx hzx e2 hG hF hm119
                  refine a_iload_n 1 dX7_kitchen_119 rfl rfl ?_
                  refine a_bipush 27 dX7_kitchen_120 (by decide) ?_
                  refine a_icmpgeN (a := k) (b := 27) 148 dX7_kitchen_122 (by decide) (by omega) (by omega) (fun c122 => ?_) (fun c122 => ?_)
                  · skip
                    have hk27 : k = 27 := by omega
                    subst hk27
                    have e27 := e2
                    refine a_iconst 0 dX7_kitchen_148 (by decide) ?_
                    refine a_istore_n (lv' := [(2, .int 0), (0, .ref a)]) dX7_kitchen_149 rfl (by decide) rfl ?_
                    refine a_iload_n 0 dX7_kitchen_150 rfl rfl ?_
                    refine a_aload_n 1 dX7_kitchen_151 rfl rfl ?_
                    refine a_get f_X7_120 dX7_kitchen_152 hm rfl ?_
                    refine a_icmpgeN (a := 0) (b := 0) 213 dX7_kitchen_155 (by decide) (by omega) (by omega) (fun c155 => ?_) (fun c155 => ?_)
                    · skip
                      refine a_iconst 0 dX7_kitchen_213 (by decide) ?_
                      refine a_istore_n (lv' := [(2, .int 0), (0, .ref a)]) dX7_kitchen_214 rfl (by decide) rfl ?_
                      refine a_iload_n 0 dX7_kitchen_215 rfl rfl ?_
                      refine a_aload_n 1 dX7_kitchen_216 rfl rfl ?_
                      refine a_get f_X7_123 dX7_kitchen_217 hm rfl ?_
                      refine a_icmpgeN (a := 0) (b := 0) 241 dX7_kitchen_220 (by decide) (by omega) (by omega) (fun c220 => ?_) (fun c220 => ?_)
                      · skip
                        refine a_aload_n 1 dX7_kitchen_241 rfl rfl ?_
                        refine a_iconst 0 dX7_kitchen_242 (by decide) ?_
                        refine a_put f_X7_126 p_X7_126 dX7_kitchen_243 hm (Nat.le_of_ble_eq_true rfl) rfl rfl (by omega) (fun H7 hm hz7 hq7 => ?_)
                        have hm : Ob G H7 a 7 [.int 0, .ref (a + 1), .int (-1), .int ra2, .int rf2, .int (nI 0), .int (nI 0), .ref (a + 2), .ref (a + 3), .ref (a + 4), .int (bI false), .int (bI false), .int 0, .int 0, .ref (a + 5), .ref (a + 6), .ref (a + 7), .ref (a + 8), .int (nI ct), .int (nI nx), .ref (a + 9), .long (lN sd), .int 0, .ref (a + 10), .int (nI bn), .ref (a + 11), .ref (a + 12), .ref (a + 13), .ref (a + 14)] := hm
                        have hb2 := hb2.kept (hq7 _ (by omega))
                        have hw3 := hw3.kept (hq7 _ (by omega))
                        have hv4 := hv4.kept (hq7 _ (by omega))
                        have hBx := hBx.kept (hq7 _ (by omega))
                        have hKx := hKx.kept (hq7 _ (by omega))
                        have hVx := hVx.kept (hq7 _ (by omega))
                        have hNx := hNx.kept (hq7 _ (by omega))
                        have hzx := hzx.kept (hq7 _ (by omega))
                        have hF : ∀ q : Nat, ¬ (a ≤ q ∧ q < a + 15) → H7[q]? = H[q]? := fun q hq => (hq7 q (by omega)).trans (hF q hq)
                        have hG : ∀ q : Nat, q ≠ a ∧ ¬ (a + 2 ≤ q ∧ q < a + 9) ∧ q ≠ a + 12 → H7[q]? = H[q]? := fun q hq => (hq7 q (by omega)).trans (hG q hq)
                        refine a_aload_n 1 dX7_kitchen_246 rfl rfl ?_
                        refine a_iconst 0 dX7_kitchen_247 (by decide) ?_
                        refine a_put f_X7_129 p_X7_129 dX7_kitchen_248 hm (Nat.le_of_ble_eq_true rfl) rfl rfl (by omega) (fun H8 hm hz8 hq8 => ?_)
                        have hm : Ob G H8 a 7 [.int 0, .ref (a + 1), .int (-1), .int ra2, .int rf2, .int (nI 0), .int (nI 0), .ref (a + 2), .ref (a + 3), .ref (a + 4), .int (bI false), .int (bI false), .int 0, .int 0, .ref (a + 5), .ref (a + 6), .ref (a + 7), .ref (a + 8), .int (nI ct), .int (nI nx), .ref (a + 9), .long (lN sd), .int 0, .ref (a + 10), .int 0, .ref (a + 11), .ref (a + 12), .ref (a + 13), .ref (a + 14)] := hm
                        have hb2 := hb2.kept (hq8 _ (by omega))
                        have hw3 := hw3.kept (hq8 _ (by omega))
                        have hv4 := hv4.kept (hq8 _ (by omega))
                        have hBx := hBx.kept (hq8 _ (by omega))
                        have hKx := hKx.kept (hq8 _ (by omega))
                        have hVx := hVx.kept (hq8 _ (by omega))
                        have hNx := hNx.kept (hq8 _ (by omega))
                        have hzx := hzx.kept (hq8 _ (by omega))
                        have hF : ∀ q : Nat, ¬ (a ≤ q ∧ q < a + 15) → H8[q]? = H[q]? := fun q hq => (hq8 q (by omega)).trans (hF q hq)
                        have hG : ∀ q : Nat, q ≠ a ∧ ¬ (a + 2 ≤ q ∧ q < a + 9) ∧ q ≠ a + 12 → H8[q]? = H[q]? := fun q hq => (hq8 q (by omega)).trans (hG q hq)
                        refine a_aload_n 1 dX7_kitchen_251 rfl rfl ?_
                        refine a_iconst 0 dX7_kitchen_252 (by decide) ?_
                        refine a_put f_X7_132 p_X7_132 dX7_kitchen_253 hm (Nat.le_of_ble_eq_true rfl) rfl rfl (by omega) (fun H9 hm hz9 hq9 => ?_)
                        have hm : Ob G H9 a 7 [.int 0, .ref (a + 1), .int (-1), .int ra2, .int rf2, .int (nI 0), .int (nI 0), .ref (a + 2), .ref (a + 3), .ref (a + 4), .int (bI false), .int (bI false), .int 0, .int 0, .ref (a + 5), .ref (a + 6), .ref (a + 7), .ref (a + 8), .int 0, .int (nI nx), .ref (a + 9), .long (lN sd), .int 0, .ref (a + 10), .int 0, .ref (a + 11), .ref (a + 12), .ref (a + 13), .ref (a + 14)] := hm
                        have hb2 := hb2.kept (hq9 _ (by omega))
                        have hw3 := hw3.kept (hq9 _ (by omega))
                        have hv4 := hv4.kept (hq9 _ (by omega))
                        have hBx := hBx.kept (hq9 _ (by omega))
                        have hKx := hKx.kept (hq9 _ (by omega))
                        have hVx := hVx.kept (hq9 _ (by omega))
                        have hNx := hNx.kept (hq9 _ (by omega))
                        have hzx := hzx.kept (hq9 _ (by omega))
                        have hF : ∀ q : Nat, ¬ (a ≤ q ∧ q < a + 15) → H9[q]? = H[q]? := fun q hq => (hq9 q (by omega)).trans (hF q hq)
                        have hG : ∀ q : Nat, q ≠ a ∧ ¬ (a + 2 ≤ q ∧ q < a + 9) ∧ q ≠ a + 12 → H9[q]? = H[q]? := fun q hq => (hq9 q (by omega)).trans (hG q hq)
                        refine a_aload_n 1 dX7_kitchen_256 rfl rfl ?_
                        refine a_get f_X7_47 dX7_kitchen_257 hm rfl ?_
                        refine a_iconst 0 dX7_kitchen_260 (by decide) ?_
                        refine a_toeq (nI 0) rfl ?_
                        refine a_iconst 0 dX7_kitchen_261 (by decide) ?_
                        refine a_toeq (bI false) rfl ?_
                        refine a_zast dX7_kitchen_262 hzx (vp_in_nI (by decide) (by decide)) (by omega) (fun H10 hzx hz10 hq10 => ?_)
                        have hzx : Az G H10 (a + 12) 2 (upd fz (nI 0).toNatClampNeg (bI false)) := hzx
                        have hzx : Az G H10 (a + 12) 2 (upd fz 0 (bI false)) := hzx.to (fun j _ => by rw [nI_clamp (by decide)])
                        have hm := hm.kept (hq10 _ (by omega))
                        have hb2 := hb2.kept (hq10 _ (by omega))
                        have hw3 := hw3.kept (hq10 _ (by omega))
                        have hv4 := hv4.kept (hq10 _ (by omega))
                        have hBx := hBx.kept (hq10 _ (by omega))
                        have hKx := hKx.kept (hq10 _ (by omega))
                        have hVx := hVx.kept (hq10 _ (by omega))
                        have hNx := hNx.kept (hq10 _ (by omega))
                        have hF : ∀ q : Nat, ¬ (a ≤ q ∧ q < a + 15) → H10[q]? = H[q]? := fun q hq => (hq10 q (by omega)).trans (hF q hq)
                        have hG : ∀ q : Nat, q ≠ a ∧ ¬ (a + 2 ≤ q ∧ q < a + 9) ∧ q ≠ a + 12 → H10[q]? = H[q]? := fun q hq => (hq10 q (by omega)).trans (hG q hq)
                        refine a_aload_n 1 dX7_kitchen_263 rfl rfl ?_
                        refine a_get f_X7_47 dX7_kitchen_264 hm rfl ?_
                        refine a_iconst 1 dX7_kitchen_267 (by decide) ?_
                        refine a_toeq (nI 1) rfl ?_
                        refine a_iconst 0 dX7_kitchen_268 (by decide) ?_
                        refine a_toeq (bI false) rfl ?_
                        refine a_zast dX7_kitchen_269 hzx (vp_in_nI (by decide) (by decide)) (by omega) (fun H11 hzx hz11 hq11 => ?_)
                        have hzx : Az G H11 (a + 12) 2 (upd (upd fz 0 (bI false)) (nI 1).toNatClampNeg (bI false)) := hzx
                        have hzx : Az G H11 (a + 12) 2 (upd (upd fz 0 (bI false)) 1 (bI false)) := hzx.to (fun j _ => by rw [nI_clamp (by decide)])
                        have hm := hm.kept (hq11 _ (by omega))
                        have hb2 := hb2.kept (hq11 _ (by omega))
                        have hw3 := hw3.kept (hq11 _ (by omega))
                        have hv4 := hv4.kept (hq11 _ (by omega))
                        have hBx := hBx.kept (hq11 _ (by omega))
                        have hKx := hKx.kept (hq11 _ (by omega))
                        have hVx := hVx.kept (hq11 _ (by omega))
                        have hNx := hNx.kept (hq11 _ (by omega))
                        have hF : ∀ q : Nat, ¬ (a ≤ q ∧ q < a + 15) → H11[q]? = H[q]? := fun q hq => (hq11 q (by omega)).trans (hF q hq)
                        have hG : ∀ q : Nat, q ≠ a ∧ ¬ (a + 2 ≤ q ∧ q < a + 9) ∧ q ≠ a + 12 → H11[q]? = H[q]? := fun q hq => (hq11 q (by omega)).trans (hG q hq)
                        refine a_aload_n 1 dX7_kitchen_270 rfl rfl ?_
                        refine a_get f_X7_120 dX7_kitchen_271 hm rfl ?_
                        refine a_ret dX7_kitchen_274 ⟨⟨ri ?_, ?_⟩, rfl, rfl⟩
                        · rfl
                        · have hU := hU.kept (H1 := _) (hG _ (by omega))
                          have hS := hS.kept (H1 := _) (hG _ (by omega))
                          have hK9 := hK9.kept (H1 := _) (hG _ (by omega))
                          exact ⟨⟨_, _, _, _, _, ⟨by unfold mxL; exact hm, ⟨_, hBx, e1 0 (by decide), e1 1 (by decide), e1 2 (by decide)⟩, ⟨_, hKx, fun i hi => absurd hi (Nat.not_lt_zero _)⟩, ⟨_, hVx, fun i hi => absurd hi (Nat.not_lt_zero _)⟩, ⟨_, hNx, bg_na (by decide) (bg_0 e27)⟩, by decide, by decide⟩, ⟨⟨_, hTx.kept (hG _ (by omega)), fun i hi => absurd hi (Nat.not_lt_zero _)⟩, ⟨_, hb2⟩, ⟨_, hw3⟩, ⟨_, hv4⟩, by decide, fun i hi => absurd hi (Nat.not_lt_zero _)⟩, Mu.zero2 hU, hS.none, hK9.none, ⟨⟨_, hzx, kp_00⟩, ⟨_, hk13.kept (hG _ (by omega)), fun i hi h => by cases h⟩, ⟨_, hg14.kept (hG _ (by omega)), fun i hi h => by cases h⟩⟩⟩, hF⟩
                      · skip
                        omega
                    · skip
                      omega
                  · skip
                    refine a_aload_n 0 dX7_kitchen_125 rfl rfl ?_
                    refine a_get f_X7_35 dX7_kitchen_126 hm rfl ?_
                    refine a_iload_n 1 dX7_kitchen_129 rfl rfl ?_
                    refine a_iload_n 1 dX7_kitchen_130 rfl rfl ?_
                    refine a_bipush 26 dX7_kitchen_131 (by decide) ?_
                    refine a_icmpneN (a := k) (b := 26) 140 dX7_kitchen_133 (by decide) (by omega) (by omega) (fun c133 => ?_) (fun c133 => ?_)
                    · skip
                      refine a_iconst 0 dX7_kitchen_140 (by decide) ?_
                      refine a_iastN (j := k) dX7_kitchen_141 hNx (by omega) (by decide) (by omega) (fun H12 hNx hz12 hq12 => ?_)
                      have hNx : Ai G H12 (a + 8) 27 (upd gN k 0) := hNx
                      have hm := hm.kept (hq12 _ (by omega))
                      have hb2 := hb2.kept (hq12 _ (by omega))
                      have hw3 := hw3.kept (hq12 _ (by omega))
                      have hv4 := hv4.kept (hq12 _ (by omega))
                      have hBx := hBx.kept (hq12 _ (by omega))
                      have hKx := hKx.kept (hq12 _ (by omega))
                      have hVx := hVx.kept (hq12 _ (by omega))
                      have hzx := hzx.kept (hq12 _ (by omega))
                      have hF : ∀ q : Nat, ¬ (a ≤ q ∧ q < a + 15) → H12[q]? = H[q]? := fun q hq => (hq12 q (by omega)).trans (hF q hq)
                      have hG : ∀ q : Nat, q ≠ a ∧ ¬ (a + 2 ≤ q ∧ q < a + 9) ∧ q ≠ a + 12 → H12[q]? = H[q]? := fun q hq => (hq12 q (by omega)).trans (hG q hq)
                      refine a_iincN (q := 1) (lv' := [(2, .int (nI (k + 1))), (0, .ref a)]) dX7_kitchen_142 rfl (by decide) rfl ?_
                      refine a_goto 119 dX7_kitchen_145 (by decide) ?_
                      refine a_sub [1, 0] rfl ?_
                      exact ih119 _ _ _ (by omega) hm hb2 hw3 hv4 hBx hKx hVx hNx hzx (upd_to (e := fun j => if j = 26 then -1 else 0) e2 (if_neg c133).symm) hG hF (by omega)
                    · skip
                      refine a_iconst (-1) dX7_kitchen_136 (by decide) ?_
                      refine a_goto 141 dX7_kitchen_137 (by decide) ?_
                      refine a_iastN (j := k) dX7_kitchen_141 hNx (by omega) (by decide) (by omega) (fun H13 hNx hz13 hq13 => ?_)
                      have hNx : Ai G H13 (a + 8) 27 (upd gN k (-1)) := hNx
                      have hm := hm.kept (hq13 _ (by omega))
                      have hb2 := hb2.kept (hq13 _ (by omega))
                      have hw3 := hw3.kept (hq13 _ (by omega))
                      have hv4 := hv4.kept (hq13 _ (by omega))
                      have hBx := hBx.kept (hq13 _ (by omega))
                      have hKx := hKx.kept (hq13 _ (by omega))
                      have hVx := hVx.kept (hq13 _ (by omega))
                      have hzx := hzx.kept (hq13 _ (by omega))
                      have hF : ∀ q : Nat, ¬ (a ≤ q ∧ q < a + 15) → H13[q]? = H[q]? := fun q hq => (hq13 q (by omega)).trans (hF q hq)
                      have hG : ∀ q : Nat, q ≠ a ∧ ¬ (a + 2 ≤ q ∧ q < a + 9) ∧ q ≠ a + 12 → H13[q]? = H[q]? := fun q hq => (hq13 q (by omega)).trans (hG q hq)
                      refine a_iincN (q := 1) (lv' := [(2, .int (nI (k + 1))), (0, .ref a)]) dX7_kitchen_142 rfl (by decide) rfl ?_
                      refine a_goto 119 dX7_kitchen_145 (by decide) ?_
                      refine a_sub [1, 0] rfl ?_
                      exact ih119 _ _ _ (by omega) hm hb2 hw3 hv4 hBx hKx hVx hNx hzx (upd_to (e := fun j => if j = 26 then -1 else 0) e2 (if_pos c133).symm) hG hF (by omega)
              refine a_sub [1, 0] rfl ?_
              exact L119 _ 0 _ _ (Nat.zero_le _) hm hb2 hw3 hv4 hBx hKx hVx hNx hzx (fun j hj => absurd hj (Nat.not_lt_zero _)) hG hF (Nat.lt_succ_self _)
            · skip
              refine a_aload_n 0 dX7_kitchen_88 rfl rfl ?_
              refine a_get f_X7_26 dX7_kitchen_89 hm rfl ?_
              refine a_iload_n 1 dX7_kitchen_92 rfl rfl ?_
              refine a_aload_n 0 dX7_kitchen_93 rfl rfl ?_
              refine a_get f_X7_110 dX7_kitchen_94 hm rfl ?_
              refine a_ifeqB 109 dX7_kitchen_97 (by decide) (fun c97 => ?_) (fun c97 => ?_)
              · skip
                refine a_iconst 0 dX7_kitchen_109 (by decide) ?_
                refine a_iastN (j := k) dX7_kitchen_110 hBx (by omega) (by decide) (by omega) (fun H14 hBx hz14 hq14 => ?_)
                have hBx : Ai G H14 (a + 5) 3 (upd gB k 0) := hBx
                have hm := hm.kept (hq14 _ (by omega))
                have hb2 := hb2.kept (hq14 _ (by omega))
                have hw3 := hw3.kept (hq14 _ (by omega))
                have hv4 := hv4.kept (hq14 _ (by omega))
                have hKx := hKx.kept (hq14 _ (by omega))
                have hVx := hVx.kept (hq14 _ (by omega))
                have hNx := hNx.kept (hq14 _ (by omega))
                have hzx := hzx.kept (hq14 _ (by omega))
                have hF : ∀ q : Nat, ¬ (a ≤ q ∧ q < a + 15) → H14[q]? = H[q]? := fun q hq => (hq14 q (by omega)).trans (hF q hq)
                have hG : ∀ q : Nat, q ≠ a ∧ ¬ (a + 2 ≤ q ∧ q < a + 9) ∧ q ≠ a + 12 → H14[q]? = H[q]? := fun q hq => (hq14 q (by omega)).trans (hG q hq)
                refine a_iincN (q := 1) (lv' := [(2, .int (nI (k + 1))), (0, .ref a)]) dX7_kitchen_111 rfl (by decide) rfl ?_
                refine a_goto 83 dX7_kitchen_114 (by decide) ?_
                refine a_sub [1, 0] rfl ?_
                exact ih83 _ _ _ (by omega) hm hb2 hw3 hv4 hBx hKx hVx hNx hzx (upd_to (e := fun j => 0) e1 rfl) hG hF (by omega)
              · skip
                cases c97
        refine a_sub [2, 0] rfl ?_
        exact L83 _ 0 _ _ (Nat.zero_le _) hm hb2 hw3 hv4 hBx hKx hVx hNx hzx (fun j hj => absurd hj (Nat.not_lt_zero _)) hG hF (Nat.lt_succ_self _)
      · skip
        cases c67
    · skip
      cases c48
  · skip
    cases c11
theorem c_X7_kitchen {G : GT} {B : Nat} {l : Launch} {H : Heap} {a : Nat} {tx : Nat → Nat} {L : Nat} {fp : Int32} {kb : Bool} {ka ks kw : Int32} {n nv : Nat} {kK kV dd : DD} {sd nx ct : Nat} {pu : Nat → DD} {sn : Nat} {sw sg : Nat → Nat} {bn : Nat} {bw : Nat → Nat} {bt : DD} {ik : Nat → Bool} {iD : Nat → DD} {iS : Nat → Nat} {pl : Nat} {kb2 : Bool} {ka2 ks2 kw2 : Int32} {n2 v2 : Nat} {kS2 kU2 kK2 kV2 : DD} (hP : P0 tx L = ((0, pl), (kb2, ka2, ks2, kw2, n2, v2, kS2, kU2, kK2, kV2))) (hX : Mx G H a tx L fp kb ka ks kw n nv kK kV dd sd nx ct pu sn sw sg bn bw bt ik iD iS) (hB : B ≤ a) : AM G B l yX7_kitchen cX7_kitchen 3 (some .int) 6 0 0 [.ref a] H (fun rv H' => rv = some (.int (nI n2)) ∧ (Mx G H' a tx 0 (-1) kb2 ka2 ks2 kw2 n2 v2 kK2 kV2 (bgF kS2 kU2) sd nx 0 pu 0 sw sg 0 bw bt (fun _ => false) iD iS ∧ ∀ q : Nat, ¬ (a ≤ q ∧ q < a + 15) → H'[q]? = H[q]?)) := by
  cases kb2 with
  | true => exact c_X7_kitchen_t hP hX hB
  | false =>
    have hL : L ≤ 240 := by
      obtain ⟨_, _, _, _, _, -, ⟨-, -, -, -, h, -⟩, -⟩ := hX
      exact h
    have h1 : (P0 tx L).2 = kk0 zD zD zD zD := pa_kb0 hL (by show (P0 tx L).1.1 = 0; rw [hP]) (by show (P0 tx L).2.1 = false; rw [hP])
    rw [hP] at h1
    simp only [kk0, Prod.mk.injEq, true_and] at h1
    obtain ⟨rfl, rfl, rfl, rfl, rfl, rfl, rfl, rfl, rfl⟩ := h1
    exact c_X7_kitchen_f hP hX hB

