theorem c_X7_num {G : GT} {B : Nat} {l : Launch} {H : Heap} {a : Nat} {tx : Nat → Nat} {L : Nat} {fp rf rw rx : Int32} {ir kb : Bool} {n nv ct nx sd sn bn : Nat} {pl m k1 p1 x1 : Nat} (hnu : nuF tx L m 0 pl = (k1, p1, x1)) (hpl : pl ≤ 240) (hm9 : m ≤ 999) (hO : Mo G H a tx L fp (nI pl) rf rw rx ir kb n nv ct nx sd sn bn) (hB : B ≤ a) : AM G B l yX7_number cX7_number 5 (some .int) 2 0 0 [.ref a, .int (nI m)] H (fun rv H' => rv = some (.int (if k1 = 0 then nI x1 else -1)) ∧ (Mo G H' a tx L fp (nI p1) (if k1 = 0 then rf else nI k1) rw rx ir kb n nv ct nx sd sn bn ∧ ∀ q : Nat, q ≠ a → H'[q]? = H[q]?)) := by
  have h := c_X7_number (G := G) (B := B) (l := l) hpl hm9 hO hB
  rw [hnu] at h
  exact h
theorem c_X7_end {G : GT} {B : Nat} {l : Launch} {H : Heap} {a : Nat} {tx : Nat → Nat} {L : Nat} {fp rf rw rx : Int32} {ir kb : Bool} {n nv ct nx sd sn bn : Nat} {pl k2 p2 : Nat} (hen : enF tx L 0 pl = (k2, p2)) (hpl : pl ≤ 240) (hO : Mo G H a tx L fp (nI pl) rf rw rx ir kb n nv ct nx sd sn bn) (hB : B ≤ a) : AM G B l yX7_ends cX7_ends 1 (some .boolean) 2 0 0 [.ref a] H (fun rv H' => rv = some (.int (bI (decide (k2 = 0)))) ∧ (Mo G H' a tx L fp (nI p2) (if k2 = 0 then rf else nI k2) rw rx ir kb n nv ct nx sd sn bn ∧ ∀ q : Nat, q ≠ a → H'[q]? = H[q]?)) := by
  have h := c_X7_ends (G := G) (B := B) (l := l) hpl hO hB
  rw [hen] at h
  exact h
theorem nu_neg {c : Prop} [Decidable c] {x : Nat} (hx : x < 2 ^ 31) (h : (if c then nI x else -1) < 0) : ¬ c := by
  intro hc
  rw [if_pos hc] at h
  exact nI_pos hx h
theorem nu_pos {c : Prop} [Decidable c] {x : Nat} (h : ¬ (if c then nI x else -1) < 0) : c := by
  by_cases hc : c
  · exact hc
  · rw [if_neg hc] at h
    exact absurd (by decide) h

set_option maxHeartbeats 4000000 in
set_option maxRecDepth 100000 in
theorem c_X7_readsVoice {G : GT} {B : Nat} {l : Launch} {H : Heap} {a : Nat} {tx : Nat → Nat} {L : Nat} {fp rf rw : Int32} {ir kb : Bool} {n nv ct nx sd sn bn : Nat} {kV : DD} {pl v2 k1 p1 x1 k2 p2 : Nat} (hnu : nuF tx L 999 0 (pl + 1) = (k1, p1, x1)) (hen : enF tx L k1 p1 = (k2, p2)) (hpl : pl < L) (hv4 : v2 < 4) (hO : Mo G H a tx L fp (nI pl) rf rw (nI v2) ir kb n nv ct nx sd sn bn) (hVr : ∃ f : DD, Ai G H (a + 4) 4 f ∧ ∀ i, i < v2 → f i = kV i) (hB : B ≤ a) : AM G B l yX7_readsVoice cX7_readsVoice 2 (some .boolean) 3 0 0 [.ref a] H (fun rv H' => rv = some (.int (bI (decide (k2 = 0)))) ∧ (∃ rx' : Int32, Mo G H' a tx L fp (nI p2) (if k2 = 0 then rf else nI k2) rw rx' ir kb n nv ct nx sd sn bn ∧ (∃ f : DD, Ai G H' (a + 4) 4 f ∧ (k2 = 0 → rx' = nI (v2 + 1) ∧ ∀ i, i < v2 + 1 → f i = upd kV v2 (nI x1) i)) ∧ ∀ q : Nat, q ≠ a ∧ q ≠ a + 4 → H'[q]? = H[q]?)) := by
  have hO0 := hO
  obtain ⟨hm, ⟨fT, hTx, eT⟩, hL9, hT8⟩ := hO
  unfold mxL at hm
  obtain ⟨fv, hvx, ev⟩ := hVr
  have hnb := nuF_b (tx := tx) (L := L) (m := 999) (kd := 0) (pl := pl + 1) hL9 (by omega) (by decide)
  rw [hnu] at hnb
  dsimp only at hnb
  have hF : ∀ q : Nat, q ≠ a ∧ q ≠ a + 4 → H[q]? = H[q]? := fun _ _ => rfl
  refine AM.ofZ (lv := [(0, .ref a)]) (by decide +kernel) (Nat.le_of_ble_eq_true rfl) rfl ?_ (fun _ _ h => ⟨_, h.1⟩)
  refine a_aload_n 0 dX7_readsVoice_0 rfl rfl ?_
  refine a_get f_X7_94 dX7_readsVoice_1 hm rfl ?_
  refine a_iconst 4 dX7_readsVoice_4 (by decide) ?_
  refine a_icmpneN (a := v2) (b := 4) 14 dX7_readsVoice_5 (by decide) (by omega) (by omega) (fun c5 => ?_) (fun c5 => ?_)
  · skip
    refine a_aload_n 0 dX7_readsVoice_14 rfl rfl ?_
    refine a_dup dX7_readsVoice_15 rfl ?_
    refine a_get f_X7_67 dX7_readsVoice_16 hm rfl ?_
    refine a_iconst 1 dX7_readsVoice_19 (by decide) ?_
    refine a_iaddN (a := pl) (b := 1) dX7_readsVoice_20 ?_
    refine a_put f_X7_67 p_X7_67 dX7_readsVoice_21 hm (Nat.le_of_ble_eq_true rfl) rfl rfl (by omega) (fun H1 hm hz1 hq1 => ?_)
    have hm : Ob G H1 a 7 [.int (nI L), .ref (a + 1), .int fp, .int (nI (pl + 1)), .int rf, .int rw, .int (nI v2), .ref (a + 2), .ref (a + 3), .ref (a + 4), .int (bI ir), .int (bI kb), .int (nI n), .int (nI nv), .ref (a + 5), .ref (a + 6), .ref (a + 7), .ref (a + 8), .int (nI ct), .int (nI nx), .ref (a + 9), .long (lN sd), .int (nI sn), .ref (a + 10), .int (nI bn), .ref (a + 11), .ref (a + 12), .ref (a + 13), .ref (a + 14)] := hm
    have hTx := hTx.kept (hq1 _ (by omega))
    have hvx := hvx.kept (hq1 _ (by omega))
    have hF : ∀ q : Nat, q ≠ a ∧ q ≠ a + 4 → H1[q]? = H[q]? := fun q hq => (hq1 q (by omega)).trans (hF q hq)
    refine a_aload_n 0 dX7_readsVoice_24 rfl rfl ?_
    refine a_sipush 999 dX7_readsVoice_25 (by decide) ?_
    have hO1 : Mo G H1 a tx L fp (nI (pl + 1)) rf rw (nI v2) ir kb n nv ct nx sd sn bn := ⟨by unfold mxL; exact hm, ⟨fT, hTx, eT⟩, hL9, hT8⟩
    refine a_callVi (As := [.int 999]) (rest := []) (d := 2) (mc := 0) (ms := 0) (x := if k1 = 0 then nI x1 else -1) (ci := 7) l_X7_84 im_X7_number se_X7_number ⟨_, rfl, rfl⟩ dX7_readsVoice_28 ⟨Nat.le_of_ble_eq_true rfl, Nat.le_of_ble_eq_true rfl⟩ rfl (Nat.le_of_ble_eq_true rfl) ⟨Nat.le_of_ble_eq_true rfl, Nat.le_of_ble_eq_true rfl⟩ hm (c_X7_num hnu (by omega) (by decide) hO1 hB) (fun H2 hp2 => ?_)
    obtain ⟨hO2, hfr⟩ := hp2
    obtain ⟨hm, ⟨fT, hTx, eT⟩, -, -⟩ := id hO2
    unfold mxL at hm
    have hvx := hvx.kept (H1 := H2) (hfr _ (by omega))
    have hF : ∀ q : Nat, q ≠ a ∧ q ≠ a + 4 → H2[q]? = H[q]? := fun q hq => (hfr q (by omega)).trans (hF q hq)
    refine a_istore_n (lv' := [(1, .int (if k1 = 0 then nI x1 else -1)), (0, .ref a)]) dX7_readsVoice_31 rfl (by decide) rfl ?_
    refine a_iload_n 0 dX7_readsVoice_32 rfl rfl ?_
    refine a_ifge 38 dX7_readsVoice_33 (by decide) (fun c33 => ?_) (fun c33 => ?_)
    · skip
      have h1 := nu_pos (Int32.not_lt.mpr c33)
      refine a_aload_n 1 dX7_readsVoice_38 rfl rfl ?_
      refine a_get f_X7_23 dX7_readsVoice_39 hm rfl ?_
      refine a_aload_n 1 dX7_readsVoice_42 rfl rfl ?_
      refine a_get f_X7_94 dX7_readsVoice_43 hm rfl ?_
      refine a_iload_n 0 dX7_readsVoice_46 rfl rfl ?_
      refine a_toeq (nI x1) (if_pos h1) ?_
      refine a_iastN (j := v2) dX7_readsVoice_47 hvx (by omega) (by decide) (by omega) (fun H3 hvx hz3 hq3 => ?_)
      have hvx : Ai G H3 (a + 4) 4 (upd fv v2 (nI x1)) := hvx
      have hm := hm.kept (hq3 _ (by omega))
      have hTx := hTx.kept (hq3 _ (by omega))
      have hF : ∀ q : Nat, q ≠ a ∧ q ≠ a + 4 → H3[q]? = H[q]? := fun q hq => (hq3 q (by omega)).trans (hF q hq)
      refine a_aload_n 1 dX7_readsVoice_48 rfl rfl ?_
      refine a_dup dX7_readsVoice_49 rfl ?_
      refine a_get f_X7_94 dX7_readsVoice_50 hm rfl ?_
      refine a_iconst 1 dX7_readsVoice_53 (by decide) ?_
      refine a_iaddN (a := v2) (b := 1) dX7_readsVoice_54 ?_
      refine a_put f_X7_94 p_X7_94 dX7_readsVoice_55 hm (Nat.le_of_ble_eq_true rfl) rfl rfl (by omega) (fun H4 hm hz4 hq4 => ?_)
      have hm : Ob G H4 a 7 [.int (nI L), .ref (a + 1), .int fp, .int (nI p1), .int (if k1 = 0 then rf else nI k1), .int rw, .int (nI (v2 + 1)), .ref (a + 2), .ref (a + 3), .ref (a + 4), .int (bI ir), .int (bI kb), .int (nI n), .int (nI nv), .ref (a + 5), .ref (a + 6), .ref (a + 7), .ref (a + 8), .int (nI ct), .int (nI nx), .ref (a + 9), .long (lN sd), .int (nI sn), .ref (a + 10), .int (nI bn), .ref (a + 11), .ref (a + 12), .ref (a + 13), .ref (a + 14)] := hm
      have hTx := hTx.kept (hq4 _ (by omega))
      have hvx := hvx.kept (hq4 _ (by omega))
      have hF : ∀ q : Nat, q ≠ a ∧ q ≠ a + 4 → H4[q]? = H[q]? := fun q hq => (hq4 q (by omega)).trans (hF q hq)
      refine a_aload_n 1 dX7_readsVoice_58 rfl rfl ?_
      rw [if_pos h1] at hm
      subst h1
      have hO3 : Mo G H4 a tx L fp (nI p1) rf rw (nI (v2 + 1)) ir kb n nv ct nx sd sn bn := ⟨by unfold mxL; exact hm, ⟨fT, hTx, eT⟩, hL9, hT8⟩
      refine a_callVi (As := []) (rest := []) (d := 2) (mc := 0) (ms := 0) (x := bI (decide (k2 = 0))) (ci := 7) l_X7_87 im_X7_ends se_X7_ends ⟨_, rfl, rfl⟩ dX7_readsVoice_59 ⟨Nat.le_of_ble_eq_true rfl, Nat.le_of_ble_eq_true rfl⟩ rfl (Nat.le_of_ble_eq_true rfl) ⟨Nat.le_of_ble_eq_true rfl, Nat.le_of_ble_eq_true rfl⟩ hm (c_X7_end hen (by omega) hO3 hB) (fun H5 hp5 => ?_)
      obtain ⟨hO4, hfr4⟩ := hp5
      have hvx := hvx.kept (H1 := H5) (hfr4 _ (by omega))
      have hF : ∀ q : Nat, q ≠ a ∧ q ≠ a + 4 → H5[q]? = H[q]? := fun q hq => (hfr4 q (by omega)).trans (hF q hq)
      refine a_ret dX7_readsVoice_62 ⟨⟨ri ?_, ?_⟩, rfl, rfl⟩
      · rfl
      · exact ⟨_, hO4, ⟨_, hvx, fun _ => ⟨rfl, upd_to (e := upd kV v2 (nI x1)) (fun i hi => (ev i hi).trans (if_neg (by omega)).symm) (if_pos rfl).symm⟩⟩, hF⟩
    · skip
      have h1 := nu_neg (c := k1 = 0) (x := x1) (by omega) (Int32.not_le.mp c33)
      have hE : (k1, p1) = (k2, p2) := by rw [← hen]; exact (if_neg h1).symm
      obtain ⟨rfl, rfl⟩ := Prod.mk.inj hE
      refine a_iconst 0 dX7_readsVoice_36 (by decide) ?_
      refine a_ret dX7_readsVoice_37 ⟨⟨ri ?_, ?_⟩, rfl, rfl⟩
      · rw [decide_eq_false h1]; rfl
      · exact ⟨_, hO2, ⟨_, hvx, fun h => absurd h h1⟩, hF⟩
  · skip
    omega
