theorem c_X7_num {G : GT} {B : Nat} {l : Launch} {H : Heap} {a : Nat} {tx : Nat → Nat} {L : Nat} {fp rf rw rx : Int32} {ir kb : Bool} {n nv ct nx sd sn bn : Nat} {pl m k1 p1 x1 : Nat} (hnu : nuF tx L m 0 pl = (k1, p1, x1)) (hpl : pl ≤ 240) (hm9 : m ≤ 999) (hO : Mo G H a tx L fp (nI pl) rf rw rx ir kb n nv ct nx sd sn bn) (hB : B ≤ a) : AM G B l yX7_number cX7_number 5 (some .int) 2 0 0 [.ref a, .int (nI m)] H (fun rv H' => rv = some (.int (if k1 = 0 then nI x1 else -1)) ∧ (Mo G H' a tx L fp (nI p1) (if k1 = 0 then rf else nI k1) rw rx ir kb n nv ct nx sd sn bn ∧ ∀ q : Nat, q ≠ a → H'[q]? = H[q]?)) := by
  have h := c_X7_number (G := G) (B := B) (l := l) hpl hm9 hO hB
  rw [hnu] at h
  exact h
theorem c_X7_end {G : GT} {B : Nat} {l : Launch} {H : Heap} {a : Nat} {tx : Nat → Nat} {L : Nat} {fp rf rw rx : Int32} {ir kb : Bool} {n nv ct nx sd sn bn : Nat} {pl k2 p2 : Nat} (hen : enF tx L 0 pl = (k2, p2)) (hpl : pl ≤ 240) (hO : Mo G H a tx L fp (nI pl) rf rw rx ir kb n nv ct nx sd sn bn) (hB : B ≤ a) : AM G B l yX7_ends cX7_ends 1 (some .boolean) 2 0 0 [.ref a] H (fun rv H' => rv = some (.int (bI (decide (k2 = 0)))) ∧ (Mo G H' a tx L fp (nI p2) (if k2 = 0 then rf else nI k2) rw rx ir kb n nv ct nx sd sn bn ∧ ∀ q : Nat, q ≠ a → H'[q]? = H[q]?)) := by
  have h := c_X7_ends (G := G) (B := B) (l := l) hpl hO hB
  rw [hen] at h
  exact h
theorem nu_neg {c : Prop} [Decidable c] {x : Nat} (hx : x < 2 ^ 31) (h : (if c then nI x else -1) < 0) : ¬ c := by
  intro hc
  rw [if_pos hc] at h
  exact nI_pos hx h
theorem nu_pos {c : Prop} [Decidable c] {x : Nat} (h : ¬ (if c then nI x else -1) < 0) : c := by
  by_cases hc : c
  · exact hc
  · rw [if_neg hc] at h
    exact absurd (by decide) h
theorem nu_k {tx : Nat → Nat} {L m k p k' p' x' : Nat} (h : nuF tx L m k p = (k', p', x')) (hk : k ≠ 0) : k' = k ∧ p' = p := by
  unfold nuF at h
  rw [if_neg hk] at h
  injection h with h1 h2
  injection h2 with h2 h3
  exact ⟨h1.symm, h2.symm⟩
theorem en_k {tx : Nat → Nat} {L k p k' p' : Nat} (h : enF tx L k p = (k', p')) (hk : k ≠ 0) : k' = k ∧ p' = p := by
  unfold enF at h
  rw [if_neg hk] at h
  injection h with h1 h2
  exact ⟨h1.symm, h2.symm⟩
theorem w3_up {f kS kU kK : DD} {w : Nat} {x y z : Int32} (h : ∀ i, i < w → f (3 * i) = kS i ∧ f (3 * i + 1) = kU i ∧ f (3 * i + 2) = kK i) : ∀ i, i < w + 1 → upd (upd (upd f (3 * w + 0) x) (3 * w + (0 + 1)) y) (3 * w + (0 + 1 + 1)) z (3 * i) = upd kS w x i ∧ upd (upd (upd f (3 * w + 0) x) (3 * w + (0 + 1)) y) (3 * w + (0 + 1 + 1)) z (3 * i + 1) = upd kU w y i ∧ upd (upd (upd f (3 * w + 0) x) (3 * w + (0 + 1)) y) (3 * w + (0 + 1 + 1)) z (3 * i + 2) = upd kK w z i := by
  intro i hi
  unfold upd
  by_cases e : i = w
  · subst e
    refine ⟨?_, ?_, ?_⟩
    · rw [if_neg (by omega), if_neg (by omega), if_pos (by omega), if_pos rfl]
    · rw [if_neg (by omega), if_pos (by omega), if_pos rfl]
    · rw [if_pos (by omega), if_pos rfl]
  · obtain ⟨h1, h2, h3⟩ := h i (by omega)
    refine ⟨?_, ?_, ?_⟩
    · rw [if_neg (by omega), if_neg (by omega), if_neg (by omega), if_neg e]; exact h1
    · rw [if_neg (by omega), if_neg (by omega), if_neg (by omega), if_neg e]; exact h2
    · rw [if_neg (by omega), if_neg (by omega), if_neg (by omega), if_neg e]; exact h3

set_option maxHeartbeats 4000000 in
set_option maxRecDepth 100000 in
theorem c_X7_readsVoice {G : GT} {B : Nat} {l : Launch} {H : Heap} {a : Nat} {tx : Nat → Nat} {L : Nat} {fp rf rw : Int32} {ir kb : Bool} {n nv ct nx sd sn bn : Nat} {kV : DD} {pl v2 k1 p1 x1 k2 p2 : Nat} (hnu : nuF tx L 999 0 (pl + 1) = (k1, p1, x1)) (hen : enF tx L k1 p1 = (k2, p2)) (hpl : pl < L) (hv4 : v2 < 4) (hO : Mo G H a tx L fp (nI pl) rf rw (nI v2) ir kb n nv ct nx sd sn bn) (hVr : ∃ f : DD, Ai G H (a + 4) 4 f ∧ ∀ i, i < v2 → f i = kV i) (hB : B ≤ a) : AM G B l yX7_readsVoice cX7_readsVoice 2 (some .boolean) 3 0 0 [.ref a] H (fun rv H' => rv = some (.int (bI (decide (k2 = 0)))) ∧ (∃ rx' : Int32, Mo G H' a tx L fp (nI p2) (if k2 = 0 then rf else nI k2) rw rx' ir kb n nv ct nx sd sn bn ∧ (∃ f : DD, Ai G H' (a + 4) 4 f ∧ (k2 = 0 → rx' = nI (v2 + 1) ∧ ∀ i, i < v2 + 1 → f i = upd kV v2 (nI x1) i)) ∧ ∀ q : Nat, q ≠ a ∧ q ≠ a + 4 → H'[q]? = H[q]?)) := by
  have hO0 := hO
  obtain ⟨hm, ⟨fT, hTx, eT⟩, hL9, hT8⟩ := hO
  unfold mxL at hm
  obtain ⟨fv, hvx, ev⟩ := hVr
  have hnb := nuF_b (tx := tx) (L := L) (m := 999) (kd := 0) (pl := pl + 1) hL9 (by omega) (by decide)
  rw [hnu] at hnb
  dsimp only at hnb
  have hF : ∀ q : Nat, q ≠ a ∧ q ≠ a + 4 → H[q]? = H[q]? := fun _ _ => rfl
  refine AM.ofZ (lv := [(0, .ref a)]) (by decide +kernel) (Nat.le_of_ble_eq_true rfl) rfl ?_ (fun _ _ h => ⟨_, h.1⟩)
  refine a_aload_n 0 dX7_readsVoice_0 rfl rfl ?_
  refine a_get f_X7_94 dX7_readsVoice_1 hm rfl ?_
  refine a_iconst 4 dX7_readsVoice_4 (by decide) ?_
  refine a_icmpneN (a := v2) (b := 4) 14 dX7_readsVoice_5 (by decide) (by omega) (by omega) (fun c5 => ?_) (fun c5 => ?_)
  · skip
    refine a_aload_n 0 dX7_readsVoice_14 rfl rfl ?_
    refine a_dup dX7_readsVoice_15 rfl ?_
    refine a_get f_X7_67 dX7_readsVoice_16 hm rfl ?_
    refine a_iconst 1 dX7_readsVoice_19 (by decide) ?_
    refine a_iaddN (a := pl) (b := 1) dX7_readsVoice_20 ?_
    refine a_put f_X7_67 p_X7_67 dX7_readsVoice_21 hm (Nat.le_of_ble_eq_true rfl) rfl rfl (by omega) (fun H1 hm hz1 hq1 => ?_)
    have hm : Ob G H1 a 7 [.int (nI L), .ref (a + 1), .int fp, .int (nI (pl + 1)), .int rf, .int rw, .int (nI v2), .ref (a + 2), .ref (a + 3), .ref (a + 4), .int (bI ir), .int (bI kb), .int (nI n), .int (nI nv), .ref (a + 5), .ref (a + 6), .ref (a + 7), .ref (a + 8), .int (nI ct), .int (nI nx), .ref (a + 9), .long (lN sd), .int (nI sn), .ref (a + 10), .int (nI bn), .ref (a + 11), .ref (a + 12), .ref (a + 13), .ref (a + 14)] := hm
    have hTx := hTx.kept (hq1 _ (by omega))
    have hvx := hvx.kept (hq1 _ (by omega))
    have hF : ∀ q : Nat, q ≠ a ∧ q ≠ a + 4 → H1[q]? = H[q]? := fun q hq => (hq1 q (by omega)).trans (hF q hq)
    refine a_aload_n 0 dX7_readsVoice_24 rfl rfl ?_
    refine a_sipush 999 dX7_readsVoice_25 (by decide) ?_
    have hO1 : Mo G H1 a tx L fp (nI (pl + 1)) rf rw (nI v2) ir kb n nv ct nx sd sn bn := ⟨by unfold mxL; exact hm, ⟨fT, hTx, eT⟩, hL9, hT8⟩
    refine a_callVi (As := [.int 999]) (rest := []) (d := 2) (mc := 0) (ms := 0) (x := if k1 = 0 then nI x1 else -1) (ci := 7) l_X7_84 im_X7_number se_X7_number ⟨_, rfl, rfl⟩ dX7_readsVoice_28 ⟨Nat.le_of_ble_eq_true rfl, Nat.le_of_ble_eq_true rfl⟩ rfl (Nat.le_of_ble_eq_true rfl) ⟨Nat.le_of_ble_eq_true rfl, Nat.le_of_ble_eq_true rfl⟩ hm (c_X7_num hnu (by omega) (by decide) hO1 hB) (fun H2 hp2 => ?_)
    obtain ⟨hO2, hfr⟩ := hp2
    obtain ⟨hm, ⟨fT, hTx, eT⟩, -, -⟩ := id hO2
    unfold mxL at hm
    have hvx := hvx.kept (H1 := H2) (hfr _ (by omega))
    have hF : ∀ q : Nat, q ≠ a ∧ q ≠ a + 4 → H2[q]? = H[q]? := fun q hq => (hfr q (by omega)).trans (hF q hq)
    refine a_istore_n (lv' := [(1, .int (if k1 = 0 then nI x1 else -1)), (0, .ref a)]) dX7_readsVoice_31 rfl (by decide) rfl ?_
    refine a_iload_n 0 dX7_readsVoice_32 rfl rfl ?_
    refine a_ifge 38 dX7_readsVoice_33 (by decide) (fun c33 => ?_) (fun c33 => ?_)
    · skip
      have h1 := nu_pos (Int32.not_lt.mpr c33)
      refine a_aload_n 1 dX7_readsVoice_38 rfl rfl ?_
      refine a_get f_X7_23 dX7_readsVoice_39 hm rfl ?_
      refine a_aload_n 1 dX7_readsVoice_42 rfl rfl ?_
      refine a_get f_X7_94 dX7_readsVoice_43 hm rfl ?_
      refine a_iload_n 0 dX7_readsVoice_46 rfl rfl ?_
      refine a_toeq (nI x1) (if_pos h1) ?_
      refine a_iastN (j := v2) dX7_readsVoice_47 hvx (by omega) (by decide) (by omega) (fun H3 hvx hz3 hq3 => ?_)
      have hvx : Ai G H3 (a + 4) 4 (upd fv v2 (nI x1)) := hvx
      have hm := hm.kept (hq3 _ (by omega))
      have hTx := hTx.kept (hq3 _ (by omega))
      have hF : ∀ q : Nat, q ≠ a ∧ q ≠ a + 4 → H3[q]? = H[q]? := fun q hq => (hq3 q (by omega)).trans (hF q hq)
      refine a_aload_n 1 dX7_readsVoice_48 rfl rfl ?_
      refine a_dup dX7_readsVoice_49 rfl ?_
      refine a_get f_X7_94 dX7_readsVoice_50 hm rfl ?_
      refine a_iconst 1 dX7_readsVoice_53 (by decide) ?_
      refine a_iaddN (a := v2) (b := 1) dX7_readsVoice_54 ?_
      refine a_put f_X7_94 p_X7_94 dX7_readsVoice_55 hm (Nat.le_of_ble_eq_true rfl) rfl rfl (by omega) (fun H4 hm hz4 hq4 => ?_)
      have hm : Ob G H4 a 7 [.int (nI L), .ref (a + 1), .int fp, .int (nI p1), .int (if k1 = 0 then rf else nI k1), .int rw, .int (nI (v2 + 1)), .ref (a + 2), .ref (a + 3), .ref (a + 4), .int (bI ir), .int (bI kb), .int (nI n), .int (nI nv), .ref (a + 5), .ref (a + 6), .ref (a + 7), .ref (a + 8), .int (nI ct), .int (nI nx), .ref (a + 9), .long (lN sd), .int (nI sn), .ref (a + 10), .int (nI bn), .ref (a + 11), .ref (a + 12), .ref (a + 13), .ref (a + 14)] := hm
      have hTx := hTx.kept (hq4 _ (by omega))
      have hvx := hvx.kept (hq4 _ (by omega))
      have hF : ∀ q : Nat, q ≠ a ∧ q ≠ a + 4 → H4[q]? = H[q]? := fun q hq => (hq4 q (by omega)).trans (hF q hq)
      refine a_aload_n 1 dX7_readsVoice_58 rfl rfl ?_
      rw [if_pos h1] at hm
      subst h1
      have hO3 : Mo G H4 a tx L fp (nI p1) rf rw (nI (v2 + 1)) ir kb n nv ct nx sd sn bn := ⟨by unfold mxL; exact hm, ⟨fT, hTx, eT⟩, hL9, hT8⟩
      refine a_callVi (As := []) (rest := []) (d := 2) (mc := 0) (ms := 0) (x := bI (decide (k2 = 0))) (ci := 7) l_X7_87 im_X7_ends se_X7_ends ⟨_, rfl, rfl⟩ dX7_readsVoice_59 ⟨Nat.le_of_ble_eq_true rfl, Nat.le_of_ble_eq_true rfl⟩ rfl (Nat.le_of_ble_eq_true rfl) ⟨Nat.le_of_ble_eq_true rfl, Nat.le_of_ble_eq_true rfl⟩ hm (c_X7_end hen (by omega) hO3 hB) (fun H5 hp5 => ?_)
      obtain ⟨hO4, hfr4⟩ := hp5
      have hvx := hvx.kept (H1 := H5) (hfr4 _ (by omega))
      have hF : ∀ q : Nat, q ≠ a ∧ q ≠ a + 4 → H5[q]? = H[q]? := fun q hq => (hfr4 q (by omega)).trans (hF q hq)
      refine a_ret dX7_readsVoice_62 ⟨⟨ri ?_, ?_⟩, rfl, rfl⟩
      · rfl
      · exact ⟨_, hO4, ⟨_, hvx, fun _ => ⟨rfl, upd_to (e := upd kV v2 (nI x1)) (fun i hi => (ev i hi).trans (if_neg (by omega)).symm) (if_pos rfl).symm⟩⟩, hF⟩
    · skip
      have h1 := nu_neg (c := k1 = 0) (x := x1) (by omega) (Int32.not_le.mp c33)
      have hE : (k1, p1) = (k2, p2) := by rw [← hen]; exact (if_neg h1).symm
      obtain ⟨rfl, rfl⟩ := Prod.mk.inj hE
      refine a_iconst 0 dX7_readsVoice_36 (by decide) ?_
      refine a_ret dX7_readsVoice_37 ⟨⟨ri ?_, ?_⟩, rfl, rfl⟩
      · rw [decide_eq_false h1]; rfl
      · exact ⟨_, hO2, ⟨_, hvx, fun h => absurd h h1⟩, hF⟩
  · skip
    omega
set_option maxHeartbeats 4000000 in
set_option maxRecDepth 100000 in
theorem c_X7_readsBox {G : GT} {B : Nat} {l : Launch} {H : Heap} {a : Nat} {tx : Nat → Nat} {L : Nat} {fp rf rw rx : Int32} {ir kb : Bool} {n nv ct nx sd sn bn : Nat} {pl k1 p1 x1 k2 p2 x2 k3 p3 x3 k4 p4 : Nat} (hu1 : nuF tx L 99 0 (pl + 1) = (k1, p1, x1)) (hu2 : nuF tx L 99 k1 p1 = (k2, p2, x2)) (hu3 : nuF tx L 999 k2 p2 = (k3, p3, x3)) (hen : enF tx L k3 p3 = (k4, p4)) (hpl : pl < L) (hO : Mo G H a tx L fp (nI pl) rf rw rx ir kb n nv ct nx sd sn bn) (hBr : ∃ f : DD, Ai G H (a + 2) 3 f) (hB : B ≤ a) : AM G B l yX7_readsBox cX7_readsBox 3 (some .boolean) 3 0 0 [.ref a, .int (bI true)] H (fun rv H' => rv = some (.int (bI (decide (k4 = 0)))) ∧ (Mo G H' a tx L fp (nI p4) (if k4 = 0 then rf else nI k4) rw rx ir kb n nv ct nx sd sn bn ∧ (∃ f : DD, Ai G H' (a + 2) 3 f ∧ (k4 = 0 → f 0 = nI x1 ∧ f 1 = nI x2 ∧ f 2 = nI x3)) ∧ ∀ q : Nat, q ≠ a ∧ q ≠ a + 2 → H'[q]? = H[q]?)) := by
  have hO0 := hO
  obtain ⟨hm, ⟨fT, hTx, eT⟩, hL9, hT8⟩ := hO
  unfold mxL at hm
  obtain ⟨fb, hbx⟩ := hBr
  have hF : ∀ q : Nat, q ≠ a ∧ q ≠ a + 2 → H[q]? = H[q]? := fun _ _ => rfl
  refine AM.ofZ (lv := [(0, .ref a), (1, .int (bI true))]) (by decide +kernel) (Nat.le_of_ble_eq_true rfl) rfl ?_ (fun _ _ h => ⟨_, h.1⟩)
  refine a_iload_n 1 dX7_readsBox_0 rfl rfl ?_
  refine a_ifneB 10 dX7_readsBox_1 (by decide) (fun c1 => ?_) (fun c1 => ?_)
  · skip
    refine a_aload_n 0 dX7_readsBox_10 rfl rfl ?_
    refine a_dup dX7_readsBox_11 rfl ?_
    refine a_get f_X7_67 dX7_readsBox_12 hm rfl ?_
    refine a_iconst 1 dX7_readsBox_15 (by decide) ?_
    refine a_iaddN (a := pl) (b := 1) dX7_readsBox_16 ?_
    refine a_put f_X7_67 p_X7_67 dX7_readsBox_17 hm (Nat.le_of_ble_eq_true rfl) rfl rfl (by omega) (fun H1 hm hz1 hq1 => ?_)
    have hm : Ob G H1 a 7 [.int (nI L), .ref (a + 1), .int fp, .int (nI (pl + 1)), .int rf, .int rw, .int rx, .ref (a + 2), .ref (a + 3), .ref (a + 4), .int (bI ir), .int (bI kb), .int (nI n), .int (nI nv), .ref (a + 5), .ref (a + 6), .ref (a + 7), .ref (a + 8), .int (nI ct), .int (nI nx), .ref (a + 9), .long (lN sd), .int (nI sn), .ref (a + 10), .int (nI bn), .ref (a + 11), .ref (a + 12), .ref (a + 13), .ref (a + 14)] := hm
    have hTx := hTx.kept (hq1 _ (by omega))
    have hbx := hbx.kept (hq1 _ (by omega))
    have hF : ∀ q : Nat, q ≠ a ∧ q ≠ a + 2 → H1[q]? = H[q]? := fun q hq => (hq1 q (by omega)).trans (hF q hq)
    refine a_iconst 0 dX7_readsBox_20 (by decide) ?_
    refine a_toeq (nI 0) rfl ?_
    refine a_istore_n (lv' := [(2, .int (nI 0)), (0, .ref a), (1, .int (bI true))]) dX7_readsBox_21 rfl (by decide) rfl ?_
    refine a_iload_n 0 dX7_readsBox_22 rfl rfl ?_
    refine a_iconst 3 dX7_readsBox_23 (by decide) ?_
    refine a_icmpgeN (a := 0) (b := 3) 67 dX7_readsBox_24 (by decide) (by omega) (by omega) (fun c24 => ?_) (fun c24 => ?_)
    · skip
      omega
    · skip
      refine a_aload_n 1 dX7_readsBox_27 rfl rfl ?_
      refine a_get f_X7_17 dX7_readsBox_28 hm rfl ?_
      refine a_iload_n 0 dX7_readsBox_31 rfl rfl ?_
      refine a_aload_n 1 dX7_readsBox_32 rfl rfl ?_
      refine a_iload_n 0 dX7_readsBox_33 rfl rfl ?_
      refine a_iconst 2 dX7_readsBox_34 (by decide) ?_
      refine a_icmpgeN (a := 0) (b := 2) 43 dX7_readsBox_35 (by decide) (by omega) (by omega) (fun c35 => ?_) (fun c35 => ?_)
      · skip
        omega
      · skip
        refine a_bipush 99 dX7_readsBox_38 (by decide) ?_
        refine a_goto 46 dX7_readsBox_40 (by decide) ?_
        have hnb1 := nuF_b (tx := tx) (L := L) (m := 99) (kd := 0) (pl := pl + 1) hL9 (by omega) (by decide)
        rw [hu1] at hnb1
        dsimp only at hnb1
        have hO1 : Mo G H1 a tx L fp (nI (pl + 1)) rf rw rx ir kb n nv ct nx sd sn bn := ⟨by unfold mxL; exact hm, ⟨fT, hTx, eT⟩, hL9, hT8⟩
        refine a_callVi (As := [.int 99]) (rest := [.int (nI 0), .ref (a + 2)]) (d := 2) (mc := 0) (ms := 0) (x := if k1 = 0 then nI x1 else -1) (ci := 7) l_X7_84 im_X7_number se_X7_number ⟨_, rfl, rfl⟩ dX7_readsBox_46 ⟨Nat.le_of_ble_eq_true rfl, Nat.le_of_ble_eq_true rfl⟩ rfl (Nat.le_of_ble_eq_true rfl) ⟨Nat.le_of_ble_eq_true rfl, Nat.le_of_ble_eq_true rfl⟩ hm (c_X7_num hu1 (by omega) (by decide) hO1 hB) (fun H2 hp2 => ?_)
        obtain ⟨hQ1, hfr1⟩ := hp2
        obtain ⟨hm, ⟨fT, hTx, eT⟩, -, -⟩ := id hQ1
        unfold mxL at hm
        have hbx := hbx.kept (H1 := H2) (hfr1 _ (by omega))
        have hF : ∀ q : Nat, q ≠ a ∧ q ≠ a + 2 → H2[q]? = H[q]? := fun q hq => (hfr1 q (by omega)).trans (hF q hq)
        refine a_iastN (j := 0) dX7_readsBox_49 hbx (by omega) (by decide) (by omega) (fun H3 hbx hz3 hq3 => ?_)
        have hbx : Ai G H3 (a + 2) 3 (upd fb 0 (if k1 = 0 then nI x1 else -1)) := hbx
        have hm := hm.kept (hq3 _ (by omega))
        have hTx := hTx.kept (hq3 _ (by omega))
        have hF : ∀ q : Nat, q ≠ a ∧ q ≠ a + 2 → H3[q]? = H[q]? := fun q hq => (hq3 q (by omega)).trans (hF q hq)
        refine a_aload_n 1 dX7_readsBox_50 rfl rfl ?_
        refine a_get f_X7_17 dX7_readsBox_51 hm rfl ?_
        refine a_iload_n 0 dX7_readsBox_54 rfl rfl ?_
        refine a_ialdN (j := 0) dX7_readsBox_55 hbx (by omega) (by decide) ?_
        refine a_toeq (if k1 = 0 then nI x1 else -1) (if_pos rfl) ?_
        refine a_ifge 61 dX7_readsBox_56 (by decide) (fun c56 => ?_) (fun c56 => ?_)
        · skip
          have h1 : k1 = 0 := nu_pos (x := x1) (Int32.not_lt.mpr (by assumption))
          subst h1
          rw [if_pos rfl] at hm
          rw [if_pos rfl] at hbx
          refine a_iincN (q := 0) (lv' := [(2, .int (nI (0 + 1))), (0, .ref a), (1, .int (bI true))]) dX7_readsBox_61 rfl (by decide) rfl ?_
          refine a_goto 22 dX7_readsBox_64 (by decide) ?_
          refine a_iload_n 0 dX7_readsBox_22 rfl rfl ?_
          refine a_iconst 3 dX7_readsBox_23 (by decide) ?_
          refine a_icmpgeN (a := 0 + 1) (b := 3) 67 dX7_readsBox_24 (by decide) (by omega) (by omega) (fun c24_4 => ?_) (fun c24_4 => ?_)
          · skip
            omega
          · skip
            refine a_aload_n 1 dX7_readsBox_27 rfl rfl ?_
            refine a_get f_X7_17 dX7_readsBox_28 hm rfl ?_
            refine a_iload_n 0 dX7_readsBox_31 rfl rfl ?_
            refine a_aload_n 1 dX7_readsBox_32 rfl rfl ?_
            refine a_iload_n 0 dX7_readsBox_33 rfl rfl ?_
            refine a_iconst 2 dX7_readsBox_34 (by decide) ?_
            refine a_icmpgeN (a := 0 + 1) (b := 2) 43 dX7_readsBox_35 (by decide) (by omega) (by omega) (fun c35_5 => ?_) (fun c35_5 => ?_)
            · skip
              omega
            · skip
              refine a_bipush 99 dX7_readsBox_38 (by decide) ?_
              refine a_goto 46 dX7_readsBox_40 (by decide) ?_
              have hnb2 := nuF_b (tx := tx) (L := L) (m := 99) (kd := 0) (pl := p1) hL9 (by omega) (by decide)
              rw [hu2] at hnb2
              dsimp only at hnb2
              have hO2 : Mo G H3 a tx L fp (nI (p1)) rf rw rx ir kb n nv ct nx sd sn bn := ⟨by unfold mxL; exact hm, ⟨fT, hTx, eT⟩, hL9, hT8⟩
              refine a_callVi (As := [.int 99]) (rest := [.int (nI (0 + 1)), .ref (a + 2)]) (d := 2) (mc := 0) (ms := 0) (x := if k2 = 0 then nI x2 else -1) (ci := 7) l_X7_84 im_X7_number se_X7_number ⟨_, rfl, rfl⟩ dX7_readsBox_46 ⟨Nat.le_of_ble_eq_true rfl, Nat.le_of_ble_eq_true rfl⟩ rfl (Nat.le_of_ble_eq_true rfl) ⟨Nat.le_of_ble_eq_true rfl, Nat.le_of_ble_eq_true rfl⟩ hm (c_X7_num hu2 (by omega) (by decide) hO2 hB) (fun H6 hp6 => ?_)
              obtain ⟨hQ2, hfr2⟩ := hp6
              obtain ⟨hm, ⟨fT, hTx, eT⟩, -, -⟩ := id hQ2
              unfold mxL at hm
              have hbx := hbx.kept (H1 := H6) (hfr2 _ (by omega))
              have hF : ∀ q : Nat, q ≠ a ∧ q ≠ a + 2 → H6[q]? = H[q]? := fun q hq => (hfr2 q (by omega)).trans (hF q hq)
              refine a_iastN (j := 0 + 1) dX7_readsBox_49 hbx (by omega) (by decide) (by omega) (fun H7 hbx hz7 hq7 => ?_)
              have hbx : Ai G H7 (a + 2) 3 (upd (upd fb 0 (nI x1)) (0 + 1) (if k2 = 0 then nI x2 else -1)) := hbx
              have hm := hm.kept (hq7 _ (by omega))
              have hTx := hTx.kept (hq7 _ (by omega))
              have hF : ∀ q : Nat, q ≠ a ∧ q ≠ a + 2 → H7[q]? = H[q]? := fun q hq => (hq7 q (by omega)).trans (hF q hq)
              refine a_aload_n 1 dX7_readsBox_50 rfl rfl ?_
              refine a_get f_X7_17 dX7_readsBox_51 hm rfl ?_
              refine a_iload_n 0 dX7_readsBox_54 rfl rfl ?_
              refine a_ialdN (j := 0 + 1) dX7_readsBox_55 hbx (by omega) (by decide) ?_
              refine a_toeq (if k2 = 0 then nI x2 else -1) (if_pos rfl) ?_
              refine a_ifge 61 dX7_readsBox_56 (by decide) (fun c56_8 => ?_) (fun c56_8 => ?_)
              · skip
                have h1 : k2 = 0 := nu_pos (x := x2) (Int32.not_lt.mpr (by assumption))
                subst h1
                rw [if_pos rfl] at hm
                rw [if_pos rfl] at hbx
                refine a_iincN (q := 0) (lv' := [(2, .int (nI (0 + 1 + 1))), (0, .ref a), (1, .int (bI true))]) dX7_readsBox_61 rfl (by decide) rfl ?_
                refine a_goto 22 dX7_readsBox_64 (by decide) ?_
                refine a_iload_n 0 dX7_readsBox_22 rfl rfl ?_
                refine a_iconst 3 dX7_readsBox_23 (by decide) ?_
                refine a_icmpgeN (a := 0 + 1 + 1) (b := 3) 67 dX7_readsBox_24 (by decide) (by omega) (by omega) (fun c24_9 => ?_) (fun c24_9 => ?_)
                · skip
                  omega
                · skip
                  refine a_aload_n 1 dX7_readsBox_27 rfl rfl ?_
                  refine a_get f_X7_17 dX7_readsBox_28 hm rfl ?_
                  refine a_iload_n 0 dX7_readsBox_31 rfl rfl ?_
                  refine a_aload_n 1 dX7_readsBox_32 rfl rfl ?_
                  refine a_iload_n 0 dX7_readsBox_33 rfl rfl ?_
                  refine a_iconst 2 dX7_readsBox_34 (by decide) ?_
                  refine a_icmpgeN (a := 0 + 1 + 1) (b := 2) 43 dX7_readsBox_35 (by decide) (by omega) (by omega) (fun c35_10 => ?_) (fun c35_10 => ?_)
                  · skip
                    refine a_sipush 999 dX7_readsBox_43 (by decide) ?_
                    have hnb3 := nuF_b (tx := tx) (L := L) (m := 999) (kd := 0) (pl := p2) hL9 (by omega) (by decide)
                    rw [hu3] at hnb3
                    dsimp only at hnb3
                    have hO3 : Mo G H7 a tx L fp (nI (p2)) rf rw rx ir kb n nv ct nx sd sn bn := ⟨by unfold mxL; exact hm, ⟨fT, hTx, eT⟩, hL9, hT8⟩
                    refine a_callVi (As := [.int 999]) (rest := [.int (nI (0 + 1 + 1)), .ref (a + 2)]) (d := 2) (mc := 0) (ms := 0) (x := if k3 = 0 then nI x3 else -1) (ci := 7) l_X7_84 im_X7_number se_X7_number ⟨_, rfl, rfl⟩ dX7_readsBox_46 ⟨Nat.le_of_ble_eq_true rfl, Nat.le_of_ble_eq_true rfl⟩ rfl (Nat.le_of_ble_eq_true rfl) ⟨Nat.le_of_ble_eq_true rfl, Nat.le_of_ble_eq_true rfl⟩ hm (c_X7_num hu3 (by omega) (by decide) hO3 hB) (fun H11 hp11 => ?_)
                    obtain ⟨hQ3, hfr3⟩ := hp11
                    obtain ⟨hm, ⟨fT, hTx, eT⟩, -, -⟩ := id hQ3
                    unfold mxL at hm
                    have hbx := hbx.kept (H1 := H11) (hfr3 _ (by omega))
                    have hF : ∀ q : Nat, q ≠ a ∧ q ≠ a + 2 → H11[q]? = H[q]? := fun q hq => (hfr3 q (by omega)).trans (hF q hq)
                    refine a_iastN (j := 0 + 1 + 1) dX7_readsBox_49 hbx (by omega) (by decide) (by omega) (fun H12 hbx hz12 hq12 => ?_)
                    have hbx : Ai G H12 (a + 2) 3 (upd (upd (upd fb 0 (nI x1)) (0 + 1) (nI x2)) (0 + 1 + 1) (if k3 = 0 then nI x3 else -1)) := hbx
                    have hm := hm.kept (hq12 _ (by omega))
                    have hTx := hTx.kept (hq12 _ (by omega))
                    have hF : ∀ q : Nat, q ≠ a ∧ q ≠ a + 2 → H12[q]? = H[q]? := fun q hq => (hq12 q (by omega)).trans (hF q hq)
                    refine a_aload_n 1 dX7_readsBox_50 rfl rfl ?_
                    refine a_get f_X7_17 dX7_readsBox_51 hm rfl ?_
                    refine a_iload_n 0 dX7_readsBox_54 rfl rfl ?_
                    refine a_ialdN (j := 0 + 1 + 1) dX7_readsBox_55 hbx (by omega) (by decide) ?_
                    refine a_toeq (if k3 = 0 then nI x3 else -1) (if_pos rfl) ?_
                    refine a_ifge 61 dX7_readsBox_56 (by decide) (fun c56_13 => ?_) (fun c56_13 => ?_)
                    · skip
                      have h1 : k3 = 0 := nu_pos (x := x3) (Int32.not_lt.mpr (by assumption))
                      subst h1
                      rw [if_pos rfl] at hm
                      rw [if_pos rfl] at hbx
                      refine a_iincN (q := 0) (lv' := [(2, .int (nI (0 + 1 + 1 + 1))), (0, .ref a), (1, .int (bI true))]) dX7_readsBox_61 rfl (by decide) rfl ?_
                      refine a_goto 22 dX7_readsBox_64 (by decide) ?_
                      refine a_iload_n 0 dX7_readsBox_22 rfl rfl ?_
                      refine a_iconst 3 dX7_readsBox_23 (by decide) ?_
                      refine a_icmpgeN (a := 0 + 1 + 1 + 1) (b := 3) 67 dX7_readsBox_24 (by decide) (by omega) (by omega) (fun c24_14 => ?_) (fun c24_14 => ?_)
                      · skip
                        refine a_aload_n 1 dX7_readsBox_67 rfl rfl ?_
                        have hO4 : Mo G H12 a tx L fp (nI p3) rf rw rx ir kb n nv ct nx sd sn bn := ⟨by unfold mxL; exact hm, ⟨fT, hTx, eT⟩, hL9, hT8⟩
                        refine a_callVi (As := []) (rest := []) (d := 2) (mc := 0) (ms := 0) (x := bI (decide (k4 = 0))) (ci := 7) l_X7_87 im_X7_ends se_X7_ends ⟨_, rfl, rfl⟩ dX7_readsBox_68 ⟨Nat.le_of_ble_eq_true rfl, Nat.le_of_ble_eq_true rfl⟩ rfl (Nat.le_of_ble_eq_true rfl) ⟨Nat.le_of_ble_eq_true rfl, Nat.le_of_ble_eq_true rfl⟩ hm (c_X7_end hen (by omega) hO4 hB) (fun H15 hp15 => ?_)
                        obtain ⟨hO5, hfr5⟩ := hp15
                        have hbx := hbx.kept (H1 := H15) (hfr5 _ (by omega))
                        have hF : ∀ q : Nat, q ≠ a ∧ q ≠ a + 2 → H15[q]? = H[q]? := fun q hq => (hfr5 q (by omega)).trans (hF q hq)
                        refine a_ret dX7_readsBox_71 ⟨⟨ri ?_, ?_⟩, rfl, rfl⟩
                        · rfl
                        · exact ⟨hO5, ⟨_, hbx, fun _ => ⟨rfl, rfl, rfl⟩⟩, hF⟩
                      · skip
                        omega
                    · skip
                      have h1 : ¬ k3 = 0 := nu_neg (x := x3) (by omega) (Int32.not_le.mp (by assumption))
                      obtain ⟨rfl, rfl⟩ := en_k hen h1
                      refine a_iconst 0 dX7_readsBox_59 (by decide) ?_
                      refine a_ret dX7_readsBox_60 ⟨⟨ri ?_, ?_⟩, rfl, rfl⟩
                      · rw [decide_eq_false h1]; rfl
                      · exact ⟨⟨by unfold mxL; exact hm, ⟨fT, hTx, eT⟩, hL9, hT8⟩, ⟨_, hbx, fun h => absurd h h1⟩, hF⟩
                  · skip
                    omega
              · skip
                have h1 : ¬ k2 = 0 := nu_neg (x := x2) (by omega) (Int32.not_le.mp (by assumption))
                obtain ⟨rfl, rfl⟩ := nu_k hu3 h1
                obtain ⟨rfl, rfl⟩ := en_k hen h1
                refine a_iconst 0 dX7_readsBox_59 (by decide) ?_
                refine a_ret dX7_readsBox_60 ⟨⟨ri ?_, ?_⟩, rfl, rfl⟩
                · rw [decide_eq_false h1]; rfl
                · exact ⟨⟨by unfold mxL; exact hm, ⟨fT, hTx, eT⟩, hL9, hT8⟩, ⟨_, hbx, fun h => absurd h h1⟩, hF⟩
        · skip
          have h1 : ¬ k1 = 0 := nu_neg (x := x1) (by omega) (Int32.not_le.mp (by assumption))
          obtain ⟨rfl, rfl⟩ := nu_k hu2 h1
          obtain ⟨rfl, rfl⟩ := nu_k hu3 h1
          obtain ⟨rfl, rfl⟩ := en_k hen h1
          refine a_iconst 0 dX7_readsBox_59 (by decide) ?_
          refine a_ret dX7_readsBox_60 ⟨⟨ri ?_, ?_⟩, rfl, rfl⟩
          · rw [decide_eq_false h1]; rfl
          · exact ⟨⟨by unfold mxL; exact hm, ⟨fT, hTx, eT⟩, hL9, hT8⟩, ⟨_, hbx, fun h => absurd h h1⟩, hF⟩
  · skip
    cases c1
set_option maxHeartbeats 4000000 in
set_option maxRecDepth 100000 in
theorem c_X7_readsWord {G : GT} {B : Nat} {l : Launch} {H : Heap} {a : Nat} {tx : Nat → Nat} {L : Nat} {fp rf rx : Int32} {ir kb : Bool} {n nv ct nx sd sn bn : Nat} {kS kU kK : DD} {pl w2 k1 p1 x1 k2 p2 x2 k3 p3 x3 k4 p4 : Nat} (hu1 : nuF tx L 999 0 (pl + 1) = (k1, p1, x1)) (hu2 : nuF tx L 99 k1 p1 = (k2, p2, x2)) (hu3 : nuF tx L 99 k2 p2 = (k3, p3, x3)) (hen : enF tx L k3 p3 = (k4, p4)) (hpl : pl < L) (hw8 : w2 < 8) (hO : Mo G H a tx L fp (nI pl) rf (nI w2) rx ir kb n nv ct nx sd sn bn) (hWr : ∃ f : DD, Ai G H (a + 3) 24 f ∧ ∀ i, i < w2 → f (3 * i) = kS i ∧ f (3 * i + 1) = kU i ∧ f (3 * i + 2) = kK i) (hB : B ≤ a) : AM G B l yX7_readsWord cX7_readsWord 3 (some .boolean) 3 0 0 [.ref a] H (fun rv H' => rv = some (.int (bI (decide (k4 = 0)))) ∧ (∃ rw' : Int32, Mo G H' a tx L fp (nI p4) (if k4 = 0 then rf else nI k4) rw' rx ir kb n nv ct nx sd sn bn ∧ (∃ f : DD, Ai G H' (a + 3) 24 f ∧ (k4 = 0 → rw' = nI (w2 + 1) ∧ ∀ i, i < w2 + 1 → f (3 * i) = upd kS w2 (nI x1) i ∧ f (3 * i + 1) = upd kU w2 (nI x2) i ∧ f (3 * i + 2) = upd kK w2 (nI x3) i)) ∧ ∀ q : Nat, q ≠ a ∧ q ≠ a + 3 → H'[q]? = H[q]?)) := by
  have hO0 := hO
  obtain ⟨hm, ⟨fT, hTx, eT⟩, hL9, hT8⟩ := hO
  unfold mxL at hm
  obtain ⟨fw, hwx, ew⟩ := hWr
  have hF : ∀ q : Nat, q ≠ a ∧ q ≠ a + 3 → H[q]? = H[q]? := fun _ _ => rfl
  refine AM.ofZ (lv := [(0, .ref a)]) (by decide +kernel) (Nat.le_of_ble_eq_true rfl) rfl ?_ (fun _ _ h => ⟨_, h.1⟩)
  refine a_aload_n 0 dX7_readsWord_0 rfl rfl ?_
  refine a_get f_X7_91 dX7_readsWord_1 hm rfl ?_
  refine a_bipush 8 dX7_readsWord_4 (by decide) ?_
  refine a_icmpneN (a := w2) (b := 8) 15 dX7_readsWord_6 (by decide) (by omega) (by omega) (fun c6 => ?_) (fun c6 => ?_)
  · skip
    refine a_aload_n 0 dX7_readsWord_15 rfl rfl ?_
    refine a_dup dX7_readsWord_16 rfl ?_
    refine a_get f_X7_67 dX7_readsWord_17 hm rfl ?_
    refine a_iconst 1 dX7_readsWord_20 (by decide) ?_
    refine a_iaddN (a := pl) (b := 1) dX7_readsWord_21 ?_
    refine a_put f_X7_67 p_X7_67 dX7_readsWord_22 hm (Nat.le_of_ble_eq_true rfl) rfl rfl (by omega) (fun H1 hm hz1 hq1 => ?_)
    have hm : Ob G H1 a 7 [.int (nI L), .ref (a + 1), .int fp, .int (nI (pl + 1)), .int rf, .int (nI w2), .int rx, .ref (a + 2), .ref (a + 3), .ref (a + 4), .int (bI ir), .int (bI kb), .int (nI n), .int (nI nv), .ref (a + 5), .ref (a + 6), .ref (a + 7), .ref (a + 8), .int (nI ct), .int (nI nx), .ref (a + 9), .long (lN sd), .int (nI sn), .ref (a + 10), .int (nI bn), .ref (a + 11), .ref (a + 12), .ref (a + 13), .ref (a + 14)] := hm
    have hTx := hTx.kept (hq1 _ (by omega))
    have hwx := hwx.kept (hq1 _ (by omega))
    have hF : ∀ q : Nat, q ≠ a ∧ q ≠ a + 3 → H1[q]? = H[q]? := fun q hq => (hq1 q (by omega)).trans (hF q hq)
    refine a_iconst 0 dX7_readsWord_25 (by decide) ?_
    refine a_toeq (nI 0) rfl ?_
    refine a_istore_n (lv' := [(1, .int (nI 0)), (0, .ref a)]) dX7_readsWord_26 rfl (by decide) rfl ?_
    refine a_iload_n 0 dX7_readsWord_27 rfl rfl ?_
    refine a_iconst 3 dX7_readsWord_28 (by decide) ?_
    refine a_icmpgeN (a := 0) (b := 3) 75 dX7_readsWord_29 (by decide) (by omega) (by omega) (fun c29 => ?_) (fun c29 => ?_)
    · skip
      omega
    · skip
      refine a_aload_n 1 dX7_readsWord_32 rfl rfl ?_
      refine a_iload_n 0 dX7_readsWord_33 rfl rfl ?_
      refine a_ifneN (a := 0) 43 dX7_readsWord_34 (by decide) (by omega) (fun c34 => ?_) (fun c34 => ?_)
      · skip
        omega
      · skip
        refine a_sipush 999 dX7_readsWord_37 (by decide) ?_
        refine a_goto 45 dX7_readsWord_40 (by decide) ?_
        have hnb1 := nuF_b (tx := tx) (L := L) (m := 999) (kd := 0) (pl := pl + 1) hL9 (by omega) (by decide)
        rw [hu1] at hnb1
        dsimp only at hnb1
        have hO1 : Mo G H1 a tx L fp (nI (pl + 1)) rf (nI w2) rx ir kb n nv ct nx sd sn bn := ⟨by unfold mxL; exact hm, ⟨fT, hTx, eT⟩, hL9, hT8⟩
        refine a_callVi (As := [.int 999]) (rest := []) (d := 2) (mc := 0) (ms := 0) (x := if k1 = 0 then nI x1 else -1) (ci := 7) l_X7_84 im_X7_number se_X7_number ⟨_, rfl, rfl⟩ dX7_readsWord_45 ⟨Nat.le_of_ble_eq_true rfl, Nat.le_of_ble_eq_true rfl⟩ rfl (Nat.le_of_ble_eq_true rfl) ⟨Nat.le_of_ble_eq_true rfl, Nat.le_of_ble_eq_true rfl⟩ hm (c_X7_num hu1 (by omega) (by decide) hO1 hB) (fun H2 hp2 => ?_)
        obtain ⟨hQ1, hfr1⟩ := hp2
        obtain ⟨hm, ⟨fT, hTx, eT⟩, -, -⟩ := id hQ1
        unfold mxL at hm
        have hwx := hwx.kept (H1 := H2) (hfr1 _ (by omega))
        have hF : ∀ q : Nat, q ≠ a ∧ q ≠ a + 3 → H2[q]? = H[q]? := fun q hq => (hfr1 q (by omega)).trans (hF q hq)
        refine a_istore_n (lv' := [(2, .int (if k1 = 0 then nI x1 else -1)), (1, .int (nI 0)), (0, .ref a)]) dX7_readsWord_48 rfl (by decide) rfl ?_
        refine a_iload_n 0 dX7_readsWord_49 rfl rfl ?_
        refine a_ifge 55 dX7_readsWord_50 (by decide) (fun c50 => ?_) (fun c50 => ?_)
        · skip
          have h1 : k1 = 0 := nu_pos (x := x1) (Int32.not_lt.mpr (by assumption))
          subst h1
          rw [if_pos rfl] at hm
          refine a_aload_n 2 dX7_readsWord_55 rfl rfl ?_
          refine a_get f_X7_20 dX7_readsWord_56 hm rfl ?_
          refine a_iconst 3 dX7_readsWord_59 (by decide) ?_
          refine a_aload_n 2 dX7_readsWord_60 rfl rfl ?_
          refine a_get f_X7_91 dX7_readsWord_61 hm rfl ?_
          refine a_imulN (a := 3) (b := w2) dX7_readsWord_64 ?_
          refine a_iload_n 1 dX7_readsWord_65 rfl rfl ?_
          refine a_iaddN (a := 3 * w2) (b := 0) dX7_readsWord_66 ?_
          refine a_iload_n 0 dX7_readsWord_67 rfl rfl ?_
          refine a_toeq (nI x1) (if_pos rfl) ?_
          refine a_iastN (j := (3 * w2) + 0) dX7_readsWord_68 hwx (by omega) (by decide) (by omega) (fun H3 hwx hz3 hq3 => ?_)
          have hwx : Ai G H3 (a + 3) 24 (upd fw ((3 * w2) + 0) (nI x1)) := hwx
          have hm := hm.kept (hq3 _ (by omega))
          have hTx := hTx.kept (hq3 _ (by omega))
          have hF : ∀ q : Nat, q ≠ a ∧ q ≠ a + 3 → H3[q]? = H[q]? := fun q hq => (hq3 q (by omega)).trans (hF q hq)
          refine a_iincN (q := 1) (lv' := [(1, .int (nI (0 + 1))), (2, .int (nI x1)), (0, .ref a)]) dX7_readsWord_69 rfl (by decide) rfl ?_
          refine a_goto 27 dX7_readsWord_72 (by decide) ?_
          refine a_iload_n 0 dX7_readsWord_27 rfl rfl ?_
          refine a_iconst 3 dX7_readsWord_28 (by decide) ?_
          refine a_icmpgeN (a := 0 + 1) (b := 3) 75 dX7_readsWord_29 (by decide) (by omega) (by omega) (fun c29_4 => ?_) (fun c29_4 => ?_)
          · skip
            omega
          · skip
            refine a_aload_n 2 dX7_readsWord_32 rfl rfl ?_
            refine a_iload_n 0 dX7_readsWord_33 rfl rfl ?_
            refine a_ifneN (a := 0 + 1) 43 dX7_readsWord_34 (by decide) (by omega) (fun c34_5 => ?_) (fun c34_5 => ?_)
            · skip
              refine a_bipush 99 dX7_readsWord_43 (by decide) ?_
              have hnb2 := nuF_b (tx := tx) (L := L) (m := 99) (kd := 0) (pl := p1) hL9 (by omega) (by decide)
              rw [hu2] at hnb2
              dsimp only at hnb2
              have hO2 : Mo G H3 a tx L fp (nI (p1)) rf (nI w2) rx ir kb n nv ct nx sd sn bn := ⟨by unfold mxL; exact hm, ⟨fT, hTx, eT⟩, hL9, hT8⟩
              refine a_callVi (As := [.int 99]) (rest := []) (d := 2) (mc := 0) (ms := 0) (x := if k2 = 0 then nI x2 else -1) (ci := 7) l_X7_84 im_X7_number se_X7_number ⟨_, rfl, rfl⟩ dX7_readsWord_45 ⟨Nat.le_of_ble_eq_true rfl, Nat.le_of_ble_eq_true rfl⟩ rfl (Nat.le_of_ble_eq_true rfl) ⟨Nat.le_of_ble_eq_true rfl, Nat.le_of_ble_eq_true rfl⟩ hm (c_X7_num hu2 (by omega) (by decide) hO2 hB) (fun H6 hp6 => ?_)
              obtain ⟨hQ2, hfr2⟩ := hp6
              obtain ⟨hm, ⟨fT, hTx, eT⟩, -, -⟩ := id hQ2
              unfold mxL at hm
              have hwx := hwx.kept (H1 := H6) (hfr2 _ (by omega))
              have hF : ∀ q : Nat, q ≠ a ∧ q ≠ a + 3 → H6[q]? = H[q]? := fun q hq => (hfr2 q (by omega)).trans (hF q hq)
              refine a_istore_n (lv' := [(2, .int (if k2 = 0 then nI x2 else -1)), (1, .int (nI (0 + 1))), (0, .ref a)]) dX7_readsWord_48 rfl (by decide) rfl ?_
              refine a_iload_n 0 dX7_readsWord_49 rfl rfl ?_
              refine a_ifge 55 dX7_readsWord_50 (by decide) (fun c50_7 => ?_) (fun c50_7 => ?_)
              · skip
                have h1 : k2 = 0 := nu_pos (x := x2) (Int32.not_lt.mpr (by assumption))
                subst h1
                rw [if_pos rfl] at hm
                refine a_aload_n 2 dX7_readsWord_55 rfl rfl ?_
                refine a_get f_X7_20 dX7_readsWord_56 hm rfl ?_
                refine a_iconst 3 dX7_readsWord_59 (by decide) ?_
                refine a_aload_n 2 dX7_readsWord_60 rfl rfl ?_
                refine a_get f_X7_91 dX7_readsWord_61 hm rfl ?_
                refine a_imulN (a := 3) (b := w2) dX7_readsWord_64 ?_
                refine a_iload_n 1 dX7_readsWord_65 rfl rfl ?_
                refine a_iaddN (a := 3 * w2) (b := 0 + 1) dX7_readsWord_66 ?_
                refine a_iload_n 0 dX7_readsWord_67 rfl rfl ?_
                refine a_toeq (nI x2) (if_pos rfl) ?_
                refine a_iastN (j := (3 * w2) + (0 + 1)) dX7_readsWord_68 hwx (by omega) (by decide) (by omega) (fun H8 hwx hz8 hq8 => ?_)
                have hwx : Ai G H8 (a + 3) 24 (upd (upd fw ((3 * w2) + 0) (nI x1)) ((3 * w2) + (0 + 1)) (nI x2)) := hwx
                have hm := hm.kept (hq8 _ (by omega))
                have hTx := hTx.kept (hq8 _ (by omega))
                have hF : ∀ q : Nat, q ≠ a ∧ q ≠ a + 3 → H8[q]? = H[q]? := fun q hq => (hq8 q (by omega)).trans (hF q hq)
                refine a_iincN (q := 1) (lv' := [(1, .int (nI (0 + 1 + 1))), (2, .int (nI x2)), (0, .ref a)]) dX7_readsWord_69 rfl (by decide) rfl ?_
                refine a_goto 27 dX7_readsWord_72 (by decide) ?_
                refine a_iload_n 0 dX7_readsWord_27 rfl rfl ?_
                refine a_iconst 3 dX7_readsWord_28 (by decide) ?_
                refine a_icmpgeN (a := 0 + 1 + 1) (b := 3) 75 dX7_readsWord_29 (by decide) (by omega) (by omega) (fun c29_9 => ?_) (fun c29_9 => ?_)
                · skip
                  omega
                · skip
                  refine a_aload_n 2 dX7_readsWord_32 rfl rfl ?_
                  refine a_iload_n 0 dX7_readsWord_33 rfl rfl ?_
                  refine a_ifneN (a := 0 + 1 + 1) 43 dX7_readsWord_34 (by decide) (by omega) (fun c34_10 => ?_) (fun c34_10 => ?_)
                  · skip
                    refine a_bipush 99 dX7_readsWord_43 (by decide) ?_
                    have hnb3 := nuF_b (tx := tx) (L := L) (m := 99) (kd := 0) (pl := p2) hL9 (by omega) (by decide)
                    rw [hu3] at hnb3
                    dsimp only at hnb3
                    have hO3 : Mo G H8 a tx L fp (nI (p2)) rf (nI w2) rx ir kb n nv ct nx sd sn bn := ⟨by unfold mxL; exact hm, ⟨fT, hTx, eT⟩, hL9, hT8⟩
                    refine a_callVi (As := [.int 99]) (rest := []) (d := 2) (mc := 0) (ms := 0) (x := if k3 = 0 then nI x3 else -1) (ci := 7) l_X7_84 im_X7_number se_X7_number ⟨_, rfl, rfl⟩ dX7_readsWord_45 ⟨Nat.le_of_ble_eq_true rfl, Nat.le_of_ble_eq_true rfl⟩ rfl (Nat.le_of_ble_eq_true rfl) ⟨Nat.le_of_ble_eq_true rfl, Nat.le_of_ble_eq_true rfl⟩ hm (c_X7_num hu3 (by omega) (by decide) hO3 hB) (fun H11 hp11 => ?_)
                    obtain ⟨hQ3, hfr3⟩ := hp11
                    obtain ⟨hm, ⟨fT, hTx, eT⟩, -, -⟩ := id hQ3
                    unfold mxL at hm
                    have hwx := hwx.kept (H1 := H11) (hfr3 _ (by omega))
                    have hF : ∀ q : Nat, q ≠ a ∧ q ≠ a + 3 → H11[q]? = H[q]? := fun q hq => (hfr3 q (by omega)).trans (hF q hq)
                    refine a_istore_n (lv' := [(2, .int (if k3 = 0 then nI x3 else -1)), (1, .int (nI (0 + 1 + 1))), (0, .ref a)]) dX7_readsWord_48 rfl (by decide) rfl ?_
                    refine a_iload_n 0 dX7_readsWord_49 rfl rfl ?_
                    refine a_ifge 55 dX7_readsWord_50 (by decide) (fun c50_12 => ?_) (fun c50_12 => ?_)
                    · skip
                      have h1 : k3 = 0 := nu_pos (x := x3) (Int32.not_lt.mpr (by assumption))
                      subst h1
                      rw [if_pos rfl] at hm
                      refine a_aload_n 2 dX7_readsWord_55 rfl rfl ?_
                      refine a_get f_X7_20 dX7_readsWord_56 hm rfl ?_
                      refine a_iconst 3 dX7_readsWord_59 (by decide) ?_
                      refine a_aload_n 2 dX7_readsWord_60 rfl rfl ?_
                      refine a_get f_X7_91 dX7_readsWord_61 hm rfl ?_
                      refine a_imulN (a := 3) (b := w2) dX7_readsWord_64 ?_
                      refine a_iload_n 1 dX7_readsWord_65 rfl rfl ?_
                      refine a_iaddN (a := 3 * w2) (b := 0 + 1 + 1) dX7_readsWord_66 ?_
                      refine a_iload_n 0 dX7_readsWord_67 rfl rfl ?_
                      refine a_toeq (nI x3) (if_pos rfl) ?_
                      refine a_iastN (j := (3 * w2) + (0 + 1 + 1)) dX7_readsWord_68 hwx (by omega) (by decide) (by omega) (fun H13 hwx hz13 hq13 => ?_)
                      have hwx : Ai G H13 (a + 3) 24 (upd (upd (upd fw ((3 * w2) + 0) (nI x1)) ((3 * w2) + (0 + 1)) (nI x2)) ((3 * w2) + (0 + 1 + 1)) (nI x3)) := hwx
                      have hm := hm.kept (hq13 _ (by omega))
                      have hTx := hTx.kept (hq13 _ (by omega))
                      have hF : ∀ q : Nat, q ≠ a ∧ q ≠ a + 3 → H13[q]? = H[q]? := fun q hq => (hq13 q (by omega)).trans (hF q hq)
                      refine a_iincN (q := 1) (lv' := [(1, .int (nI (0 + 1 + 1 + 1))), (2, .int (nI x3)), (0, .ref a)]) dX7_readsWord_69 rfl (by decide) rfl ?_
                      refine a_goto 27 dX7_readsWord_72 (by decide) ?_
                      refine a_iload_n 0 dX7_readsWord_27 rfl rfl ?_
                      refine a_iconst 3 dX7_readsWord_28 (by decide) ?_
                      refine a_icmpgeN (a := 0 + 1 + 1 + 1) (b := 3) 75 dX7_readsWord_29 (by decide) (by omega) (by omega) (fun c29_14 => ?_) (fun c29_14 => ?_)
                      · skip
                        refine a_aload_n 2 dX7_readsWord_75 rfl rfl ?_
                        refine a_dup dX7_readsWord_76 rfl ?_
                        refine a_get f_X7_91 dX7_readsWord_77 hm rfl ?_
                        refine a_iconst 1 dX7_readsWord_80 (by decide) ?_
                        refine a_iaddN (a := w2) (b := 1) dX7_readsWord_81 ?_
                        refine a_put f_X7_91 p_X7_91 dX7_readsWord_82 hm (Nat.le_of_ble_eq_true rfl) rfl rfl (by omega) (fun H15 hm hz15 hq15 => ?_)
                        have hm : Ob G H15 a 7 [.int (nI L), .ref (a + 1), .int fp, .int (nI p3), .int rf, .int (nI (w2 + 1)), .int rx, .ref (a + 2), .ref (a + 3), .ref (a + 4), .int (bI ir), .int (bI kb), .int (nI n), .int (nI nv), .ref (a + 5), .ref (a + 6), .ref (a + 7), .ref (a + 8), .int (nI ct), .int (nI nx), .ref (a + 9), .long (lN sd), .int (nI sn), .ref (a + 10), .int (nI bn), .ref (a + 11), .ref (a + 12), .ref (a + 13), .ref (a + 14)] := hm
                        have hTx := hTx.kept (hq15 _ (by omega))
                        have hwx := hwx.kept (hq15 _ (by omega))
                        have hF : ∀ q : Nat, q ≠ a ∧ q ≠ a + 3 → H15[q]? = H[q]? := fun q hq => (hq15 q (by omega)).trans (hF q hq)
                        refine a_aload_n 2 dX7_readsWord_85 rfl rfl ?_
                        have hO4 : Mo G H15 a tx L fp (nI p3) rf (nI (w2 + 1)) rx ir kb n nv ct nx sd sn bn := ⟨by unfold mxL; exact hm, ⟨fT, hTx, eT⟩, hL9, hT8⟩
                        refine a_callVi (As := []) (rest := []) (d := 2) (mc := 0) (ms := 0) (x := bI (decide (k4 = 0))) (ci := 7) l_X7_87 im_X7_ends se_X7_ends ⟨_, rfl, rfl⟩ dX7_readsWord_86 ⟨Nat.le_of_ble_eq_true rfl, Nat.le_of_ble_eq_true rfl⟩ rfl (Nat.le_of_ble_eq_true rfl) ⟨Nat.le_of_ble_eq_true rfl, Nat.le_of_ble_eq_true rfl⟩ hm (c_X7_end hen (by omega) hO4 hB) (fun H16 hp16 => ?_)
                        obtain ⟨hO5, hfr5⟩ := hp16
                        have hwx := hwx.kept (H1 := H16) (hfr5 _ (by omega))
                        have hF : ∀ q : Nat, q ≠ a ∧ q ≠ a + 3 → H16[q]? = H[q]? := fun q hq => (hfr5 q (by omega)).trans (hF q hq)
                        refine a_ret dX7_readsWord_89 ⟨⟨ri ?_, ?_⟩, rfl, rfl⟩
                        · rfl
                        · exact ⟨_, hO5, ⟨_, hwx, fun _ => ⟨rfl, w3_up ew⟩⟩, hF⟩
                      · skip
                        omega
                    · skip
                      have h1 : ¬ k3 = 0 := nu_neg (x := x3) (by omega) (Int32.not_le.mp (by assumption))
                      obtain ⟨rfl, rfl⟩ := en_k hen h1
                      refine a_iconst 0 dX7_readsWord_53 (by decide) ?_
                      refine a_ret dX7_readsWord_54 ⟨⟨ri ?_, ?_⟩, rfl, rfl⟩
                      · rw [decide_eq_false h1]; rfl
                      · exact ⟨_, ⟨by unfold mxL; exact hm, ⟨fT, hTx, eT⟩, hL9, hT8⟩, ⟨_, hwx, fun h => absurd h h1⟩, hF⟩
                  · skip
                    omega
              · skip
                have h1 : ¬ k2 = 0 := nu_neg (x := x2) (by omega) (Int32.not_le.mp (by assumption))
                obtain ⟨rfl, rfl⟩ := nu_k hu3 h1
                obtain ⟨rfl, rfl⟩ := en_k hen h1
                refine a_iconst 0 dX7_readsWord_53 (by decide) ?_
                refine a_ret dX7_readsWord_54 ⟨⟨ri ?_, ?_⟩, rfl, rfl⟩
                · rw [decide_eq_false h1]; rfl
                · exact ⟨_, ⟨by unfold mxL; exact hm, ⟨fT, hTx, eT⟩, hL9, hT8⟩, ⟨_, hwx, fun h => absurd h h1⟩, hF⟩
            · skip
              omega
        · skip
          have h1 : ¬ k1 = 0 := nu_neg (x := x1) (by omega) (Int32.not_le.mp (by assumption))
          obtain ⟨rfl, rfl⟩ := nu_k hu2 h1
          obtain ⟨rfl, rfl⟩ := nu_k hu3 h1
          obtain ⟨rfl, rfl⟩ := en_k hen h1
          refine a_iconst 0 dX7_readsWord_53 (by decide) ?_
          refine a_ret dX7_readsWord_54 ⟨⟨ri ?_, ?_⟩, rfl, rfl⟩
          · rw [decide_eq_false h1]; rfl
          · exact ⟨_, ⟨by unfold mxL; exact hm, ⟨fT, hTx, eT⟩, hL9, hT8⟩, ⟨_, hwx, fun h => absurd h h1⟩, hF⟩
  · skip
    omega
