/-! ===== BEGIN BeansBoxModel: how it reads ===== -/
def Mo (G : GT) (H : Heap) (a : Nat) (tx : Nat → Nat) (L : Nat) (fp ra rf rw rx : Int32) (ir kb : Bool) (n nv ct nx sd sn bn : Nat) : Prop := Ob G H a 7 (mxL a L fp ra rf rw rx ir kb n nv ct nx sd sn bn) ∧ (∃ f : DD, Ai G H (a + 1) 240 f ∧ ∀ i, i < L → f i = nI (tx i)) ∧ L ≤ 240 ∧ ∀ i, i < L → tx i < 256
theorem Mo.kept {G : GT} {H H1 : Heap} {a : Nat} {tx : Nat → Nat} {L : Nat} {fp ra rf rw rx : Int32} {ir kb : Bool} {n nv ct nx sd sn bn : Nat} (h : Mo G H a tx L fp ra rf rw rx ir kb n nv ct nx sd sn bn) (h1 : H1[a]? = H[a]?) (h2 : H1[a + 1]? = H[a + 1]?) : Mo G H1 a tx L fp ra rf rw rx ir kb n nv ct nx sd sn bn := by
  obtain ⟨g1, ⟨f, g2, g3⟩, g4⟩ := h
  exact ⟨g1.kept h1, ⟨f, g2.kept h2, g3⟩, g4⟩
/-- the letter that stands at i -/
def lT (tx : Nat → Nat) (L i : Nat) : Int32 := if i < L then nI (tx i) else -1
theorem lT_eq {tx : Nat → Nat} {L p c : Nat} (hc : c < 256) (ht : ∀ i, i < L → tx i < 256) (h : lT tx L p = nI c) : p < L ∧ tx p = c := by
  unfold lT at h
  by_cases e : p < L
  · rw [if_pos e] at h
    have := ht p e
    exact ⟨e, (nI_eq (by omega) (by omega)).mp h⟩
  · rw [if_neg e] at h
    exact absurd h.symm (nI_nm1 _ (by omega))
theorem lT_ne {tx : Nat → Nat} {L p c : Nat} (h : ¬ lT tx L p = nI c) : ¬ (p < L ∧ tx p = c) := by
  intro h2
  unfold lT at h
  rw [if_pos h2.1, h2.2] at h
  exact h rfl
theorem lT_in {tx : Nat → Nat} {L p : Nat} (ht : ∀ i, i < L → tx i < 256) : inF (lT tx L p) 48 57 = decide (p < L ∧ (48 ≤ tx p ∧ tx p ≤ 57)) := by
  unfold lT
  by_cases e : p < L
  · have h1 := ht p e
    rw [if_pos e]
    show inF (nI (tx p)) (nI 48) (nI 57) = _
    by_cases h2 : tx p < 48
    · rw [inF_f1 ((nI_ltI (b := 48) (by omega) (by omega)).mpr h2), decide_eq_false (by omega)]
    · by_cases h3 : tx p ≤ 57
      · rw [inF_t (fun h => h2 ((nI_ltI (b := 48) (by omega) (by omega)).mp h)) (Int32.not_lt.mp (fun h => absurd ((nI_ltI (a := 57) (by omega) (by omega)).mp h) (by omega))), decide_eq_true (by omega)]
      · rw [inF_f2 (Int32.not_le.mpr ((nI_ltI (a := 57) (b := tx p) (by omega) (by omega)).mpr (by omega))), decide_eq_false (by omega)]
  · rw [if_neg e, decide_eq_false (by omega)]
    decide
theorem vF_lt {tx : Nat → Nat} {p : Nat} (k : Nat) (hk : k ≤ 3) (h : ∀ j, j < k → 48 ≤ tx (p + j) ∧ tx (p + j) ≤ 57) : vF tx p k < 10 ^ k := by
  induction k with
  | zero => exact Nat.one_pos
  | succ k ih =>
    have h1 := ih (by omega) (fun j hj => h j (by omega))
    have h2 := h k (by omega)
    simp only [vF]
    rw [Nat.pow_succ]
    omega
theorem vF_up {tx : Nat → Nat} {p k : Nat} (hk : k < 3) (h : ∀ j, j < k + 1 → 48 ≤ tx (p + j) ∧ tx (p + j) ≤ 57) : vF tx p (k + 1) = 10 * vF tx p k + tx (p + k) - 48 ∧ vF tx p k < 100 := by
  have h1 := vF_lt k (by omega) (fun j hj => h j (by omega))
  have h2 := h k (by omega)
  have h3 : 10 ^ k ≤ 10 ^ 2 := Nat.pow_le_pow_right (by decide) (by omega)
  simp only [vF]
  omega
theorem dg_in {tx : Nat → Nat} {p t : Nat} (hd : ∀ j, p ≤ j → j < t → 48 ≤ tx j ∧ tx j ≤ 57) (ht : 48 ≤ tx t ∧ tx t ≤ 57) (hpt : p ≤ t) : ∀ j, j < t - p + 1 → 48 ≤ tx (p + j) ∧ tx (p + j) ≤ 57 := by
  intro j hj
  by_cases e : p + j < t
  · exact hd _ (by omega) e
  · by_cases e2 : p + j = t
    · rw [e2]; exact ht
    · omega
theorem dg_up {tx : Nat → Nat} {p t : Nat} (hd : ∀ j, p ≤ j → j < t → 48 ≤ tx j ∧ tx j ≤ 57) (ht : 48 ≤ tx t ∧ tx t ≤ 57) : ∀ j, p ≤ j → j < t + 1 → 48 ≤ tx j ∧ tx j ≤ 57 := by
  intro j h1 h2
  by_cases e : j = t
  · rw [e]; exact ht
  · exact hd j h1 (by omega)
/-! ===== END ===== -/

set_option maxHeartbeats 4000000 in
set_option maxRecDepth 100000 in
theorem c_X7_letterAt {G : GT} {B : Nat} {l : Launch} {H : Heap} {a : Nat} {tx : Nat → Nat} {L : Nat} {fp ra rf rw rx : Int32} {ir kb : Bool} {n nv ct nx sd sn bn : Nat} {i : Nat} (hi : i < 2 ^ 31) (hO : Mo G H a tx L fp ra rf rw rx ir kb n nv ct nx sd sn bn) (hB : B ≤ a) : AM G B l yX7_letterAt cX7_letterAt 2 (some .int) 0 0 0 [.ref a, .int (nI i)] H (fun rv H' => rv = some (.int (lT tx L i)) ∧ (H' = H)) := by
  have hO0 := hO
  obtain ⟨hm, ⟨fT, hTx, eT⟩, hL9, hT8⟩ := hO
  unfold mxL at hm
  refine AM.ofI (lv := [(0, .ref a), (1, .int (nI i))]) (by decide +kernel) (Nat.le_of_ble_eq_true rfl) rfl ?_ (fun _ h => by cases h.1)
  refine a_iload_n 1 dX7_letterAt_0 rfl rfl ?_
  refine a_aload_n 0 dX7_letterAt_1 rfl rfl ?_
  refine a_get f_X7_63 dX7_letterAt_2 hm rfl ?_
  refine a_icmpgeN (a := i) (b := L) 17 dX7_letterAt_5 (by decide) (by omega) (by omega) (fun c5 => ?_) (fun c5 => ?_)
  · skip
    refine a_iconst (-1) dX7_letterAt_17 (by decide) ?_
    refine a_ret dX7_letterAt_18 ⟨⟨ri ?_, ?_⟩, rfl, rfl⟩
    · unfold lT
      rw [if_neg (by omega)]
    · rfl
  · skip
    refine a_aload_n 0 dX7_letterAt_8 rfl rfl ?_
    refine a_get f_X7_7 dX7_letterAt_9 hm rfl ?_
    refine a_iload_n 1 dX7_letterAt_12 rfl rfl ?_
    refine a_ialdN (j := i) dX7_letterAt_13 hTx (by omega) (by decide) ?_
    refine a_toeq (nI (tx i)) (eT _ (by omega)) ?_
    refine a_goto 18 dX7_letterAt_14 (by decide) ?_
    refine a_ret dX7_letterAt_18 ⟨⟨ri ?_, ?_⟩, rfl, rfl⟩
    · unfold lT
      rw [if_pos c5]
    · rfl
set_option maxHeartbeats 4000000 in
set_option maxRecDepth 100000 in
theorem c_X7_fails {G : GT} {B : Nat} {l : Launch} {H : Heap} {a : Nat} {tx : Nat → Nat} {L : Nat} {fp ra rf rw rx : Int32} {ir kb : Bool} {n nv ct nx sd sn bn : Nat} {k : Int32} (hO : Mo G H a tx L fp ra rf rw rx ir kb n nv ct nx sd sn bn) (hB : B ≤ a) : AM G B l yX7_fails cX7_fails 2 (some .boolean) 0 0 0 [.ref a, .int k] H (fun rv H' => rv = some (.int (bI false)) ∧ (Mo G H' a tx L fp ra k rw rx ir kb n nv ct nx sd sn bn ∧ ∀ q : Nat, q ≠ a → H'[q]? = H[q]?)) := by
  have hO0 := hO
  obtain ⟨hm, ⟨fT, hTx, eT⟩, hL9, hT8⟩ := hO
  unfold mxL at hm
  have hF : ∀ q : Nat, q ≠ a → H[q]? = H[q]? := fun _ _ => rfl
  refine AM.ofZ (lv := [(0, .ref a), (1, .int k)]) (by decide +kernel) (Nat.le_of_ble_eq_true rfl) rfl ?_ (fun _ _ h => ⟨_, h.1⟩)
  refine a_aload_n 0 dX7_fails_0 rfl rfl ?_
  refine a_iload_n 1 dX7_fails_1 rfl rfl ?_
  refine a_put f_X7_74 p_X7_74 dX7_fails_2 hm (Nat.le_of_ble_eq_true rfl) rfl rfl (by omega) (fun H1 hm hz1 hq1 => ?_)
  have hm : Ob G H1 a 7 [.int (nI L), .ref (a + 1), .int fp, .int ra, .int k, .int rw, .int rx, .ref (a + 2), .ref (a + 3), .ref (a + 4), .int (bI ir), .int (bI kb), .int (nI n), .int (nI nv), .ref (a + 5), .ref (a + 6), .ref (a + 7), .ref (a + 8), .int (nI ct), .int (nI nx), .ref (a + 9), .long (lN sd), .int (nI sn), .ref (a + 10), .int (nI bn), .ref (a + 11), .ref (a + 12), .ref (a + 13), .ref (a + 14)] := hm
  have hTx := hTx.kept (hq1 _ (by omega))
  have hF : ∀ q : Nat, q ≠ a → H1[q]? = H[q]? := fun q hq => (hq1 q (by omega)).trans (hF q hq)
  refine a_iconst 0 dX7_fails_5 (by decide) ?_
  refine a_ret dX7_fails_6 ⟨⟨ri ?_, ?_⟩, rfl, rfl⟩
  · rfl
  · exact ⟨⟨by unfold mxL; exact hm, ⟨fT, hTx, eT⟩, hL9, hT8⟩, hF⟩
set_option maxHeartbeats 4000000 in
set_option maxRecDepth 100000 in
theorem c_X7_blanks {G : GT} {B : Nat} {l : Launch} {H : Heap} {a : Nat} {tx : Nat → Nat} {L : Nat} {fp rf rw rx : Int32} {ir kb : Bool} {n nv ct nx sd sn bn : Nat} {pl : Nat} (hpl : pl ≤ 240) (hO : Mo G H a tx L fp (nI pl) rf rw rx ir kb n nv ct nx sd sn bn) (hB : B ≤ a) : AM G B l yX7_blanks cX7_blanks 1 none 1 0 0 [.ref a] H (fun rv H' => rv = none ∧ (Mo G H' a tx L fp (nI (sk tx L pl)) rf rw rx ir kb n nv ct nx sd sn bn ∧ ∀ q : Nat, q ≠ a → H'[q]? = H[q]?)) := by
  have hO0 := hO
  obtain ⟨hm, ⟨fT, hTx, eT⟩, hL9, hT8⟩ := hO
  unfold mxL at hm
  have hF : ∀ q : Nat, q ≠ a → H[q]? = H[q]? := fun _ _ => rfl
  refine AM.ofV (lv := [(0, .ref a)]) (by decide +kernel) (ini := false) (fun h => by cases h) (Nat.le_of_ble_eq_true rfl) rfl ?_ (fun _ _ h => h.1)
  have L0 : ∀ (fu : Nat) (p : Nat) (Hk : Heap), p ≤ 240 → Mo G Hk a tx L fp (nI p) rf rw rx ir kb n nv ct nx sd sn bn → sk tx L pl = sk tx L p → (∀ q : Nat, q ≠ a → Hk[q]? = H[q]?) → 240 - p < fu → AW G B l { frames := 1, cells := 0, slots := 0, locals := 27 * 1 } yX7_blanks.cls cX7_blanks 1 false (fun rv H' ce' sl' => (rv = none ∧ (Mo G H' a tx L fp (nI (sk tx L pl)) rf rw rx ir kb n nv ct nx sd sn bn ∧ ∀ q : Nat, q ≠ a → H'[q]? = H[q]?)) ∧ ce' = 0 ∧ sl' = 0) 0 [(0, .ref a)] [] Hk 0 0 := by
    intro fu
    induction fu with
    | zero => intro p Hk hp hO hg hF hm0; exact absurd hm0 (Nat.not_lt_zero _)
    | succ fu ih0 =>
      intro p Hk hp hO hg hF hm0
      have hO1 := hO
      obtain ⟨hm, ⟨fT, hTx, eT⟩, -, -⟩ := id hO
      unfold mxL at hm
      refine a_aload_n 0 dX7_blanks_0 rfl rfl ?_
      refine a_aload_n 0 dX7_blanks_1 rfl rfl ?_
      refine a_get f_X7_67 dX7_blanks_2 hm rfl ?_
      refine a_callVp (As := [.int (nI p)]) (rest := []) (d := 0) (mc := 0) (ms := 0) (x := lT tx L p) (ci := 7) l_X7_70 im_X7_letterAt se_X7_letterAt ⟨_, rfl, rfl⟩ dX7_blanks_5 ⟨Nat.le_of_ble_eq_true rfl, Nat.le_of_ble_eq_true rfl⟩ rfl (Nat.le_of_ble_eq_true rfl) ⟨Nat.le_of_ble_eq_true rfl, Nat.le_of_ble_eq_true rfl⟩ hm (c_X7_letterAt (by omega) hO hB) ?_
      refine a_bipush 32 dX7_blanks_8 (by decide) ?_
      refine a_icmpne 26 dX7_blanks_10 (by decide) (fun c10 => ?_) (fun c10 => ?_)
      · skip
        have hz9 := lT_ne (c := 32) c10
        refine a_retv dX7_blanks_26 ⟨⟨rfl, ?_⟩, rfl, rfl⟩
        · rw [hg, sk_at hz9]
          exact ⟨hO, hF⟩
      · skip
        have hz9 := lT_eq (c := 32) (by decide) hT8 c10
        refine a_aload_n 0 dX7_blanks_13 rfl rfl ?_
        refine a_dup dX7_blanks_14 rfl ?_
        refine a_get f_X7_67 dX7_blanks_15 hm rfl ?_
        refine a_iconst 1 dX7_blanks_18 (by decide) ?_
        refine a_iaddN (a := p) (b := 1) dX7_blanks_19 ?_
        refine a_put f_X7_67 p_X7_67 dX7_blanks_20 hm (Nat.le_of_ble_eq_true rfl) rfl rfl (by omega) (fun H2 hm hz2 hq2 => ?_)
        have hm : Ob G H2 a 7 [.int (nI L), .ref (a + 1), .int fp, .int (nI (p + 1)), .int rf, .int rw, .int rx, .ref (a + 2), .ref (a + 3), .ref (a + 4), .int (bI ir), .int (bI kb), .int (nI n), .int (nI nv), .ref (a + 5), .ref (a + 6), .ref (a + 7), .ref (a + 8), .int (nI ct), .int (nI nx), .ref (a + 9), .long (lN sd), .int (nI sn), .ref (a + 10), .int (nI bn), .ref (a + 11), .ref (a + 12), .ref (a + 13), .ref (a + 14)] := hm
        have hTx := hTx.kept (hq2 _ (by omega))
        have hF : ∀ q : Nat, q ≠ a → H2[q]? = H[q]? := fun q hq => (hq2 q (by omega)).trans (hF q hq)
        refine a_goto 0 dX7_blanks_23 (by decide) ?_
        exact ih0 (p + 1) _ (by omega) ⟨by unfold mxL; exact hm, ⟨fT, hTx, eT⟩, hL9, hT8⟩ (by rw [hg, sk_go hz9.1 hz9.2]) hF (by omega)
  exact L0 _ pl _ hpl hO0 rfl hF (Nat.lt_succ_self _)
set_option maxHeartbeats 4000000 in
set_option maxRecDepth 100000 in
theorem c_X7_ends {G : GT} {B : Nat} {l : Launch} {H : Heap} {a : Nat} {tx : Nat → Nat} {L : Nat} {fp rf rw rx : Int32} {ir kb : Bool} {n nv ct nx sd sn bn : Nat} {pl : Nat} (hpl : pl ≤ 240) (hO : Mo G H a tx L fp (nI pl) rf rw rx ir kb n nv ct nx sd sn bn) (hB : B ≤ a) : AM G B l yX7_ends cX7_ends 1 (some .boolean) 2 0 0 [.ref a] H (fun rv H' => rv = some (.int (bI (decide ((enF tx L 0 pl).1 = 0)))) ∧ (Mo G H' a tx L fp (nI (enF tx L 0 pl).2) (if (enF tx L 0 pl).1 = 0 then rf else nI (enF tx L 0 pl).1) rw rx ir kb n nv ct nx sd sn bn ∧ ∀ q : Nat, q ≠ a → H'[q]? = H[q]?)) := by
  have hO0 := hO
  obtain ⟨hm, ⟨fT, hTx, eT⟩, hL9, hT8⟩ := hO
  unfold mxL at hm
  have hskb := sk_b tx L pl
  have hF : ∀ q : Nat, q ≠ a → H[q]? = H[q]? := fun _ _ => rfl
  refine AM.ofZ (lv := [(0, .ref a)]) (by decide +kernel) (Nat.le_of_ble_eq_true rfl) rfl ?_ (fun _ _ h => ⟨_, h.1⟩)
  refine a_aload_n 0 dX7_ends_0 rfl rfl ?_
  refine a_callVv (As := []) (rest := []) (d := 1) (mc := 0) (ms := 0) (ci := 7) l_X7_77 im_X7_blanks se_X7_blanks ⟨_, rfl, rfl⟩ dX7_ends_1 ⟨Nat.le_of_ble_eq_true rfl, Nat.le_of_ble_eq_true rfl⟩ rfl (Nat.le_of_ble_eq_true rfl) ⟨Nat.le_of_ble_eq_true rfl, Nat.le_of_ble_eq_true rfl⟩ hm (c_X7_blanks (by omega) hO0 hB) (fun H1 hp1 => ?_)
  obtain ⟨hO1, hfr⟩ := hp1
  obtain ⟨hm, ⟨fT, hTx, eT⟩, -, -⟩ := id hO1
  unfold mxL at hm
  have hF : ∀ q : Nat, q ≠ a → H1[q]? = H[q]? := fun q hq => (hfr q (by omega)).trans (hF q hq)
  refine a_aload_n 0 dX7_ends_4 rfl rfl ?_
  refine a_aload_n 0 dX7_ends_5 rfl rfl ?_
  refine a_get f_X7_67 dX7_ends_6 hm rfl ?_
  refine a_callVp (As := [.int (nI (sk tx L pl))]) (rest := []) (d := 0) (mc := 0) (ms := 0) (x := lT tx L (sk tx L pl)) (ci := 7) l_X7_70 im_X7_letterAt se_X7_letterAt ⟨_, rfl, rfl⟩ dX7_ends_9 ⟨Nat.le_of_ble_eq_true rfl, Nat.le_of_ble_eq_true rfl⟩ rfl (Nat.le_of_ble_eq_true rfl) ⟨Nat.le_of_ble_eq_true rfl, Nat.le_of_ble_eq_true rfl⟩ hm (c_X7_letterAt (by omega) hO1 hB) ?_
  refine a_bipush 59 dX7_ends_12 (by decide) ?_
  refine a_icmpeq 23 dX7_ends_14 (by decide) (fun c14 => ?_) (fun c14 => ?_)
  · skip
    have hz9 := lT_eq (c := 59) (by decide) hT8 c14
    have hE : enF tx L 0 pl = (0, sk tx L pl + 1) := (if_pos rfl).trans (if_pos hz9)
    refine a_aload_n 0 dX7_ends_23 rfl rfl ?_
    refine a_dup dX7_ends_24 rfl ?_
    refine a_get f_X7_67 dX7_ends_25 hm rfl ?_
    refine a_iconst 1 dX7_ends_28 (by decide) ?_
    refine a_iaddN (a := sk tx L pl) (b := 1) dX7_ends_29 ?_
    refine a_put f_X7_67 p_X7_67 dX7_ends_30 hm (Nat.le_of_ble_eq_true rfl) rfl rfl (by omega) (fun H3 hm hz3 hq3 => ?_)
    have hm : Ob G H3 a 7 [.int (nI L), .ref (a + 1), .int fp, .int (nI ((sk tx L pl) + 1)), .int rf, .int rw, .int rx, .ref (a + 2), .ref (a + 3), .ref (a + 4), .int (bI ir), .int (bI kb), .int (nI n), .int (nI nv), .ref (a + 5), .ref (a + 6), .ref (a + 7), .ref (a + 8), .int (nI ct), .int (nI nx), .ref (a + 9), .long (lN sd), .int (nI sn), .ref (a + 10), .int (nI bn), .ref (a + 11), .ref (a + 12), .ref (a + 13), .ref (a + 14)] := hm
    have hTx := hTx.kept (hq3 _ (by omega))
    have hF : ∀ q : Nat, q ≠ a → H3[q]? = H[q]? := fun q hq => (hq3 q (by omega)).trans (hF q hq)
    refine a_iconst 1 dX7_ends_33 (by decide) ?_
    refine a_ret dX7_ends_34 ⟨⟨ri ?_, ?_⟩, rfl, rfl⟩
    · rw [hE]; rfl
    · rw [hE]
      exact ⟨⟨by unfold mxL; exact hm, ⟨fT, hTx, eT⟩, hL9, hT8⟩, hF⟩
  · skip
    have hz9 := lT_ne (c := 59) c14
    have hE : enF tx L 0 pl = (1, sk tx L pl) := (if_pos rfl).trans (if_neg hz9)
    refine a_aload_n 0 dX7_ends_17 rfl rfl ?_
    refine a_iconst 1 dX7_ends_18 (by decide) ?_
    refine a_callVi (As := [.int 1]) (rest := []) (d := 0) (mc := 0) (ms := 0) (x := bI false) (ci := 7) l_X7_80 im_X7_fails se_X7_fails ⟨_, rfl, rfl⟩ dX7_ends_19 ⟨Nat.le_of_ble_eq_true rfl, Nat.le_of_ble_eq_true rfl⟩ rfl (Nat.le_of_ble_eq_true rfl) ⟨Nat.le_of_ble_eq_true rfl, Nat.le_of_ble_eq_true rfl⟩ hm (c_X7_fails hO1 hB) (fun H4 hp4 => ?_)
    obtain ⟨hO2, hfr2⟩ := hp4
    have hF : ∀ q : Nat, q ≠ a → H4[q]? = H[q]? := fun q hq => (hfr2 q (by omega)).trans (hF q hq)
    refine a_ret dX7_ends_22 ⟨⟨ri ?_, ?_⟩, rfl, rfl⟩
    · rw [hE]; rfl
    · rw [hE]
      exact ⟨hO2, hF⟩
set_option maxHeartbeats 4000000 in
set_option maxRecDepth 100000 in
theorem c_X7_number {G : GT} {B : Nat} {l : Launch} {H : Heap} {a : Nat} {tx : Nat → Nat} {L : Nat} {fp rf rw rx : Int32} {ir kb : Bool} {n nv ct nx sd sn bn : Nat} {pl m : Nat} (hpl : pl ≤ 240) (hm9 : m ≤ 999) (hO : Mo G H a tx L fp (nI pl) rf rw rx ir kb n nv ct nx sd sn bn) (hB : B ≤ a) : AM G B l yX7_number cX7_number 5 (some .int) 2 0 0 [.ref a, .int (nI m)] H (fun rv H' => rv = some (.int (if (nuF tx L m 0 pl).1 = 0 then nI (nuF tx L m 0 pl).2.2 else -1)) ∧ (Mo G H' a tx L fp (nI (nuF tx L m 0 pl).2.1) (if (nuF tx L m 0 pl).1 = 0 then rf else nI (nuF tx L m 0 pl).1) rw rx ir kb n nv ct nx sd sn bn ∧ ∀ q : Nat, q ≠ a → H'[q]? = H[q]?)) := by
  have hO0 := hO
  obtain ⟨hm, ⟨fT, hTx, eT⟩, hL9, hT8⟩ := hO
  unfold mxL at hm
  have hskb := sk_b tx L pl
  have hF : ∀ q : Nat, q ≠ a → H[q]? = H[q]? := fun _ _ => rfl
  refine AM.ofI (lv := [(0, .ref a), (1, .int (nI m))]) (by decide +kernel) (Nat.le_of_ble_eq_true rfl) rfl ?_ (fun _ h => by cases h.1)
  refine a_aload_n 0 dX7_number_0 rfl rfl ?_
  refine a_callVv (As := []) (rest := []) (d := 1) (mc := 0) (ms := 0) (ci := 7) l_X7_77 im_X7_blanks se_X7_blanks ⟨_, rfl, rfl⟩ dX7_number_1 ⟨Nat.le_of_ble_eq_true rfl, Nat.le_of_ble_eq_true rfl⟩ rfl (Nat.le_of_ble_eq_true rfl) ⟨Nat.le_of_ble_eq_true rfl, Nat.le_of_ble_eq_true rfl⟩ hm (c_X7_blanks (by omega) hO0 hB) (fun H1 hp1 => ?_)
  obtain ⟨hO1, hfr⟩ := hp1
  obtain ⟨hm, ⟨fT, hTx, eT⟩, -, -⟩ := id hO1
  unfold mxL at hm
  have hF : ∀ q : Nat, q ≠ a → H1[q]? = H[q]? := fun q hq => (hfr q (by omega)).trans (hF q hq)
  refine a_aload_n 0 dX7_number_4 rfl rfl ?_
  refine a_get f_X7_67 dX7_number_5 hm rfl ?_
  refine a_istore_n (lv' := [(2, .int (nI (sk tx L pl))), (0, .ref a), (1, .int (nI m))]) dX7_number_8 rfl (by decide) rfl ?_
  refine a_iconst 0 dX7_number_9 (by decide) ?_
  refine a_istore_n (lv' := [(3, .int 0), (2, .int (nI (sk tx L pl))), (0, .ref a), (1, .int (nI m))]) dX7_number_10 rfl (by decide) rfl ?_
  have L11 : ∀ (fu : Nat) (t v : Nat), sk tx L pl ≤ t → t ≤ 240 → (∀ j, sk tx L pl ≤ j → j < t → 48 ≤ tx j ∧ tx j ≤ 57) → dg tx L (sk tx L pl) = dg tx L t → v = vF tx (sk tx L pl) (min (t - sk tx L pl) 3) → 240 - t < fu → AW G B l { frames := 2, cells := 0, slots := 0, locals := 27 * 2 } yX7_number.cls cX7_number 5 false (fun rv H' ce' sl' => (rv = some (.int (if (nuF tx L m 0 pl).1 = 0 then nI (nuF tx L m 0 pl).2.2 else -1)) ∧ (Mo G H' a tx L fp (nI (nuF tx L m 0 pl).2.1) (if (nuF tx L m 0 pl).1 = 0 then rf else nI (nuF tx L m 0 pl).1) rw rx ir kb n nv ct nx sd sn bn ∧ ∀ q : Nat, q ≠ a → H'[q]? = H[q]?)) ∧ ce' = 0 ∧ sl' = 0) 11 [(0, .ref a), (1, .int (nI m)), (2, .int (nI t)), (3, .int (nI v))] [] H1 0 0 := by
    intro fu
    induction fu with
    | zero => intro t v ht1 ht2 hd9 hg hv hm11; exact absurd hm11 (Nat.not_lt_zero _)
    | succ fu ih11 =>
      intro t v ht1 ht2 hd9 hg hv hm11
      have hvl := vF_le (tx := tx) (f := sk tx L pl) (k := min (t - sk tx L pl) 3)
      refine a_aload_n 0 dX7_number_11 rfl rfl ?_
      refine a_iload_n 2 dX7_number_12 rfl rfl ?_
      refine a_callVp (As := [.int (nI t)]) (rest := []) (d := 0) (mc := 0) (ms := 0) (x := lT tx L t) (ci := 7) l_X7_70 im_X7_letterAt se_X7_letterAt ⟨_, rfl, rfl⟩ dX7_number_13 ⟨Nat.le_of_ble_eq_true rfl, Nat.le_of_ble_eq_true rfl⟩ rfl (Nat.le_of_ble_eq_true rfl) ⟨Nat.le_of_ble_eq_true rfl, Nat.le_of_ble_eq_true rfl⟩ hm (c_X7_letterAt (by omega) hO1 hB) ?_
      refine a_bipush 48 dX7_number_16 (by decide) ?_
      refine a_bipush 57 dX7_number_18 (by decide) ?_
      refine a_callSp (As := [.int (lT tx L t), .int 48, .int 57]) (rest := []) (d := 0) (mc := 0) (ms := 0) (x := bI (decide (t < L ∧ (48 ≤ tx t ∧ tx t ≤ 57)))) l_X7_58 st_X7_in dX7_number_20 ⟨Nat.le_of_ble_eq_true rfl, Nat.le_of_ble_eq_true rfl⟩ rfl (Nat.le_of_ble_eq_true rfl) ⟨Nat.le_of_ble_eq_true rfl, Nat.le_of_ble_eq_true rfl⟩ ((by rw [← lT_in hT8]; exact c_X7_in)) ?_
      refine a_ifeqB 60 dX7_number_23 (by decide) (fun c23 => ?_) (fun c23 => ?_)
      · skip
        have hz9 := of_decide_eq_false c23
        refine a_iload_n 2 dX7_number_60 rfl rfl ?_
        refine a_aload_n 0 dX7_number_61 rfl rfl ?_
        refine a_get f_X7_67 dX7_number_62 hm rfl ?_
        have hdt : dg tx L (sk tx L pl) = t := by rw [hg, dg_at hz9]
        refine a_isubN (a := t) (b := sk tx L pl) dX7_number_65 (by omega) ?_
        refine a_istore (lv' := [(4, .int (nI (t - (sk tx L pl)))), (0, .ref a), (1, .int (nI m)), (2, .int (nI t)), (3, .int (nI v))]) dX7_number_66 (by decide) rfl ?_
        refine a_iload 0 dX7_number_68 rfl ?_
        refine a_ifeqN (a := t - (sk tx L pl)) 84 dX7_number_70 (by decide) (by omega) (fun c70 => ?_) (fun c70 => ?_)
        · skip
          have hE : nuF tx L m 0 pl = (1, sk tx L pl, 0) := (if_pos rfl).trans (if_pos (by omega))
          refine a_aload_n 1 dX7_number_84 rfl rfl ?_
          refine a_iload 0 dX7_number_85 rfl ?_
          refine a_ifneN (a := t - (sk tx L pl)) 94 dX7_number_87 (by decide) (by omega) (fun c87 => ?_) (fun c87 => ?_)
          · skip
            omega
          · skip
            refine a_iconst 1 dX7_number_90 (by decide) ?_
            refine a_goto 95 dX7_number_91 (by decide) ?_
            refine a_callVi (As := [.int 1]) (rest := []) (d := 0) (mc := 0) (ms := 0) (x := bI false) (ci := 7) l_X7_80 im_X7_fails se_X7_fails ⟨_, rfl, rfl⟩ dX7_number_95 ⟨Nat.le_of_ble_eq_true rfl, Nat.le_of_ble_eq_true rfl⟩ rfl (Nat.le_of_ble_eq_true rfl) ⟨Nat.le_of_ble_eq_true rfl, Nat.le_of_ble_eq_true rfl⟩ hm (c_X7_fails hO1 hB) (fun H4 hp4 => ?_)
            obtain ⟨hO2, hfr2⟩ := hp4
            have hF : ∀ q : Nat, q ≠ a → H4[q]? = H[q]? := fun q hq => (hfr2 q (by omega)).trans (hF q hq)
            refine a_pop dX7_number_98 rfl ?_
            refine a_iconst (-1) dX7_number_99 (by decide) ?_
            refine a_ret dX7_number_100 ⟨⟨ri ?_, ?_⟩, rfl, rfl⟩
            · rw [hE]; rfl
            · rw [hE]
              exact ⟨hO2, hF⟩
        · skip
          have h70 : ¬ dg tx L (sk tx L pl) = sk tx L pl := by omega
          refine a_iload 0 dX7_number_73 rfl ?_
          refine a_iconst 3 dX7_number_75 (by decide) ?_
          refine a_icmpgtN (a := t - (sk tx L pl)) (b := 3) 84 dX7_number_76 (by decide) (by omega) (by omega) (fun c76 => ?_) (fun c76 => ?_)
          · skip
            have hE : nuF tx L m 0 pl = (2, sk tx L pl, vF tx (sk tx L pl) (dg tx L (sk tx L pl) - sk tx L pl)) := (if_pos rfl).trans ((if_neg h70).trans (if_pos (Or.inl (by omega))))
            refine a_aload_n 1 dX7_number_84 rfl rfl ?_
            refine a_iload 0 dX7_number_85 rfl ?_
            refine a_ifneN (a := t - (sk tx L pl)) 94 dX7_number_87 (by decide) (by omega) (fun c87 => ?_) (fun c87 => ?_)
            · skip
              refine a_iconst 2 dX7_number_94 (by decide) ?_
              refine a_callVi (As := [.int 2]) (rest := []) (d := 0) (mc := 0) (ms := 0) (x := bI false) (ci := 7) l_X7_80 im_X7_fails se_X7_fails ⟨_, rfl, rfl⟩ dX7_number_95 ⟨Nat.le_of_ble_eq_true rfl, Nat.le_of_ble_eq_true rfl⟩ rfl (Nat.le_of_ble_eq_true rfl) ⟨Nat.le_of_ble_eq_true rfl, Nat.le_of_ble_eq_true rfl⟩ hm (c_X7_fails hO1 hB) (fun H5 hp5 => ?_)
              obtain ⟨hO2, hfr2⟩ := hp5
              have hF : ∀ q : Nat, q ≠ a → H5[q]? = H[q]? := fun q hq => (hfr2 q (by omega)).trans (hF q hq)
              refine a_pop dX7_number_98 rfl ?_
              refine a_iconst (-1) dX7_number_99 (by decide) ?_
              refine a_ret dX7_number_100 ⟨⟨ri ?_, ?_⟩, rfl, rfl⟩
              · rw [hE]; rfl
              · rw [hE]
                exact ⟨hO2, hF⟩
            · skip
              omega
          · skip
            have hv3 : vF tx (sk tx L pl) (dg tx L (sk tx L pl) - sk tx L pl) = v := by rw [hdt, hv, show min (t - sk tx L pl) 3 = t - sk tx L pl by omega]
            refine a_iload_n 4 dX7_number_79 rfl rfl ?_
            refine a_iload_n 2 dX7_number_80 rfl rfl ?_
            refine a_icmpleN (a := v) (b := m) 101 dX7_number_81 (by decide) (by omega) (by omega) (fun c81 => ?_) (fun c81 => ?_)
            · skip
              have hE : nuF tx L m 0 pl = (0, t, v) := (if_pos rfl).trans ((if_neg h70).trans ((if_neg (by omega)).trans (by rw [hv3, hdt])))
              refine a_aload_n 1 dX7_number_101 rfl rfl ?_
              refine a_iload_n 3 dX7_number_102 rfl rfl ?_
              refine a_put f_X7_67 p_X7_67 dX7_number_103 hm (Nat.le_of_ble_eq_true rfl) rfl rfl (by omega) (fun H6 hm hz6 hq6 => ?_)
              have hm : Ob G H6 a 7 [.int (nI L), .ref (a + 1), .int fp, .int (nI t), .int rf, .int rw, .int rx, .ref (a + 2), .ref (a + 3), .ref (a + 4), .int (bI ir), .int (bI kb), .int (nI n), .int (nI nv), .ref (a + 5), .ref (a + 6), .ref (a + 7), .ref (a + 8), .int (nI ct), .int (nI nx), .ref (a + 9), .long (lN sd), .int (nI sn), .ref (a + 10), .int (nI bn), .ref (a + 11), .ref (a + 12), .ref (a + 13), .ref (a + 14)] := hm
              have hTx := hTx.kept (hq6 _ (by omega))
              have hF : ∀ q : Nat, q ≠ a → H6[q]? = H[q]? := fun q hq => (hq6 q (by omega)).trans (hF q hq)
              refine a_iload_n 4 dX7_number_106 rfl rfl ?_
              refine a_ret dX7_number_107 ⟨⟨ri ?_, ?_⟩, rfl, rfl⟩
              · rw [hE]; rfl
              · rw [hE]
                exact ⟨⟨by unfold mxL; exact hm, ⟨fT, hTx, eT⟩, hL9, hT8⟩, hF⟩
            · skip
              have hE : nuF tx L m 0 pl = (2, sk tx L pl, vF tx (sk tx L pl) (dg tx L (sk tx L pl) - sk tx L pl)) := (if_pos rfl).trans ((if_neg h70).trans (if_pos (Or.inr (by omega))))
              refine a_aload_n 1 dX7_number_84 rfl rfl ?_
              refine a_iload 0 dX7_number_85 rfl ?_
              refine a_ifneN (a := t - (sk tx L pl)) 94 dX7_number_87 (by decide) (by omega) (fun c87 => ?_) (fun c87 => ?_)
              · skip
                refine a_iconst 2 dX7_number_94 (by decide) ?_
                refine a_callVi (As := [.int 2]) (rest := []) (d := 0) (mc := 0) (ms := 0) (x := bI false) (ci := 7) l_X7_80 im_X7_fails se_X7_fails ⟨_, rfl, rfl⟩ dX7_number_95 ⟨Nat.le_of_ble_eq_true rfl, Nat.le_of_ble_eq_true rfl⟩ rfl (Nat.le_of_ble_eq_true rfl) ⟨Nat.le_of_ble_eq_true rfl, Nat.le_of_ble_eq_true rfl⟩ hm (c_X7_fails hO1 hB) (fun H7 hp7 => ?_)
                obtain ⟨hO2, hfr2⟩ := hp7
                have hF : ∀ q : Nat, q ≠ a → H7[q]? = H[q]? := fun q hq => (hfr2 q (by omega)).trans (hF q hq)
                refine a_pop dX7_number_98 rfl ?_
                refine a_iconst (-1) dX7_number_99 (by decide) ?_
                refine a_ret dX7_number_100 ⟨⟨ri ?_, ?_⟩, rfl, rfl⟩
                · rw [hE]; rfl
                · rw [hE]
                  exact ⟨hO2, hF⟩
              · skip
                omega
      · skip
        have hz9 := of_decide_eq_true c23
        refine a_iload_n 2 dX7_number_26 rfl rfl ?_
        refine a_aload_n 0 dX7_number_27 rfl rfl ?_
        refine a_get f_X7_67 dX7_number_28 hm rfl ?_
        refine a_isubN (a := t) (b := sk tx L pl) dX7_number_31 (by omega) ?_
        refine a_iconst 3 dX7_number_32 (by decide) ?_
        refine a_icmpgeN (a := t - (sk tx L pl)) (b := 3) 52 dX7_number_33 (by decide) (by omega) (by omega) (fun c33 => ?_) (fun c33 => ?_)
        · skip
          refine a_iload_n 3 dX7_number_52 rfl rfl ?_
          refine a_istore_n (lv' := [(3, .int (nI v)), (0, .ref a), (1, .int (nI m)), (2, .int (nI t))]) dX7_number_53 rfl (by decide) rfl ?_
          refine a_iincN (q := 3) (lv' := [(2, .int (nI (t + 1))), (3, .int (nI v)), (0, .ref a), (1, .int (nI m))]) dX7_number_54 rfl (by decide) rfl ?_
          refine a_goto 11 dX7_number_57 (by decide) ?_
          refine a_sub [2, 3, 0, 1] rfl ?_
          exact ih11 _ _ (by omega) (by omega) (dg_up hd9 hz9.2) (by rw [hg, dg_go hz9.1 hz9.2]) (by rw [hv]; congr 1; omega) (by omega)
        · skip
          have hu9 := vF_up (tx := tx) (p := sk tx L pl) (k := t - sk tx L pl) (by omega) (dg_in hd9 hz9.2 ht1)
          rw [show sk tx L pl + (t - sk tx L pl) = t by omega] at hu9
          rw [show min (t - sk tx L pl) 3 = t - sk tx L pl by omega] at hv
          refine a_bipush 10 dX7_number_36 (by decide) ?_
          refine a_iload_n 3 dX7_number_38 rfl rfl ?_
          refine a_imulN (a := 10) (b := v) dX7_number_39 ?_
          refine a_aload_n 0 dX7_number_40 rfl rfl ?_
          refine a_iload_n 2 dX7_number_41 rfl rfl ?_
          refine a_callVp (As := [.int (nI t)]) (rest := [.int (nI (10 * v))]) (d := 0) (mc := 0) (ms := 0) (x := lT tx L t) (ci := 7) l_X7_70 im_X7_letterAt se_X7_letterAt ⟨_, rfl, rfl⟩ dX7_number_42 ⟨Nat.le_of_ble_eq_true rfl, Nat.le_of_ble_eq_true rfl⟩ rfl (Nat.le_of_ble_eq_true rfl) ⟨Nat.le_of_ble_eq_true rfl, Nat.le_of_ble_eq_true rfl⟩ hm (c_X7_letterAt (by omega) hO1 hB) ?_
          refine a_toeq (nI (tx t)) (if_pos hz9.1) ?_
          refine a_iaddN (a := 10 * v) (b := tx t) dX7_number_45 ?_
          refine a_bipush 48 dX7_number_46 (by decide) ?_
          refine a_isubN (a := (10 * v) + (tx t)) (b := 48) dX7_number_48 (by omega) ?_
          refine a_goto 53 dX7_number_49 (by decide) ?_
          refine a_istore_n (lv' := [(3, .int (nI (((10 * v) + (tx t)) - 48))), (0, .ref a), (1, .int (nI m)), (2, .int (nI t))]) dX7_number_53 rfl (by decide) rfl ?_
          refine a_iincN (q := 3) (lv' := [(2, .int (nI (t + 1))), (3, .int (nI (((10 * v) + (tx t)) - 48))), (0, .ref a), (1, .int (nI m))]) dX7_number_54 rfl (by decide) rfl ?_
          refine a_goto 11 dX7_number_57 (by decide) ?_
          refine a_sub [2, 3, 0, 1] rfl ?_
          exact ih11 _ _ (by omega) (by omega) (dg_up hd9 hz9.2) (by rw [hg, dg_go hz9.1 hz9.2]) (by rw [show min (t + 1 - sk tx L pl) 3 = (t - sk tx L pl) + 1 by omega, hu9.1, hv]) (by omega)
  refine a_sub [2, 3, 1, 0] rfl ?_
  exact L11 _ _ 0 (Nat.le_refl _) (by omega) (fun j h1 h2 => absurd h2 (by omega)) rfl (by rw [Nat.sub_self]; rfl) (Nat.lt_succ_self _)
