/-! ===== BEGIN BeansBoxModel: what changes, what may be undone ===== -/
theorem NA.cg {n : Nat} {f g dd : DD} (hn : n ≤ 8) (h : NA n f dd) (hg : ∀ j, j < 27 → g j = f j) : NA n g dd := by
  obtain ⟨h1, h2, h3, h4, h5, h6⟩ := h
  exact ⟨fun i hi => (hg i (by omega)).trans (h1 i hi), fun i hi => (hg _ (by omega)).trans (h2 i hi), fun i hi => (hg _ (by omega)).trans (h3 i hi), (hg _ (by decide)).trans h4, (hg _ (by decide)).trans h5, (hg _ (by decide)).trans h6⟩
/-- what may be undone: rows in a ring -/
def Mu (G : GT) (H : Heap) (p nx ct n : Nat) (pu : Nat → DD) : Prop := ∃ f : DD, Ai G H p 540 f ∧ (∀ i, i < 20 → vld nx ct i → NA n (fun j => f (27 * i + j)) (pu i)) ∧ nx < 20 ∧ ct ≤ 20
theorem Mu.kept {G : GT} {H H1 : Heap} {p nx ct n : Nat} {pu : Nat → DD} (h : Mu G H p nx ct n pu) (hq : H1[p]? = H[p]?) : Mu G H1 p nx ct n pu := by
  obtain ⟨f, h1, h2⟩ := h
  exact ⟨f, h1.kept hq, h2⟩
theorem vld_up {nx ct i : Nat} (hnx : nx < 20) (hct : ct ≤ 20) (hi : i < 20) (h : vld ((nx + 1) % 20) (min (ct + 1) 20) i) (hne : i ≠ nx) : vld nx ct i := by
  unfold vld at *; omega
theorem cp1 {g f : DD} {b k : Nat} (h : ∀ j, j < k → g (b + j) = f j) : ∀ j, j < k + 1 → upd g (b + k) (f k) (b + j) = f j := by
  intro j hj
  unfold upd
  split
  · next e => rw [show j = k by omega]
  · exact h j (by omega)
theorem cp2 {g h : DD} {b k : Nat} {x : Int32} (hk : k < 27) (hg : ∀ i, ¬ (b ≤ i ∧ i < b + 27) → g i = h i) : ∀ i, ¬ (b ≤ i ∧ i < b + 27) → upd g (b + k) x i = h i := by
  intro i hi
  unfold upd
  split
  · omega
  · exact hg i hi
theorem sdL_eq {sd : Nat} (h : sd < 2 ^ 31) : lN sd * 1103515245 + 12345 - (lN sd * 1103515245 + 12345) / 2147483648 * 2147483648 = lN (sdF sd) := by
  have e1 : (1103515245 : Int64) = lN 1103515245 := rfl
  have e2 : (12345 : Int64) = lN 12345 := rfl
  have e3 : (2147483648 : Int64) = lN 2147483648 := rfl
  rw [e1, e2, e3, lN_mul, lN_add, pk_lRem (by omega) (by decide) (by decide)]
  rfl
theorem drL_eq {sd k : Nat} (h : sdF sd < 2147483648) (hk : 0 < k) (hk2 : k < 100) : (lN (sdF sd) / 65536 - lN (sdF sd) / 65536 / (nI k).toInt64 * (nI k).toInt64).toInt32 = nI (drF sd k) := by
  rw [show (65536 : Int64) = lN 65536 from rfl, nI_l (by omega), pk_lDiv (by omega) (by decide) (by decide), pk_lRem (by omega) (by omega) (by omega), lN_i]
  rfl
/-! ===== END ===== -/

set_option maxHeartbeats 4000000 in
set_option maxRecDepth 100000 in
theorem c_X7_remember {G : GT} {B : Nat} {l : Launch} {H : Heap} {a L : Nat} {fp ra rf rw rx : Int32} {ir kb : Bool} {n nv ct nx sd sn bn : Nat} {ka ks kw : Int32} {kK kV dd : DD} {pu : Nat → DD} (hU : Mu G H (a + 9) nx ct n pu) (hM : Mc G H a L fp ra rf rw rx ir kb n nv ct nx sd sn bn ka ks kw kK kV dd) (hB : B ≤ a) : AM G B l yX7_remember cX7_remember 2 none 0 0 0 [.ref a] H (fun rv H' => rv = none ∧ (Mc G H' a L fp ra rf rw rx ir kb n nv (min (ct + 1) 20) ((nx + 1) % 20) sd sn bn ka ks kw kK kV dd ∧ Mu G H' (a + 9) ((nx + 1) % 20) (min (ct + 1) 20) n (fun i => if i = nx then dd else pu i) ∧ ∀ q : Nat, q ≠ a ∧ q ≠ a + 9 → H'[q]? = H[q]?)) := by
  have hM0 := hM
  obtain ⟨hm, ⟨fB, hBx, eB0, eB1, eB2⟩, ⟨fK, hKx, eK⟩, ⟨fV, hVx, eV⟩, ⟨fN, hNx, eS, eU, eO, e24, e25, e26⟩, hn, hnv⟩ := hM
  unfold mxL at hm
  obtain ⟨fU, hUx, eV9, hnx, hct⟩ := hU
  have hF : ∀ q : Nat, q ≠ a ∧ q ≠ a + 9 → H[q]? = H[q]? := fun _ _ => rfl
  refine AM.ofV (lv := [(0, .ref a)]) (by decide +kernel) (ini := false) (fun h => by cases h) (Nat.le_of_ble_eq_true rfl) rfl ?_ (fun _ _ h => h.1)
  refine a_iconst 0 dX7_remember_0 (by decide) ?_
  refine a_istore_n (lv' := [(1, .int 0), (0, .ref a)]) dX7_remember_1 rfl (by decide) rfl ?_
  have L2 : ∀ (fu : Nat) (k : Nat) (Hk : Heap) (gU : DD), k ≤ 27 → Ob G Hk a 7 [.int (nI L), .ref (a + 1), .int fp, .int ra, .int rf, .int rw, .int rx, .ref (a + 2), .ref (a + 3), .ref (a + 4), .int (bI ir), .int (bI kb), .int (nI n), .int (nI nv), .ref (a + 5), .ref (a + 6), .ref (a + 7), .ref (a + 8), .int (nI ct), .int (nI nx), .ref (a + 9), .long (lN sd), .int (nI sn), .ref (a + 10), .int (nI bn), .ref (a + 11), .ref (a + 12), .ref (a + 13), .ref (a + 14)] → Ai G Hk (a + 5) 3 fB → Ai G Hk (a + 6) 8 fK → Ai G Hk (a + 7) 4 fV → Ai G Hk (a + 8) 27 fN → Ai G Hk (a + 9) 540 gU → (∀ j, j < k → gU (27 * nx + j) = fN j) → (∀ i, ¬ (27 * nx ≤ i ∧ i < 27 * nx + 27) → gU i = fU i) → (∀ q : Nat, q ≠ a ∧ q ≠ a + 9 → Hk[q]? = H[q]?) → 27 - k < fu → AW G B l { frames := 0, cells := 0, slots := 0, locals := 27 * 0 } yX7_remember.cls cX7_remember 2 false (fun rv H' ce' sl' => (rv = none ∧ (Mc G H' a L fp ra rf rw rx ir kb n nv (min (ct + 1) 20) ((nx + 1) % 20) sd sn bn ka ks kw kK kV dd ∧ Mu G H' (a + 9) ((nx + 1) % 20) (min (ct + 1) 20) n (fun i => if i = nx then dd else pu i) ∧ ∀ q : Nat, q ≠ a ∧ q ≠ a + 9 → H'[q]? = H[q]?)) ∧ ce' = 0 ∧ sl' = 0) 2 [(0, .ref a), (1, .int (nI k))] [] Hk 0 0 := by
    intro fu
    induction fu with
    | zero => intro k Hk gU hk hm hBx hKx hVx hNx hUx e1 e2 hF hm2; exact absurd hm2 (Nat.not_lt_zero _)
    | succ fu ih2 =>
      intro k Hk gU hk hm hBx hKx hVx hNx hUx e1 e2 hF hm2
      refine a_iload_n 1 dX7_remember_2 rfl rfl ?_
      refine a_bipush 27 dX7_remember_3 (by decide) ?_
      refine a_icmpgeN (a := k) (b := 27) 34 dX7_remember_5 (by decide) (by omega) (by omega) (fun c5 => ?_) (fun c5 => ?_)
      · skip
        refine a_aload_n 0 dX7_remember_34 rfl rfl ?_
        refine a_aload_n 0 dX7_remember_35 rfl rfl ?_
        refine a_get f_X7_171 dX7_remember_36 hm rfl ?_
        refine a_iconst 1 dX7_remember_39 (by decide) ?_
        refine a_iaddN (a := nx) (b := 1) dX7_remember_40 ?_
        refine a_bipush 20 dX7_remember_41 (by decide) ?_
        refine a_iremN (a := nx + 1) (b := 20) dX7_remember_43 (by omega) (by omega) (by omega) ?_
        refine a_put f_X7_171 p_X7_171 dX7_remember_44 hm (Nat.le_of_ble_eq_true rfl) rfl rfl (by omega) (fun H1 hm hz1 hq1 => ?_)
        have hm : Ob G H1 a 7 [.int (nI L), .ref (a + 1), .int fp, .int ra, .int rf, .int rw, .int rx, .ref (a + 2), .ref (a + 3), .ref (a + 4), .int (bI ir), .int (bI kb), .int (nI n), .int (nI nv), .ref (a + 5), .ref (a + 6), .ref (a + 7), .ref (a + 8), .int (nI ct), .int (nI ((nx + 1) % 20)), .ref (a + 9), .long (lN sd), .int (nI sn), .ref (a + 10), .int (nI bn), .ref (a + 11), .ref (a + 12), .ref (a + 13), .ref (a + 14)] := hm
        have hBx := hBx.kept (hq1 _ (by omega))
        have hKx := hKx.kept (hq1 _ (by omega))
        have hVx := hVx.kept (hq1 _ (by omega))
        have hNx := hNx.kept (hq1 _ (by omega))
        have hUx := hUx.kept (hq1 _ (by omega))
        have hF : ∀ q : Nat, q ≠ a ∧ q ≠ a + 9 → H1[q]? = H[q]? := fun q hq => (hq1 q (by omega)).trans (hF q hq)
        refine a_aload_n 0 dX7_remember_47 rfl rfl ?_
        refine a_dup dX7_remember_48 rfl ?_
        refine a_get f_X7_132 dX7_remember_49 hm rfl ?_
        refine a_aload_n 0 dX7_remember_52 rfl rfl ?_
        refine a_get f_X7_132 dX7_remember_53 hm rfl ?_
        refine a_bipush 20 dX7_remember_56 (by decide) ?_
        refine a_icmpgeN (a := ct) (b := 20) 65 dX7_remember_58 (by decide) (by omega) (by omega) (fun c58 => ?_) (fun c58 => ?_)
        · skip
          refine a_iconst 0 dX7_remember_65 (by decide) ?_
          refine a_iaddN (a := ct) (b := 0) dX7_remember_66 ?_
          refine a_toeq (nI (min (ct + 1) 20)) (congrArg nI (by omega)) ?_
          refine a_put f_X7_132 p_X7_132 dX7_remember_67 hm (Nat.le_of_ble_eq_true rfl) rfl rfl (by omega) (fun H2 hm hz2 hq2 => ?_)
          have hm : Ob G H2 a 7 [.int (nI L), .ref (a + 1), .int fp, .int ra, .int rf, .int rw, .int rx, .ref (a + 2), .ref (a + 3), .ref (a + 4), .int (bI ir), .int (bI kb), .int (nI n), .int (nI nv), .ref (a + 5), .ref (a + 6), .ref (a + 7), .ref (a + 8), .int (nI (min (ct + 1) 20)), .int (nI ((nx + 1) % 20)), .ref (a + 9), .long (lN sd), .int (nI sn), .ref (a + 10), .int (nI bn), .ref (a + 11), .ref (a + 12), .ref (a + 13), .ref (a + 14)] := hm
          have hBx := hBx.kept (hq2 _ (by omega))
          have hKx := hKx.kept (hq2 _ (by omega))
          have hVx := hVx.kept (hq2 _ (by omega))
          have hNx := hNx.kept (hq2 _ (by omega))
          have hUx := hUx.kept (hq2 _ (by omega))
          have hF : ∀ q : Nat, q ≠ a ∧ q ≠ a + 9 → H2[q]? = H[q]? := fun q hq => (hq2 q (by omega)).trans (hF q hq)
          refine a_retv dX7_remember_70 ⟨⟨rfl, ?_⟩, rfl, rfl⟩
          · have hk27 : k = 27 := by omega
            subst hk27
            refine ⟨⟨by unfold mxL; exact hm, ⟨fB, hBx, eB0, eB1, eB2⟩, ⟨fK, hKx, eK⟩, ⟨fV, hVx, eV⟩, ⟨_, hNx, ⟨eS, eU, eO, e24, e25, e26⟩⟩, hn, hnv⟩, ⟨_, hUx, fun i hi hv => ?_, Nat.mod_lt _ (by decide), Nat.min_le_right _ _⟩, hF⟩
            show NA n _ (if i = nx then dd else pu i)
            by_cases e : i = nx
            · rw [if_pos e, e]
              exact NA.cg hn ⟨eS, eU, eO, e24, e25, e26⟩ (fun j hj => e1 j hj)
            · rw [if_neg e]
              exact NA.cg hn (eV9 i hi (vld_up hnx hct hi hv e)) (fun j hj => e2 _ (by omega))
        · skip
          refine a_iconst 1 dX7_remember_61 (by decide) ?_
          refine a_goto 66 dX7_remember_62 (by decide) ?_
          refine a_iaddN (a := ct) (b := 1) dX7_remember_66 ?_
          refine a_toeq (nI (min (ct + 1) 20)) (congrArg nI (by omega)) ?_
          refine a_put f_X7_132 p_X7_132 dX7_remember_67 hm (Nat.le_of_ble_eq_true rfl) rfl rfl (by omega) (fun H3 hm hz3 hq3 => ?_)
          have hm : Ob G H3 a 7 [.int (nI L), .ref (a + 1), .int fp, .int ra, .int rf, .int rw, .int rx, .ref (a + 2), .ref (a + 3), .ref (a + 4), .int (bI ir), .int (bI kb), .int (nI n), .int (nI nv), .ref (a + 5), .ref (a + 6), .ref (a + 7), .ref (a + 8), .int (nI (min (ct + 1) 20)), .int (nI ((nx + 1) % 20)), .ref (a + 9), .long (lN sd), .int (nI sn), .ref (a + 10), .int (nI bn), .ref (a + 11), .ref (a + 12), .ref (a + 13), .ref (a + 14)] := hm
          have hBx := hBx.kept (hq3 _ (by omega))
          have hKx := hKx.kept (hq3 _ (by omega))
          have hVx := hVx.kept (hq3 _ (by omega))
          have hNx := hNx.kept (hq3 _ (by omega))
          have hUx := hUx.kept (hq3 _ (by omega))
          have hF : ∀ q : Nat, q ≠ a ∧ q ≠ a + 9 → H3[q]? = H[q]? := fun q hq => (hq3 q (by omega)).trans (hF q hq)
          refine a_retv dX7_remember_70 ⟨⟨rfl, ?_⟩, rfl, rfl⟩
          · have hk27 : k = 27 := by omega
            subst hk27
            refine ⟨⟨by unfold mxL; exact hm, ⟨fB, hBx, eB0, eB1, eB2⟩, ⟨fK, hKx, eK⟩, ⟨fV, hVx, eV⟩, ⟨_, hNx, ⟨eS, eU, eO, e24, e25, e26⟩⟩, hn, hnv⟩, ⟨_, hUx, fun i hi hv => ?_, Nat.mod_lt _ (by decide), Nat.min_le_right _ _⟩, hF⟩
            show NA n _ (if i = nx then dd else pu i)
            by_cases e : i = nx
            · rw [if_pos e, e]
              exact NA.cg hn ⟨eS, eU, eO, e24, e25, e26⟩ (fun j hj => e1 j hj)
            · rw [if_neg e]
              exact NA.cg hn (eV9 i hi (vld_up hnx hct hi hv e)) (fun j hj => e2 _ (by omega))
      · skip
        refine a_aload_n 0 dX7_remember_8 rfl rfl ?_
        refine a_get f_X7_38 dX7_remember_9 hm rfl ?_
        refine a_bipush 27 dX7_remember_12 (by decide) ?_
        refine a_aload_n 0 dX7_remember_14 rfl rfl ?_
        refine a_get f_X7_171 dX7_remember_15 hm rfl ?_
        refine a_imulN (a := 27) (b := nx) dX7_remember_18 ?_
        refine a_iload_n 1 dX7_remember_19 rfl rfl ?_
        refine a_iaddN (a := 27 * nx) (b := k) dX7_remember_20 ?_
        refine a_aload_n 0 dX7_remember_21 rfl rfl ?_
        refine a_get f_X7_35 dX7_remember_22 hm rfl ?_
        refine a_iload_n 1 dX7_remember_25 rfl rfl ?_
        refine a_ialdN (j := k) dX7_remember_26 hNx (by omega) (by decide) ?_
        refine a_iastN (j := (27 * nx) + k) dX7_remember_27 hUx (by omega) (by decide) (by omega) (fun H4 hUx hz4 hq4 => ?_)
        have hUx : Ai G H4 (a + 9) 540 (upd gU ((27 * nx) + k) (fN k)) := hUx
        have hm := hm.kept (hq4 _ (by omega))
        have hBx := hBx.kept (hq4 _ (by omega))
        have hKx := hKx.kept (hq4 _ (by omega))
        have hVx := hVx.kept (hq4 _ (by omega))
        have hNx := hNx.kept (hq4 _ (by omega))
        have hF : ∀ q : Nat, q ≠ a ∧ q ≠ a + 9 → H4[q]? = H[q]? := fun q hq => (hq4 q (by omega)).trans (hF q hq)
        refine a_iincN (q := 1) (lv' := [(1, .int (nI (k + 1))), (0, .ref a)]) dX7_remember_28 rfl (by decide) rfl ?_
        refine a_goto 2 dX7_remember_31 (by decide) ?_
        refine a_sub [1, 0] rfl ?_
        exact ih2 _ _ _ (by omega) hm hBx hKx hVx hNx hUx (cp1 e1) (cp2 c5 e2) hF (by omega)
  refine a_sub [1, 0] rfl ?_
  exact L2 _ 0 _ _ (Nat.zero_le _) hm hBx hKx hVx hNx hUx (fun j hj => absurd hj (Nat.not_lt_zero _)) (fun _ _ => rfl) hF (Nat.lt_succ_self _)
set_option maxHeartbeats 4000000 in
set_option maxRecDepth 100000 in
theorem c_X7_hears {G : GT} {B : Nat} {l : Launch} {H : Heap} {a L : Nat} {fp ra rf rw rx : Int32} {ir kb : Bool} {n nv ct nx sd sn bn : Nat} {ka ks kw : Int32} {kK kV dd : DD} {c g : Nat} (hR : RG n dd) (hc : c < 1000) (hRK : RK n kK) (hg : guF n dd (nI c) = nI g) (hgn : g < n) (hM : Mc G H a L fp ra rf rw rx ir kb n nv ct nx sd sn bn ka ks kw kK kV dd) (hB : B ≤ a) : AM G B l yX7_hears cX7_hears 4 (some .int) 6 0 0 [.ref a, .int (nI c)] H (fun rv H' => rv = some (.int (ruF n dd kK ka ks (nI c))) ∧ (Mc G H' a L fp ra rf rw rx ir kb n nv ct nx sd sn bn ka ks kw kK kV (hrF dd g (ruF n dd kK ka ks (nI c))) ∧ ∀ q : Nat, q ≠ a + 8 → H'[q]? = H[q]?)) := by
  have hM0 := hM
  obtain ⟨hm, ⟨fB, hBx, eB0, eB1, eB2⟩, ⟨fK, hKx, eK⟩, ⟨fV, hVx, eV⟩, ⟨fN, hNx, eS, eU, eO, e24, e25, e26⟩, hn, hnv⟩ := hM
  unfold mxL at hm
  have hF : ∀ q : Nat, q ≠ a + 8 → H[q]? = H[q]? := fun _ _ => rfl
  refine AM.ofI (lv := [(0, .ref a), (1, .int (nI c))]) (by decide +kernel) (Nat.le_of_ble_eq_true rfl) rfl ?_ (fun _ h => by cases h.1)
  refine a_aload_n 0 dX7_hears_0 rfl rfl ?_
  refine a_iload_n 1 dX7_hears_1 rfl rfl ?_
  refine a_callVp (As := [.int (nI c)]) (rest := []) (d := 5) (mc := 0) (ms := 0) (x := ruF n dd kK ka ks (nI c)) (ci := 7) l_X7_174 im_X7_ruleOf se_X7_ruleOf ⟨_, rfl, rfl⟩ dX7_hears_2 ⟨Nat.le_of_ble_eq_true rfl, Nat.le_of_ble_eq_true rfl⟩ rfl (Nat.le_of_ble_eq_true rfl) ⟨Nat.le_of_ble_eq_true rfl, Nat.le_of_ble_eq_true rfl⟩ hm (c_X7_ruleOf (by omega) hR hc hRK hM0) ?_
  refine a_istore_n (lv' := [(2, .int (ruF n dd kK ka ks (nI c))), (0, .ref a), (1, .int (nI c))]) dX7_hears_5 rfl (by decide) rfl ?_
  refine a_aload_n 1 dX7_hears_6 rfl rfl ?_
  refine a_iload_n 2 dX7_hears_7 rfl rfl ?_
  refine a_callVp (As := [.int (nI c)]) (rest := []) (d := 3) (mc := 0) (ms := 0) (x := nI g) (ci := 7) l_X7_161 im_X7_guessOf se_X7_guessOf ⟨_, rfl, rfl⟩ dX7_hears_8 ⟨Nat.le_of_ble_eq_true rfl, Nat.le_of_ble_eq_true rfl⟩ rfl (Nat.le_of_ble_eq_true rfl) ⟨Nat.le_of_ble_eq_true rfl, Nat.le_of_ble_eq_true rfl⟩ hm ((by rw [← hg]; exact c_X7_guessOf hM0)) ?_
  refine a_istore_n (lv' := [(3, .int (nI g)), (2, .int (ruF n dd kK ka ks (nI c))), (0, .ref a), (1, .int (nI c))]) dX7_hears_11 rfl (by decide) rfl ?_
  refine a_aload_n 2 dX7_hears_12 rfl rfl ?_
  refine a_get f_X7_35 dX7_hears_13 hm rfl ?_
  refine a_bipush 24 dX7_hears_16 (by decide) ?_
  refine a_dup2 dX7_hears_18 rfl rfl ?_
  refine a_ialdN (j := 24) dX7_hears_19 hNx (by omega) (by decide) ?_
  refine a_toeq (dd 24) (e24) ?_
  refine a_iconst 1 dX7_hears_20 (by decide) ?_
  refine a_iadd dX7_hears_21 ?_
  refine a_iastN (j := 24) dX7_hears_22 hNx (by omega) (by decide) (by omega) (fun H3 hNx hz3 hq3 => ?_)
  have hNx : Ai G H3 (a + 8) 27 (upd fN 24 ((dd 24) + 1)) := hNx
  have hm := hm.kept (hq3 _ (by omega))
  have hBx := hBx.kept (hq3 _ (by omega))
  have hKx := hKx.kept (hq3 _ (by omega))
  have hVx := hVx.kept (hq3 _ (by omega))
  have hF : ∀ q : Nat, q ≠ a + 8 → H3[q]? = H[q]? := fun q hq => (hq3 q (by omega)).trans (hF q hq)
  refine a_aload_n 2 dX7_hears_23 rfl rfl ?_
  refine a_get f_X7_35 dX7_hears_24 hm rfl ?_
  refine a_bipush 26 dX7_hears_27 (by decide) ?_
  refine a_iload_n 0 dX7_hears_29 rfl rfl ?_
  refine a_iastN (j := 26) dX7_hears_30 hNx (by omega) (by decide) (by omega) (fun H4 hNx hz4 hq4 => ?_)
  have hNx : Ai G H4 (a + 8) 27 (upd (upd fN 24 ((dd 24) + 1)) 26 (nI g)) := hNx
  have hm := hm.kept (hq4 _ (by omega))
  have hBx := hBx.kept (hq4 _ (by omega))
  have hKx := hKx.kept (hq4 _ (by omega))
  have hVx := hVx.kept (hq4 _ (by omega))
  have hF : ∀ q : Nat, q ≠ a + 8 → H4[q]? = H[q]? := fun q hq => (hq4 q (by omega)).trans (hF q hq)
  refine a_aload_n 2 dX7_hears_31 rfl rfl ?_
  refine a_get f_X7_35 dX7_hears_32 hm rfl ?_
  refine a_bipush 16 dX7_hears_35 (by decide) ?_
  refine a_iload_n 0 dX7_hears_37 rfl rfl ?_
  refine a_iaddN (a := 16) (b := g) dX7_hears_38 ?_
  refine a_iload_n 1 dX7_hears_39 rfl rfl ?_
  refine a_ifne 60 dX7_hears_40 (by decide) (fun c40 => ?_) (fun c40 => ?_)
  · skip
    refine a_aload_n 2 dX7_hears_60 rfl rfl ?_
    refine a_get f_X7_35 dX7_hears_61 hm rfl ?_
    refine a_bipush 16 dX7_hears_64 (by decide) ?_
    refine a_iload_n 0 dX7_hears_66 rfl rfl ?_
    refine a_iaddN (a := 16) (b := g) dX7_hears_67 ?_
    refine a_ialdN (j := 16 + g) dX7_hears_68 hNx (by omega) (by decide) ?_
    refine a_toeq (dd (16 + g)) (by simp only [upd]; rw [if_neg (by omega), if_neg (by omega)]; exact eO _ hgn) ?_
    refine a_iastN (j := 16 + g) dX7_hears_69 hNx (by omega) (by decide) (by omega) (fun H5 hNx hz5 hq5 => ?_)
    have hNx : Ai G H5 (a + 8) 27 (upd (upd (upd fN 24 ((dd 24) + 1)) 26 (nI g)) (16 + g) (dd (16 + g))) := hNx
    have hm := hm.kept (hq5 _ (by omega))
    have hBx := hBx.kept (hq5 _ (by omega))
    have hKx := hKx.kept (hq5 _ (by omega))
    have hVx := hVx.kept (hq5 _ (by omega))
    have hF : ∀ q : Nat, q ≠ a + 8 → H5[q]? = H[q]? := fun q hq => (hq5 q (by omega)).trans (hF q hq)
    refine a_aload_n 2 dX7_hears_70 rfl rfl ?_
    refine a_get f_X7_35 dX7_hears_71 hm rfl ?_
    refine a_bipush 25 dX7_hears_74 (by decide) ?_
    refine a_dup2 dX7_hears_76 rfl rfl ?_
    refine a_ialdN (j := 25) dX7_hears_77 hNx (by omega) (by decide) ?_
    refine a_toeq (dd 25) (by simp only [upd]; rw [if_neg (by omega), if_neg (by omega), if_neg (by omega)]; exact e25) ?_
    refine a_iload_n 1 dX7_hears_78 rfl rfl ?_
    refine a_iconst 1 dX7_hears_79 (by decide) ?_
    refine a_icmpne 87 dX7_hears_80 (by decide) (fun c80 => ?_) (fun c80 => ?_)
    · skip
      refine a_iconst 0 dX7_hears_87 (by decide) ?_
      refine a_iadd dX7_hears_88 ?_
      refine a_iastN (j := 25) dX7_hears_89 hNx (by omega) (by decide) (by omega) (fun H6 hNx hz6 hq6 => ?_)
      have hNx : Ai G H6 (a + 8) 27 (upd (upd (upd (upd fN 24 ((dd 24) + 1)) 26 (nI g)) (16 + g) (dd (16 + g))) 25 ((dd 25) + 0)) := hNx
      have hm := hm.kept (hq6 _ (by omega))
      have hBx := hBx.kept (hq6 _ (by omega))
      have hKx := hKx.kept (hq6 _ (by omega))
      have hVx := hVx.kept (hq6 _ (by omega))
      have hF : ∀ q : Nat, q ≠ a + 8 → H6[q]? = H[q]? := fun q hq => (hq6 q (by omega)).trans (hF q hq)
      refine a_iload_n 1 dX7_hears_90 rfl rfl ?_
      refine a_ret dX7_hears_91 ⟨⟨ri ?_, ?_⟩, rfl, rfl⟩
      · rfl
      · generalize ruF n dd kK ka ks (nI c) = z at c40 c80 ⊢
        refine ⟨⟨by unfold mxL; exact hm, ⟨fB, hBx, eB0, eB1, eB2⟩, ⟨fK, hKx, eK⟩, ⟨fV, hVx, eV⟩, ⟨_, hNx, ⟨fun i hi => ?_, fun i hi => ?_, fun i hi => ?_, ?_, ?_, ?_⟩⟩, hn, hnv⟩, hF⟩
        all_goals simp only [upd, hrF]
        all_goals repeat' split
        all_goals first | omega | contradiction | exact eS _ hi | exact eU _ hi | exact eO _ hi | exact e24 | exact e25 | exact e26 | exact Int32.add_zero _ | with_reducible rfl
    · skip
      refine a_iconst 1 dX7_hears_83 (by decide) ?_
      refine a_goto 88 dX7_hears_84 (by decide) ?_
      refine a_iadd dX7_hears_88 ?_
      refine a_iastN (j := 25) dX7_hears_89 hNx (by omega) (by decide) (by omega) (fun H7 hNx hz7 hq7 => ?_)
      have hNx : Ai G H7 (a + 8) 27 (upd (upd (upd (upd fN 24 ((dd 24) + 1)) 26 (nI g)) (16 + g) (dd (16 + g))) 25 ((dd 25) + 1)) := hNx
      have hm := hm.kept (hq7 _ (by omega))
      have hBx := hBx.kept (hq7 _ (by omega))
      have hKx := hKx.kept (hq7 _ (by omega))
      have hVx := hVx.kept (hq7 _ (by omega))
      have hF : ∀ q : Nat, q ≠ a + 8 → H7[q]? = H[q]? := fun q hq => (hq7 q (by omega)).trans (hF q hq)
      refine a_iload_n 1 dX7_hears_90 rfl rfl ?_
      refine a_ret dX7_hears_91 ⟨⟨ri ?_, ?_⟩, rfl, rfl⟩
      · rfl
      · generalize ruF n dd kK ka ks (nI c) = z at c40 c80 ⊢
        refine ⟨⟨by unfold mxL; exact hm, ⟨fB, hBx, eB0, eB1, eB2⟩, ⟨fK, hKx, eK⟩, ⟨fV, hVx, eV⟩, ⟨_, hNx, ⟨fun i hi => ?_, fun i hi => ?_, fun i hi => ?_, ?_, ?_, ?_⟩⟩, hn, hnv⟩, hF⟩
        all_goals simp only [upd, hrF]
        all_goals repeat' split
        all_goals first | omega | contradiction | exact eS _ hi | exact eU _ hi | exact eO _ hi | exact e24 | exact e25 | exact e26 | exact Int32.add_zero _ | with_reducible rfl
  · skip
    refine a_aload_n 2 dX7_hears_43 rfl rfl ?_
    refine a_get f_X7_35 dX7_hears_44 hm rfl ?_
    refine a_bipush 16 dX7_hears_47 (by decide) ?_
    refine a_iload_n 0 dX7_hears_49 rfl rfl ?_
    refine a_iaddN (a := 16) (b := g) dX7_hears_50 ?_
    refine a_ialdN (j := 16 + g) dX7_hears_51 hNx (by omega) (by decide) ?_
    refine a_toeq (dd (16 + g)) (by simp only [upd]; rw [if_neg (by omega), if_neg (by omega)]; exact eO _ hgn) ?_
    refine a_iconst 1 dX7_hears_52 (by decide) ?_
    refine a_iadd dX7_hears_53 ?_
    refine a_callSp (As := [.int ((dd (16 + g)) + 1)]) (rest := [.int (nI (16 + g)), .ref (a + 8)]) (d := 0) (mc := 0) (ms := 0) (x := mnF (dd (16 + g) + 1)) l_X7_177 st_X7_atMost dX7_hears_54 ⟨Nat.le_of_ble_eq_true rfl, Nat.le_of_ble_eq_true rfl⟩ rfl (Nat.le_of_ble_eq_true rfl) ⟨Nat.le_of_ble_eq_true rfl, Nat.le_of_ble_eq_true rfl⟩ (c_X7_atMost) ?_
    refine a_goto 69 dX7_hears_57 (by decide) ?_
    refine a_iastN (j := 16 + g) dX7_hears_69 hNx (by omega) (by decide) (by omega) (fun H9 hNx hz9 hq9 => ?_)
    have hNx : Ai G H9 (a + 8) 27 (upd (upd (upd fN 24 ((dd 24) + 1)) 26 (nI g)) (16 + g) (mnF (dd (16 + g) + 1))) := hNx
    have hm := hm.kept (hq9 _ (by omega))
    have hBx := hBx.kept (hq9 _ (by omega))
    have hKx := hKx.kept (hq9 _ (by omega))
    have hVx := hVx.kept (hq9 _ (by omega))
    have hF : ∀ q : Nat, q ≠ a + 8 → H9[q]? = H[q]? := fun q hq => (hq9 q (by omega)).trans (hF q hq)
    refine a_aload_n 2 dX7_hears_70 rfl rfl ?_
    refine a_get f_X7_35 dX7_hears_71 hm rfl ?_
    refine a_bipush 25 dX7_hears_74 (by decide) ?_
    refine a_dup2 dX7_hears_76 rfl rfl ?_
    refine a_ialdN (j := 25) dX7_hears_77 hNx (by omega) (by decide) ?_
    refine a_toeq (dd 25) (by simp only [upd]; rw [if_neg (by omega), if_neg (by omega), if_neg (by omega)]; exact e25) ?_
    refine a_iload_n 1 dX7_hears_78 rfl rfl ?_
    refine a_iconst 1 dX7_hears_79 (by decide) ?_
    refine a_icmpne 87 dX7_hears_80 (by decide) (fun c80 => ?_) (fun c80 => ?_)
    · skip
      refine a_iconst 0 dX7_hears_87 (by decide) ?_
      refine a_iadd dX7_hears_88 ?_
      refine a_iastN (j := 25) dX7_hears_89 hNx (by omega) (by decide) (by omega) (fun H10 hNx hz10 hq10 => ?_)
      have hNx : Ai G H10 (a + 8) 27 (upd (upd (upd (upd fN 24 ((dd 24) + 1)) 26 (nI g)) (16 + g) (mnF (dd (16 + g) + 1))) 25 ((dd 25) + 0)) := hNx
      have hm := hm.kept (hq10 _ (by omega))
      have hBx := hBx.kept (hq10 _ (by omega))
      have hKx := hKx.kept (hq10 _ (by omega))
      have hVx := hVx.kept (hq10 _ (by omega))
      have hF : ∀ q : Nat, q ≠ a + 8 → H10[q]? = H[q]? := fun q hq => (hq10 q (by omega)).trans (hF q hq)
      refine a_iload_n 1 dX7_hears_90 rfl rfl ?_
      refine a_ret dX7_hears_91 ⟨⟨ri ?_, ?_⟩, rfl, rfl⟩
      · rfl
      · generalize ruF n dd kK ka ks (nI c) = z at c40 c80 ⊢
        refine ⟨⟨by unfold mxL; exact hm, ⟨fB, hBx, eB0, eB1, eB2⟩, ⟨fK, hKx, eK⟩, ⟨fV, hVx, eV⟩, ⟨_, hNx, ⟨fun i hi => ?_, fun i hi => ?_, fun i hi => ?_, ?_, ?_, ?_⟩⟩, hn, hnv⟩, hF⟩
        all_goals simp only [upd, hrF]
        all_goals repeat' split
        all_goals first | omega | contradiction | exact eS _ hi | exact eU _ hi | exact eO _ hi | exact e24 | exact e25 | exact e26 | exact Int32.add_zero _ | with_reducible rfl
    · skip
      refine a_iconst 1 dX7_hears_83 (by decide) ?_
      refine a_goto 88 dX7_hears_84 (by decide) ?_
      refine a_iadd dX7_hears_88 ?_
      refine a_iastN (j := 25) dX7_hears_89 hNx (by omega) (by decide) (by omega) (fun H11 hNx hz11 hq11 => ?_)
      have hNx : Ai G H11 (a + 8) 27 (upd (upd (upd (upd fN 24 ((dd 24) + 1)) 26 (nI g)) (16 + g) (mnF (dd (16 + g) + 1))) 25 ((dd 25) + 1)) := hNx
      have hm := hm.kept (hq11 _ (by omega))
      have hBx := hBx.kept (hq11 _ (by omega))
      have hKx := hKx.kept (hq11 _ (by omega))
      have hVx := hVx.kept (hq11 _ (by omega))
      have hF : ∀ q : Nat, q ≠ a + 8 → H11[q]? = H[q]? := fun q hq => (hq11 q (by omega)).trans (hF q hq)
      refine a_iload_n 1 dX7_hears_90 rfl rfl ?_
      refine a_ret dX7_hears_91 ⟨⟨ri ?_, ?_⟩, rfl, rfl⟩
      · rfl
      · generalize ruF n dd kK ka ks (nI c) = z at c40 c80 ⊢
        refine ⟨⟨by unfold mxL; exact hm, ⟨fB, hBx, eB0, eB1, eB2⟩, ⟨fK, hKx, eK⟩, ⟨fV, hVx, eV⟩, ⟨_, hNx, ⟨fun i hi => ?_, fun i hi => ?_, fun i hi => ?_, ?_, ?_, ?_⟩⟩, hn, hnv⟩, hF⟩
        all_goals simp only [upd, hrF]
        all_goals repeat' split
        all_goals first | omega | contradiction | exact eS _ hi | exact eU _ hi | exact eO _ hi | exact e24 | exact e25 | exact e26 | exact Int32.add_zero _ | with_reducible rfl
set_option maxHeartbeats 4000000 in
set_option maxRecDepth 100000 in
theorem c_X7_takesBack {G : GT} {B : Nat} {l : Launch} {H : Heap} {a L : Nat} {fp ra rf rw rx : Int32} {ir kb : Bool} {n nv ct nx sd sn bn : Nat} {ka ks kw : Int32} {kK kV dd : DD} {w g : Nat} (hw : w < n) (hk : dd 26 = nI g) (hgn : g < n) (hgw : g ≠ w) (hR : RG n dd) (hM : Mc G H a L fp ra rf rw rx ir kb n nv ct nx sd sn bn ka ks kw kK kV dd) (hB : B ≤ a) : AM G B l yX7_takesBack cX7_takesBack 3 none 1 0 0 [.ref a, .int (nI w)] H (fun rv H' => rv = none ∧ (Mc G H' a L fp ra rf rw rx ir kb n nv ct nx sd sn bn ka ks kw kK kV (crF dd g w) ∧ ∀ q : Nat, q ≠ a + 8 → H'[q]? = H[q]?)) := by
  have hM0 := hM
  obtain ⟨hm, ⟨fB, hBx, eB0, eB1, eB2⟩, ⟨fK, hKx, eK⟩, ⟨fV, hVx, eV⟩, ⟨fN, hNx, eS, eU, eO, e24, e25, e26⟩, hn, hnv⟩ := hM
  unfold mxL at hm
  obtain ⟨-, ⟨u, hu, eu⟩, ⟨t, ht, et⟩⟩ := hR g hgn
  have hF : ∀ q : Nat, q ≠ a + 8 → H[q]? = H[q]? := fun _ _ => rfl
  refine AM.ofV (lv := [(0, .ref a), (1, .int (nI w))]) (by decide +kernel) (ini := false) (fun h => by cases h) (Nat.le_of_ble_eq_true rfl) rfl ?_ (fun _ _ h => h.1)
  refine a_aload_n 0 dX7_takesBack_0 rfl rfl ?_
  refine a_get f_X7_35 dX7_takesBack_1 hm rfl ?_
  refine a_bipush 26 dX7_takesBack_4 (by decide) ?_
  refine a_ialdN (j := 26) dX7_takesBack_6 hNx (by omega) (by decide) ?_
  refine a_toeq (dd 26) (e26) ?_
  refine a_toeq (nI g) hk ?_
  refine a_istore_n (lv' := [(2, .int (nI g)), (0, .ref a), (1, .int (nI w))]) dX7_takesBack_7 rfl (by decide) rfl ?_
  refine a_aload_n 1 dX7_takesBack_8 rfl rfl ?_
  refine a_get f_X7_35 dX7_takesBack_9 hm rfl ?_
  refine a_bipush 16 dX7_takesBack_12 (by decide) ?_
  refine a_iload_n 0 dX7_takesBack_14 rfl rfl ?_
  refine a_iaddN (a := 16) (b := g) dX7_takesBack_15 ?_
  refine a_aload_n 1 dX7_takesBack_16 rfl rfl ?_
  refine a_get f_X7_35 dX7_takesBack_17 hm rfl ?_
  refine a_bipush 16 dX7_takesBack_20 (by decide) ?_
  refine a_iload_n 0 dX7_takesBack_22 rfl rfl ?_
  refine a_iaddN (a := 16) (b := g) dX7_takesBack_23 ?_
  refine a_ialdN (j := 16 + g) dX7_takesBack_24 hNx (by omega) (by decide) ?_
  refine a_toeq (dd (16 + g)) (eO _ (by omega)) ?_
  refine a_callSp (As := [.int (dd (16 + g))]) (rest := [.int (nI (16 + g)), .ref (a + 8)]) (d := 0) (mc := 0) (ms := 0) (x := lsF (dd (16 + g))) l_X7_180 st_X7_less dX7_takesBack_25 ⟨Nat.le_of_ble_eq_true rfl, Nat.le_of_ble_eq_true rfl⟩ rfl (Nat.le_of_ble_eq_true rfl) ⟨Nat.le_of_ble_eq_true rfl, Nat.le_of_ble_eq_true rfl⟩ ((by rw [et]; exact c_X7_less ht)) ?_
  refine a_iastN (j := 16 + g) dX7_takesBack_28 hNx (by omega) (by decide) (by omega) (fun H2 hNx hz2 hq2 => ?_)
  have hNx : Ai G H2 (a + 8) 27 (upd fN (16 + g) (lsF (dd (16 + g)))) := hNx
  have hm := hm.kept (hq2 _ (by omega))
  have hBx := hBx.kept (hq2 _ (by omega))
  have hKx := hKx.kept (hq2 _ (by omega))
  have hVx := hVx.kept (hq2 _ (by omega))
  have hF : ∀ q : Nat, q ≠ a + 8 → H2[q]? = H[q]? := fun q hq => (hq2 q (by omega)).trans (hF q hq)
  refine a_aload_n 1 dX7_takesBack_29 rfl rfl ?_
  refine a_get f_X7_35 dX7_takesBack_30 hm rfl ?_
  refine a_bipush 8 dX7_takesBack_33 (by decide) ?_
  refine a_iload_n 0 dX7_takesBack_35 rfl rfl ?_
  refine a_iaddN (a := 8) (b := g) dX7_takesBack_36 ?_
  refine a_aload_n 1 dX7_takesBack_37 rfl rfl ?_
  refine a_get f_X7_35 dX7_takesBack_38 hm rfl ?_
  refine a_bipush 8 dX7_takesBack_41 (by decide) ?_
  refine a_iload_n 0 dX7_takesBack_43 rfl rfl ?_
  refine a_iaddN (a := 8) (b := g) dX7_takesBack_44 ?_
  refine a_ialdN (j := 8 + g) dX7_takesBack_45 hNx (by omega) (by decide) ?_
  refine a_toeq (dd (8 + g)) (by simp only [upd]; rw [if_neg (by omega)]; exact eU _ hgn) ?_
  refine a_callSp (As := [.int (dd (8 + g))]) (rest := [.int (nI (8 + g)), .ref (a + 8)]) (d := 0) (mc := 0) (ms := 0) (x := lsF (dd (8 + g))) l_X7_180 st_X7_less dX7_takesBack_46 ⟨Nat.le_of_ble_eq_true rfl, Nat.le_of_ble_eq_true rfl⟩ rfl (Nat.le_of_ble_eq_true rfl) ⟨Nat.le_of_ble_eq_true rfl, Nat.le_of_ble_eq_true rfl⟩ ((by rw [eu]; exact c_X7_less hu)) ?_
  refine a_iastN (j := 8 + g) dX7_takesBack_49 hNx (by omega) (by decide) (by omega) (fun H4 hNx hz4 hq4 => ?_)
  have hNx : Ai G H4 (a + 8) 27 (upd (upd fN (16 + g) (lsF (dd (16 + g)))) (8 + g) (lsF (dd (8 + g)))) := hNx
  have hm := hm.kept (hq4 _ (by omega))
  have hBx := hBx.kept (hq4 _ (by omega))
  have hKx := hKx.kept (hq4 _ (by omega))
  have hVx := hVx.kept (hq4 _ (by omega))
  have hF : ∀ q : Nat, q ≠ a + 8 → H4[q]? = H[q]? := fun q hq => (hq4 q (by omega)).trans (hF q hq)
  refine a_aload_n 1 dX7_takesBack_50 rfl rfl ?_
  refine a_get f_X7_35 dX7_takesBack_51 hm rfl ?_
  refine a_bipush 8 dX7_takesBack_54 (by decide) ?_
  refine a_iload_n 2 dX7_takesBack_56 rfl rfl ?_
  refine a_iaddN (a := 8) (b := w) dX7_takesBack_57 ?_
  refine a_aload_n 1 dX7_takesBack_58 rfl rfl ?_
  refine a_get f_X7_35 dX7_takesBack_59 hm rfl ?_
  refine a_bipush 8 dX7_takesBack_62 (by decide) ?_
  refine a_iload_n 2 dX7_takesBack_64 rfl rfl ?_
  refine a_iaddN (a := 8) (b := w) dX7_takesBack_65 ?_
  refine a_ialdN (j := 8 + w) dX7_takesBack_66 hNx (by omega) (by decide) ?_
  refine a_toeq (dd (8 + w)) (by simp only [upd]; rw [if_neg (by omega), if_neg (by omega)]; exact eU _ hw) ?_
  refine a_iconst 2 dX7_takesBack_67 (by decide) ?_
  refine a_iadd dX7_takesBack_68 ?_
  refine a_callSp (As := [.int ((dd (8 + w)) + 2)]) (rest := [.int (nI (8 + w)), .ref (a + 8)]) (d := 0) (mc := 0) (ms := 0) (x := mnF (dd (8 + w) + 2)) l_X7_177 st_X7_atMost dX7_takesBack_69 ⟨Nat.le_of_ble_eq_true rfl, Nat.le_of_ble_eq_true rfl⟩ rfl (Nat.le_of_ble_eq_true rfl) ⟨Nat.le_of_ble_eq_true rfl, Nat.le_of_ble_eq_true rfl⟩ (c_X7_atMost) ?_
  refine a_iastN (j := 8 + w) dX7_takesBack_72 hNx (by omega) (by decide) (by omega) (fun H6 hNx hz6 hq6 => ?_)
  have hNx : Ai G H6 (a + 8) 27 (upd (upd (upd fN (16 + g) (lsF (dd (16 + g)))) (8 + g) (lsF (dd (8 + g)))) (8 + w) (mnF (dd (8 + w) + 2))) := hNx
  have hm := hm.kept (hq6 _ (by omega))
  have hBx := hBx.kept (hq6 _ (by omega))
  have hKx := hKx.kept (hq6 _ (by omega))
  have hVx := hVx.kept (hq6 _ (by omega))
  have hF : ∀ q : Nat, q ≠ a + 8 → H6[q]? = H[q]? := fun q hq => (hq6 q (by omega)).trans (hF q hq)
  refine a_aload_n 1 dX7_takesBack_73 rfl rfl ?_
  refine a_get f_X7_35 dX7_takesBack_74 hm rfl ?_
  refine a_bipush 16 dX7_takesBack_77 (by decide) ?_
  refine a_iload_n 2 dX7_takesBack_79 rfl rfl ?_
  refine a_iaddN (a := 16) (b := w) dX7_takesBack_80 ?_
  refine a_aload_n 1 dX7_takesBack_81 rfl rfl ?_
  refine a_get f_X7_35 dX7_takesBack_82 hm rfl ?_
  refine a_bipush 16 dX7_takesBack_85 (by decide) ?_
  refine a_iload_n 2 dX7_takesBack_87 rfl rfl ?_
  refine a_iaddN (a := 16) (b := w) dX7_takesBack_88 ?_
  refine a_ialdN (j := 16 + w) dX7_takesBack_89 hNx (by omega) (by decide) ?_
  refine a_toeq (dd (16 + w)) (by simp only [upd]; rw [if_neg (by omega), if_neg (by omega), if_neg (by omega)]; exact eO _ hw) ?_
  refine a_iconst 1 dX7_takesBack_90 (by decide) ?_
  refine a_iadd dX7_takesBack_91 ?_
  refine a_callSp (As := [.int ((dd (16 + w)) + 1)]) (rest := [.int (nI (16 + w)), .ref (a + 8)]) (d := 0) (mc := 0) (ms := 0) (x := mnF (dd (16 + w) + 1)) l_X7_177 st_X7_atMost dX7_takesBack_92 ⟨Nat.le_of_ble_eq_true rfl, Nat.le_of_ble_eq_true rfl⟩ rfl (Nat.le_of_ble_eq_true rfl) ⟨Nat.le_of_ble_eq_true rfl, Nat.le_of_ble_eq_true rfl⟩ (c_X7_atMost) ?_
  refine a_iastN (j := 16 + w) dX7_takesBack_95 hNx (by omega) (by decide) (by omega) (fun H8 hNx hz8 hq8 => ?_)
  have hNx : Ai G H8 (a + 8) 27 (upd (upd (upd (upd fN (16 + g) (lsF (dd (16 + g)))) (8 + g) (lsF (dd (8 + g)))) (8 + w) (mnF (dd (8 + w) + 2))) (16 + w) (mnF (dd (16 + w) + 1))) := hNx
  have hm := hm.kept (hq8 _ (by omega))
  have hBx := hBx.kept (hq8 _ (by omega))
  have hKx := hKx.kept (hq8 _ (by omega))
  have hVx := hVx.kept (hq8 _ (by omega))
  have hF : ∀ q : Nat, q ≠ a + 8 → H8[q]? = H[q]? := fun q hq => (hq8 q (by omega)).trans (hF q hq)
  refine a_aload_n 1 dX7_takesBack_96 rfl rfl ?_
  refine a_get f_X7_35 dX7_takesBack_97 hm rfl ?_
  refine a_bipush 26 dX7_takesBack_100 (by decide) ?_
  refine a_iconst (-1) dX7_takesBack_102 (by decide) ?_
  refine a_iastN (j := 26) dX7_takesBack_103 hNx (by omega) (by decide) (by omega) (fun H9 hNx hz9 hq9 => ?_)
  have hNx : Ai G H9 (a + 8) 27 (upd (upd (upd (upd (upd fN (16 + g) (lsF (dd (16 + g)))) (8 + g) (lsF (dd (8 + g)))) (8 + w) (mnF (dd (8 + w) + 2))) (16 + w) (mnF (dd (16 + w) + 1))) 26 (-1)) := hNx
  have hm := hm.kept (hq9 _ (by omega))
  have hBx := hBx.kept (hq9 _ (by omega))
  have hKx := hKx.kept (hq9 _ (by omega))
  have hVx := hVx.kept (hq9 _ (by omega))
  have hF : ∀ q : Nat, q ≠ a + 8 → H9[q]? = H[q]? := fun q hq => (hq9 q (by omega)).trans (hF q hq)
  refine a_retv dX7_takesBack_104 ⟨⟨rfl, ?_⟩, rfl, rfl⟩
  · refine ⟨⟨by unfold mxL; exact hm, ⟨fB, hBx, eB0, eB1, eB2⟩, ⟨fK, hKx, eK⟩, ⟨fV, hVx, eV⟩, ⟨_, hNx, ⟨fun i hi => ?_, fun i hi => ?_, fun i hi => ?_, ?_, ?_, ?_⟩⟩, hn, hnv⟩, hF⟩
    all_goals simp only [upd, crF]
    all_goals repeat' split
    all_goals first | omega | contradiction | exact eS _ hi | exact eU _ hi | exact eO _ hi | exact e24 | exact e25 | exact e26 | exact Int32.add_zero _ | with_reducible rfl
set_option maxHeartbeats 4000000 in
set_option maxRecDepth 100000 in
theorem c_X7_letsBe {G : GT} {B : Nat} {l : Launch} {H : Heap} {a L : Nat} {fp ra rf rw rx : Int32} {ir kb : Bool} {n nv ct nx sd sn bn : Nat} {ka ks kw : Int32} {kK kV dd : DD} {g : Nat} (hk : dd 26 = nI g) (hgn : g < n) (hM : Mc G H a L fp ra rf rw rx ir kb n nv ct nx sd sn bn ka ks kw kK kV dd) (hB : B ≤ a) : AM G B l yX7_letsBe cX7_letsBe 2 (some .int) 1 0 0 [.ref a] H (fun rv H' => rv = some (.int (cfF dd g (8 + g))) ∧ (Mc G H' a L fp ra rf rw rx ir kb n nv ct nx sd sn bn ka ks kw kK kV (cfF dd g) ∧ ∀ q : Nat, q ≠ a + 8 → H'[q]? = H[q]?)) := by
  have hM0 := hM
  obtain ⟨hm, ⟨fB, hBx, eB0, eB1, eB2⟩, ⟨fK, hKx, eK⟩, ⟨fV, hVx, eV⟩, ⟨fN, hNx, eS, eU, eO, e24, e25, e26⟩, hn, hnv⟩ := hM
  unfold mxL at hm
  have hF : ∀ q : Nat, q ≠ a + 8 → H[q]? = H[q]? := fun _ _ => rfl
  refine AM.ofI (lv := [(0, .ref a)]) (by decide +kernel) (Nat.le_of_ble_eq_true rfl) rfl ?_ (fun _ h => by cases h.1)
  refine a_aload_n 0 dX7_letsBe_0 rfl rfl ?_
  refine a_get f_X7_35 dX7_letsBe_1 hm rfl ?_
  refine a_bipush 26 dX7_letsBe_4 (by decide) ?_
  refine a_ialdN (j := 26) dX7_letsBe_6 hNx (by omega) (by decide) ?_
  refine a_toeq (dd 26) (e26) ?_
  refine a_toeq (nI g) hk ?_
  refine a_istore_n (lv' := [(1, .int (nI g)), (0, .ref a)]) dX7_letsBe_7 rfl (by decide) rfl ?_
  refine a_aload_n 1 dX7_letsBe_8 rfl rfl ?_
  refine a_get f_X7_35 dX7_letsBe_9 hm rfl ?_
  refine a_bipush 8 dX7_letsBe_12 (by decide) ?_
  refine a_iload_n 0 dX7_letsBe_14 rfl rfl ?_
  refine a_iaddN (a := 8) (b := g) dX7_letsBe_15 ?_
  refine a_aload_n 1 dX7_letsBe_16 rfl rfl ?_
  refine a_get f_X7_35 dX7_letsBe_17 hm rfl ?_
  refine a_bipush 8 dX7_letsBe_20 (by decide) ?_
  refine a_iload_n 0 dX7_letsBe_22 rfl rfl ?_
  refine a_iaddN (a := 8) (b := g) dX7_letsBe_23 ?_
  refine a_ialdN (j := 8 + g) dX7_letsBe_24 hNx (by omega) (by decide) ?_
  refine a_toeq (dd (8 + g)) (eU _ (by omega)) ?_
  refine a_iconst 1 dX7_letsBe_25 (by decide) ?_
  refine a_iadd dX7_letsBe_26 ?_
  refine a_callSp (As := [.int ((dd (8 + g)) + 1)]) (rest := [.int (nI (8 + g)), .ref (a + 8)]) (d := 0) (mc := 0) (ms := 0) (x := mnF (dd (8 + g) + 1)) l_X7_177 st_X7_atMost dX7_letsBe_27 ⟨Nat.le_of_ble_eq_true rfl, Nat.le_of_ble_eq_true rfl⟩ rfl (Nat.le_of_ble_eq_true rfl) ⟨Nat.le_of_ble_eq_true rfl, Nat.le_of_ble_eq_true rfl⟩ (c_X7_atMost) ?_
  refine a_iastN (j := 8 + g) dX7_letsBe_30 hNx (by omega) (by decide) (by omega) (fun H2 hNx hz2 hq2 => ?_)
  have hNx : Ai G H2 (a + 8) 27 (upd fN (8 + g) (mnF (dd (8 + g) + 1))) := hNx
  have hm := hm.kept (hq2 _ (by omega))
  have hBx := hBx.kept (hq2 _ (by omega))
  have hKx := hKx.kept (hq2 _ (by omega))
  have hVx := hVx.kept (hq2 _ (by omega))
  have hF : ∀ q : Nat, q ≠ a + 8 → H2[q]? = H[q]? := fun q hq => (hq2 q (by omega)).trans (hF q hq)
  refine a_aload_n 1 dX7_letsBe_31 rfl rfl ?_
  refine a_get f_X7_35 dX7_letsBe_32 hm rfl ?_
  refine a_bipush 26 dX7_letsBe_35 (by decide) ?_
  refine a_iconst (-1) dX7_letsBe_37 (by decide) ?_
  refine a_iastN (j := 26) dX7_letsBe_38 hNx (by omega) (by decide) (by omega) (fun H3 hNx hz3 hq3 => ?_)
  have hNx : Ai G H3 (a + 8) 27 (upd (upd fN (8 + g) (mnF (dd (8 + g) + 1))) 26 (-1)) := hNx
  have hm := hm.kept (hq3 _ (by omega))
  have hBx := hBx.kept (hq3 _ (by omega))
  have hKx := hKx.kept (hq3 _ (by omega))
  have hVx := hVx.kept (hq3 _ (by omega))
  have hF : ∀ q : Nat, q ≠ a + 8 → H3[q]? = H[q]? := fun q hq => (hq3 q (by omega)).trans (hF q hq)
  refine a_aload_n 1 dX7_letsBe_39 rfl rfl ?_
  refine a_get f_X7_35 dX7_letsBe_40 hm rfl ?_
  refine a_bipush 8 dX7_letsBe_43 (by decide) ?_
  refine a_iload_n 0 dX7_letsBe_45 rfl rfl ?_
  refine a_iaddN (a := 8) (b := g) dX7_letsBe_46 ?_
  refine a_ialdN (j := 8 + g) dX7_letsBe_47 hNx (by omega) (by decide) ?_
  refine a_toeq (cfF dd g (8 + g)) (by simp only [upd, cfF, ↓reduceIte]) ?_
  refine a_ret dX7_letsBe_48 ⟨⟨ri ?_, ?_⟩, rfl, rfl⟩
  · rfl
  · refine ⟨⟨by unfold mxL; exact hm, ⟨fB, hBx, eB0, eB1, eB2⟩, ⟨fK, hKx, eK⟩, ⟨fV, hVx, eV⟩, ⟨_, hNx, ⟨fun i hi => ?_, fun i hi => ?_, fun i hi => ?_, ?_, ?_, ?_⟩⟩, hn, hnv⟩, hF⟩
    all_goals simp only [upd, cfF]
    all_goals repeat' split
    all_goals first | omega | contradiction | exact eS _ hi | exact eU _ hi | exact eO _ hi | exact e24 | exact e25 | exact e26 | exact Int32.add_zero _ | with_reducible rfl
set_option maxHeartbeats 4000000 in
set_option maxRecDepth 100000 in
theorem c_X7_draw {G : GT} {B : Nat} {l : Launch} {H : Heap} {a L : Nat} {fp ra rf rw rx : Int32} {ir kb : Bool} {n nv ct nx sd sn bn : Nat} {ka ks kw : Int32} {kK kV dd : DD} {k : Nat} (hsd : sd < 2 ^ 31) (hk : 0 < k) (hk2 : k < 100) (hM : Mc G H a L fp ra rf rw rx ir kb n nv ct nx sd sn bn ka ks kw kK kV dd) (hB : B ≤ a) : AM G B l yX7_draw cX7_draw 2 (some .int) 0 0 0 [.ref a, .int (nI k)] H (fun rv H' => rv = some (.int (nI (drF sd k))) ∧ (Mc G H' a L fp ra rf rw rx ir kb n nv ct nx (sdF sd) sn bn ka ks kw kK kV dd ∧ ∀ q : Nat, q ≠ a → H'[q]? = H[q]?)) := by
  have hM0 := hM
  obtain ⟨hm, ⟨fB, hBx, eB0, eB1, eB2⟩, ⟨fK, hKx, eK⟩, ⟨fV, hVx, eV⟩, ⟨fN, hNx, eS, eU, eO, e24, e25, e26⟩, hn, hnv⟩ := hM
  unfold mxL at hm
  have hsl : sdF sd < 2147483648 := Nat.mod_lt _ (by decide)
  have hF : ∀ q : Nat, q ≠ a → H[q]? = H[q]? := fun _ _ => rfl
  refine AM.ofI (lv := [(0, .ref a), (1, .int (nI k))]) (by decide +kernel) (Nat.le_of_ble_eq_true rfl) rfl ?_ (fun _ h => by cases h.1)
  refine a_aload_n 0 dX7_draw_0 rfl rfl ?_
  refine a_aload_n 0 dX7_draw_1 rfl rfl ?_
  refine a_get f_X7_200 dX7_draw_2 hm rfl ?_
  refine a_ldc2 1103515245 k_X7_204 dX7_draw_5 ?_
  refine a_lmul dX7_draw_8 ?_
  refine a_ldc2 12345 k_X7_206 dX7_draw_9 ?_
  refine a_ladd dX7_draw_12 ?_
  refine a_ldc2 2147483648 k_X7_208 dX7_draw_13 ?_
  refine a_lrem dX7_draw_16 (by decide +kernel) ?_
  refine a_toeql (lN (sdF sd)) (sdL_eq hsd) ?_
  refine a_put f_X7_200 p_X7_200 dX7_draw_17 hm (Nat.le_of_ble_eq_true rfl) rfl rfl (by omega) (fun H1 hm hz1 hq1 => ?_)
  have hm : Ob G H1 a 7 [.int (nI L), .ref (a + 1), .int fp, .int ra, .int rf, .int rw, .int rx, .ref (a + 2), .ref (a + 3), .ref (a + 4), .int (bI ir), .int (bI kb), .int (nI n), .int (nI nv), .ref (a + 5), .ref (a + 6), .ref (a + 7), .ref (a + 8), .int (nI ct), .int (nI nx), .ref (a + 9), .long (lN (sdF sd)), .int (nI sn), .ref (a + 10), .int (nI bn), .ref (a + 11), .ref (a + 12), .ref (a + 13), .ref (a + 14)] := hm
  have hBx := hBx.kept (hq1 _ (by omega))
  have hKx := hKx.kept (hq1 _ (by omega))
  have hVx := hVx.kept (hq1 _ (by omega))
  have hNx := hNx.kept (hq1 _ (by omega))
  have hF : ∀ q : Nat, q ≠ a → H1[q]? = H[q]? := fun q hq => (hq1 q (by omega)).trans (hF q hq)
  refine a_aload_n 0 dX7_draw_20 rfl rfl ?_
  refine a_get f_X7_200 dX7_draw_21 hm rfl ?_
  refine a_ldc2 65536 k_X7_210 dX7_draw_24 ?_
  refine a_ldiv dX7_draw_27 (by decide +kernel) ?_
  refine a_iload_n 1 dX7_draw_28 rfl rfl ?_
  refine a_i2l dX7_draw_29 ?_
  refine a_lrem dX7_draw_30 (i64_ne0 (by rw [← nI_0]; exact nI_lt hk (by omega))) ?_
  refine a_l2i dX7_draw_31 ?_
  refine a_ret dX7_draw_32 ⟨⟨ri ?_, ?_⟩, rfl, rfl⟩
  · exact drL_eq hsl hk hk2
  · exact ⟨⟨by unfold mxL; exact hm, ⟨fB, hBx, eB0, eB1, eB2⟩, ⟨fK, hKx, eK⟩, ⟨fV, hVx, eV⟩, ⟨_, hNx, ⟨eS, eU, eO, e24, e25, e26⟩⟩, hn, hnv⟩, hF⟩
