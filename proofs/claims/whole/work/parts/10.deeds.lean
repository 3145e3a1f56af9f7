set_option maxHeartbeats 4000000 in
set_option maxRecDepth 100000 in
theorem c_X6_apart {G : GT} {B : Nat} {l : Launch} {H : Heap} {a b : Int32} : AM G B l yX6_apart cX6_apart 2 (some .int) 1 0 0 [.int a, .int b] H (fun v H' => v = some (.int (apF a b)) ∧ (H' = H)) := by
  refine AM.ofI (lv := [(0, .int a), (1, .int b)]) (by decide +kernel) (Nat.le_of_ble_eq_true rfl) rfl ?_ (fun _ h => by cases h.1)
  refine a_iload_n 0 dX6_apart_0 rfl rfl ?_
  refine a_bipush 100 dX6_apart_1 (by decide) ?_
  refine a_idiv dX6_apart_3 (by decide) ?_
  refine a_iload_n 1 dX6_apart_4 rfl rfl ?_
  refine a_bipush 100 dX6_apart_5 (by decide) ?_
  refine a_idiv dX6_apart_7 (by decide) ?_
  refine a_isub dX6_apart_8 ?_
  refine a_abs ml_X6_260 dX6_apart_9 (Nat.le_of_ble_eq_true rfl) (Nat.le_of_ble_eq_true rfl) ⟨Nat.le_of_ble_eq_true rfl, Nat.le_of_ble_eq_true rfl⟩ ?_
  refine a_toeq (abI ((a / 100) - (b / 100))) rfl ?_
  refine a_iload_n 0 dX6_apart_12 rfl rfl ?_
  refine a_bipush 10 dX6_apart_13 (by decide) ?_
  refine a_idiv dX6_apart_15 (by decide) ?_
  refine a_bipush 10 dX6_apart_16 (by decide) ?_
  refine a_irem dX6_apart_18 (by decide) ?_
  refine a_iload_n 1 dX6_apart_19 rfl rfl ?_
  refine a_bipush 10 dX6_apart_20 (by decide) ?_
  refine a_idiv dX6_apart_22 (by decide) ?_
  refine a_bipush 10 dX6_apart_23 (by decide) ?_
  refine a_irem dX6_apart_25 (by decide) ?_
  refine a_isub dX6_apart_26 ?_
  refine a_abs ml_X6_260 dX6_apart_27 (Nat.le_of_ble_eq_true rfl) (Nat.le_of_ble_eq_true rfl) ⟨Nat.le_of_ble_eq_true rfl, Nat.le_of_ble_eq_true rfl⟩ ?_
  refine a_toeq (abI (((a / 10) % 10) - ((b / 10) % 10))) rfl ?_
  refine a_iadd dX6_apart_30 ?_
  refine a_iload_n 0 dX6_apart_31 rfl rfl ?_
  refine a_bipush 10 dX6_apart_32 (by decide) ?_
  refine a_irem dX6_apart_34 (by decide) ?_
  refine a_iload_n 1 dX6_apart_35 rfl rfl ?_
  refine a_bipush 10 dX6_apart_36 (by decide) ?_
  refine a_irem dX6_apart_38 (by decide) ?_
  refine a_isub dX6_apart_39 ?_
  refine a_abs ml_X6_260 dX6_apart_40 (Nat.le_of_ble_eq_true rfl) (Nat.le_of_ble_eq_true rfl) ⟨Nat.le_of_ble_eq_true rfl, Nat.le_of_ble_eq_true rfl⟩ ?_
  refine a_toeq (abI ((a % 10) - (b % 10))) rfl ?_
  refine a_iadd dX6_apart_43 ?_
  refine a_ret dX6_apart_44 ⟨⟨ri ?_, ?_⟩, rfl, rfl⟩
  · rfl
  · rfl
set_option maxHeartbeats 4000000 in
set_option maxRecDepth 100000 in
theorem c_X0_weight {G : GT} {B : Nat} {l : Launch} {H : Heap} {d n : Nat} {dd : DD} {w : Nat} {snd : Int32} (hD : Dd G H d n dd) (hw : w < n) : AM G B l yX0_weight cX0_weight 3 (some .int) 2 0 0 [.ref d, .int (nI w), .int snd] H (fun v H' => v = some (.int (wtF dd w snd)) ∧ (H' = H)) := by
  obtain ⟨fS, fU, fO, hd, hs, hu, ho, eS, eU, eO, hn⟩ := hD
  refine AM.ofI (lv := [(0, .ref d), (1, .int (nI w)), (2, .int snd)]) (by decide +kernel) (Nat.le_of_ble_eq_true rfl) rfl ?_ (fun _ h => by cases h.1)
  refine a_aload_n 0 dX0_weight_0 rfl rfl ?_
  refine a_get f_X0_19 dX0_weight_1 hd rfl ?_
  refine a_iload_n 1 dX0_weight_4 rfl rfl ?_
  refine a_ialdN (j := w) dX0_weight_5 hu (by omega) (by decide) ?_
  refine a_toeq (dd (8 + w)) (eU _ (by omega)) ?_
  refine a_iconst 1 dX0_weight_6 (by decide) ?_
  refine a_iadd dX0_weight_7 ?_
  refine a_bipush 28 dX0_weight_8 (by decide) ?_
  refine a_aload_n 0 dX0_weight_10 rfl rfl ?_
  refine a_get f_X0_15 dX0_weight_11 hd rfl ?_
  refine a_iload_n 1 dX0_weight_14 rfl rfl ?_
  refine a_ialdN (j := w) dX0_weight_15 hs (by omega) (by decide) ?_
  refine a_toeq (dd w) (eS _ (by omega)) ?_
  refine a_iload_n 2 dX0_weight_16 rfl rfl ?_
  refine a_callSp (As := [.int (dd w), .int snd]) (rest := [.int 28, .int ((dd (8 + w)) + 1)]) (d := 1) (mc := 0) (ms := 0) (x := apF (dd w) snd) l_X0_39 st_X6_apart dX0_weight_17 ⟨Nat.le_of_ble_eq_true rfl, Nat.le_of_ble_eq_true rfl⟩ rfl (Nat.le_of_ble_eq_true rfl) ⟨Nat.le_of_ble_eq_true rfl, Nat.le_of_ble_eq_true rfl⟩ (c_X6_apart) ?_
  refine a_isub dX0_weight_20 ?_
  refine a_imul dX0_weight_21 ?_
  refine a_ret dX0_weight_22 ⟨⟨ri ?_, ?_⟩, rfl, rfl⟩
  · rfl
  · rfl
set_option maxHeartbeats 4000000 in
set_option maxRecDepth 100000 in
theorem c_X0_strongest {G : GT} {B : Nat} {l : Launch} {H : Heap} {d n : Nat} {dd : DD} {snd : Int32} (hD : Dd G H d n dd) : AM G B l yX0_strongest cX0_strongest 6 (some .int) 3 0 0 [.ref d, .int snd] H (fun v H' => v = some (.int (guF n dd snd)) ∧ (H' = H)) := by
  have hD0 := hD
  obtain ⟨fS, fU, fO, hd, hs, hu, ho, eS, eU, eO, hn⟩ := hD
  refine AM.ofI (lv := [(0, .ref d), (1, .int snd)]) (by decide +kernel) (Nat.le_of_ble_eq_true rfl) rfl ?_ (fun _ h => by cases h.1)
  refine a_iconst (-1) dX0_strongest_0 (by decide) ?_
  refine a_istore_n (lv' := [(2, .int (-1)), (0, .ref d), (1, .int snd)]) dX0_strongest_1 rfl (by decide) rfl ?_
  refine a_iconst 0 dX0_strongest_2 (by decide) ?_
  refine a_istore_n (lv' := [(3, .int 0), (2, .int (-1)), (0, .ref d), (1, .int snd)]) dX0_strongest_3 rfl (by decide) rfl ?_
  refine a_iconst 0 dX0_strongest_4 (by decide) ?_
  refine a_istore (lv' := [(4, .int 0), (3, .int 0), (2, .int (-1)), (0, .ref d), (1, .int snd)]) dX0_strongest_5 (by decide) rfl ?_
  have L7 : ∀ (fu : Nat) (k : Nat) (b m : Int32), k ≤ n → gsF dd snd k = (b, m) → n - k < fu → AW G B l { frames := 3, cells := 0, slots := 0, locals := 27 * 3 } yX0_strongest.cls cX0_strongest 6 false (fun v H' ce' sl' => (v = some (.int (guF n dd snd)) ∧ (H' = H)) ∧ ce' = 0 ∧ sl' = 0) 7 [(0, .ref d), (1, .int snd), (2, .int b), (3, .int m), (4, .int (nI k))] [] H 0 0 := by
    intro fu
    induction fu with
    | zero => intro k b m hk hg hm7; exact absurd hm7 (Nat.not_lt_zero _)
    | succ fu ih7 =>
      intro k b m hk hg hm7
      refine a_iload 4 dX0_strongest_7 rfl ?_
      refine a_aload_n 0 dX0_strongest_9 rfl rfl ?_
      refine a_get f_X0_9 dX0_strongest_10 hd rfl ?_
      refine a_icmpgeN (a := k) (b := n) 43 dX0_strongest_13 (by decide) (by omega) (by omega) (fun c13 => ?_) (fun c13 => ?_)
      · skip
        refine a_iload_n 2 dX0_strongest_43 rfl rfl ?_
        refine a_ret dX0_strongest_44 ⟨⟨ri ?_, ?_⟩, rfl, rfl⟩
        · unfold guF
          rw [show n = k by omega, hg]
        · rfl
      · skip
        refine a_aload_n 0 dX0_strongest_16 rfl rfl ?_
        refine a_iload 4 dX0_strongest_17 rfl ?_
        refine a_iload_n 1 dX0_strongest_19 rfl rfl ?_
        refine a_callVp (As := [.int (nI k), .int snd]) (rest := []) (d := 2) (mc := 0) (ms := 0) (x := wtF dd k snd) (ci := 0) l_X0_43 im_X0_weight se_X0_weight ⟨_, rfl, rfl⟩ dX0_strongest_20 ⟨Nat.le_of_ble_eq_true rfl, Nat.le_of_ble_eq_true rfl⟩ rfl (Nat.le_of_ble_eq_true rfl) ⟨Nat.le_of_ble_eq_true rfl, Nat.le_of_ble_eq_true rfl⟩ hd (c_X0_weight hD0 (by omega)) ?_
        refine a_istore (lv' := [(5, .int (wtF dd k snd)), (0, .ref d), (1, .int snd), (2, .int b), (3, .int m), (4, .int (nI k))]) dX0_strongest_23 (by decide) rfl ?_
        refine a_iload 0 dX0_strongest_25 rfl ?_
        refine a_iload_n 4 dX0_strongest_27 rfl rfl ?_
        refine a_icmple 37 dX0_strongest_28 (by decide) (fun c28 => ?_) (fun c28 => ?_)
        · skip
          have c28 := Int32.not_lt.mpr c28
          refine a_iincN (q := 5) (lv' := [(4, .int (nI (k + 1))), (5, .int (wtF dd k snd)), (0, .ref d), (1, .int snd), (2, .int b), (3, .int m)]) dX0_strongest_37 rfl (by decide) rfl ?_
          refine a_goto 7 dX0_strongest_40 (by decide) ?_
          refine a_sub [2, 3, 4, 5, 0] rfl ?_
          exact ih7 _ _ _ (by omega) (by simp only [gsF, hg]; first | rw [if_pos c28] | rw [if_neg c28]) (by omega)
        · skip
          have c28 := Int32.not_le.mp c28
          refine a_iload 5 dX0_strongest_31 rfl ?_
          refine a_istore_n (lv' := [(2, .int (nI k)), (5, .int (wtF dd k snd)), (0, .ref d), (1, .int snd), (3, .int m), (4, .int (nI k))]) dX0_strongest_33 rfl (by decide) rfl ?_
          refine a_iload 1 dX0_strongest_34 rfl ?_
          refine a_istore_n (lv' := [(3, .int (wtF dd k snd)), (2, .int (nI k)), (5, .int (wtF dd k snd)), (0, .ref d), (1, .int snd), (4, .int (nI k))]) dX0_strongest_36 rfl (by decide) rfl ?_
          refine a_iincN (q := 5) (lv' := [(4, .int (nI (k + 1))), (3, .int (wtF dd k snd)), (2, .int (nI k)), (5, .int (wtF dd k snd)), (0, .ref d), (1, .int snd)]) dX0_strongest_37 rfl (by decide) rfl ?_
          refine a_goto 7 dX0_strongest_40 (by decide) ?_
          refine a_sub [4, 5, 2, 1, 0] rfl ?_
          exact ih7 _ _ _ (by omega) (by simp only [gsF, hg]; first | rw [if_pos c28] | rw [if_neg c28]) (by omega)
  refine a_sub [3, 4, 2, 1, 0] rfl ?_
  exact L7 _ 0 (-1) 0 (Nat.zero_le _) rfl (Nat.lt_succ_self _)
set_option maxHeartbeats 4000000 in
set_option maxRecDepth 100000 in
theorem c_X0_allOnList {G : GT} {B : Nat} {l : Launch} {H : Heap} {d n : Nat} {dd : DD} (hD : Dd G H d n dd) : AM G B l yX0_allOnList cX0_allOnList 3 (some .int) 1 0 0 [.ref d] H (fun v H' => v = some (.int (liF dd n)) ∧ (H' = H)) := by
  obtain ⟨fS, fU, fO, hd, hs, hu, ho, eS, eU, eO, hn⟩ := hD
  refine AM.ofI (lv := [(0, .ref d)]) (by decide +kernel) (Nat.le_of_ble_eq_true rfl) rfl ?_ (fun _ h => by cases h.1)
  refine a_iconst 0 dX0_allOnList_0 (by decide) ?_
  refine a_istore_n (lv' := [(1, .int 0), (0, .ref d)]) dX0_allOnList_1 rfl (by decide) rfl ?_
  refine a_iconst 0 dX0_allOnList_2 (by decide) ?_
  refine a_istore_n (lv' := [(2, .int 0), (1, .int 0), (0, .ref d)]) dX0_allOnList_3 rfl (by decide) rfl ?_
  have L4 : ∀ (fu : Nat) (k : Nat) (b : Int32), k ≤ n → b = liF dd k → n - k < fu → AW G B l { frames := 1, cells := 0, slots := 0, locals := 27 * 1 } yX0_allOnList.cls cX0_allOnList 3 false (fun v H' ce' sl' => (v = some (.int (liF dd n)) ∧ (H' = H)) ∧ ce' = 0 ∧ sl' = 0) 4 [(0, .ref d), (1, .int b), (2, .int (nI k))] [] H 0 0 := by
    intro fu
    induction fu with
    | zero => intro k b hk hg hm4; exact absurd hm4 (Nat.not_lt_zero _)
    | succ fu ih4 =>
      intro k b hk hg hm4
      refine a_iload_n 2 dX0_allOnList_4 rfl rfl ?_
      refine a_aload_n 0 dX0_allOnList_5 rfl rfl ?_
      refine a_get f_X0_9 dX0_allOnList_6 hd rfl ?_
      refine a_icmpgeN (a := k) (b := n) 27 dX0_allOnList_9 (by decide) (by omega) (by omega) (fun c9 => ?_) (fun c9 => ?_)
      · skip
        refine a_iload_n 1 dX0_allOnList_27 rfl rfl ?_
        refine a_ret dX0_allOnList_28 ⟨⟨ri ?_, ?_⟩, rfl, rfl⟩
        · rw [hg, show n = k by omega]
        · rfl
      · skip
        refine a_iload_n 1 dX0_allOnList_12 rfl rfl ?_
        refine a_aload_n 0 dX0_allOnList_13 rfl rfl ?_
        refine a_get f_X0_22 dX0_allOnList_14 hd rfl ?_
        refine a_iload_n 2 dX0_allOnList_17 rfl rfl ?_
        refine a_ialdN (j := k) dX0_allOnList_18 ho (by omega) (by decide) ?_
        refine a_toeq (dd (16 + k)) (eO _ (by omega)) ?_
        refine a_iadd dX0_allOnList_19 ?_
        refine a_istore_n (lv' := [(1, .int (b + (dd (16 + k)))), (0, .ref d), (2, .int (nI k))]) dX0_allOnList_20 rfl (by decide) rfl ?_
        refine a_iincN (q := 2) (lv' := [(2, .int (nI (k + 1))), (1, .int (b + (dd (16 + k)))), (0, .ref d)]) dX0_allOnList_21 rfl (by decide) rfl ?_
        refine a_goto 4 dX0_allOnList_24 (by decide) ?_
        refine a_sub [2, 1, 0] rfl ?_
        exact ih4 _ _ (by omega) (by rw [hg]; rfl) (by omega)
  refine a_sub [2, 1, 0] rfl ?_
  exact L4 _ 0 0 (Nat.zero_le _) rfl (Nat.lt_succ_self _)
set_option maxHeartbeats 4000000 in
set_option maxRecDepth 100000 in
theorem c_X0_certainty {G : GT} {B : Nat} {l : Launch} {H : Heap} {d n : Nat} {dd : DD} {w : Nat} {snd : Int32} (hD : Dd G H d n dd) (hw : w < n) : AM G B l yX0_certainty cX0_certainty 5 (some .int) 3 0 0 [.ref d, .int (nI w), .int snd] H (fun v H' => v = some (.int (ceF n dd w snd)) ∧ (H' = H)) := by
  have hD0 := hD
  obtain ⟨fS, fU, fO, hd, hs, hu, ho, eS, eU, eO, hn⟩ := hD
  refine AM.ofI (lv := [(0, .ref d), (1, .int (nI w)), (2, .int snd)]) (by decide +kernel) (Nat.le_of_ble_eq_true rfl) rfl ?_ (fun _ h => by cases h.1)
  refine a_iconst 0 dX0_certainty_0 (by decide) ?_
  refine a_istore_n (lv' := [(3, .int 0), (0, .ref d), (1, .int (nI w)), (2, .int snd)]) dX0_certainty_1 rfl (by decide) rfl ?_
  refine a_iconst 0 dX0_certainty_2 (by decide) ?_
  refine a_istore (lv' := [(4, .int 0), (3, .int 0), (0, .ref d), (1, .int (nI w)), (2, .int snd)]) dX0_certainty_3 (by decide) rfl ?_
  have L5 : ∀ (fu : Nat) (k : Nat) (b : Int32), k ≤ n → b = smF dd snd k → n - k < fu → AW G B l { frames := 3, cells := 0, slots := 0, locals := 27 * 3 } yX0_certainty.cls cX0_certainty 5 false (fun v H' ce' sl' => (v = some (.int (ceF n dd w snd)) ∧ (H' = H)) ∧ ce' = 0 ∧ sl' = 0) 5 [(0, .ref d), (1, .int (nI w)), (2, .int snd), (3, .int b), (4, .int (nI k))] [] H 0 0 := by
    intro fu
    induction fu with
    | zero => intro k b hk hg hm5; exact absurd hm5 (Nat.not_lt_zero _)
    | succ fu ih5 =>
      intro k b hk hg hm5
      refine a_iload 4 dX0_certainty_5 rfl ?_
      refine a_aload_n 0 dX0_certainty_7 rfl rfl ?_
      refine a_get f_X0_9 dX0_certainty_8 hd rfl ?_
      refine a_icmpgeN (a := k) (b := n) 30 dX0_certainty_11 (by decide) (by omega) (by omega) (fun c11 => ?_) (fun c11 => ?_)
      · skip
        refine a_iload_n 3 dX0_certainty_30 rfl rfl ?_
        have hkn : k = n := by omega
        subst hkn
        refine a_ifgt 38 dX0_certainty_31 (by decide) (fun c31 => ?_) (fun c31 => ?_)
        · skip
          refine a_aload_n 0 dX0_certainty_38 rfl rfl ?_
          refine a_iload_n 1 dX0_certainty_39 rfl rfl ?_
          refine a_iload_n 2 dX0_certainty_40 rfl rfl ?_
          refine a_callVp (As := [.int (nI w), .int snd]) (rest := []) (d := 2) (mc := 0) (ms := 0) (x := wtF dd w snd) (ci := 0) l_X0_43 im_X0_weight se_X0_weight ⟨_, rfl, rfl⟩ dX0_certainty_41 ⟨Nat.le_of_ble_eq_true rfl, Nat.le_of_ble_eq_true rfl⟩ rfl (Nat.le_of_ble_eq_true rfl) ⟨Nat.le_of_ble_eq_true rfl, Nat.le_of_ble_eq_true rfl⟩ hd (c_X0_weight hD0 hw) ?_
          refine a_i2l dX0_certainty_44 ?_
          refine a_ldc2 1000000 k_X0_46 dX0_certainty_45 ?_
          refine a_lmul dX0_certainty_48 ?_
          refine a_iload_n 3 dX0_certainty_49 rfl rfl ?_
          refine a_i2l dX0_certainty_50 ?_
          refine a_ldiv dX0_certainty_51 (i64_ne0 c31) ?_
          refine a_l2i dX0_certainty_52 ?_
          refine a_ret dX0_certainty_53 ⟨⟨ri ?_, ?_⟩, rfl, rfl⟩
          · unfold ceF
            rw [← hg]
            rw [if_neg (Int32.not_le.mpr c31)]
          · rfl
        · skip
          refine a_iconst 0 dX0_certainty_34 (by decide) ?_
          refine a_goto 53 dX0_certainty_35 (by decide) ?_
          refine a_ret dX0_certainty_53 ⟨⟨ri ?_, ?_⟩, rfl, rfl⟩
          · unfold ceF
            rw [← hg]
            rw [if_pos (Int32.not_lt.mp c31)]
          · rfl
      · skip
        refine a_iload_n 3 dX0_certainty_14 rfl rfl ?_
        refine a_aload_n 0 dX0_certainty_15 rfl rfl ?_
        refine a_iload 4 dX0_certainty_16 rfl ?_
        refine a_iload_n 2 dX0_certainty_18 rfl rfl ?_
        refine a_callVp (As := [.int (nI k), .int snd]) (rest := [.int b]) (d := 2) (mc := 0) (ms := 0) (x := wtF dd k snd) (ci := 0) l_X0_43 im_X0_weight se_X0_weight ⟨_, rfl, rfl⟩ dX0_certainty_19 ⟨Nat.le_of_ble_eq_true rfl, Nat.le_of_ble_eq_true rfl⟩ rfl (Nat.le_of_ble_eq_true rfl) ⟨Nat.le_of_ble_eq_true rfl, Nat.le_of_ble_eq_true rfl⟩ hd (c_X0_weight hD0 (by omega)) ?_
        refine a_iadd dX0_certainty_22 ?_
        refine a_istore_n (lv' := [(3, .int (b + (wtF dd k snd))), (0, .ref d), (1, .int (nI w)), (2, .int snd), (4, .int (nI k))]) dX0_certainty_23 rfl (by decide) rfl ?_
        refine a_iincN (q := 4) (lv' := [(4, .int (nI (k + 1))), (3, .int (b + (wtF dd k snd))), (0, .ref d), (1, .int (nI w)), (2, .int snd)]) dX0_certainty_24 rfl (by decide) rfl ?_
        refine a_goto 5 dX0_certainty_27 (by decide) ?_
        refine a_sub [2, 3, 4, 1, 0] rfl ?_
        exact ih5 _ _ (by omega) (by rw [hg]; rfl) (by omega)
  refine a_sub [2, 3, 4, 1, 0] rfl ?_
  exact L5 _ 0 0 (Nat.zero_le _) rfl (Nat.lt_succ_self _)
set_option maxHeartbeats 4000000 in
set_option maxRecDepth 100000 in
theorem c_X0_nearest {G : GT} {B : Nat} {l : Launch} {H : Heap} {d n : Nat} {dd : DD} {snd : Int32} (hD : Dd G H d n dd) : AM G B l yX0_nearest cX0_nearest 4 (some .int) 2 0 0 [.ref d, .int snd] H (fun v H' => v = some (.int (neF dd snd n)) ∧ (H' = H)) := by
  obtain ⟨fS, fU, fO, hd, hs, hu, ho, eS, eU, eO, hn⟩ := hD
  refine AM.ofI (lv := [(0, .ref d), (1, .int snd)]) (by decide +kernel) (Nat.le_of_ble_eq_true rfl) rfl ?_ (fun _ h => by cases h.1)
  refine a_bipush 27 dX0_nearest_0 (by decide) ?_
  refine a_istore_n (lv' := [(2, .int 27), (0, .ref d), (1, .int snd)]) dX0_nearest_2 rfl (by decide) rfl ?_
  refine a_iconst 0 dX0_nearest_3 (by decide) ?_
  refine a_istore_n (lv' := [(3, .int 0), (2, .int 27), (0, .ref d), (1, .int snd)]) dX0_nearest_4 rfl (by decide) rfl ?_
  have L5 : ∀ (fu : Nat) (k : Nat) (b : Int32), k ≤ n → b = neF dd snd k → n - k < fu → AW G B l { frames := 2, cells := 0, slots := 0, locals := 27 * 2 } yX0_nearest.cls cX0_nearest 4 false (fun v H' ce' sl' => (v = some (.int (neF dd snd n)) ∧ (H' = H)) ∧ ce' = 0 ∧ sl' = 0) 5 [(0, .ref d), (1, .int snd), (2, .int b), (3, .int (nI k))] [] H 0 0 := by
    intro fu
    induction fu with
    | zero => intro k b hk hg hm5; exact absurd hm5 (Nat.not_lt_zero _)
    | succ fu ih5 =>
      intro k b hk hg hm5
      refine a_iload_n 3 dX0_nearest_5 rfl rfl ?_
      refine a_aload_n 0 dX0_nearest_6 rfl rfl ?_
      refine a_get f_X0_9 dX0_nearest_7 hd rfl ?_
      refine a_icmpgeN (a := k) (b := n) 34 dX0_nearest_10 (by decide) (by omega) (by omega) (fun c10 => ?_) (fun c10 => ?_)
      · skip
        refine a_iload_n 2 dX0_nearest_34 rfl rfl ?_
        refine a_ret dX0_nearest_35 ⟨⟨ri ?_, ?_⟩, rfl, rfl⟩
        · rw [hg, show n = k by omega]
        · rfl
      · skip
        refine a_iload_n 2 dX0_nearest_13 rfl rfl ?_
        refine a_aload_n 0 dX0_nearest_14 rfl rfl ?_
        refine a_get f_X0_15 dX0_nearest_15 hd rfl ?_
        refine a_iload_n 3 dX0_nearest_18 rfl rfl ?_
        refine a_ialdN (j := k) dX0_nearest_19 hs (by omega) (by decide) ?_
        refine a_toeq (dd k) (eS _ (by omega)) ?_
        refine a_iload_n 1 dX0_nearest_20 rfl rfl ?_
        refine a_callSp (As := [.int (dd k), .int snd]) (rest := [.int b]) (d := 1) (mc := 0) (ms := 0) (x := apF (dd k) snd) l_X0_39 st_X6_apart dX0_nearest_21 ⟨Nat.le_of_ble_eq_true rfl, Nat.le_of_ble_eq_true rfl⟩ rfl (Nat.le_of_ble_eq_true rfl) ⟨Nat.le_of_ble_eq_true rfl, Nat.le_of_ble_eq_true rfl⟩ (c_X6_apart) ?_
        refine a_min ml_X0_48 dX0_nearest_24 (Nat.le_of_ble_eq_true rfl) (Nat.le_of_ble_eq_true rfl) ⟨Nat.le_of_ble_eq_true rfl, Nat.le_of_ble_eq_true rfl⟩ ?_
        refine a_istore_n (lv' := [(2, .int (if (apF (dd k) snd) < b then (apF (dd k) snd) else b)), (0, .ref d), (1, .int snd), (3, .int (nI k))]) dX0_nearest_27 rfl (by decide) rfl ?_
        refine a_iincN (q := 3) (lv' := [(3, .int (nI (k + 1))), (2, .int (if (apF (dd k) snd) < b then (apF (dd k) snd) else b)), (0, .ref d), (1, .int snd)]) dX0_nearest_28 rfl (by decide) rfl ?_
        refine a_goto 5 dX0_nearest_31 (by decide) ?_
        refine a_sub [2, 3, 1, 0] rfl ?_
        exact ih5 _ _ (by omega) (by rw [hg]; rfl) (by omega)
  refine a_sub [2, 3, 1, 0] rfl ?_
  exact L5 _ 0 27 (Nat.zero_le _) rfl (Nat.lt_succ_self _)
set_option maxHeartbeats 4000000 in
set_option maxRecDepth 100000 in
theorem c_X0_isThere {G : GT} {B : Nat} {l : Launch} {H : Heap} {d n : Nat} {dd : DD} {w : Int32} (hD : Dd G H d n dd) : AM G B l yX0_isThere cX0_isThere 2 (some .boolean) 0 0 0 [.ref d, .int w] H (fun v H' => v = some (.int (bI (wIx n w))) ∧ (H' = H)) := by
  obtain ⟨fS, fU, fO, hd, hs, hu, ho, eS, eU, eO, hn⟩ := hD
  refine AM.ofZ (lv := [(0, .ref d), (1, .int w)]) (by decide +kernel) (Nat.le_of_ble_eq_true rfl) rfl ?_ (fun _ _ h => ⟨_, h.1⟩)
  refine a_iload_n 1 dX0_isThere_0 rfl rfl ?_
  refine a_iflt 16 dX0_isThere_1 (by decide) (fun c1 => ?_) (fun c1 => ?_)
  · skip
    refine a_iconst 0 dX0_isThere_16 (by decide) ?_
    refine a_ret dX0_isThere_17 ⟨⟨ri ?_, ?_⟩, rfl, rfl⟩
    · first | (rw [wIx_f1 c1]; rfl) | (rw [wIx_f2 c9]; rfl)
    · rfl
  · skip
    refine a_iload_n 1 dX0_isThere_4 rfl rfl ?_
    refine a_aload_n 0 dX0_isThere_5 rfl rfl ?_
    refine a_get f_X0_9 dX0_isThere_6 hd rfl ?_
    refine a_icmpge 16 dX0_isThere_9 (by decide) (fun c9 => ?_) (fun c9 => ?_)
    · skip
      refine a_iconst 0 dX0_isThere_16 (by decide) ?_
      refine a_ret dX0_isThere_17 ⟨⟨ri ?_, ?_⟩, rfl, rfl⟩
      · first | (rw [wIx_f1 c1]; rfl) | (rw [wIx_f2 c9]; rfl)
      · rfl
    · skip
      refine a_iconst 1 dX0_isThere_12 (by decide) ?_
      refine a_goto 17 dX0_isThere_13 (by decide) ?_
      refine a_ret dX0_isThere_17 ⟨⟨ri ?_, ?_⟩, rfl, rfl⟩
      · rw [wIx_t c1 c9]; rfl
      · rfl
set_option maxHeartbeats 4000000 in
set_option maxRecDepth 100000 in
theorem c_X0_putOnList {G : GT} {B : Nat} {l : Launch} {H : Heap} {d n : Nat} {dd : DD} {w : Nat} (hD : Dd G H d n dd) (hw : w < n) (hB : B ≤ d) : AM G B l yX0_putOnList cX0_putOnList 2 none 1 0 0 [.ref d, .int (nI w)] H (fun v H' => v = none ∧ (Dd G H' d n (puF dd w) ∧ ∀ q : Nat, ¬ (d ≤ q ∧ q < d + 4) → H'[q]? = H[q]?)) := by
  have hD0 := hD
  obtain ⟨fS, fU, fO, hd, hs, hu, ho, eS, eU, eO, hn⟩ := hD
  have hF : ∀ q : Nat, ¬ (d ≤ q ∧ q < d + 4) → H[q]? = H[q]? := fun _ _ => rfl
  refine AM.ofV (lv := [(0, .ref d), (1, .int (nI w))]) (by decide +kernel) (ini := false) (fun h => by cases h) (Nat.le_of_ble_eq_true rfl) rfl ?_ (fun _ _ h => h.1)
  refine a_aload_n 0 dX0_putOnList_0 rfl rfl ?_
  refine a_iload_n 1 dX0_putOnList_1 rfl rfl ?_
  refine a_callVp (As := [.int (nI w)]) (rest := []) (d := 0) (mc := 0) (ms := 0) (x := bI (wIx n (nI w))) (ci := 0) l_X0_63 im_X0_isThere se_X0_isThere ⟨_, rfl, rfl⟩ dX0_putOnList_2 ⟨Nat.le_of_ble_eq_true rfl, Nat.le_of_ble_eq_true rfl⟩ rfl (Nat.le_of_ble_eq_true rfl) ⟨Nat.le_of_ble_eq_true rfl, Nat.le_of_ble_eq_true rfl⟩ hd (c_X0_isThere hD0) ?_
  refine a_ifeqB 27 dX0_putOnList_5 (by decide) (fun c5 => ?_) (fun c5 => ?_)
  · skip
    exact absurd c5 (by rw [wIx_nI (by omega) (by omega)]; decide)
  · skip
    refine a_aload_n 0 dX0_putOnList_8 rfl rfl ?_
    refine a_get f_X0_22 dX0_putOnList_9 hd rfl ?_
    refine a_iload_n 1 dX0_putOnList_12 rfl rfl ?_
    refine a_aload_n 0 dX0_putOnList_13 rfl rfl ?_
    refine a_get f_X0_22 dX0_putOnList_14 hd rfl ?_
    refine a_iload_n 1 dX0_putOnList_17 rfl rfl ?_
    refine a_ialdN (j := w) dX0_putOnList_18 ho (by omega) (by decide) ?_
    refine a_toeq (dd (16 + w)) (eO _ (by omega)) ?_
    refine a_iconst 1 dX0_putOnList_19 (by decide) ?_
    refine a_iadd dX0_putOnList_20 ?_
    refine a_bipush 99 dX0_putOnList_21 (by decide) ?_
    refine a_min ml_X0_48 dX0_putOnList_23 (Nat.le_of_ble_eq_true rfl) (Nat.le_of_ble_eq_true rfl) ⟨Nat.le_of_ble_eq_true rfl, Nat.le_of_ble_eq_true rfl⟩ ?_
    refine a_toeq (mnF (dd (16 + w) + 1)) rfl ?_
    refine a_iastN (j := w) dX0_putOnList_26 ho (by omega) (by decide) (by omega) (fun H2 ho hz2 hq2 => ?_)
    have ho : Ai G H2 (d + 3) 8 (upd fO w (mnF (dd (16 + w) + 1))) := ho
    have hd := hd.kept (hq2 _ (by omega))
    have hs := hs.kept (hq2 _ (by omega))
    have hu := hu.kept (hq2 _ (by omega))
    have hF : ∀ q : Nat, ¬ (d ≤ q ∧ q < d + 4) → H2[q]? = H[q]? := fun q hq => (hq2 q (by omega)).trans (hF q hq)
    refine a_retv dX0_putOnList_27 ⟨⟨rfl, ?_⟩, rfl, rfl⟩
    · refine ⟨Dd.mk' hd hs hu ho hn ?_ ?_ ?_ ?_ ?_ ?_, hF⟩
      all_goals try intro i hi
      all_goals try dsimp only
      all_goals try simp only [upd, puF]
      all_goals repeat' split
      all_goals first | omega | rfl | contradiction | exact eS _ (by assumption) | exact eU _ (by assumption) | exact eO _ (by assumption) | (simp_all; done)
set_option maxHeartbeats 4000000 in
set_option maxRecDepth 100000 in
theorem c_X0_react {G : GT} {B : Nat} {l : Launch} {H : Heap} {d n : Nat} {dd : DD} {g : Nat} {what : Int32} (hD : Dd G H d n dd) (hg : g < n) (hB : B ≤ d) : AM G B l yX0_react cX0_react 3 none 2 0 0 [.ref d, .int (nI g), .int what] H (fun v H' => v = none ∧ (Dd G H' d n (hrF dd g what) ∧ ∀ q : Nat, ¬ (d ≤ q ∧ q < d + 4) → H'[q]? = H[q]?)) := by
  have hD0 := hD
  obtain ⟨fS, fU, fO, hd, hs, hu, ho, eS, eU, eO, hn⟩ := hD
  have hF : ∀ q : Nat, ¬ (d ≤ q ∧ q < d + 4) → H[q]? = H[q]? := fun _ _ => rfl
  refine AM.ofV (lv := [(0, .ref d), (1, .int (nI g)), (2, .int what)]) (by decide +kernel) (ini := false) (fun h => by cases h) (Nat.le_of_ble_eq_true rfl) rfl ?_ (fun _ _ h => h.1)
  refine a_iload_n 2 dX0_react_0 rfl rfl ?_
  refine a_ifne 12 dX0_react_1 (by decide) (fun c1 => ?_) (fun c1 => ?_)
  · skip
    refine a_iload_n 2 dX0_react_12 rfl rfl ?_
    refine a_iconst 1 dX0_react_13 (by decide) ?_
    refine a_icmpne 27 dX0_react_14 (by decide) (fun c14 => ?_) (fun c14 => ?_)
    · skip
      refine a_aload_n 0 dX0_react_27 rfl rfl ?_
      refine a_dup dX0_react_28 rfl ?_
      refine a_get f_X0_28 dX0_react_29 hd rfl ?_
      refine a_iconst 1 dX0_react_32 (by decide) ?_
      refine a_iadd dX0_react_33 ?_
      refine a_put f_X0_28 p_X0_28 dX0_react_34 hd (Nat.le_of_ble_eq_true rfl) rfl rfl (by omega) (fun H1 hd hz1 hq1 => ?_)
      have hd : Ob G H1 d 0 [.int (nI n), .ref (d + 1), .ref (d + 2), .ref (d + 3), .int (dd 25), .int ((dd 24) + 1), .int (dd 26)] := hd
      have hs := hs.kept (hq1 _ (by omega))
      have hu := hu.kept (hq1 _ (by omega))
      have ho := ho.kept (hq1 _ (by omega))
      have hF : ∀ q : Nat, ¬ (d ≤ q ∧ q < d + 4) → H1[q]? = H[q]? := fun q hq => (hq1 q (by omega)).trans (hF q hq)
      refine a_aload_n 0 dX0_react_37 rfl rfl ?_
      refine a_iload_n 1 dX0_react_38 rfl rfl ?_
      refine a_put f_X0_31 p_X0_31 dX0_react_39 hd (Nat.le_of_ble_eq_true rfl) rfl rfl (by omega) (fun H2 hd hz2 hq2 => ?_)
      have hd : Ob G H2 d 0 [.int (nI n), .ref (d + 1), .ref (d + 2), .ref (d + 3), .int (dd 25), .int ((dd 24) + 1), .int (nI g)] := hd
      have hs := hs.kept (hq2 _ (by omega))
      have hu := hu.kept (hq2 _ (by omega))
      have ho := ho.kept (hq2 _ (by omega))
      have hF : ∀ q : Nat, ¬ (d ≤ q ∧ q < d + 4) → H2[q]? = H[q]? := fun q hq => (hq2 q (by omega)).trans (hF q hq)
      refine a_retv dX0_react_42 ⟨⟨rfl, ?_⟩, rfl, rfl⟩
      · refine ⟨Dd.mk' hd hs hu ho hn ?_ ?_ ?_ ?_ ?_ ?_, hF⟩
        all_goals try intro i hi
        all_goals try dsimp only
        all_goals try simp only [upd, puF, hrF]
        all_goals repeat' split
        all_goals first | omega | rfl | contradiction | exact eS _ (by assumption) | exact eU _ (by assumption) | exact eO _ (by assumption) | (rw [eS _ (by assumption)]; simp only [upd, puF]; repeat' split; all_goals first | omega | rfl) | (rw [eU _ (by assumption)]; simp only [upd, puF]; repeat' split; all_goals first | omega | rfl) | (rw [eO _ (by assumption)]; simp only [upd, puF]; repeat' split; all_goals first | omega | rfl | simp_all) | (simp_all; done)
    · skip
      refine a_aload_n 0 dX0_react_17 rfl rfl ?_
      refine a_dup dX0_react_18 rfl ?_
      refine a_get f_X0_25 dX0_react_19 hd rfl ?_
      refine a_iconst 1 dX0_react_22 (by decide) ?_
      refine a_iadd dX0_react_23 ?_
      refine a_put f_X0_25 p_X0_25 dX0_react_24 hd (Nat.le_of_ble_eq_true rfl) rfl rfl (by omega) (fun H3 hd hz3 hq3 => ?_)
      have hd : Ob G H3 d 0 [.int (nI n), .ref (d + 1), .ref (d + 2), .ref (d + 3), .int ((dd 25) + 1), .int (dd 24), .int (dd 26)] := hd
      have hs := hs.kept (hq3 _ (by omega))
      have hu := hu.kept (hq3 _ (by omega))
      have ho := ho.kept (hq3 _ (by omega))
      have hF : ∀ q : Nat, ¬ (d ≤ q ∧ q < d + 4) → H3[q]? = H[q]? := fun q hq => (hq3 q (by omega)).trans (hF q hq)
      refine a_aload_n 0 dX0_react_27 rfl rfl ?_
      refine a_dup dX0_react_28 rfl ?_
      refine a_get f_X0_28 dX0_react_29 hd rfl ?_
      refine a_iconst 1 dX0_react_32 (by decide) ?_
      refine a_iadd dX0_react_33 ?_
      refine a_put f_X0_28 p_X0_28 dX0_react_34 hd (Nat.le_of_ble_eq_true rfl) rfl rfl (by omega) (fun H4 hd hz4 hq4 => ?_)
      have hd : Ob G H4 d 0 [.int (nI n), .ref (d + 1), .ref (d + 2), .ref (d + 3), .int ((dd 25) + 1), .int ((dd 24) + 1), .int (dd 26)] := hd
      have hs := hs.kept (hq4 _ (by omega))
      have hu := hu.kept (hq4 _ (by omega))
      have ho := ho.kept (hq4 _ (by omega))
      have hF : ∀ q : Nat, ¬ (d ≤ q ∧ q < d + 4) → H4[q]? = H[q]? := fun q hq => (hq4 q (by omega)).trans (hF q hq)
      refine a_aload_n 0 dX0_react_37 rfl rfl ?_
      refine a_iload_n 1 dX0_react_38 rfl rfl ?_
      refine a_put f_X0_31 p_X0_31 dX0_react_39 hd (Nat.le_of_ble_eq_true rfl) rfl rfl (by omega) (fun H5 hd hz5 hq5 => ?_)
      have hd : Ob G H5 d 0 [.int (nI n), .ref (d + 1), .ref (d + 2), .ref (d + 3), .int ((dd 25) + 1), .int ((dd 24) + 1), .int (nI g)] := hd
      have hs := hs.kept (hq5 _ (by omega))
      have hu := hu.kept (hq5 _ (by omega))
      have ho := ho.kept (hq5 _ (by omega))
      have hF : ∀ q : Nat, ¬ (d ≤ q ∧ q < d + 4) → H5[q]? = H[q]? := fun q hq => (hq5 q (by omega)).trans (hF q hq)
      refine a_retv dX0_react_42 ⟨⟨rfl, ?_⟩, rfl, rfl⟩
      · refine ⟨Dd.mk' hd hs hu ho hn ?_ ?_ ?_ ?_ ?_ ?_, hF⟩
        all_goals try intro i hi
        all_goals try dsimp only
        all_goals try simp only [upd, puF, hrF]
        all_goals repeat' split
        all_goals first | omega | rfl | contradiction | exact eS _ (by assumption) | exact eU _ (by assumption) | exact eO _ (by assumption) | (rw [eS _ (by assumption)]; simp only [upd, puF]; repeat' split; all_goals first | omega | rfl) | (rw [eU _ (by assumption)]; simp only [upd, puF]; repeat' split; all_goals first | omega | rfl) | (rw [eO _ (by assumption)]; simp only [upd, puF]; repeat' split; all_goals first | omega | rfl | simp_all) | (simp_all; done)
  · skip
    refine a_aload_n 0 dX0_react_4 rfl rfl ?_
    refine a_iload_n 1 dX0_react_5 rfl rfl ?_
    refine a_callVv (As := [.int (nI g)]) (rest := []) (d := 1) (mc := 0) (ms := 0) (ci := 0) l_X0_53 im_X0_putOnList se_X0_putOnList ⟨_, rfl, rfl⟩ dX0_react_6 ⟨Nat.le_of_ble_eq_true rfl, Nat.le_of_ble_eq_true rfl⟩ rfl (Nat.le_of_ble_eq_true rfl) ⟨Nat.le_of_ble_eq_true rfl, Nat.le_of_ble_eq_true rfl⟩ hd (c_X0_putOnList hD0 hg hB) (fun H6 hp6 => ?_)
    obtain ⟨⟨fS, fU, fO, hd, hs, hu, ho, eS, eU, eO, -⟩, hfr⟩ := hp6
    have hF : ∀ q : Nat, ¬ (d ≤ q ∧ q < d + 4) → H6[q]? = H[q]? := fun q hq => (hfr q (by omega)).trans (hF q hq)
    refine a_goto 27 dX0_react_9 (by decide) ?_
    refine a_aload_n 0 dX0_react_27 rfl rfl ?_
    refine a_dup dX0_react_28 rfl ?_
    refine a_get f_X0_28 dX0_react_29 hd rfl ?_
    refine a_iconst 1 dX0_react_32 (by decide) ?_
    refine a_iadd dX0_react_33 ?_
    refine a_put f_X0_28 p_X0_28 dX0_react_34 hd (Nat.le_of_ble_eq_true rfl) rfl rfl (by omega) (fun H7 hd hz7 hq7 => ?_)
    have hd : Ob G H7 d 0 [.int (nI n), .ref (d + 1), .ref (d + 2), .ref (d + 3), .int (puF dd g 25), .int ((puF dd g 24) + 1), .int (puF dd g 26)] := hd
    have hs := hs.kept (hq7 _ (by omega))
    have hu := hu.kept (hq7 _ (by omega))
    have ho := ho.kept (hq7 _ (by omega))
    have hF : ∀ q : Nat, ¬ (d ≤ q ∧ q < d + 4) → H7[q]? = H[q]? := fun q hq => (hq7 q (by omega)).trans (hF q hq)
    refine a_aload_n 0 dX0_react_37 rfl rfl ?_
    refine a_iload_n 1 dX0_react_38 rfl rfl ?_
    refine a_put f_X0_31 p_X0_31 dX0_react_39 hd (Nat.le_of_ble_eq_true rfl) rfl rfl (by omega) (fun H8 hd hz8 hq8 => ?_)
    have hd : Ob G H8 d 0 [.int (nI n), .ref (d + 1), .ref (d + 2), .ref (d + 3), .int (puF dd g 25), .int ((puF dd g 24) + 1), .int (nI g)] := hd
    have hs := hs.kept (hq8 _ (by omega))
    have hu := hu.kept (hq8 _ (by omega))
    have ho := ho.kept (hq8 _ (by omega))
    have hF : ∀ q : Nat, ¬ (d ≤ q ∧ q < d + 4) → H8[q]? = H[q]? := fun q hq => (hq8 q (by omega)).trans (hF q hq)
    refine a_retv dX0_react_42 ⟨⟨rfl, ?_⟩, rfl, rfl⟩
    · refine ⟨Dd.mk' hd hs hu ho hn ?_ ?_ ?_ ?_ ?_ ?_, hF⟩
      all_goals try intro i hi
      all_goals try dsimp only
      all_goals try simp only [upd, puF, hrF]
      all_goals repeat' split
      all_goals first | omega | rfl | contradiction | exact eS _ (by assumption) | exact eU _ (by assumption) | exact eO _ (by assumption) | (rw [eS _ (by assumption)]; simp only [upd, puF]; repeat' split; all_goals first | omega | rfl) | (rw [eU _ (by assumption)]; simp only [upd, puF]; repeat' split; all_goals first | omega | rfl) | (rw [eO _ (by assumption)]; simp only [upd, puF]; repeat' split; all_goals first | omega | rfl | simp_all) | (simp_all; done)
set_option maxHeartbeats 4000000 in
set_option maxRecDepth 100000 in
theorem c_X0_confirm {G : GT} {B : Nat} {l : Launch} {H : Heap} {d n : Nat} {dd : DD} {g : Nat} (hD : Dd G H d n dd) (hk : dd 26 = nI g) (hg : g < n) (hB : B ≤ d) : AM G B l yX0_confirm cX0_confirm 1 none 1 0 0 [.ref d] H (fun v H' => v = none ∧ (Dd G H' d n (cfF dd g) ∧ ∀ q : Nat, ¬ (d ≤ q ∧ q < d + 4) → H'[q]? = H[q]?)) := by
  have hD0 := hD
  obtain ⟨fS, fU, fO, hd, hs, hu, ho, eS, eU, eO, hn⟩ := hD
  rw [hk] at hd
  have hF : ∀ q : Nat, ¬ (d ≤ q ∧ q < d + 4) → H[q]? = H[q]? := fun _ _ => rfl
  refine AM.ofV (lv := [(0, .ref d)]) (by decide +kernel) (ini := false) (fun h => by cases h) (Nat.le_of_ble_eq_true rfl) rfl ?_ (fun _ _ h => h.1)
  refine a_aload_n 0 dX0_confirm_0 rfl rfl ?_
  refine a_aload_n 0 dX0_confirm_1 rfl rfl ?_
  refine a_get f_X0_31 dX0_confirm_2 hd rfl ?_
  refine a_callVp (As := [.int (nI g)]) (rest := []) (d := 0) (mc := 0) (ms := 0) (x := bI (wIx n (nI g))) (ci := 0) l_X0_63 im_X0_isThere se_X0_isThere ⟨_, rfl, rfl⟩ dX0_confirm_5 ⟨Nat.le_of_ble_eq_true rfl, Nat.le_of_ble_eq_true rfl⟩ rfl (Nat.le_of_ble_eq_true rfl) ⟨Nat.le_of_ble_eq_true rfl, Nat.le_of_ble_eq_true rfl⟩ hd (c_X0_isThere hD0) ?_
  refine a_ifeqB 36 dX0_confirm_8 (by decide) (fun c8 => ?_) (fun c8 => ?_)
  · skip
    exact absurd c8 (by rw [wIx_nI (by omega) (by omega)]; decide)
  · skip
    refine a_aload_n 0 dX0_confirm_11 rfl rfl ?_
    refine a_get f_X0_19 dX0_confirm_12 hd rfl ?_
    refine a_aload_n 0 dX0_confirm_15 rfl rfl ?_
    refine a_get f_X0_31 dX0_confirm_16 hd rfl ?_
    refine a_aload_n 0 dX0_confirm_19 rfl rfl ?_
    refine a_get f_X0_19 dX0_confirm_20 hd rfl ?_
    refine a_aload_n 0 dX0_confirm_23 rfl rfl ?_
    refine a_get f_X0_31 dX0_confirm_24 hd rfl ?_
    refine a_ialdN (j := g) dX0_confirm_27 hu (by omega) (by decide) ?_
    refine a_toeq (dd (8 + g)) (eU _ (by omega)) ?_
    refine a_iconst 1 dX0_confirm_28 (by decide) ?_
    refine a_iadd dX0_confirm_29 ?_
    refine a_bipush 99 dX0_confirm_30 (by decide) ?_
    refine a_min ml_X0_48 dX0_confirm_32 (Nat.le_of_ble_eq_true rfl) (Nat.le_of_ble_eq_true rfl) ⟨Nat.le_of_ble_eq_true rfl, Nat.le_of_ble_eq_true rfl⟩ ?_
    refine a_toeq (mnF (dd (8 + g) + 1)) rfl ?_
    refine a_iastN (j := g) dX0_confirm_35 hu (by omega) (by decide) (by omega) (fun H2 hu hz2 hq2 => ?_)
    have hu : Ai G H2 (d + 2) 8 (upd fU g (mnF (dd (8 + g) + 1))) := hu
    have hd := hd.kept (hq2 _ (by omega))
    have hs := hs.kept (hq2 _ (by omega))
    have ho := ho.kept (hq2 _ (by omega))
    have hF : ∀ q : Nat, ¬ (d ≤ q ∧ q < d + 4) → H2[q]? = H[q]? := fun q hq => (hq2 q (by omega)).trans (hF q hq)
    refine a_aload_n 0 dX0_confirm_36 rfl rfl ?_
    refine a_iconst (-1) dX0_confirm_37 (by decide) ?_
    refine a_put f_X0_31 p_X0_31 dX0_confirm_38 hd (Nat.le_of_ble_eq_true rfl) rfl rfl (by omega) (fun H3 hd hz3 hq3 => ?_)
    have hd : Ob G H3 d 0 [.int (nI n), .ref (d + 1), .ref (d + 2), .ref (d + 3), .int (dd 25), .int (dd 24), .int (-1)] := hd
    have hs := hs.kept (hq3 _ (by omega))
    have hu := hu.kept (hq3 _ (by omega))
    have ho := ho.kept (hq3 _ (by omega))
    have hF : ∀ q : Nat, ¬ (d ≤ q ∧ q < d + 4) → H3[q]? = H[q]? := fun q hq => (hq3 q (by omega)).trans (hF q hq)
    refine a_retv dX0_confirm_41 ⟨⟨rfl, ?_⟩, rfl, rfl⟩
    · refine ⟨Dd.mk' hd hs hu ho hn ?_ ?_ ?_ ?_ ?_ ?_, hF⟩
      all_goals try intro i hi
      all_goals try dsimp only
      all_goals try simp only [upd, cfF]
      all_goals repeat' split
      all_goals first | omega | rfl | contradiction | exact eS _ (by assumption) | exact eU _ (by assumption) | exact eO _ (by assumption) | (simp_all; done)
set_option maxHeartbeats 4000000 in
set_option maxRecDepth 100000 in
theorem c_X0_correctTo {G : GT} {B : Nat} {l : Launch} {H : Heap} {d n : Nat} {dd : DD} {w : Nat} {g : Nat} (hD : Dd G H d n dd) (hk : dd 26 = nI g) (hg : g < n) (hw : w < n) (hgw : g ≠ w) (hB : B ≤ d) : AM G B l yX0_correctTo cX0_correctTo 2 none 2 0 0 [.ref d, .int (nI w)] H (fun v H' => v = none ∧ (Dd G H' d n (crF dd g w) ∧ ∀ q : Nat, ¬ (d ≤ q ∧ q < d + 4) → H'[q]? = H[q]?)) := by
  have hD0 := hD
  obtain ⟨fS, fU, fO, hd, hs, hu, ho, eS, eU, eO, hn⟩ := hD
  rw [hk] at hd
  have hF : ∀ q : Nat, ¬ (d ≤ q ∧ q < d + 4) → H[q]? = H[q]? := fun _ _ => rfl
  refine AM.ofV (lv := [(0, .ref d), (1, .int (nI w))]) (by decide +kernel) (ini := false) (fun h => by cases h) (Nat.le_of_ble_eq_true rfl) rfl ?_ (fun _ _ h => h.1)
  refine a_aload_n 0 dX0_correctTo_0 rfl rfl ?_
  refine a_aload_n 0 dX0_correctTo_1 rfl rfl ?_
  refine a_get f_X0_31 dX0_correctTo_2 hd rfl ?_
  refine a_callVp (As := [.int (nI g)]) (rest := []) (d := 0) (mc := 0) (ms := 0) (x := bI (wIx n (nI g))) (ci := 0) l_X0_63 im_X0_isThere se_X0_isThere ⟨_, rfl, rfl⟩ dX0_correctTo_5 ⟨Nat.le_of_ble_eq_true rfl, Nat.le_of_ble_eq_true rfl⟩ rfl (Nat.le_of_ble_eq_true rfl) ⟨Nat.le_of_ble_eq_true rfl, Nat.le_of_ble_eq_true rfl⟩ hd (c_X0_isThere hD0) ?_
  refine a_ifeqB 59 dX0_correctTo_8 (by decide) (fun c8 => ?_) (fun c8 => ?_)
  · skip
    exact absurd c8 (by rw [wIx_nI (by omega) (by omega)]; decide)
  · skip
    refine a_aload_n 0 dX0_correctTo_11 rfl rfl ?_
    refine a_get f_X0_22 dX0_correctTo_12 hd rfl ?_
    refine a_aload_n 0 dX0_correctTo_15 rfl rfl ?_
    refine a_get f_X0_31 dX0_correctTo_16 hd rfl ?_
    refine a_aload_n 0 dX0_correctTo_19 rfl rfl ?_
    refine a_get f_X0_22 dX0_correctTo_20 hd rfl ?_
    refine a_aload_n 0 dX0_correctTo_23 rfl rfl ?_
    refine a_get f_X0_31 dX0_correctTo_24 hd rfl ?_
    refine a_ialdN (j := g) dX0_correctTo_27 ho (by omega) (by decide) ?_
    refine a_toeq (dd (16 + g)) (eO _ (by omega)) ?_
    refine a_iconst 1 dX0_correctTo_28 (by decide) ?_
    refine a_isub dX0_correctTo_29 ?_
    refine a_iconst 0 dX0_correctTo_30 (by decide) ?_
    refine a_max ml_X0_67 dX0_correctTo_31 (Nat.le_of_ble_eq_true rfl) (Nat.le_of_ble_eq_true rfl) ⟨Nat.le_of_ble_eq_true rfl, Nat.le_of_ble_eq_true rfl⟩ ?_
    refine a_toeq (lsF (dd (16 + g))) rfl ?_
    refine a_iastN (j := g) dX0_correctTo_34 ho (by omega) (by decide) (by omega) (fun H2 ho hz2 hq2 => ?_)
    have ho : Ai G H2 (d + 3) 8 (upd fO g (lsF (dd (16 + g)))) := ho
    have hd := hd.kept (hq2 _ (by omega))
    have hs := hs.kept (hq2 _ (by omega))
    have hu := hu.kept (hq2 _ (by omega))
    have hF : ∀ q : Nat, ¬ (d ≤ q ∧ q < d + 4) → H2[q]? = H[q]? := fun q hq => (hq2 q (by omega)).trans (hF q hq)
    refine a_aload_n 0 dX0_correctTo_35 rfl rfl ?_
    refine a_get f_X0_19 dX0_correctTo_36 hd rfl ?_
    refine a_aload_n 0 dX0_correctTo_39 rfl rfl ?_
    refine a_get f_X0_31 dX0_correctTo_40 hd rfl ?_
    refine a_aload_n 0 dX0_correctTo_43 rfl rfl ?_
    refine a_get f_X0_19 dX0_correctTo_44 hd rfl ?_
    refine a_aload_n 0 dX0_correctTo_47 rfl rfl ?_
    refine a_get f_X0_31 dX0_correctTo_48 hd rfl ?_
    refine a_ialdN (j := g) dX0_correctTo_51 hu (by omega) (by decide) ?_
    refine a_toeq (dd (8 + g)) (eU _ (by omega)) ?_
    refine a_iconst 1 dX0_correctTo_52 (by decide) ?_
    refine a_isub dX0_correctTo_53 ?_
    refine a_iconst 0 dX0_correctTo_54 (by decide) ?_
    refine a_max ml_X0_67 dX0_correctTo_55 (Nat.le_of_ble_eq_true rfl) (Nat.le_of_ble_eq_true rfl) ⟨Nat.le_of_ble_eq_true rfl, Nat.le_of_ble_eq_true rfl⟩ ?_
    refine a_toeq (lsF (dd (8 + g))) rfl ?_
    refine a_iastN (j := g) dX0_correctTo_58 hu (by omega) (by decide) (by omega) (fun H3 hu hz3 hq3 => ?_)
    have hu : Ai G H3 (d + 2) 8 (upd fU g (lsF (dd (8 + g)))) := hu
    have hd := hd.kept (hq3 _ (by omega))
    have hs := hs.kept (hq3 _ (by omega))
    have ho := ho.kept (hq3 _ (by omega))
    have hF : ∀ q : Nat, ¬ (d ≤ q ∧ q < d + 4) → H3[q]? = H[q]? := fun q hq => (hq3 q (by omega)).trans (hF q hq)
    have hD1 : Dd G H3 d n (fun i => if i = 16 + g then lsF (dd (16 + g)) else if i = 8 + g then lsF (dd (8 + g)) else dd i) := by
      refine Dd.mk' hd hs hu ho hn ?_ ?_ (hk.symm.trans ?_) ?_ ?_ ?_
      all_goals try intro i hi
      all_goals try dsimp only
      all_goals try simp only [upd]
      all_goals repeat' split
      all_goals first | omega | rfl | contradiction | exact eS _ (by assumption) | exact eU _ (by assumption) | exact eO _ (by assumption) | (simp_all; done)
    refine a_aload_n 0 dX0_correctTo_59 rfl rfl ?_
    refine a_iload_n 1 dX0_correctTo_60 rfl rfl ?_
    refine a_callVp (As := [.int (nI w)]) (rest := []) (d := 0) (mc := 0) (ms := 0) (x := bI (wIx n (nI w))) (ci := 0) l_X0_63 im_X0_isThere se_X0_isThere ⟨_, rfl, rfl⟩ dX0_correctTo_61 ⟨Nat.le_of_ble_eq_true rfl, Nat.le_of_ble_eq_true rfl⟩ rfl (Nat.le_of_ble_eq_true rfl) ⟨Nat.le_of_ble_eq_true rfl, Nat.le_of_ble_eq_true rfl⟩ hd (c_X0_isThere hD1) ?_
    refine a_ifeqB 91 dX0_correctTo_64 (by decide) (fun c64 => ?_) (fun c64 => ?_)
    · skip
      exact absurd c64 (by rw [wIx_nI (by omega) (by omega)]; decide)
    · skip
      refine a_aload_n 0 dX0_correctTo_67 rfl rfl ?_
      refine a_get f_X0_19 dX0_correctTo_68 hd rfl ?_
      refine a_iload_n 1 dX0_correctTo_71 rfl rfl ?_
      refine a_aload_n 0 dX0_correctTo_72 rfl rfl ?_
      refine a_get f_X0_19 dX0_correctTo_73 hd rfl ?_
      refine a_iload_n 1 dX0_correctTo_76 rfl rfl ?_
      refine a_ialdN (j := w) dX0_correctTo_77 hu (by omega) (by decide) ?_
      refine a_toeq (dd (8 + w)) (by simp only [upd]; rw [if_neg (by omega)]; exact eU _ (by omega)) ?_
      refine a_iconst 2 dX0_correctTo_78 (by decide) ?_
      refine a_iadd dX0_correctTo_79 ?_
      refine a_bipush 99 dX0_correctTo_80 (by decide) ?_
      refine a_min ml_X0_48 dX0_correctTo_82 (Nat.le_of_ble_eq_true rfl) (Nat.le_of_ble_eq_true rfl) ⟨Nat.le_of_ble_eq_true rfl, Nat.le_of_ble_eq_true rfl⟩ ?_
      refine a_toeq (mnF (dd (8 + w) + 2)) rfl ?_
      refine a_iastN (j := w) dX0_correctTo_85 hu (by omega) (by decide) (by omega) (fun H5 hu hz5 hq5 => ?_)
      have hu : Ai G H5 (d + 2) 8 (upd (upd fU g (lsF (dd (8 + g)))) w (mnF (dd (8 + w) + 2))) := hu
      have hd := hd.kept (hq5 _ (by omega))
      have hs := hs.kept (hq5 _ (by omega))
      have ho := ho.kept (hq5 _ (by omega))
      have hF : ∀ q : Nat, ¬ (d ≤ q ∧ q < d + 4) → H5[q]? = H[q]? := fun q hq => (hq5 q (by omega)).trans (hF q hq)
      have hD2 : Dd G H5 d n (fun i => if i = 8 + w then mnF (dd (8 + w) + 2) else if i = 16 + g then lsF (dd (16 + g)) else if i = 8 + g then lsF (dd (8 + g)) else dd i) := by
        refine Dd.mk' hd hs hu ho hn ?_ ?_ (hk.symm.trans ?_) ?_ ?_ ?_
        all_goals try intro i hi
        all_goals try dsimp only
        all_goals try simp only [upd]
        all_goals repeat' split
        all_goals first | omega | rfl | contradiction | exact eS _ (by assumption) | exact eU _ (by assumption) | exact eO _ (by assumption) | (simp_all; done)
      refine a_aload_n 0 dX0_correctTo_86 rfl rfl ?_
      refine a_iload_n 1 dX0_correctTo_87 rfl rfl ?_
      refine a_callVv (As := [.int (nI w)]) (rest := []) (d := 1) (mc := 0) (ms := 0) (ci := 0) l_X0_53 im_X0_putOnList se_X0_putOnList ⟨_, rfl, rfl⟩ dX0_correctTo_88 ⟨Nat.le_of_ble_eq_true rfl, Nat.le_of_ble_eq_true rfl⟩ rfl (Nat.le_of_ble_eq_true rfl) ⟨Nat.le_of_ble_eq_true rfl, Nat.le_of_ble_eq_true rfl⟩ hd (c_X0_putOnList hD2 hw hB) (fun H6 hp6 => ?_)
      obtain ⟨⟨fS2, fU2, fO2, hd, hs, hu, ho, eS2, eU2, eO2, -⟩, hfr⟩ := hp6
      have hF : ∀ q : Nat, ¬ (d ≤ q ∧ q < d + 4) → H6[q]? = H[q]? := fun q hq => (hfr q (by omega)).trans (hF q hq)
      refine a_aload_n 0 dX0_correctTo_91 rfl rfl ?_
      refine a_iconst (-1) dX0_correctTo_92 (by decide) ?_
      refine a_put f_X0_31 p_X0_31 dX0_correctTo_93 hd (Nat.le_of_ble_eq_true rfl) rfl rfl (by omega) (fun H7 hd hz7 hq7 => ?_)
      have hd : Ob G H7 d 0 [.int (nI n), .ref (d + 1), .ref (d + 2), .ref (d + 3), .int (puF (fun i => if i = 8 + w then mnF (dd (8 + w) + 2) else if i = 16 + g then lsF (dd (16 + g)) else if i = 8 + g then lsF (dd (8 + g)) else dd i) w 25), .int (puF (fun i => if i = 8 + w then mnF (dd (8 + w) + 2) else if i = 16 + g then lsF (dd (16 + g)) else if i = 8 + g then lsF (dd (8 + g)) else dd i) w 24), .int (-1)] := hd
      have hs := hs.kept (hq7 _ (by omega))
      have hu := hu.kept (hq7 _ (by omega))
      have ho := ho.kept (hq7 _ (by omega))
      have hF : ∀ q : Nat, ¬ (d ≤ q ∧ q < d + 4) → H7[q]? = H[q]? := fun q hq => (hq7 q (by omega)).trans (hF q hq)
      refine a_retv dX0_correctTo_96 ⟨⟨rfl, ?_⟩, rfl, rfl⟩
      · refine ⟨Dd.mk' hd hs hu ho hn ?_ ?_ ?_ (fun i hi => (eS2 i hi).trans ?_) (fun i hi => (eU2 i hi).trans ?_) (fun i hi => (eO2 i hi).trans ?_), hF⟩
        all_goals simp only [upd, puF, crF]
        all_goals repeat' split
        all_goals first | omega | rfl | (simp_all; done)
set_option maxHeartbeats 4000000 in
set_option maxRecDepth 100000 in
theorem c_X0_learn {G : GT} {B : Nat} {l : Launch} {H : Heap} {d n : Nat} {dd : DD} {w : Nat} {b : Bool} {g : Nat} (hD : Dd G H d n dd) (hk : dd 26 = nI g) (hg : g < n) (hw : w < n) (hB : B ≤ d) : AM G B l yX0_learn cX0_learn 3 none 3 0 0 [.ref d, .int (nI w), .int (bI b)] H (fun v H' => v = none ∧ (Dd G H' d n (if b = true ∧ g ≠ w then crF dd g w else cfF dd g) ∧ ∀ q : Nat, ¬ (d ≤ q ∧ q < d + 4) → H'[q]? = H[q]?)) := by
  have hD0 := hD
  obtain ⟨fS, fU, fO, hd, hs, hu, ho, eS, eU, eO, hn⟩ := hD
  rw [hk] at hd
  have hF : ∀ q : Nat, ¬ (d ≤ q ∧ q < d + 4) → H[q]? = H[q]? := fun _ _ => rfl
  refine AM.ofV (lv := [(0, .ref d), (1, .int (nI w)), (2, .int (bI b))]) (by decide +kernel) (ini := false) (fun h => by cases h) (Nat.le_of_ble_eq_true rfl) rfl ?_ (fun _ _ h => h.1)
  refine a_iload_n 2 dX0_learn_0 rfl rfl ?_
  refine a_ifeqB 20 dX0_learn_1 (by decide) (fun c1 => ?_) (fun c1 => ?_)
  · skip
    refine a_aload_n 0 dX0_learn_20 rfl rfl ?_
    refine a_callVv (As := []) (rest := []) (d := 1) (mc := 0) (ms := 0) (ci := 0) l_X0_60 im_X0_confirm se_X0_confirm ⟨_, rfl, rfl⟩ dX0_learn_21 ⟨Nat.le_of_ble_eq_true rfl, Nat.le_of_ble_eq_true rfl⟩ rfl (Nat.le_of_ble_eq_true rfl) ⟨Nat.le_of_ble_eq_true rfl, Nat.le_of_ble_eq_true rfl⟩ hd (c_X0_confirm hD0 hk hg hB) (fun H1 hp1 => ?_)
    obtain ⟨hD3, hfr⟩ := hp1
    have hq3 : ¬ (b = true ∧ g ≠ w) := by first | exact fun h => h.2 c9 | (rw [c1]; exact fun h => by cases h.1)
    have hF : ∀ q : Nat, ¬ (d ≤ q ∧ q < d + 4) → H1[q]? = H[q]? := fun q hq => (hfr q (by omega)).trans (hF q hq)
    refine a_retv dX0_learn_24 ⟨⟨rfl, ?_⟩, rfl, rfl⟩
    · refine ⟨?_, hF⟩
      first | (rw [if_pos hq3]; exact hD3) | (rw [if_neg hq3]; exact hD3)
  · skip
    refine a_aload_n 0 dX0_learn_4 rfl rfl ?_
    refine a_get f_X0_31 dX0_learn_5 hd rfl ?_
    refine a_iload_n 1 dX0_learn_8 rfl rfl ?_
    refine a_icmpeqN (a := g) (b := w) 20 dX0_learn_9 (by decide) (by omega) (by omega) (fun c9 => ?_) (fun c9 => ?_)
    · skip
      refine a_aload_n 0 dX0_learn_20 rfl rfl ?_
      refine a_callVv (As := []) (rest := []) (d := 1) (mc := 0) (ms := 0) (ci := 0) l_X0_60 im_X0_confirm se_X0_confirm ⟨_, rfl, rfl⟩ dX0_learn_21 ⟨Nat.le_of_ble_eq_true rfl, Nat.le_of_ble_eq_true rfl⟩ rfl (Nat.le_of_ble_eq_true rfl) ⟨Nat.le_of_ble_eq_true rfl, Nat.le_of_ble_eq_true rfl⟩ hd (c_X0_confirm hD0 hk hg hB) (fun H2 hp2 => ?_)
      obtain ⟨hD3, hfr⟩ := hp2
      have hq3 : ¬ (b = true ∧ g ≠ w) := by first | exact fun h => h.2 c9 | (rw [c1]; exact fun h => by cases h.1)
      have hF : ∀ q : Nat, ¬ (d ≤ q ∧ q < d + 4) → H2[q]? = H[q]? := fun q hq => (hfr q (by omega)).trans (hF q hq)
      refine a_retv dX0_learn_24 ⟨⟨rfl, ?_⟩, rfl, rfl⟩
      · refine ⟨?_, hF⟩
        first | (rw [if_pos hq3]; exact hD3) | (rw [if_neg hq3]; exact hD3)
    · skip
      refine a_aload_n 0 dX0_learn_12 rfl rfl ?_
      refine a_iload_n 1 dX0_learn_13 rfl rfl ?_
      refine a_callVv (As := [.int (nI w)]) (rest := []) (d := 2) (mc := 0) (ms := 0) (ci := 0) l_X0_57 im_X0_correctTo se_X0_correctTo ⟨_, rfl, rfl⟩ dX0_learn_14 ⟨Nat.le_of_ble_eq_true rfl, Nat.le_of_ble_eq_true rfl⟩ rfl (Nat.le_of_ble_eq_true rfl) ⟨Nat.le_of_ble_eq_true rfl, Nat.le_of_ble_eq_true rfl⟩ hd (c_X0_correctTo hD0 hk hg hw c9 hB) (fun H3 hp3 => ?_)
      obtain ⟨hD3, hfr⟩ := hp3
      have hq3 : b = true ∧ g ≠ w := ⟨c1, c9⟩
      have hF : ∀ q : Nat, ¬ (d ≤ q ∧ q < d + 4) → H3[q]? = H[q]? := fun q hq => (hfr q (by omega)).trans (hF q hq)
      refine a_goto 24 dX0_learn_17 (by decide) ?_
      refine a_retv dX0_learn_24 ⟨⟨rfl, ?_⟩, rfl, rfl⟩
      · refine ⟨?_, hF⟩
        first | (rw [if_pos hq3]; exact hD3) | (rw [if_neg hq3]; exact hD3)
set_option maxHeartbeats 4000000 in
set_option maxRecDepth 100000 in
theorem c_X0_copy {G : GT} {B : Nat} {l : Launch} {H : Heap} {d n : Nat} {dd : DD} {f n2 : Nat} {dd2 : DD} (hD2 : Dd G H f n2 dd2) (hap : d + 4 ≤ f ∨ f + 4 ≤ d) (hD : Dd G H d n dd) (hB : B ≤ d) : AM G B l yX0_copy cX0_copy 3 none 1 0 0 [.ref d, .ref f] H (fun v H' => v = none ∧ (Dd G H' d n2 dd2 ∧ ∀ q : Nat, ¬ (d ≤ q ∧ q < d + 4) → H'[q]? = H[q]?)) := by
  obtain ⟨fS, fU, fO, hd, hs, hu, ho, eS, eU, eO, hn⟩ := hD
  obtain ⟨fS2, fU2, fO2, hd2, hs2, hu2, ho2, eS2, eU2, eO2, hn2⟩ := hD2
  have hF : ∀ q : Nat, ¬ (d ≤ q ∧ q < d + 4) → H[q]? = H[q]? := fun _ _ => rfl
  refine AM.ofV (lv := [(0, .ref d), (1, .ref f)]) (by decide +kernel) (ini := false) (fun h => by cases h) (Nat.le_of_ble_eq_true rfl) rfl ?_ (fun _ _ h => h.1)
  refine a_aload_n 0 dX0_copy_0 rfl rfl ?_
  refine a_aload_n 1 dX0_copy_1 rfl rfl ?_
  refine a_get f_X0_9 dX0_copy_2 hd2 rfl ?_
  refine a_put f_X0_9 p_X0_9 dX0_copy_5 hd (Nat.le_of_ble_eq_true rfl) rfl rfl (by omega) (fun H1 hd hz1 hq1 => ?_)
  have hd : Ob G H1 d 0 [.int (nI n2), .ref (d + 1), .ref (d + 2), .ref (d + 3), .int (dd 25), .int (dd 24), .int (dd 26)] := hd
  have hs := hs.kept (hq1 _ (by omega))
  have hu := hu.kept (hq1 _ (by omega))
  have ho := ho.kept (hq1 _ (by omega))
  have hd2 := hd2.kept (hq1 _ (by omega))
  have hs2 := hs2.kept (hq1 _ (by omega))
  have hu2 := hu2.kept (hq1 _ (by omega))
  have ho2 := ho2.kept (hq1 _ (by omega))
  have hF : ∀ q : Nat, ¬ (d ≤ q ∧ q < d + 4) → H1[q]? = H[q]? := fun q hq => (hq1 q (by omega)).trans (hF q hq)
  refine a_iconst 0 dX0_copy_8 (by decide) ?_
  refine a_istore_n (lv' := [(2, .int 0), (0, .ref d), (1, .ref f)]) dX0_copy_9 rfl (by decide) rfl ?_
  have L10 : ∀ (fu : Nat) (k : Nat) (Hk : Heap) (gS gU gO : DD), k ≤ n2 → Ob G Hk d 0 [.int (nI n2), .ref (d + 1), .ref (d + 2), .ref (d + 3), .int (dd 25), .int (dd 24), .int (dd 26)] → Ai G Hk (d + 1) 8 gS → Ai G Hk (d + 2) 8 gU → Ai G Hk (d + 3) 8 gO → Ob G Hk f 0 [.int (nI n2), .ref (f + 1), .ref (f + 2), .ref (f + 3), .int (dd2 25), .int (dd2 24), .int (dd2 26)] → Ai G Hk (f + 1) 8 fS2 → Ai G Hk (f + 2) 8 fU2 → Ai G Hk (f + 3) 8 fO2 → (∀ i, i < k → gS i = dd2 i) → (∀ i, i < k → gU i = dd2 (8 + i)) → (∀ i, i < k → gO i = dd2 (16 + i)) → (∀ q : Nat, ¬ (d ≤ q ∧ q < d + 4) → Hk[q]? = H[q]?) → n2 - k < fu → AW G B l { frames := 1, cells := 0, slots := 0, locals := 27 * 1 } yX0_copy.cls cX0_copy 3 false (fun v H' ce' sl' => (v = none ∧ (Dd G H' d n2 dd2 ∧ ∀ q : Nat, ¬ (d ≤ q ∧ q < d + 4) → H'[q]? = H[q]?)) ∧ ce' = 0 ∧ sl' = 0) 10 [(0, .ref d), (1, .ref f), (2, .int (nI k))] [] Hk 0 0 := by
    intro fu
    induction fu with
    | zero => intro k Hk gS gU gO hk hd hs hu ho hd2 hs2 hu2 ho2 gS1 gU1 gO1 hF hm10; exact absurd hm10 (Nat.not_lt_zero _)
    | succ fu ih10 =>
      intro k Hk gS gU gO hk hd hs hu ho hd2 hs2 hu2 ho2 gS1 gU1 gO1 hF hm10
      refine a_iload_n 2 dX0_copy_10 rfl rfl ?_
      refine a_aload_n 0 dX0_copy_11 rfl rfl ?_
      refine a_get f_X0_9 dX0_copy_12 hd rfl ?_
      refine a_icmpgeN (a := k) (b := n2) 60 dX0_copy_15 (by decide) (by omega) (by omega) (fun c15 => ?_) (fun c15 => ?_)
      · skip
        refine a_aload_n 0 dX0_copy_60 rfl rfl ?_
        refine a_aload_n 1 dX0_copy_61 rfl rfl ?_
        refine a_get f_X0_25 dX0_copy_62 hd2 rfl ?_
        refine a_put f_X0_25 p_X0_25 dX0_copy_65 hd (Nat.le_of_ble_eq_true rfl) rfl rfl (by omega) (fun H2 hd hz2 hq2 => ?_)
        have hd : Ob G H2 d 0 [.int (nI n2), .ref (d + 1), .ref (d + 2), .ref (d + 3), .int (dd2 25), .int (dd 24), .int (dd 26)] := hd
        have hs := hs.kept (hq2 _ (by omega))
        have hu := hu.kept (hq2 _ (by omega))
        have ho := ho.kept (hq2 _ (by omega))
        have hd2 := hd2.kept (hq2 _ (by omega))
        have hs2 := hs2.kept (hq2 _ (by omega))
        have hu2 := hu2.kept (hq2 _ (by omega))
        have ho2 := ho2.kept (hq2 _ (by omega))
        have hF : ∀ q : Nat, ¬ (d ≤ q ∧ q < d + 4) → H2[q]? = H[q]? := fun q hq => (hq2 q (by omega)).trans (hF q hq)
        refine a_aload_n 0 dX0_copy_68 rfl rfl ?_
        refine a_aload_n 1 dX0_copy_69 rfl rfl ?_
        refine a_get f_X0_28 dX0_copy_70 hd2 rfl ?_
        refine a_put f_X0_28 p_X0_28 dX0_copy_73 hd (Nat.le_of_ble_eq_true rfl) rfl rfl (by omega) (fun H3 hd hz3 hq3 => ?_)
        have hd : Ob G H3 d 0 [.int (nI n2), .ref (d + 1), .ref (d + 2), .ref (d + 3), .int (dd2 25), .int (dd2 24), .int (dd 26)] := hd
        have hs := hs.kept (hq3 _ (by omega))
        have hu := hu.kept (hq3 _ (by omega))
        have ho := ho.kept (hq3 _ (by omega))
        have hd2 := hd2.kept (hq3 _ (by omega))
        have hs2 := hs2.kept (hq3 _ (by omega))
        have hu2 := hu2.kept (hq3 _ (by omega))
        have ho2 := ho2.kept (hq3 _ (by omega))
        have hF : ∀ q : Nat, ¬ (d ≤ q ∧ q < d + 4) → H3[q]? = H[q]? := fun q hq => (hq3 q (by omega)).trans (hF q hq)
        refine a_aload_n 0 dX0_copy_76 rfl rfl ?_
        refine a_aload_n 1 dX0_copy_77 rfl rfl ?_
        refine a_get f_X0_31 dX0_copy_78 hd2 rfl ?_
        refine a_put f_X0_31 p_X0_31 dX0_copy_81 hd (Nat.le_of_ble_eq_true rfl) rfl rfl (by omega) (fun H4 hd hz4 hq4 => ?_)
        have hd : Ob G H4 d 0 [.int (nI n2), .ref (d + 1), .ref (d + 2), .ref (d + 3), .int (dd2 25), .int (dd2 24), .int (dd2 26)] := hd
        have hs := hs.kept (hq4 _ (by omega))
        have hu := hu.kept (hq4 _ (by omega))
        have ho := ho.kept (hq4 _ (by omega))
        have hd2 := hd2.kept (hq4 _ (by omega))
        have hs2 := hs2.kept (hq4 _ (by omega))
        have hu2 := hu2.kept (hq4 _ (by omega))
        have ho2 := ho2.kept (hq4 _ (by omega))
        have hF : ∀ q : Nat, ¬ (d ≤ q ∧ q < d + 4) → H4[q]? = H[q]? := fun q hq => (hq4 q (by omega)).trans (hF q hq)
        refine a_retv dX0_copy_84 ⟨⟨rfl, ?_⟩, rfl, rfl⟩
        · refine ⟨Dd.mk' hd hs hu ho hn2 rfl rfl rfl (fun i hi => gS1 i (by omega)) (fun i hi => gU1 i (by omega)) (fun i hi => gO1 i (by omega)), hF⟩
      · skip
        refine a_aload_n 0 dX0_copy_18 rfl rfl ?_
        refine a_get f_X0_15 dX0_copy_19 hd rfl ?_
        refine a_iload_n 2 dX0_copy_22 rfl rfl ?_
        refine a_aload_n 1 dX0_copy_23 rfl rfl ?_
        refine a_get f_X0_15 dX0_copy_24 hd2 rfl ?_
        refine a_iload_n 2 dX0_copy_27 rfl rfl ?_
        refine a_ialdN (j := k) dX0_copy_28 hs2 (by omega) (by decide) ?_
        refine a_toeq (dd2 k) (eS2 _ (by omega)) ?_
        refine a_iastN (j := k) dX0_copy_29 hs (by omega) (by decide) (by omega) (fun H5 hs hz5 hq5 => ?_)
        have hs : Ai G H5 (d + 1) 8 (upd gS k (dd2 k)) := hs
        have hd := hd.kept (hq5 _ (by omega))
        have hu := hu.kept (hq5 _ (by omega))
        have ho := ho.kept (hq5 _ (by omega))
        have hd2 := hd2.kept (hq5 _ (by omega))
        have hs2 := hs2.kept (hq5 _ (by omega))
        have hu2 := hu2.kept (hq5 _ (by omega))
        have ho2 := ho2.kept (hq5 _ (by omega))
        have hF : ∀ q : Nat, ¬ (d ≤ q ∧ q < d + 4) → H5[q]? = H[q]? := fun q hq => (hq5 q (by omega)).trans (hF q hq)
        refine a_aload_n 0 dX0_copy_30 rfl rfl ?_
        refine a_get f_X0_19 dX0_copy_31 hd rfl ?_
        refine a_iload_n 2 dX0_copy_34 rfl rfl ?_
        refine a_aload_n 1 dX0_copy_35 rfl rfl ?_
        refine a_get f_X0_19 dX0_copy_36 hd2 rfl ?_
        refine a_iload_n 2 dX0_copy_39 rfl rfl ?_
        refine a_ialdN (j := k) dX0_copy_40 hu2 (by omega) (by decide) ?_
        refine a_toeq (dd2 (8 + k)) (eU2 _ (by omega)) ?_
        refine a_iastN (j := k) dX0_copy_41 hu (by omega) (by decide) (by omega) (fun H6 hu hz6 hq6 => ?_)
        have hu : Ai G H6 (d + 2) 8 (upd gU k (dd2 (8 + k))) := hu
        have hd := hd.kept (hq6 _ (by omega))
        have hs := hs.kept (hq6 _ (by omega))
        have ho := ho.kept (hq6 _ (by omega))
        have hd2 := hd2.kept (hq6 _ (by omega))
        have hs2 := hs2.kept (hq6 _ (by omega))
        have hu2 := hu2.kept (hq6 _ (by omega))
        have ho2 := ho2.kept (hq6 _ (by omega))
        have hF : ∀ q : Nat, ¬ (d ≤ q ∧ q < d + 4) → H6[q]? = H[q]? := fun q hq => (hq6 q (by omega)).trans (hF q hq)
        refine a_aload_n 0 dX0_copy_42 rfl rfl ?_
        refine a_get f_X0_22 dX0_copy_43 hd rfl ?_
        refine a_iload_n 2 dX0_copy_46 rfl rfl ?_
        refine a_aload_n 1 dX0_copy_47 rfl rfl ?_
        refine a_get f_X0_22 dX0_copy_48 hd2 rfl ?_
        refine a_iload_n 2 dX0_copy_51 rfl rfl ?_
        refine a_ialdN (j := k) dX0_copy_52 ho2 (by omega) (by decide) ?_
        refine a_toeq (dd2 (16 + k)) (eO2 _ (by omega)) ?_
        refine a_iastN (j := k) dX0_copy_53 ho (by omega) (by decide) (by omega) (fun H7 ho hz7 hq7 => ?_)
        have ho : Ai G H7 (d + 3) 8 (upd gO k (dd2 (16 + k))) := ho
        have hd := hd.kept (hq7 _ (by omega))
        have hs := hs.kept (hq7 _ (by omega))
        have hu := hu.kept (hq7 _ (by omega))
        have hd2 := hd2.kept (hq7 _ (by omega))
        have hs2 := hs2.kept (hq7 _ (by omega))
        have hu2 := hu2.kept (hq7 _ (by omega))
        have ho2 := ho2.kept (hq7 _ (by omega))
        have hF : ∀ q : Nat, ¬ (d ≤ q ∧ q < d + 4) → H7[q]? = H[q]? := fun q hq => (hq7 q (by omega)).trans (hF q hq)
        refine a_iincN (q := 2) (lv' := [(2, .int (nI (k + 1))), (0, .ref d), (1, .ref f)]) dX0_copy_54 rfl (by decide) rfl ?_
        refine a_goto 10 dX0_copy_57 (by decide) ?_
        refine a_sub [1, 2, 0] rfl ?_
        exact ih10 _ _ _ _ _ (by omega) hd hs hu ho hd2 hs2 hu2 ho2 (upd_to gS1 rfl) (upd_to (e := fun i => dd2 (8 + i)) gU1 rfl) (upd_to (e := fun i => dd2 (16 + i)) gO1 rfl) hF (by omega)
  refine a_sub [1, 2, 0] rfl ?_
  exact L10 _ 0 _ _ _ _ (Nat.zero_le _) hd hs hu ho hd2 hs2 hu2 ho2 (fun i hi => absurd hi (Nat.not_lt_zero _)) (fun i hi => absurd hi (Nat.not_lt_zero _)) (fun i hi => absurd hi (Nat.not_lt_zero _)) hF (Nat.lt_succ_self _)
set_option maxHeartbeats 4000000 in
set_option maxRecDepth 100000 in
theorem c_X0_begin {G : GT} {B : Nat} {l : Launch} {H : Heap} {d n : Nat} {dd : DD} {k0 : Nat} {kb : Bool} {ka ks kw : Int32} {n2 nv : Nat} {kS kU kK kV : DD} (hK : Kt G H k0 kb ka ks kw n2 nv kS kU kK kV) (hap : d + 4 ≤ k0 ∨ k0 + 5 ≤ d) (hD : Dd G H d n dd) (hB : B ≤ d) : AM G B l yX0_begin cX0_begin 3 none 1 0 0 [.ref d, .ref k0] H (fun v H' => v = none ∧ (Dd G H' d n2 (bgF kS kU) ∧ ∀ q : Nat, ¬ (d ≤ q ∧ q < d + 4) → H'[q]? = H[q]?)) := by
  obtain ⟨fS, fU, fO, hd, hs, hu, ho, eS, eU, eO, hn⟩ := hD
  obtain ⟨fS3, fU3, fK3, fV3, hk3, ha3, hb3, hc3, he3, eS3, eU3, eK3, eV3, hn3, hnv3⟩ := hK
  have hF : ∀ q : Nat, ¬ (d ≤ q ∧ q < d + 4) → H[q]? = H[q]? := fun _ _ => rfl
  refine AM.ofV (lv := [(0, .ref d), (1, .ref k0)]) (by decide +kernel) (ini := false) (fun h => by cases h) (Nat.le_of_ble_eq_true rfl) rfl ?_ (fun _ _ h => h.1)
  refine a_aload_n 0 dX0_begin_0 rfl rfl ?_
  refine a_aload_n 1 dX0_begin_1 rfl rfl ?_
  refine a_get f_X0_34 dX0_begin_2 hk3 rfl ?_
  refine a_put f_X0_9 p_X0_9 dX0_begin_5 hd (Nat.le_of_ble_eq_true rfl) rfl rfl (by omega) (fun H1 hd hz1 hq1 => ?_)
  have hd : Ob G H1 d 0 [.int (nI n2), .ref (d + 1), .ref (d + 2), .ref (d + 3), .int (dd 25), .int (dd 24), .int (dd 26)] := hd
  have hs := hs.kept (hq1 _ (by omega))
  have hu := hu.kept (hq1 _ (by omega))
  have ho := ho.kept (hq1 _ (by omega))
  have hk3 := hk3.kept (hq1 _ (by omega))
  have ha3 := ha3.kept (hq1 _ (by omega))
  have hb3 := hb3.kept (hq1 _ (by omega))
  have hc3 := hc3.kept (hq1 _ (by omega))
  have he3 := he3.kept (hq1 _ (by omega))
  have hF : ∀ q : Nat, ¬ (d ≤ q ∧ q < d + 4) → H1[q]? = H[q]? := fun q hq => (hq1 q (by omega)).trans (hF q hq)
  refine a_iconst 0 dX0_begin_8 (by decide) ?_
  refine a_istore_n (lv' := [(2, .int 0), (0, .ref d), (1, .ref k0)]) dX0_begin_9 rfl (by decide) rfl ?_
  have L10 : ∀ (fu : Nat) (k : Nat) (Hk : Heap) (gS gU gO : DD), k ≤ n2 → Ob G Hk d 0 [.int (nI n2), .ref (d + 1), .ref (d + 2), .ref (d + 3), .int (dd 25), .int (dd 24), .int (dd 26)] → Ai G Hk (d + 1) 8 gS → Ai G Hk (d + 2) 8 gU → Ai G Hk (d + 3) 8 gO → Ob G Hk k0 2 [.int (bI kb), .int ka, .int ks, .int kw, .int (nI n2), .int (nI nv), .ref (k0 + 1), .ref (k0 + 2), .ref (k0 + 3), .ref (k0 + 4)] → Ai G Hk (k0 + 1) 8 fS3 → Ai G Hk (k0 + 2) 8 fU3 → Ai G Hk (k0 + 3) 8 fK3 → Ai G Hk (k0 + 4) 4 fV3 → (∀ i, i < k → gS i = kS i) → (∀ i, i < k → gU i = kU i) → (∀ i, i < k → gO i = 0) → (∀ q : Nat, ¬ (d ≤ q ∧ q < d + 4) → Hk[q]? = H[q]?) → n2 - k < fu → AW G B l { frames := 1, cells := 0, slots := 0, locals := 27 * 1 } yX0_begin.cls cX0_begin 3 false (fun v H' ce' sl' => (v = none ∧ (Dd G H' d n2 (bgF kS kU) ∧ ∀ q : Nat, ¬ (d ≤ q ∧ q < d + 4) → H'[q]? = H[q]?)) ∧ ce' = 0 ∧ sl' = 0) 10 [(0, .ref d), (1, .ref k0), (2, .int (nI k))] [] Hk 0 0 := by
    intro fu
    induction fu with
    | zero => intro k Hk gS gU gO hk hd hs hu ho hk3 ha3 hb3 hc3 he3 gS1 gU1 gO1 hF hm10; exact absurd hm10 (Nat.not_lt_zero _)
    | succ fu ih10 =>
      intro k Hk gS gU gO hk hd hs hu ho hk3 ha3 hb3 hc3 he3 gS1 gU1 gO1 hF hm10
      refine a_iload_n 2 dX0_begin_10 rfl rfl ?_
      refine a_aload_n 0 dX0_begin_11 rfl rfl ?_
      refine a_get f_X0_9 dX0_begin_12 hd rfl ?_
      refine a_icmpgeN (a := k) (b := n2) 55 dX0_begin_15 (by decide) (by omega) (by omega) (fun c15 => ?_) (fun c15 => ?_)
      · skip
        refine a_aload_n 0 dX0_begin_55 rfl rfl ?_
        refine a_iconst 0 dX0_begin_56 (by decide) ?_
        refine a_put f_X0_25 p_X0_25 dX0_begin_57 hd (Nat.le_of_ble_eq_true rfl) rfl rfl (by omega) (fun H2 hd hz2 hq2 => ?_)
        have hd : Ob G H2 d 0 [.int (nI n2), .ref (d + 1), .ref (d + 2), .ref (d + 3), .int 0, .int (dd 24), .int (dd 26)] := hd
        have hs := hs.kept (hq2 _ (by omega))
        have hu := hu.kept (hq2 _ (by omega))
        have ho := ho.kept (hq2 _ (by omega))
        have hk3 := hk3.kept (hq2 _ (by omega))
        have ha3 := ha3.kept (hq2 _ (by omega))
        have hb3 := hb3.kept (hq2 _ (by omega))
        have hc3 := hc3.kept (hq2 _ (by omega))
        have he3 := he3.kept (hq2 _ (by omega))
        have hF : ∀ q : Nat, ¬ (d ≤ q ∧ q < d + 4) → H2[q]? = H[q]? := fun q hq => (hq2 q (by omega)).trans (hF q hq)
        refine a_aload_n 0 dX0_begin_60 rfl rfl ?_
        refine a_iconst 0 dX0_begin_61 (by decide) ?_
        refine a_put f_X0_28 p_X0_28 dX0_begin_62 hd (Nat.le_of_ble_eq_true rfl) rfl rfl (by omega) (fun H3 hd hz3 hq3 => ?_)
        have hd : Ob G H3 d 0 [.int (nI n2), .ref (d + 1), .ref (d + 2), .ref (d + 3), .int 0, .int 0, .int (dd 26)] := hd
        have hs := hs.kept (hq3 _ (by omega))
        have hu := hu.kept (hq3 _ (by omega))
        have ho := ho.kept (hq3 _ (by omega))
        have hk3 := hk3.kept (hq3 _ (by omega))
        have ha3 := ha3.kept (hq3 _ (by omega))
        have hb3 := hb3.kept (hq3 _ (by omega))
        have hc3 := hc3.kept (hq3 _ (by omega))
        have he3 := he3.kept (hq3 _ (by omega))
        have hF : ∀ q : Nat, ¬ (d ≤ q ∧ q < d + 4) → H3[q]? = H[q]? := fun q hq => (hq3 q (by omega)).trans (hF q hq)
        refine a_aload_n 0 dX0_begin_65 rfl rfl ?_
        refine a_iconst (-1) dX0_begin_66 (by decide) ?_
        refine a_put f_X0_31 p_X0_31 dX0_begin_67 hd (Nat.le_of_ble_eq_true rfl) rfl rfl (by omega) (fun H4 hd hz4 hq4 => ?_)
        have hd : Ob G H4 d 0 [.int (nI n2), .ref (d + 1), .ref (d + 2), .ref (d + 3), .int 0, .int 0, .int (-1)] := hd
        have hs := hs.kept (hq4 _ (by omega))
        have hu := hu.kept (hq4 _ (by omega))
        have ho := ho.kept (hq4 _ (by omega))
        have hk3 := hk3.kept (hq4 _ (by omega))
        have ha3 := ha3.kept (hq4 _ (by omega))
        have hb3 := hb3.kept (hq4 _ (by omega))
        have hc3 := hc3.kept (hq4 _ (by omega))
        have he3 := he3.kept (hq4 _ (by omega))
        have hF : ∀ q : Nat, ¬ (d ≤ q ∧ q < d + 4) → H4[q]? = H[q]? := fun q hq => (hq4 q (by omega)).trans (hF q hq)
        refine a_retv dX0_begin_70 ⟨⟨rfl, ?_⟩, rfl, rfl⟩
        · refine ⟨Dd.mk' hd hs hu ho hn3 rfl rfl rfl (fun i hi => (gS1 i (by omega)).trans ?_) (fun i hi => (gU1 i (by omega)).trans ?_) (fun i hi => (gO1 i (by omega)).trans ?_), hF⟩
          all_goals simp only [bgF]
          all_goals repeat' split
          all_goals first | omega | rfl | (congr 1; omega)
      · skip
        refine a_aload_n 0 dX0_begin_18 rfl rfl ?_
        refine a_get f_X0_15 dX0_begin_19 hd rfl ?_
        refine a_iload_n 2 dX0_begin_22 rfl rfl ?_
        refine a_aload_n 1 dX0_begin_23 rfl rfl ?_
        refine a_get f_X0_37 dX0_begin_24 hk3 rfl ?_
        refine a_iload_n 2 dX0_begin_27 rfl rfl ?_
        refine a_ialdN (j := k) dX0_begin_28 ha3 (by omega) (by decide) ?_
        refine a_toeq (kS k) (eS3 _ (by omega)) ?_
        refine a_iastN (j := k) dX0_begin_29 hs (by omega) (by decide) (by omega) (fun H5 hs hz5 hq5 => ?_)
        have hs : Ai G H5 (d + 1) 8 (upd gS k (kS k)) := hs
        have hd := hd.kept (hq5 _ (by omega))
        have hu := hu.kept (hq5 _ (by omega))
        have ho := ho.kept (hq5 _ (by omega))
        have hk3 := hk3.kept (hq5 _ (by omega))
        have ha3 := ha3.kept (hq5 _ (by omega))
        have hb3 := hb3.kept (hq5 _ (by omega))
        have hc3 := hc3.kept (hq5 _ (by omega))
        have he3 := he3.kept (hq5 _ (by omega))
        have hF : ∀ q : Nat, ¬ (d ≤ q ∧ q < d + 4) → H5[q]? = H[q]? := fun q hq => (hq5 q (by omega)).trans (hF q hq)
        refine a_aload_n 0 dX0_begin_30 rfl rfl ?_
        refine a_get f_X0_19 dX0_begin_31 hd rfl ?_
        refine a_iload_n 2 dX0_begin_34 rfl rfl ?_
        refine a_aload_n 1 dX0_begin_35 rfl rfl ?_
        refine a_get f_X0_38 dX0_begin_36 hk3 rfl ?_
        refine a_iload_n 2 dX0_begin_39 rfl rfl ?_
        refine a_ialdN (j := k) dX0_begin_40 hb3 (by omega) (by decide) ?_
        refine a_toeq (kU k) (eU3 _ (by omega)) ?_
        refine a_iastN (j := k) dX0_begin_41 hu (by omega) (by decide) (by omega) (fun H6 hu hz6 hq6 => ?_)
        have hu : Ai G H6 (d + 2) 8 (upd gU k (kU k)) := hu
        have hd := hd.kept (hq6 _ (by omega))
        have hs := hs.kept (hq6 _ (by omega))
        have ho := ho.kept (hq6 _ (by omega))
        have hk3 := hk3.kept (hq6 _ (by omega))
        have ha3 := ha3.kept (hq6 _ (by omega))
        have hb3 := hb3.kept (hq6 _ (by omega))
        have hc3 := hc3.kept (hq6 _ (by omega))
        have he3 := he3.kept (hq6 _ (by omega))
        have hF : ∀ q : Nat, ¬ (d ≤ q ∧ q < d + 4) → H6[q]? = H[q]? := fun q hq => (hq6 q (by omega)).trans (hF q hq)
        refine a_aload_n 0 dX0_begin_42 rfl rfl ?_
        refine a_get f_X0_22 dX0_begin_43 hd rfl ?_
        refine a_iload_n 2 dX0_begin_46 rfl rfl ?_
        refine a_iconst 0 dX0_begin_47 (by decide) ?_
        refine a_iastN (j := k) dX0_begin_48 ho (by omega) (by decide) (by omega) (fun H7 ho hz7 hq7 => ?_)
        have ho : Ai G H7 (d + 3) 8 (upd gO k 0) := ho
        have hd := hd.kept (hq7 _ (by omega))
        have hs := hs.kept (hq7 _ (by omega))
        have hu := hu.kept (hq7 _ (by omega))
        have hk3 := hk3.kept (hq7 _ (by omega))
        have ha3 := ha3.kept (hq7 _ (by omega))
        have hb3 := hb3.kept (hq7 _ (by omega))
        have hc3 := hc3.kept (hq7 _ (by omega))
        have he3 := he3.kept (hq7 _ (by omega))
        have hF : ∀ q : Nat, ¬ (d ≤ q ∧ q < d + 4) → H7[q]? = H[q]? := fun q hq => (hq7 q (by omega)).trans (hF q hq)
        refine a_iincN (q := 2) (lv' := [(2, .int (nI (k + 1))), (0, .ref d), (1, .ref k0)]) dX0_begin_49 rfl (by decide) rfl ?_
        refine a_goto 10 dX0_begin_52 (by decide) ?_
        refine a_sub [1, 2, 0] rfl ?_
        exact ih10 _ _ _ _ _ (by omega) hd hs hu ho hk3 ha3 hb3 hc3 he3 (upd_to gS1 rfl) (upd_to gU1 rfl) (upd_to (e := fun _ => 0) gO1 rfl) hF (by omega)
  refine a_sub [1, 2, 0] rfl ?_
  exact L10 _ 0 _ _ _ _ (Nat.zero_le _) hd hs hu ho hk3 ha3 hb3 hc3 he3 (fun i hi => absurd hi (Nat.not_lt_zero _)) (fun i hi => absurd hi (Nat.not_lt_zero _)) (fun i hi => absurd hi (Nat.not_lt_zero _)) hF (Nat.lt_succ_self _)
set_option maxHeartbeats 4000000 in
set_option maxRecDepth 100000 in
theorem c_X0_init {G : GT} {B : Nat} {l : Launch} {H : Heap} {d : Nat} (ho0 : Ob G H d 0 [.int 0, .null, .null, .null, .int 0, .int 0, .int 0]) (hsz : H.size = d + 1) (hB : B ≤ d) : AM G B l yX0_init cX0_init 1 none 1 3 24 [.ref d] H (fun v H' => v = none ∧ (Dd G H' d 0 (fun i => if i = 26 then -1 else 0) ∧ H'.size = d + 4 ∧ ∀ q : Nat, q < d → H'[q]? = H[q]?)) := by
  have hZ : H.size = d + 1 := hsz
  have hF : ∀ q : Nat, q < d → H[q]? = H[q]? := fun _ _ => rfl
  refine AM.ofV (lv := [(0, .ref d)]) (by decide +kernel) (ini := true) (fun _ => rfl) (Nat.le_of_ble_eq_true rfl) rfl ?_ (fun _ _ h => h.1)
  refine a_aload_n 0 dX0_init_0 rfl rfl ?_
  refine a_objI oi_X0_3 dX0_init_1 (Nat.le_of_ble_eq_true rfl) (Nat.le_of_ble_eq_true rfl) ?_
  refine a_aload_n 0 dX0_init_4 rfl rfl ?_
  refine a_iconst 0 dX0_init_5 (by decide) ?_
  refine a_put f_X0_9 p_X0_9 dX0_init_6 ho0 (Nat.le_of_ble_eq_true rfl) rfl rfl (by omega) (fun H1 ho0 hz1 hq1 => ?_)
  have ho0 : Ob G H1 d 0 [.int 0, .null, .null, .null, .int 0, .int 0, .int 0] := ho0
  have hF : ∀ q : Nat, q < d → H1[q]? = H[q]? := fun q hq => (hq1 q (by omega)).trans (hF q hq)
  have hZ : H1.size = _ := hz1.trans hZ
  refine a_aload_n 0 dX0_init_9 rfl rfl ?_
  refine a_bipush 8 dX0_init_10 (by decide) ?_
  refine a_newI (n := 8) ac_I dX0_init_12 (by decide) (Nat.le_of_ble_eq_true rfl) (Nat.le_of_ble_eq_true rfl) (fun H2 hs hz2 hq2 => ?_)
  have hA2 : H1.size = d + 1 := by omega
  rw [hA2] at hs hz2 hq2
  rw [hA2]
  have ho0 := ho0.kept (hq2 _ (by omega))
  have hZ : H2.size = d + 1 + 1 := hz2
  have hF : ∀ q : Nat, q < d → H2[q]? = H[q]? := fun q hq => (hq2 q (by omega)).trans (hF q hq)
  refine a_put f_X0_15 p_X0_15 dX0_init_14 ho0 (Nat.le_of_ble_eq_true rfl) rfl rfl (by omega) (fun H3 ho0 hz3 hq3 => ?_)
  have ho0 : Ob G H3 d 0 [.int 0, .ref (d + 1), .null, .null, .int 0, .int 0, .int 0] := ho0
  have hs := hs.kept (hq3 _ (by omega))
  have hF : ∀ q : Nat, q < d → H3[q]? = H[q]? := fun q hq => (hq3 q (by omega)).trans (hF q hq)
  have hZ : H3.size = _ := hz3.trans hZ
  refine a_aload_n 0 dX0_init_17 rfl rfl ?_
  refine a_bipush 8 dX0_init_18 (by decide) ?_
  refine a_newI (n := 8) ac_I dX0_init_20 (by decide) (Nat.le_of_ble_eq_true rfl) (Nat.le_of_ble_eq_true rfl) (fun H4 hu hz4 hq4 => ?_)
  have hA4 : H3.size = d + 2 := by omega
  rw [hA4] at hu hz4 hq4
  rw [hA4]
  have ho0 := ho0.kept (hq4 _ (by omega))
  have hs := hs.kept (hq4 _ (by omega))
  have hZ : H4.size = d + 2 + 1 := hz4
  have hF : ∀ q : Nat, q < d → H4[q]? = H[q]? := fun q hq => (hq4 q (by omega)).trans (hF q hq)
  refine a_put f_X0_19 p_X0_19 dX0_init_22 ho0 (Nat.le_of_ble_eq_true rfl) rfl rfl (by omega) (fun H5 ho0 hz5 hq5 => ?_)
  have ho0 : Ob G H5 d 0 [.int 0, .ref (d + 1), .ref (d + 2), .null, .int 0, .int 0, .int 0] := ho0
  have hs := hs.kept (hq5 _ (by omega))
  have hu := hu.kept (hq5 _ (by omega))
  have hF : ∀ q : Nat, q < d → H5[q]? = H[q]? := fun q hq => (hq5 q (by omega)).trans (hF q hq)
  have hZ : H5.size = _ := hz5.trans hZ
  refine a_aload_n 0 dX0_init_25 rfl rfl ?_
  refine a_bipush 8 dX0_init_26 (by decide) ?_
  refine a_newI (n := 8) ac_I dX0_init_28 (by decide) (Nat.le_of_ble_eq_true rfl) (Nat.le_of_ble_eq_true rfl) (fun H6 ho hz6 hq6 => ?_)
  have hA6 : H5.size = d + 3 := by omega
  rw [hA6] at ho hz6 hq6
  rw [hA6]
  have ho0 := ho0.kept (hq6 _ (by omega))
  have hs := hs.kept (hq6 _ (by omega))
  have hu := hu.kept (hq6 _ (by omega))
  have hZ : H6.size = d + 3 + 1 := hz6
  have hF : ∀ q : Nat, q < d → H6[q]? = H[q]? := fun q hq => (hq6 q (by omega)).trans (hF q hq)
  refine a_put f_X0_22 p_X0_22 dX0_init_30 ho0 (Nat.le_of_ble_eq_true rfl) rfl rfl (by omega) (fun H7 ho0 hz7 hq7 => ?_)
  have ho0 : Ob G H7 d 0 [.int 0, .ref (d + 1), .ref (d + 2), .ref (d + 3), .int 0, .int 0, .int 0] := ho0
  have hs := hs.kept (hq7 _ (by omega))
  have hu := hu.kept (hq7 _ (by omega))
  have ho := ho.kept (hq7 _ (by omega))
  have hF : ∀ q : Nat, q < d → H7[q]? = H[q]? := fun q hq => (hq7 q (by omega)).trans (hF q hq)
  have hZ : H7.size = _ := hz7.trans hZ
  refine a_aload_n 0 dX0_init_33 rfl rfl ?_
  refine a_iconst 0 dX0_init_34 (by decide) ?_
  refine a_put f_X0_25 p_X0_25 dX0_init_35 ho0 (Nat.le_of_ble_eq_true rfl) rfl rfl (by omega) (fun H8 ho0 hz8 hq8 => ?_)
  have ho0 : Ob G H8 d 0 [.int 0, .ref (d + 1), .ref (d + 2), .ref (d + 3), .int 0, .int 0, .int 0] := ho0
  have hs := hs.kept (hq8 _ (by omega))
  have hu := hu.kept (hq8 _ (by omega))
  have ho := ho.kept (hq8 _ (by omega))
  have hF : ∀ q : Nat, q < d → H8[q]? = H[q]? := fun q hq => (hq8 q (by omega)).trans (hF q hq)
  have hZ : H8.size = _ := hz8.trans hZ
  refine a_aload_n 0 dX0_init_38 rfl rfl ?_
  refine a_iconst 0 dX0_init_39 (by decide) ?_
  refine a_put f_X0_28 p_X0_28 dX0_init_40 ho0 (Nat.le_of_ble_eq_true rfl) rfl rfl (by omega) (fun H9 ho0 hz9 hq9 => ?_)
  have ho0 : Ob G H9 d 0 [.int 0, .ref (d + 1), .ref (d + 2), .ref (d + 3), .int 0, .int 0, .int 0] := ho0
  have hs := hs.kept (hq9 _ (by omega))
  have hu := hu.kept (hq9 _ (by omega))
  have ho := ho.kept (hq9 _ (by omega))
  have hF : ∀ q : Nat, q < d → H9[q]? = H[q]? := fun q hq => (hq9 q (by omega)).trans (hF q hq)
  have hZ : H9.size = _ := hz9.trans hZ
  refine a_aload_n 0 dX0_init_43 rfl rfl ?_
  refine a_iconst (-1) dX0_init_44 (by decide) ?_
  refine a_put f_X0_31 p_X0_31 dX0_init_45 ho0 (Nat.le_of_ble_eq_true rfl) rfl rfl (by omega) (fun H10 ho0 hz10 hq10 => ?_)
  have ho0 : Ob G H10 d 0 [.int 0, .ref (d + 1), .ref (d + 2), .ref (d + 3), .int 0, .int 0, .int (-1)] := ho0
  have hs := hs.kept (hq10 _ (by omega))
  have hu := hu.kept (hq10 _ (by omega))
  have ho := ho.kept (hq10 _ (by omega))
  have hF : ∀ q : Nat, q < d → H10[q]? = H[q]? := fun q hq => (hq10 q (by omega)).trans (hF q hq)
  have hZ : H10.size = _ := hz10.trans hZ
  refine a_retv dX0_init_48 ⟨⟨rfl, ?_⟩, rfl, rfl⟩
  · refine ⟨Dd.mk' ho0 hs hu ho (by decide) rfl rfl rfl (fun i hi => absurd hi (Nat.not_lt_zero _)) (fun i hi => absurd hi (Nat.not_lt_zero _)) (fun i hi => absurd hi (Nat.not_lt_zero _)), by omega, hF⟩
