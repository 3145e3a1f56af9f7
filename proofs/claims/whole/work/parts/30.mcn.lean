theorem tri_eq {tx : Nat → Nat} {L m1 m2 m3 pl k1 p1 x1 k2 p2 x2 k3 p3 x3 k4 p4 : Nat} (hu1 : nuF tx L m1 0 (pl + 1) = (k1, p1, x1)) (hu2 : nuF tx L m2 k1 p1 = (k2, p2, x2)) (hu3 : nuF tx L m3 k2 p2 = (k3, p3, x3)) (hen : enF tx L k3 p3 = (k4, p4)) : triF tx L m1 m2 m3 pl = (x1, x2, x3, k4, p4) := by
  unfold triF
  rw [hu1]
  dsimp only
  rw [hu2]
  dsimp only
  rw [hu3]
  dsimp only
  rw [hen]
theorem tri_ex (tx : Nat → Nat) (L m1 m2 m3 pl : Nat) : ∃ k1 p1 x1 k2 p2 x2 k3 p3 x3 k4 p4, nuF tx L m1 0 (pl + 1) = (k1, p1, x1) ∧ nuF tx L m2 k1 p1 = (k2, p2, x2) ∧ nuF tx L m3 k2 p2 = (k3, p3, x3) ∧ enF tx L k3 p3 = (k4, p4) :=
  ⟨_, _, _, _, _, _, _, _, _, _, _, rfl, rfl, rfl, rfl⟩
theorem vo_ex (tx : Nat → Nat) (L pl : Nat) : ∃ k1 p1 x1 k2 p2, nuF tx L 999 0 (pl + 1) = (k1, p1, x1) ∧ enF tx L k1 p1 = (k2, p2) :=
  ⟨_, _, _, _, _, rfl, rfl⟩

set_option maxHeartbeats 4000000 in
set_option maxRecDepth 100000 in
theorem c_X7_readsClause_1 {G : GT} {B : Nat} {l : Launch} {H : Heap} {a : Nat} {tx : Nat → Nat} {L : Nat} {fp rf : Int32} {ir kb : Bool} {n nv ct nx sd sn bn : Nat} {ka ks kw : Int32} {kS kU kK kV : DD} {pl : Nat} (hpl : pl < L) (hO : Mo G H a tx L fp (nI pl) rf (nI 0) (nI 0) ir kb n nv ct nx sd sn bn) (hW : Mw G H a false ka ks kw 0 0 kS kU kK kV) (hB : B ≤ a) : AM G B l yX7_readsClause cX7_readsClause 3 (some .boolean) 4 0 0 [.ref a, .int (bI true)] H (fun rv H' => rv = some (.int (bI (decide ((clF tx L pl (false, ka, ks, kw, 0, 0, kS, kU, kK, kV)).1.1 = 0)))) ∧ (∃ rw' rx' : Int32, Mo G H' a tx L fp (nI (clF tx L pl (false, ka, ks, kw, 0, 0, kS, kU, kK, kV)).1.2) (if (clF tx L pl (false, ka, ks, kw, 0, 0, kS, kU, kK, kV)).1.1 = 0 then rf else nI (clF tx L pl (false, ka, ks, kw, 0, 0, kS, kU, kK, kV)).1.1) rw' rx' ir kb n nv ct nx sd sn bn ∧ Mz G H' a ∧ ((clF tx L pl (false, ka, ks, kw, 0, 0, kS, kU, kK, kV)).1.1 = 0 → rw' = nI (clF tx L pl (false, ka, ks, kw, 0, 0, kS, kU, kK, kV)).2.2.2.2.2.1 ∧ rx' = nI (clF tx L pl (false, ka, ks, kw, 0, 0, kS, kU, kK, kV)).2.2.2.2.2.2.1 ∧ MwK G H' a (clF tx L pl (false, ka, ks, kw, 0, 0, kS, kU, kK, kV)).2) ∧ ∀ q : Nat, q ≠ a ∧ ¬ (a + 2 ≤ q ∧ q < a + 5) → H'[q]? = H[q]?)) := by
  have hO0 := hO
  obtain ⟨hm, ⟨fT, hTx, eT⟩, hL9, hT8⟩ := hO
  unfold mxL at hm
  obtain ⟨⟨fb, hbx, eb⟩, ⟨fw, hwx, ew⟩, ⟨fv, hvx, ev⟩, hn2, hv2⟩ := hW
  have h8 := hT8 pl hpl
  have hF : ∀ q : Nat, q ≠ a ∧ ¬ (a + 2 ≤ q ∧ q < a + 5) → H[q]? = H[q]? := fun _ _ => rfl
  refine AM.ofZ (lv := [(0, .ref a), (1, .int (bI true))]) (by decide +kernel) (Nat.le_of_ble_eq_true rfl) rfl ?_ (fun _ _ h => ⟨_, h.1⟩)
  refine a_aload_n 0 dX7_readsClause_0 rfl rfl ?_
  refine a_aload_n 0 dX7_readsClause_1 rfl rfl ?_
  refine a_get f_X7_67 dX7_readsClause_2 hm rfl ?_
  refine a_callVp (As := [.int (nI pl)]) (rest := []) (d := 0) (mc := 0) (ms := 0) (x := lT tx L pl) (ci := 7) l_X7_70 im_X7_letterAt se_X7_letterAt ⟨_, rfl, rfl⟩ dX7_readsClause_5 ⟨Nat.le_of_ble_eq_true rfl, Nat.le_of_ble_eq_true rfl⟩ rfl (Nat.le_of_ble_eq_true rfl) ⟨Nat.le_of_ble_eq_true rfl, Nat.le_of_ble_eq_true rfl⟩ hm (c_X7_letterAt (by omega) hO0 hB) ?_
  refine a_toeq (nI (tx pl)) (if_pos hpl) ?_
  refine a_istore_n (lv' := [(2, .int (nI (tx pl))), (0, .ref a), (1, .int (bI true))]) dX7_readsClause_8 rfl (by decide) rfl ?_
  refine a_iload_n 0 dX7_readsClause_9 rfl rfl ?_
  refine a_bipush 98 dX7_readsClause_10 (by decide) ?_
  refine a_icmpneN (a := tx pl) (b := 98) 21 dX7_readsClause_12 (by decide) (by omega) (by omega) (fun c12 => ?_) (fun c12 => ?_)
  · skip
    have hE : clF tx L pl (false, ka, ks, kw, 0, 0, kS, kU, kK, kV) = ((1, pl), (false, ka, ks, kw, 0, 0, kS, kU, kK, kV)) := by
      simp only [clF]
      rw [if_neg (by rintro (⟨h1, h2⟩ | ⟨h1, h2⟩ | ⟨h1, h2⟩) <;> first | omega | cases h2), if_neg c12, if_neg (fun h => by cases h.2), if_neg (fun h => by cases h.2)]
    refine a_iload_n 2 dX7_readsClause_21 rfl rfl ?_
    refine a_ifneB 36 dX7_readsClause_22 (by decide) (fun c22 => ?_) (fun c22 => ?_)
    · skip
      refine a_iload_n 2 dX7_readsClause_36 rfl rfl ?_
      refine a_ifneB 53 dX7_readsClause_37 (by decide) (fun c37 => ?_) (fun c37 => ?_)
      · skip
        refine a_aload_n 1 dX7_readsClause_53 rfl rfl ?_
        refine a_iconst 1 dX7_readsClause_54 (by decide) ?_
        refine a_callVi (As := [.int 1]) (rest := []) (d := 0) (mc := 0) (ms := 0) (x := bI false) (ci := 7) l_X7_80 im_X7_fails se_X7_fails ⟨_, rfl, rfl⟩ dX7_readsClause_55 ⟨Nat.le_of_ble_eq_true rfl, Nat.le_of_ble_eq_true rfl⟩ rfl (Nat.le_of_ble_eq_true rfl) ⟨Nat.le_of_ble_eq_true rfl, Nat.le_of_ble_eq_true rfl⟩ hm (c_X7_fails hO0 hB) (fun H2 hp2 => ?_)
        obtain ⟨hO2, hfr2⟩ := hp2
        have hF : ∀ q : Nat, q ≠ a ∧ ¬ (a + 2 ≤ q ∧ q < a + 5) → H2[q]? = H[q]? := fun q hq => (hfr2 q (by omega)).trans (hF q hq)
        refine a_ret dX7_readsClause_58 ⟨⟨ri ?_, ?_⟩, rfl, rfl⟩
        · rw [hE]; rfl
        · rw [hE]
          exact ⟨_, _, hO2, ⟨⟨_, hbx.kept (hfr2 _ (by omega))⟩, ⟨_, hwx.kept (hfr2 _ (by omega))⟩, ⟨_, hvx.kept (hfr2 _ (by omega))⟩⟩, fun h => absurd (show (1 : Nat) = 0 from h) (by decide), hF⟩
      · skip
        cases c37
    · skip
      cases c22
  · skip
    obtain ⟨k1, p1, x1, k2, p2, x2, k3, p3, x3, k4, p4, hu1, hu2, hu3, hen⟩ := tri_ex tx L 99 99 999 pl
    have hE : clF tx L pl (false, ka, ks, kw, 0, 0, kS, kU, kK, kV) = ((k4, p4), (true, nI x1, nI x2, nI x3, 0, 0, kS, kU, kK, kV)) := by
      simp only [clF]
      rw [if_neg (by rintro (⟨h1, h2⟩ | ⟨h1, h2⟩ | ⟨h1, h2⟩) <;> first | omega | cases h2), if_pos c12, tri_eq hu1 hu2 hu3 hen]
    refine a_aload_n 1 dX7_readsClause_15 rfl rfl ?_
    refine a_iload_n 2 dX7_readsClause_16 rfl rfl ?_
    refine a_callVi (As := [.int (bI true)]) (rest := []) (d := 3) (mc := 0) (ms := 0) (x := bI (decide (k4 = 0))) (ci := 7) l_X7_97 im_X7_readsBox se_X7_readsBox ⟨_, rfl, rfl⟩ dX7_readsClause_17 ⟨Nat.le_of_ble_eq_true rfl, Nat.le_of_ble_eq_true rfl⟩ rfl (Nat.le_of_ble_eq_true rfl) ⟨Nat.le_of_ble_eq_true rfl, Nat.le_of_ble_eq_true rfl⟩ hm (c_X7_readsBox hu1 hu2 hu3 hen hpl hO0 ⟨_, hbx⟩ hB) (fun H3 hp3 => ?_)
    obtain ⟨hO2, ⟨fb2, hb2, eb2⟩, hfr2⟩ := hp3
    have hF : ∀ q : Nat, q ≠ a ∧ ¬ (a + 2 ≤ q ∧ q < a + 5) → H3[q]? = H[q]? := fun q hq => (hfr2 q (by omega)).trans (hF q hq)
    refine a_ret dX7_readsClause_20 ⟨⟨ri ?_, ?_⟩, rfl, rfl⟩
    · rw [hE]
    · rw [hE]
      have hw2 := hwx.kept (hfr2 _ (by omega))
      have hv3 := hvx.kept (hfr2 _ (by omega))
      exact ⟨_, _, hO2, ⟨⟨_, hb2⟩, ⟨_, hw2⟩, ⟨_, hv3⟩⟩, fun h => ⟨rfl, rfl, ⟨_, hb2, fun _ => eb2 h⟩, ⟨_, hw2, ew⟩, ⟨_, hv3, ev⟩, hn2, hv2⟩, hF⟩
set_option maxHeartbeats 4000000 in
set_option maxRecDepth 100000 in
theorem c_X7_readsClause_2 {G : GT} {B : Nat} {l : Launch} {H : Heap} {a : Nat} {tx : Nat → Nat} {L : Nat} {fp rf : Int32} {ir kb : Bool} {n nv ct nx sd sn bn : Nat} {ka ks kw : Int32} {n2 v2 : Nat} {kS kU kK kV : DD} {pl : Nat} (hpl : pl < L) (hcw : tx pl = 119 → n2 < 8) (hcv : tx pl = 118 → v2 < 4) (hO : Mo G H a tx L fp (nI pl) rf (nI n2) (nI v2) ir kb n nv ct nx sd sn bn) (hW : Mw G H a true ka ks kw n2 v2 kS kU kK kV) (hB : B ≤ a) : AM G B l yX7_readsClause cX7_readsClause 3 (some .boolean) 4 0 0 [.ref a, .int (bI false)] H (fun rv H' => rv = some (.int (bI (decide ((clF tx L pl (true, ka, ks, kw, n2, v2, kS, kU, kK, kV)).1.1 = 0)))) ∧ (∃ rw' rx' : Int32, Mo G H' a tx L fp (nI (clF tx L pl (true, ka, ks, kw, n2, v2, kS, kU, kK, kV)).1.2) (if (clF tx L pl (true, ka, ks, kw, n2, v2, kS, kU, kK, kV)).1.1 = 0 then rf else nI (clF tx L pl (true, ka, ks, kw, n2, v2, kS, kU, kK, kV)).1.1) rw' rx' ir kb n nv ct nx sd sn bn ∧ Mz G H' a ∧ ((clF tx L pl (true, ka, ks, kw, n2, v2, kS, kU, kK, kV)).1.1 = 0 → rw' = nI (clF tx L pl (true, ka, ks, kw, n2, v2, kS, kU, kK, kV)).2.2.2.2.2.1 ∧ rx' = nI (clF tx L pl (true, ka, ks, kw, n2, v2, kS, kU, kK, kV)).2.2.2.2.2.2.1 ∧ MwK G H' a (clF tx L pl (true, ka, ks, kw, n2, v2, kS, kU, kK, kV)).2) ∧ ∀ q : Nat, q ≠ a ∧ ¬ (a + 2 ≤ q ∧ q < a + 5) → H'[q]? = H[q]?)) := by
  have hO0 := hO
  obtain ⟨hm, ⟨fT, hTx, eT⟩, hL9, hT8⟩ := hO
  unfold mxL at hm
  obtain ⟨⟨fb, hbx, eb⟩, ⟨fw, hwx, ew⟩, ⟨fv, hvx, ev⟩, hn2, hv2⟩ := hW
  have h8 := hT8 pl hpl
  have hF : ∀ q : Nat, q ≠ a ∧ ¬ (a + 2 ≤ q ∧ q < a + 5) → H[q]? = H[q]? := fun _ _ => rfl
  refine AM.ofZ (lv := [(0, .ref a), (1, .int (bI false))]) (by decide +kernel) (Nat.le_of_ble_eq_true rfl) rfl ?_ (fun _ _ h => ⟨_, h.1⟩)
  refine a_aload_n 0 dX7_readsClause_0 rfl rfl ?_
  refine a_aload_n 0 dX7_readsClause_1 rfl rfl ?_
  refine a_get f_X7_67 dX7_readsClause_2 hm rfl ?_
  refine a_callVp (As := [.int (nI pl)]) (rest := []) (d := 0) (mc := 0) (ms := 0) (x := lT tx L pl) (ci := 7) l_X7_70 im_X7_letterAt se_X7_letterAt ⟨_, rfl, rfl⟩ dX7_readsClause_5 ⟨Nat.le_of_ble_eq_true rfl, Nat.le_of_ble_eq_true rfl⟩ rfl (Nat.le_of_ble_eq_true rfl) ⟨Nat.le_of_ble_eq_true rfl, Nat.le_of_ble_eq_true rfl⟩ hm (c_X7_letterAt (by omega) hO0 hB) ?_
  refine a_toeq (nI (tx pl)) (if_pos hpl) ?_
  refine a_istore_n (lv' := [(2, .int (nI (tx pl))), (0, .ref a), (1, .int (bI false))]) dX7_readsClause_8 rfl (by decide) rfl ?_
  refine a_iload_n 0 dX7_readsClause_9 rfl rfl ?_
  refine a_bipush 98 dX7_readsClause_10 (by decide) ?_
  refine a_icmpneN (a := tx pl) (b := 98) 21 dX7_readsClause_12 (by decide) (by omega) (by omega) (fun c12 => ?_) (fun c12 => ?_)
  · skip
    refine a_iload_n 2 dX7_readsClause_21 rfl rfl ?_
    refine a_ifneB 36 dX7_readsClause_22 (by decide) (fun c22 => ?_) (fun c22 => ?_)
    · skip
      cases c22
    · skip
      refine a_iload_n 0 dX7_readsClause_25 rfl rfl ?_
      refine a_bipush 119 dX7_readsClause_26 (by decide) ?_
      refine a_icmpneN (a := tx pl) (b := 119) 36 dX7_readsClause_28 (by decide) (by omega) (by omega) (fun c28 => ?_) (fun c28 => ?_)
      · skip
        refine a_iload_n 2 dX7_readsClause_36 rfl rfl ?_
        refine a_ifneB 53 dX7_readsClause_37 (by decide) (fun c37 => ?_) (fun c37 => ?_)
        · skip
          cases c37
        · skip
          refine a_iload_n 0 dX7_readsClause_40 rfl rfl ?_
          refine a_bipush 118 dX7_readsClause_41 (by decide) ?_
          refine a_icmpneN (a := tx pl) (b := 118) 53 dX7_readsClause_43 (by decide) (by omega) (by omega) (fun c43 => ?_) (fun c43 => ?_)
          · skip
            have hE : clF tx L pl (true, ka, ks, kw, n2, v2, kS, kU, kK, kV) = ((1, pl), (true, ka, ks, kw, n2, v2, kS, kU, kK, kV)) := by
              simp only [clF]
              rw [if_neg (by rintro (⟨h1, h2⟩ | ⟨h1, h2⟩ | ⟨h1, h2⟩) <;> omega), if_neg c12, if_neg (fun h => c28 h.1), if_neg (fun h => c43 h.1)]
            refine a_aload_n 1 dX7_readsClause_53 rfl rfl ?_
            refine a_iconst 1 dX7_readsClause_54 (by decide) ?_
            refine a_callVi (As := [.int 1]) (rest := []) (d := 0) (mc := 0) (ms := 0) (x := bI false) (ci := 7) l_X7_80 im_X7_fails se_X7_fails ⟨_, rfl, rfl⟩ dX7_readsClause_55 ⟨Nat.le_of_ble_eq_true rfl, Nat.le_of_ble_eq_true rfl⟩ rfl (Nat.le_of_ble_eq_true rfl) ⟨Nat.le_of_ble_eq_true rfl, Nat.le_of_ble_eq_true rfl⟩ hm (c_X7_fails hO0 hB) (fun H2 hp2 => ?_)
            obtain ⟨hO2, hfr2⟩ := hp2
            have hF : ∀ q : Nat, q ≠ a ∧ ¬ (a + 2 ≤ q ∧ q < a + 5) → H2[q]? = H[q]? := fun q hq => (hfr2 q (by omega)).trans (hF q hq)
            refine a_ret dX7_readsClause_58 ⟨⟨ri ?_, ?_⟩, rfl, rfl⟩
            · rw [hE]; rfl
            · rw [hE]
              exact ⟨_, _, hO2, ⟨⟨_, hbx.kept (hfr2 _ (by omega))⟩, ⟨_, hwx.kept (hfr2 _ (by omega))⟩, ⟨_, hvx.kept (hfr2 _ (by omega))⟩⟩, fun h => absurd (show (1 : Nat) = 0 from h) (by decide), hF⟩
          · skip
            have hv5 := hcv c43
            obtain ⟨k1, p1, x1, k2, p2, hnu, hen⟩ := vo_ex tx L pl
            have hE : clF tx L pl (true, ka, ks, kw, n2, v2, kS, kU, kK, kV) = ((k2, p2), (true, ka, ks, kw, n2, v2 + 1, kS, kU, kK, upd kV v2 (nI x1))) := by
              simp only [clF]
              rw [if_neg (by rintro (⟨h1, h2⟩ | ⟨h1, h2⟩ | ⟨h1, h2⟩) <;> omega), if_neg c12, if_neg (fun h => c28 h.1), if_pos ⟨c43, trivial⟩, hnu]
              dsimp only
              rw [hen]
            refine a_aload_n 1 dX7_readsClause_46 rfl rfl ?_
            refine a_callVi (As := []) (rest := []) (d := 3) (mc := 0) (ms := 0) (x := bI (decide (k2 = 0))) (ci := 7) l_X7_104 im_X7_readsVoice se_X7_readsVoice ⟨_, rfl, rfl⟩ dX7_readsClause_47 ⟨Nat.le_of_ble_eq_true rfl, Nat.le_of_ble_eq_true rfl⟩ rfl (Nat.le_of_ble_eq_true rfl) ⟨Nat.le_of_ble_eq_true rfl, Nat.le_of_ble_eq_true rfl⟩ hm (c_X7_readsVoice hnu hen hpl hv5 hO0 ⟨_, hvx, ev⟩ hB) (fun H3 hp3 => ?_)
            obtain ⟨rx2, hO2, ⟨fv2, hv4, ev4⟩, hfr2⟩ := hp3
            have hF : ∀ q : Nat, q ≠ a ∧ ¬ (a + 2 ≤ q ∧ q < a + 5) → H3[q]? = H[q]? := fun q hq => (hfr2 q (by omega)).trans (hF q hq)
            refine a_goto 58 dX7_readsClause_50 (by decide) ?_
            refine a_ret dX7_readsClause_58 ⟨⟨ri ?_, ?_⟩, rfl, rfl⟩
            · rw [hE]
            · rw [hE]
              have hb3 := hbx.kept (hfr2 _ (by omega))
              have hw3 := hwx.kept (hfr2 _ (by omega))
              exact ⟨_, _, hO2, ⟨⟨_, hb3⟩, ⟨_, hw3⟩, ⟨_, hv4⟩⟩, fun h => ⟨rfl, (ev4 h).1, ⟨_, hb3, eb⟩, ⟨_, hw3, ew⟩, ⟨_, hv4, (ev4 h).2⟩, hn2, by dsimp only; omega⟩, hF⟩
      · skip
        have hn8 := hcw c28
        obtain ⟨k1, p1, x1, k2, p2, x2, k3, p3, x3, k4, p4, hu1, hu2, hu3, hen⟩ := tri_ex tx L 999 99 99 pl
        have hE : clF tx L pl (true, ka, ks, kw, n2, v2, kS, kU, kK, kV) = ((k4, p4), (true, ka, ks, kw, n2 + 1, v2, upd kS n2 (nI x1), upd kU n2 (nI x2), upd kK n2 (nI x3), kV)) := by
          simp only [clF]
          rw [if_neg (by rintro (⟨h1, h2⟩ | ⟨h1, h2⟩ | ⟨h1, h2⟩) <;> omega), if_neg c12, if_pos ⟨c28, trivial⟩, tri_eq hu1 hu2 hu3 hen]
        refine a_aload_n 1 dX7_readsClause_31 rfl rfl ?_
        refine a_callVi (As := []) (rest := []) (d := 3) (mc := 0) (ms := 0) (x := bI (decide (k4 = 0))) (ci := 7) l_X7_101 im_X7_readsWord se_X7_readsWord ⟨_, rfl, rfl⟩ dX7_readsClause_32 ⟨Nat.le_of_ble_eq_true rfl, Nat.le_of_ble_eq_true rfl⟩ rfl (Nat.le_of_ble_eq_true rfl) ⟨Nat.le_of_ble_eq_true rfl, Nat.le_of_ble_eq_true rfl⟩ hm (c_X7_readsWord hu1 hu2 hu3 hen hpl hn8 hO0 ⟨_, hwx, ew⟩ hB) (fun H4 hp4 => ?_)
        obtain ⟨rw2, hO2, ⟨fw2, hw4, ew4⟩, hfr2⟩ := hp4
        have hF : ∀ q : Nat, q ≠ a ∧ ¬ (a + 2 ≤ q ∧ q < a + 5) → H4[q]? = H[q]? := fun q hq => (hfr2 q (by omega)).trans (hF q hq)
        refine a_ret dX7_readsClause_35 ⟨⟨ri ?_, ?_⟩, rfl, rfl⟩
        · rw [hE]
        · rw [hE]
          have hb3 := hbx.kept (hfr2 _ (by omega))
          have hv3 := hvx.kept (hfr2 _ (by omega))
          exact ⟨_, _, hO2, ⟨⟨_, hb3⟩, ⟨_, hw4⟩, ⟨_, hv3⟩⟩, fun h => ⟨(ew4 h).1, rfl, ⟨_, hb3, eb⟩, ⟨_, hw4, (ew4 h).2⟩, ⟨_, hv3, ev⟩, by dsimp only; omega, hv2⟩, hF⟩
  · skip
    have hE : clF tx L pl (true, ka, ks, kw, n2, v2, kS, kU, kK, kV) = ((3, pl), (true, ka, ks, kw, n2, v2, kS, kU, kK, kV)) := by
      simp only [clF]
      rw [if_pos (Or.inl ⟨c12, trivial⟩)]
    refine a_aload_n 1 dX7_readsClause_15 rfl rfl ?_
    refine a_iload_n 2 dX7_readsClause_16 rfl rfl ?_
    refine a_callVi (As := [.int (bI false)]) (rest := []) (d := 3) (mc := 0) (ms := 0) (x := bI false) (ci := 7) l_X7_97 im_X7_readsBox se_X7_readsBox ⟨_, rfl, rfl⟩ dX7_readsClause_17 ⟨Nat.le_of_ble_eq_true rfl, Nat.le_of_ble_eq_true rfl⟩ rfl (Nat.le_of_ble_eq_true rfl) ⟨Nat.le_of_ble_eq_true rfl, Nat.le_of_ble_eq_true rfl⟩ hm (c_X7_readsBox_3 hO0 hB) (fun H5 hp5 => ?_)
    obtain ⟨hO2, hfr2⟩ := hp5
    have hF : ∀ q : Nat, q ≠ a ∧ ¬ (a + 2 ≤ q ∧ q < a + 5) → H5[q]? = H[q]? := fun q hq => (hfr2 q (by omega)).trans (hF q hq)
    refine a_ret dX7_readsClause_20 ⟨⟨ri ?_, ?_⟩, rfl, rfl⟩
    · rw [hE]; rfl
    · rw [hE]
      exact ⟨_, _, hO2, ⟨⟨_, hbx.kept (hfr2 _ (by omega))⟩, ⟨_, hwx.kept (hfr2 _ (by omega))⟩, ⟨_, hvx.kept (hfr2 _ (by omega))⟩⟩, fun h => absurd (show (3 : Nat) = 0 from h) (by decide), hF⟩
set_option maxHeartbeats 4000000 in
set_option maxRecDepth 100000 in
theorem c_X7_readsClause_w8 {G : GT} {B : Nat} {l : Launch} {H : Heap} {a : Nat} {tx : Nat → Nat} {L : Nat} {fp rf : Int32} {ir kb : Bool} {n nv ct nx sd sn bn : Nat} {ka ks kw : Int32} {v2 : Nat} {kS kU kK kV : DD} {pl : Nat} (hpl : pl < L) (htl : tx pl = 119) (hO : Mo G H a tx L fp (nI pl) rf (nI 8) (nI v2) ir kb n nv ct nx sd sn bn) (hW : Mw G H a true ka ks kw 8 v2 kS kU kK kV) (hB : B ≤ a) : AM G B l yX7_readsClause cX7_readsClause 3 (some .boolean) 4 0 0 [.ref a, .int (bI false)] H (fun rv H' => rv = some (.int (bI (decide ((clF tx L pl (true, ka, ks, kw, 8, v2, kS, kU, kK, kV)).1.1 = 0)))) ∧ (∃ rw' rx' : Int32, Mo G H' a tx L fp (nI (clF tx L pl (true, ka, ks, kw, 8, v2, kS, kU, kK, kV)).1.2) (if (clF tx L pl (true, ka, ks, kw, 8, v2, kS, kU, kK, kV)).1.1 = 0 then rf else nI (clF tx L pl (true, ka, ks, kw, 8, v2, kS, kU, kK, kV)).1.1) rw' rx' ir kb n nv ct nx sd sn bn ∧ Mz G H' a ∧ ((clF tx L pl (true, ka, ks, kw, 8, v2, kS, kU, kK, kV)).1.1 = 0 → rw' = nI (clF tx L pl (true, ka, ks, kw, 8, v2, kS, kU, kK, kV)).2.2.2.2.2.1 ∧ rx' = nI (clF tx L pl (true, ka, ks, kw, 8, v2, kS, kU, kK, kV)).2.2.2.2.2.2.1 ∧ MwK G H' a (clF tx L pl (true, ka, ks, kw, 8, v2, kS, kU, kK, kV)).2) ∧ ∀ q : Nat, q ≠ a ∧ ¬ (a + 2 ≤ q ∧ q < a + 5) → H'[q]? = H[q]?)) := by
  have hO0 := hO
  obtain ⟨hm, ⟨fT, hTx, eT⟩, hL9, hT8⟩ := hO
  unfold mxL at hm
  obtain ⟨⟨fb, hbx, eb⟩, ⟨fw, hwx, ew⟩, ⟨fv, hvx, ev⟩, hn2, hv2⟩ := hW
  have h8 := hT8 pl hpl
  have hF : ∀ q : Nat, q ≠ a ∧ ¬ (a + 2 ≤ q ∧ q < a + 5) → H[q]? = H[q]? := fun _ _ => rfl
  refine AM.ofZ (lv := [(0, .ref a), (1, .int (bI false))]) (by decide +kernel) (Nat.le_of_ble_eq_true rfl) rfl ?_ (fun _ _ h => ⟨_, h.1⟩)
  refine a_aload_n 0 dX7_readsClause_0 rfl rfl ?_
  refine a_aload_n 0 dX7_readsClause_1 rfl rfl ?_
  refine a_get f_X7_67 dX7_readsClause_2 hm rfl ?_
  refine a_callVp (As := [.int (nI pl)]) (rest := []) (d := 0) (mc := 0) (ms := 0) (x := lT tx L pl) (ci := 7) l_X7_70 im_X7_letterAt se_X7_letterAt ⟨_, rfl, rfl⟩ dX7_readsClause_5 ⟨Nat.le_of_ble_eq_true rfl, Nat.le_of_ble_eq_true rfl⟩ rfl (Nat.le_of_ble_eq_true rfl) ⟨Nat.le_of_ble_eq_true rfl, Nat.le_of_ble_eq_true rfl⟩ hm (c_X7_letterAt (by omega) hO0 hB) ?_
  refine a_toeq (nI (tx pl)) (if_pos hpl) ?_
  refine a_istore_n (lv' := [(2, .int (nI (tx pl))), (0, .ref a), (1, .int (bI false))]) dX7_readsClause_8 rfl (by decide) rfl ?_
  refine a_iload_n 0 dX7_readsClause_9 rfl rfl ?_
  refine a_bipush 98 dX7_readsClause_10 (by decide) ?_
  refine a_icmpneN (a := tx pl) (b := 98) 21 dX7_readsClause_12 (by decide) (by omega) (by omega) (fun c12 => ?_) (fun c12 => ?_)
  · skip
    refine a_iload_n 2 dX7_readsClause_21 rfl rfl ?_
    refine a_ifneB 36 dX7_readsClause_22 (by decide) (fun c22 => ?_) (fun c22 => ?_)
    · skip
      cases c22
    · skip
      refine a_iload_n 0 dX7_readsClause_25 rfl rfl ?_
      refine a_bipush 119 dX7_readsClause_26 (by decide) ?_
      refine a_icmpneN (a := tx pl) (b := 119) 36 dX7_readsClause_28 (by decide) (by omega) (by omega) (fun c28 => ?_) (fun c28 => ?_)
      · skip
        omega
      · skip
        have hE : clF tx L pl (true, ka, ks, kw, 8, v2, kS, kU, kK, kV) = ((3, pl), (true, ka, ks, kw, 8, v2, kS, kU, kK, kV)) := by
          simp only [clF]
          rw [if_pos (Or.inr (Or.inl ⟨c28, by decide⟩))]
        refine a_aload_n 1 dX7_readsClause_31 rfl rfl ?_
        refine a_callVi (As := []) (rest := []) (d := 3) (mc := 0) (ms := 0) (x := bI false) (ci := 7) l_X7_101 im_X7_readsWord se_X7_readsWord ⟨_, rfl, rfl⟩ dX7_readsClause_32 ⟨Nat.le_of_ble_eq_true rfl, Nat.le_of_ble_eq_true rfl⟩ rfl (Nat.le_of_ble_eq_true rfl) ⟨Nat.le_of_ble_eq_true rfl, Nat.le_of_ble_eq_true rfl⟩ hm (c_X7_readsWord_3 hO0 hB) (fun H2 hp2 => ?_)
        obtain ⟨hO2, hfr2⟩ := hp2
        have hF : ∀ q : Nat, q ≠ a ∧ ¬ (a + 2 ≤ q ∧ q < a + 5) → H2[q]? = H[q]? := fun q hq => (hfr2 q (by omega)).trans (hF q hq)
        refine a_ret dX7_readsClause_35 ⟨⟨ri ?_, ?_⟩, rfl, rfl⟩
        · rw [hE]; rfl
        · rw [hE]
          exact ⟨_, _, hO2, ⟨⟨_, hbx.kept (hfr2 _ (by omega))⟩, ⟨_, hwx.kept (hfr2 _ (by omega))⟩, ⟨_, hvx.kept (hfr2 _ (by omega))⟩⟩, fun h => absurd (show (3 : Nat) = 0 from h) (by decide), hF⟩
  · skip
    omega
set_option maxHeartbeats 4000000 in
set_option maxRecDepth 100000 in
theorem c_X7_readsClause_v4 {G : GT} {B : Nat} {l : Launch} {H : Heap} {a : Nat} {tx : Nat → Nat} {L : Nat} {fp rf : Int32} {ir kb : Bool} {n nv ct nx sd sn bn : Nat} {ka ks kw : Int32} {n2 : Nat} {kS kU kK kV : DD} {pl : Nat} (hpl : pl < L) (htl : tx pl = 118) (hO : Mo G H a tx L fp (nI pl) rf (nI n2) (nI 4) ir kb n nv ct nx sd sn bn) (hW : Mw G H a true ka ks kw n2 4 kS kU kK kV) (hB : B ≤ a) : AM G B l yX7_readsClause cX7_readsClause 3 (some .boolean) 4 0 0 [.ref a, .int (bI false)] H (fun rv H' => rv = some (.int (bI (decide ((clF tx L pl (true, ka, ks, kw, n2, 4, kS, kU, kK, kV)).1.1 = 0)))) ∧ (∃ rw' rx' : Int32, Mo G H' a tx L fp (nI (clF tx L pl (true, ka, ks, kw, n2, 4, kS, kU, kK, kV)).1.2) (if (clF tx L pl (true, ka, ks, kw, n2, 4, kS, kU, kK, kV)).1.1 = 0 then rf else nI (clF tx L pl (true, ka, ks, kw, n2, 4, kS, kU, kK, kV)).1.1) rw' rx' ir kb n nv ct nx sd sn bn ∧ Mz G H' a ∧ ((clF tx L pl (true, ka, ks, kw, n2, 4, kS, kU, kK, kV)).1.1 = 0 → rw' = nI (clF tx L pl (true, ka, ks, kw, n2, 4, kS, kU, kK, kV)).2.2.2.2.2.1 ∧ rx' = nI (clF tx L pl (true, ka, ks, kw, n2, 4, kS, kU, kK, kV)).2.2.2.2.2.2.1 ∧ MwK G H' a (clF tx L pl (true, ka, ks, kw, n2, 4, kS, kU, kK, kV)).2) ∧ ∀ q : Nat, q ≠ a ∧ ¬ (a + 2 ≤ q ∧ q < a + 5) → H'[q]? = H[q]?)) := by
  have hO0 := hO
  obtain ⟨hm, ⟨fT, hTx, eT⟩, hL9, hT8⟩ := hO
  unfold mxL at hm
  obtain ⟨⟨fb, hbx, eb⟩, ⟨fw, hwx, ew⟩, ⟨fv, hvx, ev⟩, hn2, hv2⟩ := hW
  have h8 := hT8 pl hpl
  have hF : ∀ q : Nat, q ≠ a ∧ ¬ (a + 2 ≤ q ∧ q < a + 5) → H[q]? = H[q]? := fun _ _ => rfl
  refine AM.ofZ (lv := [(0, .ref a), (1, .int (bI false))]) (by decide +kernel) (Nat.le_of_ble_eq_true rfl) rfl ?_ (fun _ _ h => ⟨_, h.1⟩)
  refine a_aload_n 0 dX7_readsClause_0 rfl rfl ?_
  refine a_aload_n 0 dX7_readsClause_1 rfl rfl ?_
  refine a_get f_X7_67 dX7_readsClause_2 hm rfl ?_
  refine a_callVp (As := [.int (nI pl)]) (rest := []) (d := 0) (mc := 0) (ms := 0) (x := lT tx L pl) (ci := 7) l_X7_70 im_X7_letterAt se_X7_letterAt ⟨_, rfl, rfl⟩ dX7_readsClause_5 ⟨Nat.le_of_ble_eq_true rfl, Nat.le_of_ble_eq_true rfl⟩ rfl (Nat.le_of_ble_eq_true rfl) ⟨Nat.le_of_ble_eq_true rfl, Nat.le_of_ble_eq_true rfl⟩ hm (c_X7_letterAt (by omega) hO0 hB) ?_
  refine a_toeq (nI (tx pl)) (if_pos hpl) ?_
  refine a_istore_n (lv' := [(2, .int (nI (tx pl))), (0, .ref a), (1, .int (bI false))]) dX7_readsClause_8 rfl (by decide) rfl ?_
  refine a_iload_n 0 dX7_readsClause_9 rfl rfl ?_
  refine a_bipush 98 dX7_readsClause_10 (by decide) ?_
  refine a_icmpneN (a := tx pl) (b := 98) 21 dX7_readsClause_12 (by decide) (by omega) (by omega) (fun c12 => ?_) (fun c12 => ?_)
  · skip
    refine a_iload_n 2 dX7_readsClause_21 rfl rfl ?_
    refine a_ifneB 36 dX7_readsClause_22 (by decide) (fun c22 => ?_) (fun c22 => ?_)
    · skip
      cases c22
    · skip
      refine a_iload_n 0 dX7_readsClause_25 rfl rfl ?_
      refine a_bipush 119 dX7_readsClause_26 (by decide) ?_
      refine a_icmpneN (a := tx pl) (b := 119) 36 dX7_readsClause_28 (by decide) (by omega) (by omega) (fun c28 => ?_) (fun c28 => ?_)
      · skip
        refine a_iload_n 2 dX7_readsClause_36 rfl rfl ?_
        refine a_ifneB 53 dX7_readsClause_37 (by decide) (fun c37 => ?_) (fun c37 => ?_)
        · skip
          cases c37
        · skip
          refine a_iload_n 0 dX7_readsClause_40 rfl rfl ?_
          refine a_bipush 118 dX7_readsClause_41 (by decide) ?_
          refine a_icmpneN (a := tx pl) (b := 118) 53 dX7_readsClause_43 (by decide) (by omega) (by omega) (fun c43 => ?_) (fun c43 => ?_)
          · skip
            omega
          · skip
            have hE : clF tx L pl (true, ka, ks, kw, n2, 4, kS, kU, kK, kV) = ((3, pl), (true, ka, ks, kw, n2, 4, kS, kU, kK, kV)) := by
              simp only [clF]
              rw [if_pos (Or.inr (Or.inr ⟨c43, by decide⟩))]
            refine a_aload_n 1 dX7_readsClause_46 rfl rfl ?_
            refine a_callVi (As := []) (rest := []) (d := 3) (mc := 0) (ms := 0) (x := bI false) (ci := 7) l_X7_104 im_X7_readsVoice se_X7_readsVoice ⟨_, rfl, rfl⟩ dX7_readsClause_47 ⟨Nat.le_of_ble_eq_true rfl, Nat.le_of_ble_eq_true rfl⟩ rfl (Nat.le_of_ble_eq_true rfl) ⟨Nat.le_of_ble_eq_true rfl, Nat.le_of_ble_eq_true rfl⟩ hm (c_X7_readsVoice_3 hO0 hB) (fun H2 hp2 => ?_)
            obtain ⟨hO2, hfr2⟩ := hp2
            have hF : ∀ q : Nat, q ≠ a ∧ ¬ (a + 2 ≤ q ∧ q < a + 5) → H2[q]? = H[q]? := fun q hq => (hfr2 q (by omega)).trans (hF q hq)
            refine a_goto 58 dX7_readsClause_50 (by decide) ?_
            refine a_ret dX7_readsClause_58 ⟨⟨ri ?_, ?_⟩, rfl, rfl⟩
            · rw [hE]; rfl
            · rw [hE]
              exact ⟨_, _, hO2, ⟨⟨_, hbx.kept (hfr2 _ (by omega))⟩, ⟨_, hwx.kept (hfr2 _ (by omega))⟩, ⟨_, hvx.kept (hfr2 _ (by omega))⟩⟩, fun h => absurd (show (3 : Nat) = 0 from h) (by decide), hF⟩
      · skip
        omega
  · skip
    omega
