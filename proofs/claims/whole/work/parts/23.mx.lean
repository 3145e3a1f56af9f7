/-! ===== BEGIN BeansBoxModel: all that it is ===== -/
def Mt (G : GT) (H : Heap) (a : Nat) (tx : Nat → Nat) (L : Nat) : Prop := (∃ f : DD, Ai G H (a + 1) 240 f ∧ ∀ i, i < L → f i = nI (tx i)) ∧ (∃ f : DD, Ai G H (a + 2) 3 f) ∧ (∃ f : DD, Ai G H (a + 3) 24 f) ∧ (∃ f : DD, Ai G H (a + 4) 4 f) ∧ L ≤ 240 ∧ ∀ i, i < L → tx i < 256
theorem Mt.kept {G : GT} {H H1 : Heap} {a L : Nat} {tx : Nat → Nat} (h : Mt G H a tx L) (hq : ∀ q, a + 1 ≤ q → q < a + 5 → H1[q]? = H[q]?) : Mt G H1 a tx L := by
  obtain ⟨⟨f1, h1, h1'⟩, ⟨f2, h2⟩, ⟨f3, h3⟩, ⟨f4, h4⟩, h5⟩ := h
  exact ⟨⟨f1, h1.kept (hq _ (by omega) (by omega)), h1'⟩, ⟨f2, h2.kept (hq _ (by omega) (by omega))⟩, ⟨f3, h3.kept (hq _ (by omega) (by omega))⟩, ⟨f4, h4.kept (hq _ (by omega) (by omega))⟩, h5⟩
def Mk (G : GT) (H : Heap) (a n : Nat) (ik : Nat → Bool) (iD : Nat → DD) (iS : Nat → Nat) : Prop := (∃ f : DD, Az G H (a + 12) 2 f ∧ ∀ i, i < 2 → f i = bI (ik i)) ∧ (∃ f : DD, Ai G H (a + 13) 54 f ∧ ∀ i, i < 2 → ik i = true → NA n (fun j => f (27 * i + j)) (iD i)) ∧ (∃ g : Nat → Int64, Al G H (a + 14) 2 g ∧ ∀ i, i < 2 → ik i = true → g i = lN (iS i))
theorem Mk.kept {G : GT} {H H1 : Heap} {a n : Nat} {ik : Nat → Bool} {iD : Nat → DD} {iS : Nat → Nat} (h : Mk G H a n ik iD iS) (hq : ∀ q, a + 12 ≤ q → q < a + 15 → H1[q]? = H[q]?) : Mk G H1 a n ik iD iS := by
  obtain ⟨⟨f1, h1, h1'⟩, ⟨f2, h2, h2'⟩, ⟨f3, h3, h3'⟩⟩ := h
  exact ⟨⟨f1, h1.kept (hq _ (by omega) (by omega)), h1'⟩, ⟨f2, h2.kept (hq _ (by omega) (by omega)), h2'⟩, ⟨f3, h3.kept (hq _ (by omega) (by omega)), h3'⟩⟩
def Mx (G : GT) (H : Heap) (a : Nat) (tx : Nat → Nat) (L : Nat) (fp : Int32) (kb : Bool) (ka ks kw : Int32) (n nv : Nat) (kK kV dd : DD) (sd nx ct : Nat) (pu : Nat → DD) (sn : Nat) (sw sg : Nat → Nat) (bn : Nat) (bw : Nat → Nat) (bt : DD) (ik : Nat → Bool) (iD : Nat → DD) (iS : Nat → Nat) : Prop :=
  ∃ (ra rf rw rx : Int32) (ir : Bool), Mc G H a L fp ra rf rw rx ir kb n nv ct nx sd sn bn ka ks kw kK kV dd ∧ Mt G H a tx L ∧ Mu G H (a + 9) nx ct n pu ∧ Mp G H (a + 10) 12 sn (fun i => nI (sw i)) (fun i => nI (sg i)) ∧ Mp G H (a + 11) 30 bn (fun i => nI (bw i)) bt ∧ Mk G H a n ik iD iS
theorem Mx.kept {G : GT} {H H1 : Heap} {a : Nat} {tx : Nat → Nat} {L : Nat} {fp : Int32} {kb : Bool} {ka ks kw : Int32} {n nv : Nat} {kK kV dd : DD} {sd nx ct : Nat} {pu : Nat → DD} {sn : Nat} {sw sg : Nat → Nat} {bn : Nat} {bw : Nat → Nat} {bt : DD} {ik : Nat → Bool} {iD : Nat → DD} {iS : Nat → Nat} (h : Mx G H a tx L fp kb ka ks kw n nv kK kV dd sd nx ct pu sn sw sg bn bw bt ik iD iS) (hq : ∀ q, a ≤ q → q < a + 15 → H1[q]? = H[q]?) : Mx G H1 a tx L fp kb ka ks kw n nv kK kV dd sd nx ct pu sn sw sg bn bw bt ik iD iS := by
  obtain ⟨ra, rf, rw, rx, ir, h1, h2, h3, h4, h5, h6⟩ := h
  exact ⟨ra, rf, rw, rx, ir, h1.kept (fun q c => hq q (by omega) (by omega)), h2.kept (fun q c1 c2 => hq q (by omega) (by omega)), h3.kept (hq _ (by omega) (by omega)), h4.kept (hq _ (by omega) (by omega)), h5.kept (hq _ (by omega) (by omega)), h6.kept (fun q c1 c2 => hq q (by omega) (by omega))⟩
theorem Mp.add {G : GT} {H : Heap} {p cap ct : Nat} {P Q P' Q' f : DD} {x y : Int32} (h : Ai G H p cap (upd (upd f (2 * ct) x) (2 * ct + 1) y)) (h1 : ∀ i, i < ct → f (2 * i) = P i) (h2 : ∀ i, i < ct → f (2 * i + 1) = Q i) (hc : 2 * (ct + 1) ≤ cap) (hcap : cap ≤ 30) (hP : ∀ i, P' i = if i = ct then x else P i) (hQ : ∀ i, Q' i = if i = ct then y else Q i) : Mp G H p cap (ct + 1) P' Q' := by
  refine ⟨_, h, fun i hi => ?_, fun i hi => ?_, hc, hcap⟩
  · rw [hP]; unfold upd
    by_cases e : i = ct
    · rw [if_neg (by omega), if_pos (by omega), if_pos e]
    · rw [if_neg (by omega), if_neg (by omega), if_neg e]; exact h1 i (by omega)
  · rw [hQ]; unfold upd
    by_cases e : i = ct
    · rw [if_pos (by omega), if_pos e]
    · rw [if_neg (by omega), if_neg (by omega), if_neg e]; exact h2 i (by omega)
theorem Mp.none {G : GT} {H : Heap} {p cap ct : Nat} {P Q P' Q' : DD} (h : Mp G H p cap ct P Q) : Mp G H p cap 0 P' Q' := by
  obtain ⟨f, h1, -, -, h2, h3⟩ := h
  exact ⟨f, h1, fun i hi => absurd hi (Nat.not_lt_zero _), fun i hi => absurd hi (Nat.not_lt_zero _), by omega, h3⟩
theorem mt_up {f : DD} {tx : Nat → Nat} {L c : Nat} (h : ∀ i, i < L → f i = nI (tx i)) : ∀ i, i < L + 1 → upd f L (nI c) i = nI ((fun i => if i = L then c else tx i) i) := by
  intro i hi
  unfold upd
  dsimp only
  by_cases e : i = L
  · rw [if_pos e, if_pos e]
  · rw [if_neg e, if_neg e]; exact h i (by omega)
/-! ===== END ===== -/

set_option maxHeartbeats 4000000 in
set_option maxRecDepth 100000 in
theorem c_X7_hear {G : GT} {B : Nat} {l : Launch} {H : Heap} {a : Nat} {tx : Nat → Nat} {L : Nat} {fp : Int32} {kb : Bool} {ka ks kw : Int32} {n nv : Nat} {kK kV dd : DD} {sd nx ct : Nat} {pu : Nat → DD} {sn : Nat} {sw sg : Nat → Nat} {bn : Nat} {bw : Nat → Nat} {bt : DD} {ik : Nat → Bool} {iD : Nat → DD} {iS : Nat → Nat} {c g : Nat} (hR : RG n dd) (hc : c < 1000) (hRK : RK n kK) (hh : dd 24 ≤ 9000) (hg : guF n dd (nI c) = nI g) (hgn : g < n) (hX : Mx G H a tx L fp kb ka ks kw n nv kK kV dd sd nx ct pu sn sw sg bn bw bt ik iD iS) (hB : B ≤ a) : AM G B l yX7_hear cX7_hear 2 (some .int) 7 0 0 [.ref a, .int (nI c)] H (fun rv H' => rv = some (.int (ruF n dd kK ka ks (nI c))) ∧ (Mx G H' a tx L fp kb ka ks kw n nv kK kV (hrF dd g (ruF n dd kK ka ks (nI c))) sd ((nx + 1) % 20) (min (ct + 1) 20) (fun i => if i = nx then dd else pu i) sn sw sg bn bw bt ik iD iS ∧ ∀ q : Nat, ¬ (a ≤ q ∧ q < a + 15) → H'[q]? = H[q]?)) := by
  have hX0 := hX
  obtain ⟨ra, rf, rw, rx, ir, hM, hT, hU, hS, hK9, hJ9⟩ := hX
  have hM0 := hM
  obtain ⟨hm, ⟨fB, hBx, eB0, eB1, eB2⟩, ⟨fK, hKx, eK⟩, ⟨fV, hVx, eV⟩, ⟨fN, hNx, eS, eU, eO, e24, e25, e26⟩, hn, hnv⟩ := hM
  unfold mxL at hm
  have hF : ∀ q : Nat, ¬ (a ≤ q ∧ q < a + 15) → H[q]? = H[q]? := fun _ _ => rfl
  refine AM.ofI (lv := [(0, .ref a), (1, .int (nI c))]) (by decide +kernel) (Nat.le_of_ble_eq_true rfl) rfl ?_ (fun _ h => by cases h.1)
  refine a_iload_n 1 dX7_hear_0 rfl rfl ?_
  refine a_callSp (As := [.int (nI c)]) (rest := []) (d := 1) (mc := 0) (ms := 0) (x := bI (wIx 1000 (nI c))) l_X7_183 st_X7_isSound dX7_hear_1 ⟨Nat.le_of_ble_eq_true rfl, Nat.le_of_ble_eq_true rfl⟩ rfl (Nat.le_of_ble_eq_true rfl) ⟨Nat.le_of_ble_eq_true rfl, Nat.le_of_ble_eq_true rfl⟩ (c_X7_isSound) ?_
  refine a_ifneB 10 dX7_hear_4 (by decide) (fun c4 => ?_) (fun c4 => ?_)
  · skip
    refine a_aload_n 0 dX7_hear_10 rfl rfl ?_
    refine a_get f_X7_120 dX7_hear_11 hm rfl ?_
    refine a_ifneN (a := n) 20 dX7_hear_14 (by decide) (by omega) (fun c14 => ?_) (fun c14 => ?_)
    · skip
      refine a_aload_n 0 dX7_hear_20 rfl rfl ?_
      refine a_get f_X7_35 dX7_hear_21 hm rfl ?_
      refine a_bipush 24 dX7_hear_24 (by decide) ?_
      refine a_ialdN (j := 24) dX7_hear_26 hNx (by omega) (by decide) ?_
      refine a_toeq (dd 24) (e24) ?_
      refine a_sipush 9000 dX7_hear_27 (by decide) ?_
      refine a_icmple 36 dX7_hear_30 (by decide) (fun c30 => ?_) (fun c30 => ?_)
      · skip
        refine a_aload_n 0 dX7_hear_36 rfl rfl ?_
        refine a_callVv (As := []) (rest := []) (d := 0) (mc := 0) (ms := 0) (ci := 7) l_X7_187 im_X7_remember se_X7_remember ⟨_, rfl, rfl⟩ dX7_hear_37 ⟨Nat.le_of_ble_eq_true rfl, Nat.le_of_ble_eq_true rfl⟩ rfl (Nat.le_of_ble_eq_true rfl) ⟨Nat.le_of_ble_eq_true rfl, Nat.le_of_ble_eq_true rfl⟩ hm (c_X7_remember hU hM0 hB) (fun H2 hp2 => ?_)
        obtain ⟨hM1, hU, hfr1⟩ := hp2
        have hT := hT.kept (H1 := H2) (fun q c1 c2 => hfr1 q (by omega))
        have hS := hS.kept (H1 := H2) (hfr1 _ (by omega))
        have hK9 := hK9.kept (H1 := H2) (hfr1 _ (by omega))
        have hJ9 := hJ9.kept (H1 := H2) (fun q c1 c2 => hfr1 q (by omega))
        have hm := hM1.1
        unfold mxL at hm
        have hF : ∀ q : Nat, ¬ (a ≤ q ∧ q < a + 15) → H2[q]? = H[q]? := fun q hq => (hfr1 q (by omega)).trans (hF q hq)
        refine a_aload_n 0 dX7_hear_40 rfl rfl ?_
        refine a_iload_n 1 dX7_hear_41 rfl rfl ?_
        refine a_callVi (As := [.int (nI c)]) (rest := []) (d := 6) (mc := 0) (ms := 0) (x := ruF n dd kK ka ks (nI c)) (ci := 7) l_X7_190 im_X7_hears se_X7_hears ⟨_, rfl, rfl⟩ dX7_hear_42 ⟨Nat.le_of_ble_eq_true rfl, Nat.le_of_ble_eq_true rfl⟩ rfl (Nat.le_of_ble_eq_true rfl) ⟨Nat.le_of_ble_eq_true rfl, Nat.le_of_ble_eq_true rfl⟩ hm (c_X7_hears hR hc hRK hg hgn hM1 hB) (fun H3 hp3 => ?_)
        obtain ⟨hM2, hfr2⟩ := hp3
        have hT := hT.kept (H1 := H3) (fun q c1 c2 => hfr2 q (by omega))
        have hU := hU.kept (H1 := H3) (hfr2 _ (by omega))
        have hS := hS.kept (H1 := H3) (hfr2 _ (by omega))
        have hK9 := hK9.kept (H1 := H3) (hfr2 _ (by omega))
        have hJ9 := hJ9.kept (H1 := H3) (fun q c1 c2 => hfr2 q (by omega))
        have hF : ∀ q : Nat, ¬ (a ≤ q ∧ q < a + 15) → H3[q]? = H[q]? := fun q hq => (hfr2 q (by omega)).trans (hF q hq)
        refine a_ret dX7_hear_45 ⟨⟨ri ?_, ?_⟩, rfl, rfl⟩
        · rfl
        · exact ⟨⟨_, _, _, _, _, hM2, hT, hU, hS, hK9, hJ9⟩, hF⟩
      · skip
        exact absurd hh c30
    · skip
      omega
  · skip
    exact absurd c4 (by rw [wIx_nI hc (by decide)]; decide)
set_option maxHeartbeats 4000000 in
set_option maxRecDepth 100000 in
theorem c_X7_hear_out {G : GT} {B : Nat} {l : Launch} {H : Heap} {a : Nat} {tx : Nat → Nat} {L : Nat} {fp : Int32} {kb : Bool} {ka ks kw : Int32} {n nv : Nat} {kK kV dd : DD} {sd nx ct : Nat} {pu : Nat → DD} {sn : Nat} {sw sg : Nat → Nat} {bn : Nat} {bw : Nat → Nat} {bt : DD} {ik : Nat → Bool} {iD : Nat → DD} {iS : Nat → Nat} {s : Int32} (hsn : wIx 1000 s = false) (hX : Mx G H a tx L fp kb ka ks kw n nv kK kV dd sd nx ct pu sn sw sg bn bw bt ik iD iS) (hB : B ≤ a) : AM G B l yX7_hear cX7_hear 2 (some .int) 7 0 0 [.ref a, .int s] H (fun rv H' => rv = some (.int (-1000000002)) ∧ (H' = H)) := by
  have hX0 := hX
  obtain ⟨ra, rf, rw, rx, ir, hM, hT, hU, hS, hK9, hJ9⟩ := hX
  have hM0 := hM
  obtain ⟨hm, ⟨fB, hBx, eB0, eB1, eB2⟩, ⟨fK, hKx, eK⟩, ⟨fV, hVx, eV⟩, ⟨fN, hNx, eS, eU, eO, e24, e25, e26⟩, hn, hnv⟩ := hM
  unfold mxL at hm
  refine AM.ofI (lv := [(0, .ref a), (1, .int s)]) (by decide +kernel) (Nat.le_of_ble_eq_true rfl) rfl ?_ (fun _ h => by cases h.1)
  refine a_iload_n 1 dX7_hear_0 rfl rfl ?_
  refine a_callSp (As := [.int s]) (rest := []) (d := 1) (mc := 0) (ms := 0) (x := bI (wIx 1000 s)) l_X7_183 st_X7_isSound dX7_hear_1 ⟨Nat.le_of_ble_eq_true rfl, Nat.le_of_ble_eq_true rfl⟩ rfl (Nat.le_of_ble_eq_true rfl) ⟨Nat.le_of_ble_eq_true rfl, Nat.le_of_ble_eq_true rfl⟩ (c_X7_isSound) ?_
  refine a_ifneB 10 dX7_hear_4 (by decide) (fun c4 => ?_) (fun c4 => ?_)
  · skip
    exact absurd c4 (by rw [hsn]; decide)
  · skip
    refine a_ldc (-1000000002) k_X7_62 dX7_hear_7 ?_
    refine a_ret dX7_hear_9 ⟨⟨ri ?_, ?_⟩, rfl, rfl⟩
    · rfl
    · rfl
set_option maxHeartbeats 4000000 in
set_option maxRecDepth 100000 in
theorem c_X7_hear_not {G : GT} {B : Nat} {l : Launch} {H : Heap} {a : Nat} {tx : Nat → Nat} {L : Nat} {fp : Int32} {kb : Bool} {ka ks kw : Int32} {n nv : Nat} {kK kV dd : DD} {sd nx ct : Nat} {pu : Nat → DD} {sn : Nat} {sw sg : Nat → Nat} {bn : Nat} {bw : Nat → Nat} {bt : DD} {ik : Nat → Bool} {iD : Nat → DD} {iS : Nat → Nat} {s : Int32} (hsn : wIx 1000 s = true) (hn0 : n = 0) (hX : Mx G H a tx L fp kb ka ks kw n nv kK kV dd sd nx ct pu sn sw sg bn bw bt ik iD iS) (hB : B ≤ a) : AM G B l yX7_hear cX7_hear 2 (some .int) 7 0 0 [.ref a, .int s] H (fun rv H' => rv = some (.int (-1000000003)) ∧ (H' = H)) := by
  have hX0 := hX
  obtain ⟨ra, rf, rw, rx, ir, hM, hT, hU, hS, hK9, hJ9⟩ := hX
  have hM0 := hM
  obtain ⟨hm, ⟨fB, hBx, eB0, eB1, eB2⟩, ⟨fK, hKx, eK⟩, ⟨fV, hVx, eV⟩, ⟨fN, hNx, eS, eU, eO, e24, e25, e26⟩, hn, hnv⟩ := hM
  unfold mxL at hm
  refine AM.ofI (lv := [(0, .ref a), (1, .int s)]) (by decide +kernel) (Nat.le_of_ble_eq_true rfl) rfl ?_ (fun _ h => by cases h.1)
  refine a_iload_n 1 dX7_hear_0 rfl rfl ?_
  refine a_callSp (As := [.int s]) (rest := []) (d := 1) (mc := 0) (ms := 0) (x := bI (wIx 1000 s)) l_X7_183 st_X7_isSound dX7_hear_1 ⟨Nat.le_of_ble_eq_true rfl, Nat.le_of_ble_eq_true rfl⟩ rfl (Nat.le_of_ble_eq_true rfl) ⟨Nat.le_of_ble_eq_true rfl, Nat.le_of_ble_eq_true rfl⟩ (c_X7_isSound) ?_
  refine a_ifneB 10 dX7_hear_4 (by decide) (fun c4 => ?_) (fun c4 => ?_)
  · skip
    refine a_aload_n 0 dX7_hear_10 rfl rfl ?_
    refine a_get f_X7_120 dX7_hear_11 hm rfl ?_
    refine a_ifneN (a := n) 20 dX7_hear_14 (by decide) (by omega) (fun c14 => ?_) (fun c14 => ?_)
    · skip
      omega
    · skip
      refine a_ldc (-1000000003) k_X7_186 dX7_hear_17 ?_
      refine a_ret dX7_hear_19 ⟨⟨ri ?_, ?_⟩, rfl, rfl⟩
      · rfl
      · rfl
  · skip
    exact absurd c4 (by rw [hsn]; decide)
set_option maxHeartbeats 4000000 in
set_option maxRecDepth 100000 in
theorem c_X7_hear_full {G : GT} {B : Nat} {l : Launch} {H : Heap} {a : Nat} {tx : Nat → Nat} {L : Nat} {fp : Int32} {kb : Bool} {ka ks kw : Int32} {n nv : Nat} {kK kV dd : DD} {sd nx ct : Nat} {pu : Nat → DD} {sn : Nat} {sw sg : Nat → Nat} {bn : Nat} {bw : Nat → Nat} {bt : DD} {ik : Nat → Bool} {iD : Nat → DD} {iS : Nat → Nat} {s : Int32} (hsn : wIx 1000 s = true) (hn0 : 0 < n) (hh : ¬ dd 24 ≤ 9000) (hX : Mx G H a tx L fp kb ka ks kw n nv kK kV dd sd nx ct pu sn sw sg bn bw bt ik iD iS) (hB : B ≤ a) : AM G B l yX7_hear cX7_hear 2 (some .int) 7 0 0 [.ref a, .int s] H (fun rv H' => rv = some (.int (-1000000004)) ∧ (H' = H)) := by
  have hX0 := hX
  obtain ⟨ra, rf, rw, rx, ir, hM, hT, hU, hS, hK9, hJ9⟩ := hX
  have hM0 := hM
  obtain ⟨hm, ⟨fB, hBx, eB0, eB1, eB2⟩, ⟨fK, hKx, eK⟩, ⟨fV, hVx, eV⟩, ⟨fN, hNx, eS, eU, eO, e24, e25, e26⟩, hn, hnv⟩ := hM
  unfold mxL at hm
  refine AM.ofI (lv := [(0, .ref a), (1, .int s)]) (by decide +kernel) (Nat.le_of_ble_eq_true rfl) rfl ?_ (fun _ h => by cases h.1)
  refine a_iload_n 1 dX7_hear_0 rfl rfl ?_
  refine a_callSp (As := [.int s]) (rest := []) (d := 1) (mc := 0) (ms := 0) (x := bI (wIx 1000 s)) l_X7_183 st_X7_isSound dX7_hear_1 ⟨Nat.le_of_ble_eq_true rfl, Nat.le_of_ble_eq_true rfl⟩ rfl (Nat.le_of_ble_eq_true rfl) ⟨Nat.le_of_ble_eq_true rfl, Nat.le_of_ble_eq_true rfl⟩ (c_X7_isSound) ?_
  refine a_ifneB 10 dX7_hear_4 (by decide) (fun c4 => ?_) (fun c4 => ?_)
  · skip
    refine a_aload_n 0 dX7_hear_10 rfl rfl ?_
    refine a_get f_X7_120 dX7_hear_11 hm rfl ?_
    refine a_ifneN (a := n) 20 dX7_hear_14 (by decide) (by omega) (fun c14 => ?_) (fun c14 => ?_)
    · skip
      refine a_aload_n 0 dX7_hear_20 rfl rfl ?_
      refine a_get f_X7_35 dX7_hear_21 hm rfl ?_
      refine a_bipush 24 dX7_hear_24 (by decide) ?_
      refine a_ialdN (j := 24) dX7_hear_26 hNx (by omega) (by decide) ?_
      refine a_toeq (dd 24) (e24) ?_
      refine a_sipush 9000 dX7_hear_27 (by decide) ?_
      refine a_icmple 36 dX7_hear_30 (by decide) (fun c30 => ?_) (fun c30 => ?_)
      · skip
        exact absurd c30 hh
      · skip
        refine a_ldc (-1000000004) k_X7_66 dX7_hear_33 ?_
        refine a_ret dX7_hear_35 ⟨⟨ri ?_, ?_⟩, rfl, rfl⟩
        · rfl
        · rfl
    · skip
      omega
  · skip
    exact absurd c4 (by rw [hsn]; decide)
set_option maxHeartbeats 4000000 in
set_option maxRecDepth 100000 in
theorem c_X7_takeBack {G : GT} {B : Nat} {l : Launch} {H : Heap} {a : Nat} {tx : Nat → Nat} {L : Nat} {fp : Int32} {kb : Bool} {ka ks kw : Int32} {n nv : Nat} {kK kV dd : DD} {sd nx ct : Nat} {pu : Nat → DD} {sn : Nat} {sw sg : Nat → Nat} {bn : Nat} {bw : Nat → Nat} {bt : DD} {ik : Nat → Bool} {iD : Nat → DD} {iS : Nat → Nat} {w g : Nat} (hw : w < n) (hk : dd 26 = nI g) (hgn : g < n) (hgw : g ≠ w) (hR : RG n dd) (hX : Mx G H a tx L fp kb ka ks kw n nv kK kV dd sd nx ct pu sn sw sg bn bw bt ik iD iS) (hB : B ≤ a) : AM G B l yX7_takeBack cX7_takeBack 2 (some .int) 2 0 0 [.ref a, .int (nI w)] H (fun rv H' => rv = some (.int (crF dd g w (8 + w))) ∧ (Mx G H' a tx L fp kb ka ks kw n nv kK kV (crF dd g w) sd ((nx + 1) % 20) (min (ct + 1) 20) (fun i => if i = nx then dd else pu i) sn sw sg bn bw bt ik iD iS ∧ ∀ q : Nat, ¬ (a ≤ q ∧ q < a + 15) → H'[q]? = H[q]?)) := by
  have hX0 := hX
  obtain ⟨ra, rf, rw, rx, ir, hM, hT, hU, hS, hK9, hJ9⟩ := hX
  have hM0 := hM
  obtain ⟨hm, ⟨fB, hBx, eB0, eB1, eB2⟩, ⟨fK, hKx, eK⟩, ⟨fV, hVx, eV⟩, ⟨fN, hNx, eS, eU, eO, e24, e25, e26⟩, hn, hnv⟩ := hM
  unfold mxL at hm
  have hF : ∀ q : Nat, ¬ (a ≤ q ∧ q < a + 15) → H[q]? = H[q]? := fun _ _ => rfl
  refine AM.ofI (lv := [(0, .ref a), (1, .int (nI w))]) (by decide +kernel) (Nat.le_of_ble_eq_true rfl) rfl ?_ (fun _ h => by cases h.1)
  refine a_aload_n 0 dX7_takeBack_0 rfl rfl ?_
  refine a_iload_n 1 dX7_takeBack_1 rfl rfl ?_
  refine a_callVp (As := [.int (nI w)]) (rest := []) (d := 1) (mc := 0) (ms := 0) (x := bI (wIx n (nI w))) (ci := 7) l_X7_139 im_X7_isWord se_X7_isWord ⟨_, rfl, rfl⟩ dX7_takeBack_2 ⟨Nat.le_of_ble_eq_true rfl, Nat.le_of_ble_eq_true rfl⟩ rfl (Nat.le_of_ble_eq_true rfl) ⟨Nat.le_of_ble_eq_true rfl, Nat.le_of_ble_eq_true rfl⟩ hm (c_X7_isWord hM0) ?_
  refine a_ifneB 11 dX7_takeBack_5 (by decide) (fun c5 => ?_) (fun c5 => ?_)
  · skip
    refine a_aload_n 0 dX7_takeBack_11 rfl rfl ?_
    refine a_get f_X7_35 dX7_takeBack_12 hm rfl ?_
    refine a_bipush 26 dX7_takeBack_15 (by decide) ?_
    refine a_ialdN (j := 26) dX7_takeBack_17 hNx (by omega) (by decide) ?_
    refine a_toeq (dd 26) (e26) ?_
    refine a_iconst (-1) dX7_takeBack_18 (by decide) ?_
    refine a_icmpeq 33 dX7_takeBack_19 (by decide) (fun c19 => ?_) (fun c19 => ?_)
    · skip
      exact absurd (hk.symm.trans c19) (nI_nm1 _ (by omega))
    · skip
      refine a_aload_n 0 dX7_takeBack_22 rfl rfl ?_
      refine a_get f_X7_35 dX7_takeBack_23 hm rfl ?_
      refine a_bipush 26 dX7_takeBack_26 (by decide) ?_
      refine a_ialdN (j := 26) dX7_takeBack_28 hNx (by omega) (by decide) ?_
      refine a_toeq (dd 26) (e26) ?_
      refine a_iload_n 1 dX7_takeBack_29 rfl rfl ?_
      refine a_icmpne 36 dX7_takeBack_30 (by decide) (fun c30 => ?_) (fun c30 => ?_)
      · skip
        refine a_aload_n 0 dX7_takeBack_36 rfl rfl ?_
        refine a_callVv (As := []) (rest := []) (d := 0) (mc := 0) (ms := 0) (ci := 7) l_X7_187 im_X7_remember se_X7_remember ⟨_, rfl, rfl⟩ dX7_takeBack_37 ⟨Nat.le_of_ble_eq_true rfl, Nat.le_of_ble_eq_true rfl⟩ rfl (Nat.le_of_ble_eq_true rfl) ⟨Nat.le_of_ble_eq_true rfl, Nat.le_of_ble_eq_true rfl⟩ hm (c_X7_remember hU hM0 hB) (fun H2 hp2 => ?_)
        obtain ⟨hM1, hU, hfr1⟩ := hp2
        have hT := hT.kept (H1 := H2) (fun q c1 c2 => hfr1 q (by omega))
        have hS := hS.kept (H1 := H2) (hfr1 _ (by omega))
        have hK9 := hK9.kept (H1 := H2) (hfr1 _ (by omega))
        have hJ9 := hJ9.kept (H1 := H2) (fun q c1 c2 => hfr1 q (by omega))
        have hm := hM1.1
        unfold mxL at hm
        have hF : ∀ q : Nat, ¬ (a ≤ q ∧ q < a + 15) → H2[q]? = H[q]? := fun q hq => (hfr1 q (by omega)).trans (hF q hq)
        refine a_aload_n 0 dX7_takeBack_40 rfl rfl ?_
        refine a_iload_n 1 dX7_takeBack_41 rfl rfl ?_
        refine a_callVv (As := [.int (nI w)]) (rest := []) (d := 1) (mc := 0) (ms := 0) (ci := 7) l_X7_193 im_X7_takesBack se_X7_takesBack ⟨_, rfl, rfl⟩ dX7_takeBack_42 ⟨Nat.le_of_ble_eq_true rfl, Nat.le_of_ble_eq_true rfl⟩ rfl (Nat.le_of_ble_eq_true rfl) ⟨Nat.le_of_ble_eq_true rfl, Nat.le_of_ble_eq_true rfl⟩ hm (c_X7_takesBack hw hk hgn hgw hR hM1 hB) (fun H3 hp3 => ?_)
        obtain ⟨hM2, hfr2⟩ := hp3
        have hT := hT.kept (H1 := H3) (fun q c1 c2 => hfr2 q (by omega))
        have hU := hU.kept (H1 := H3) (hfr2 _ (by omega))
        have hS := hS.kept (H1 := H3) (hfr2 _ (by omega))
        have hK9 := hK9.kept (H1 := H3) (hfr2 _ (by omega))
        have hJ9 := hJ9.kept (H1 := H3) (fun q c1 c2 => hfr2 q (by omega))
        obtain ⟨hm, -, -, -, ⟨fN2, hNx, -, eU2, -⟩, -⟩ := id hM2
        unfold mxL at hm
        have hF : ∀ q : Nat, ¬ (a ≤ q ∧ q < a + 15) → H3[q]? = H[q]? := fun q hq => (hfr2 q (by omega)).trans (hF q hq)
        refine a_aload_n 0 dX7_takeBack_45 rfl rfl ?_
        refine a_get f_X7_35 dX7_takeBack_46 hm rfl ?_
        refine a_bipush 8 dX7_takeBack_49 (by decide) ?_
        refine a_iload_n 1 dX7_takeBack_51 rfl rfl ?_
        refine a_iaddN (a := 8) (b := w) dX7_takeBack_52 ?_
        refine a_ialdN (j := 8 + w) dX7_takeBack_53 hNx (by omega) (by decide) ?_
        refine a_toeq (crF dd g w (8 + w)) (eU2 _ hw) ?_
        refine a_ret dX7_takeBack_54 ⟨⟨ri ?_, ?_⟩, rfl, rfl⟩
        · rfl
        · exact ⟨⟨_, _, _, _, _, hM2, hT, hU, hS, hK9, hJ9⟩, hF⟩
      · skip
        exact absurd ((nI_eq (by omega) (by omega)).mp (hk.symm.trans c30)) hgw
  · skip
    exact absurd c5 (by rw [wIx_nI hw (by omega)]; decide)
set_option maxHeartbeats 4000000 in
set_option maxRecDepth 100000 in
theorem c_X7_takeBack_unk {G : GT} {B : Nat} {l : Launch} {H : Heap} {a : Nat} {tx : Nat → Nat} {L : Nat} {fp : Int32} {kb : Bool} {ka ks kw : Int32} {n nv : Nat} {kK kV dd : DD} {sd nx ct : Nat} {pu : Nat → DD} {sn : Nat} {sw sg : Nat → Nat} {bn : Nat} {bw : Nat → Nat} {bt : DD} {ik : Nat → Bool} {iD : Nat → DD} {iS : Nat → Nat} {w : Int32} (hw : wIx n w = false) (hX : Mx G H a tx L fp kb ka ks kw n nv kK kV dd sd nx ct pu sn sw sg bn bw bt ik iD iS) (hB : B ≤ a) : AM G B l yX7_takeBack cX7_takeBack 2 (some .int) 2 0 0 [.ref a, .int w] H (fun rv H' => rv = some (.int (-1000000001)) ∧ (H' = H)) := by
  have hX0 := hX
  obtain ⟨ra, rf, rw, rx, ir, hM, hT, hU, hS, hK9, hJ9⟩ := hX
  have hM0 := hM
  obtain ⟨hm, ⟨fB, hBx, eB0, eB1, eB2⟩, ⟨fK, hKx, eK⟩, ⟨fV, hVx, eV⟩, ⟨fN, hNx, eS, eU, eO, e24, e25, e26⟩, hn, hnv⟩ := hM
  unfold mxL at hm
  refine AM.ofI (lv := [(0, .ref a), (1, .int w)]) (by decide +kernel) (Nat.le_of_ble_eq_true rfl) rfl ?_ (fun _ h => by cases h.1)
  refine a_aload_n 0 dX7_takeBack_0 rfl rfl ?_
  refine a_iload_n 1 dX7_takeBack_1 rfl rfl ?_
  refine a_callVp (As := [.int w]) (rest := []) (d := 1) (mc := 0) (ms := 0) (x := bI (wIx n w)) (ci := 7) l_X7_139 im_X7_isWord se_X7_isWord ⟨_, rfl, rfl⟩ dX7_takeBack_2 ⟨Nat.le_of_ble_eq_true rfl, Nat.le_of_ble_eq_true rfl⟩ rfl (Nat.le_of_ble_eq_true rfl) ⟨Nat.le_of_ble_eq_true rfl, Nat.le_of_ble_eq_true rfl⟩ hm (c_X7_isWord hM0) ?_
  refine a_ifneB 11 dX7_takeBack_5 (by decide) (fun c5 => ?_) (fun c5 => ?_)
  · skip
    exact absurd c5 (by rw [hw]; decide)
  · skip
    refine a_ldc (-1000000001) k_X7_142 dX7_takeBack_8 ?_
    refine a_ret dX7_takeBack_10 ⟨⟨ri ?_, ?_⟩, rfl, rfl⟩
    · rfl
    · rfl
set_option maxHeartbeats 4000000 in
set_option maxRecDepth 100000 in
theorem c_X7_takeBack_not {G : GT} {B : Nat} {l : Launch} {H : Heap} {a : Nat} {tx : Nat → Nat} {L : Nat} {fp : Int32} {kb : Bool} {ka ks kw : Int32} {n nv : Nat} {kK kV dd : DD} {sd nx ct : Nat} {pu : Nat → DD} {sn : Nat} {sw sg : Nat → Nat} {bn : Nat} {bw : Nat → Nat} {bt : DD} {ik : Nat → Bool} {iD : Nat → DD} {iS : Nat → Nat} {w : Nat} (hw : w < n) (hk : dd 26 = -1 ∨ dd 26 = nI w) (hX : Mx G H a tx L fp kb ka ks kw n nv kK kV dd sd nx ct pu sn sw sg bn bw bt ik iD iS) (hB : B ≤ a) : AM G B l yX7_takeBack cX7_takeBack 2 (some .int) 2 0 0 [.ref a, .int (nI w)] H (fun rv H' => rv = some (.int (-1000000003)) ∧ (H' = H)) := by
  have hX0 := hX
  obtain ⟨ra, rf, rw, rx, ir, hM, hT, hU, hS, hK9, hJ9⟩ := hX
  have hM0 := hM
  obtain ⟨hm, ⟨fB, hBx, eB0, eB1, eB2⟩, ⟨fK, hKx, eK⟩, ⟨fV, hVx, eV⟩, ⟨fN, hNx, eS, eU, eO, e24, e25, e26⟩, hn, hnv⟩ := hM
  unfold mxL at hm
  refine AM.ofI (lv := [(0, .ref a), (1, .int (nI w))]) (by decide +kernel) (Nat.le_of_ble_eq_true rfl) rfl ?_ (fun _ h => by cases h.1)
  refine a_aload_n 0 dX7_takeBack_0 rfl rfl ?_
  refine a_iload_n 1 dX7_takeBack_1 rfl rfl ?_
  refine a_callVp (As := [.int (nI w)]) (rest := []) (d := 1) (mc := 0) (ms := 0) (x := bI (wIx n (nI w))) (ci := 7) l_X7_139 im_X7_isWord se_X7_isWord ⟨_, rfl, rfl⟩ dX7_takeBack_2 ⟨Nat.le_of_ble_eq_true rfl, Nat.le_of_ble_eq_true rfl⟩ rfl (Nat.le_of_ble_eq_true rfl) ⟨Nat.le_of_ble_eq_true rfl, Nat.le_of_ble_eq_true rfl⟩ hm (c_X7_isWord hM0) ?_
  refine a_ifneB 11 dX7_takeBack_5 (by decide) (fun c5 => ?_) (fun c5 => ?_)
  · skip
    refine a_aload_n 0 dX7_takeBack_11 rfl rfl ?_
    refine a_get f_X7_35 dX7_takeBack_12 hm rfl ?_
    refine a_bipush 26 dX7_takeBack_15 (by decide) ?_
    refine a_ialdN (j := 26) dX7_takeBack_17 hNx (by omega) (by decide) ?_
    refine a_toeq (dd 26) (e26) ?_
    refine a_iconst (-1) dX7_takeBack_18 (by decide) ?_
    refine a_icmpeq 33 dX7_takeBack_19 (by decide) (fun c19 => ?_) (fun c19 => ?_)
    · skip
      refine a_ldc (-1000000003) k_X7_186 dX7_takeBack_33 ?_
      refine a_ret dX7_takeBack_35 ⟨⟨ri ?_, ?_⟩, rfl, rfl⟩
      · rfl
      · rfl
    · skip
      refine a_aload_n 0 dX7_takeBack_22 rfl rfl ?_
      refine a_get f_X7_35 dX7_takeBack_23 hm rfl ?_
      refine a_bipush 26 dX7_takeBack_26 (by decide) ?_
      refine a_ialdN (j := 26) dX7_takeBack_28 hNx (by omega) (by decide) ?_
      refine a_toeq (dd 26) (e26) ?_
      refine a_iload_n 1 dX7_takeBack_29 rfl rfl ?_
      refine a_icmpne 36 dX7_takeBack_30 (by decide) (fun c30 => ?_) (fun c30 => ?_)
      · skip
        rcases hk with h | h
        · exact absurd h c19
        · exact absurd h c30
      · skip
        refine a_ldc (-1000000003) k_X7_186 dX7_takeBack_33 ?_
        refine a_ret dX7_takeBack_35 ⟨⟨ri ?_, ?_⟩, rfl, rfl⟩
        · rfl
        · rfl
  · skip
    exact absurd c5 (by rw [wIx_nI hw (by omega)]; decide)
set_option maxHeartbeats 4000000 in
set_option maxRecDepth 100000 in
theorem c_X7_letBe {G : GT} {B : Nat} {l : Launch} {H : Heap} {a : Nat} {tx : Nat → Nat} {L : Nat} {fp : Int32} {kb : Bool} {ka ks kw : Int32} {n nv : Nat} {kK kV dd : DD} {sd nx ct : Nat} {pu : Nat → DD} {sn : Nat} {sw sg : Nat → Nat} {bn : Nat} {bw : Nat → Nat} {bt : DD} {ik : Nat → Bool} {iD : Nat → DD} {iS : Nat → Nat} {g : Nat} (hk : dd 26 = nI g) (hgn : g < n) (hX : Mx G H a tx L fp kb ka ks kw n nv kK kV dd sd nx ct pu sn sw sg bn bw bt ik iD iS) (hB : B ≤ a) : AM G B l yX7_letBe cX7_letBe 1 (some .int) 2 0 0 [.ref a] H (fun rv H' => rv = some (.int (cfF dd g (8 + g))) ∧ (Mx G H' a tx L fp kb ka ks kw n nv kK kV (cfF dd g) sd ((nx + 1) % 20) (min (ct + 1) 20) (fun i => if i = nx then dd else pu i) sn sw sg bn bw bt ik iD iS ∧ ∀ q : Nat, ¬ (a ≤ q ∧ q < a + 15) → H'[q]? = H[q]?)) := by
  have hX0 := hX
  obtain ⟨ra, rf, rw, rx, ir, hM, hT, hU, hS, hK9, hJ9⟩ := hX
  have hM0 := hM
  obtain ⟨hm, ⟨fB, hBx, eB0, eB1, eB2⟩, ⟨fK, hKx, eK⟩, ⟨fV, hVx, eV⟩, ⟨fN, hNx, eS, eU, eO, e24, e25, e26⟩, hn, hnv⟩ := hM
  unfold mxL at hm
  have hF : ∀ q : Nat, ¬ (a ≤ q ∧ q < a + 15) → H[q]? = H[q]? := fun _ _ => rfl
  refine AM.ofI (lv := [(0, .ref a)]) (by decide +kernel) (Nat.le_of_ble_eq_true rfl) rfl ?_ (fun _ h => by cases h.1)
  refine a_aload_n 0 dX7_letBe_0 rfl rfl ?_
  refine a_get f_X7_35 dX7_letBe_1 hm rfl ?_
  refine a_bipush 26 dX7_letBe_4 (by decide) ?_
  refine a_ialdN (j := 26) dX7_letBe_6 hNx (by omega) (by decide) ?_
  refine a_toeq (dd 26) (e26) ?_
  refine a_iconst (-1) dX7_letBe_7 (by decide) ?_
  refine a_icmpne 14 dX7_letBe_8 (by decide) (fun c8 => ?_) (fun c8 => ?_)
  · skip
    refine a_aload_n 0 dX7_letBe_14 rfl rfl ?_
    refine a_callVv (As := []) (rest := []) (d := 0) (mc := 0) (ms := 0) (ci := 7) l_X7_187 im_X7_remember se_X7_remember ⟨_, rfl, rfl⟩ dX7_letBe_15 ⟨Nat.le_of_ble_eq_true rfl, Nat.le_of_ble_eq_true rfl⟩ rfl (Nat.le_of_ble_eq_true rfl) ⟨Nat.le_of_ble_eq_true rfl, Nat.le_of_ble_eq_true rfl⟩ hm (c_X7_remember hU hM0 hB) (fun H1 hp1 => ?_)
    obtain ⟨hM1, hU, hfr1⟩ := hp1
    have hT := hT.kept (H1 := H1) (fun q c1 c2 => hfr1 q (by omega))
    have hS := hS.kept (H1 := H1) (hfr1 _ (by omega))
    have hK9 := hK9.kept (H1 := H1) (hfr1 _ (by omega))
    have hJ9 := hJ9.kept (H1 := H1) (fun q c1 c2 => hfr1 q (by omega))
    have hm := hM1.1
    unfold mxL at hm
    have hF : ∀ q : Nat, ¬ (a ≤ q ∧ q < a + 15) → H1[q]? = H[q]? := fun q hq => (hfr1 q (by omega)).trans (hF q hq)
    refine a_aload_n 0 dX7_letBe_18 rfl rfl ?_
    refine a_callVi (As := []) (rest := []) (d := 1) (mc := 0) (ms := 0) (x := cfF dd g (8 + g)) (ci := 7) l_X7_197 im_X7_letsBe se_X7_letsBe ⟨_, rfl, rfl⟩ dX7_letBe_19 ⟨Nat.le_of_ble_eq_true rfl, Nat.le_of_ble_eq_true rfl⟩ rfl (Nat.le_of_ble_eq_true rfl) ⟨Nat.le_of_ble_eq_true rfl, Nat.le_of_ble_eq_true rfl⟩ hm (c_X7_letsBe hk hgn hM1 hB) (fun H2 hp2 => ?_)
    obtain ⟨hM2, hfr2⟩ := hp2
    have hT := hT.kept (H1 := H2) (fun q c1 c2 => hfr2 q (by omega))
    have hU := hU.kept (H1 := H2) (hfr2 _ (by omega))
    have hS := hS.kept (H1 := H2) (hfr2 _ (by omega))
    have hK9 := hK9.kept (H1 := H2) (hfr2 _ (by omega))
    have hJ9 := hJ9.kept (H1 := H2) (fun q c1 c2 => hfr2 q (by omega))
    have hF : ∀ q : Nat, ¬ (a ≤ q ∧ q < a + 15) → H2[q]? = H[q]? := fun q hq => (hfr2 q (by omega)).trans (hF q hq)
    refine a_ret dX7_letBe_22 ⟨⟨ri ?_, ?_⟩, rfl, rfl⟩
    · rfl
    · exact ⟨⟨_, _, _, _, _, hM2, hT, hU, hS, hK9, hJ9⟩, hF⟩
  · skip
    exact absurd (hk.symm.trans c8) (nI_nm1 _ (by omega))
set_option maxHeartbeats 4000000 in
set_option maxRecDepth 100000 in
theorem c_X7_letBe_not {G : GT} {B : Nat} {l : Launch} {H : Heap} {a : Nat} {tx : Nat → Nat} {L : Nat} {fp : Int32} {kb : Bool} {ka ks kw : Int32} {n nv : Nat} {kK kV dd : DD} {sd nx ct : Nat} {pu : Nat → DD} {sn : Nat} {sw sg : Nat → Nat} {bn : Nat} {bw : Nat → Nat} {bt : DD} {ik : Nat → Bool} {iD : Nat → DD} {iS : Nat → Nat} (hk : dd 26 = -1) (hX : Mx G H a tx L fp kb ka ks kw n nv kK kV dd sd nx ct pu sn sw sg bn bw bt ik iD iS) (hB : B ≤ a) : AM G B l yX7_letBe cX7_letBe 1 (some .int) 2 0 0 [.ref a] H (fun rv H' => rv = some (.int (-1000000003)) ∧ (H' = H)) := by
  have hX0 := hX
  obtain ⟨ra, rf, rw, rx, ir, hM, hT, hU, hS, hK9, hJ9⟩ := hX
  have hM0 := hM
  obtain ⟨hm, ⟨fB, hBx, eB0, eB1, eB2⟩, ⟨fK, hKx, eK⟩, ⟨fV, hVx, eV⟩, ⟨fN, hNx, eS, eU, eO, e24, e25, e26⟩, hn, hnv⟩ := hM
  unfold mxL at hm
  refine AM.ofI (lv := [(0, .ref a)]) (by decide +kernel) (Nat.le_of_ble_eq_true rfl) rfl ?_ (fun _ h => by cases h.1)
  refine a_aload_n 0 dX7_letBe_0 rfl rfl ?_
  refine a_get f_X7_35 dX7_letBe_1 hm rfl ?_
  refine a_bipush 26 dX7_letBe_4 (by decide) ?_
  refine a_ialdN (j := 26) dX7_letBe_6 hNx (by omega) (by decide) ?_
  refine a_toeq (dd 26) (e26) ?_
  refine a_iconst (-1) dX7_letBe_7 (by decide) ?_
  refine a_icmpne 14 dX7_letBe_8 (by decide) (fun c8 => ?_) (fun c8 => ?_)
  · skip
    exact absurd hk c8
  · skip
    refine a_ldc (-1000000003) k_X7_186 dX7_letBe_11 ?_
    refine a_ret dX7_letBe_13 ⟨⟨ri ?_, ?_⟩, rfl, rfl⟩
    · rfl
    · rfl
set_option maxHeartbeats 4000000 in
set_option maxRecDepth 100000 in
theorem c_X7_call {G : GT} {B : Nat} {l : Launch} {H : Heap} {a : Nat} {tx : Nat → Nat} {L : Nat} {fp : Int32} {kb : Bool} {ka ks kw : Int32} {n nv : Nat} {kK kV dd : DD} {sd nx ct : Nat} {pu : Nat → DD} {sn : Nat} {sw sg : Nat → Nat} {bn : Nat} {bw : Nat → Nat} {bt : DD} {ik : Nat → Bool} {iD : Nat → DD} {iS : Nat → Nat} {w : Nat} (hw : w < n) {s : Int32} (hsn : wIx 1000 s = true) (hX : Mx G H a tx L fp kb ka ks kw n nv kK kV dd sd nx ct pu sn sw sg bn bw bt ik iD iS) (hB : B ≤ a) : AM G B l yX7_call cX7_call 4 (some .int) 2 0 0 [.ref a, .int (nI w), .int s] H (fun rv H' => rv = some (.int (apF (dd w) s)) ∧ (Mx G H' a tx L fp kb ka ks kw n nv kK kV (upd dd w s) sd ((nx + 1) % 20) (min (ct + 1) 20) (fun i => if i = nx then dd else pu i) sn sw sg bn bw bt ik iD iS ∧ ∀ q : Nat, ¬ (a ≤ q ∧ q < a + 15) → H'[q]? = H[q]?)) := by
  have hX0 := hX
  obtain ⟨ra, rf, rw, rx, ir, hM, hT, hU, hS, hK9, hJ9⟩ := hX
  have hM0 := hM
  obtain ⟨hm, ⟨fB, hBx, eB0, eB1, eB2⟩, ⟨fK, hKx, eK⟩, ⟨fV, hVx, eV⟩, ⟨fN, hNx, eS, eU, eO, e24, e25, e26⟩, hn, hnv⟩ := hM
  unfold mxL at hm
  have hF : ∀ q : Nat, ¬ (a ≤ q ∧ q < a + 15) → H[q]? = H[q]? := fun _ _ => rfl
  refine AM.ofI (lv := [(0, .ref a), (1, .int (nI w)), (2, .int s)]) (by decide +kernel) (Nat.le_of_ble_eq_true rfl) rfl ?_ (fun _ h => by cases h.1)
  refine a_aload_n 0 dX7_call_0 rfl rfl ?_
  refine a_iload_n 1 dX7_call_1 rfl rfl ?_
  refine a_callVp (As := [.int (nI w)]) (rest := []) (d := 1) (mc := 0) (ms := 0) (x := bI (wIx n (nI w))) (ci := 7) l_X7_139 im_X7_isWord se_X7_isWord ⟨_, rfl, rfl⟩ dX7_call_2 ⟨Nat.le_of_ble_eq_true rfl, Nat.le_of_ble_eq_true rfl⟩ rfl (Nat.le_of_ble_eq_true rfl) ⟨Nat.le_of_ble_eq_true rfl, Nat.le_of_ble_eq_true rfl⟩ hm (c_X7_isWord hM0) ?_
  refine a_ifneB 11 dX7_call_5 (by decide) (fun c5 => ?_) (fun c5 => ?_)
  · skip
    refine a_iload_n 2 dX7_call_11 rfl rfl ?_
    refine a_callSp (As := [.int s]) (rest := []) (d := 1) (mc := 0) (ms := 0) (x := bI (wIx 1000 s)) l_X7_183 st_X7_isSound dX7_call_12 ⟨Nat.le_of_ble_eq_true rfl, Nat.le_of_ble_eq_true rfl⟩ rfl (Nat.le_of_ble_eq_true rfl) ⟨Nat.le_of_ble_eq_true rfl, Nat.le_of_ble_eq_true rfl⟩ (c_X7_isSound) ?_
    refine a_ifneB 21 dX7_call_15 (by decide) (fun c15 => ?_) (fun c15 => ?_)
    · skip
      refine a_aload_n 0 dX7_call_21 rfl rfl ?_
      refine a_callVv (As := []) (rest := []) (d := 0) (mc := 0) (ms := 0) (ci := 7) l_X7_187 im_X7_remember se_X7_remember ⟨_, rfl, rfl⟩ dX7_call_22 ⟨Nat.le_of_ble_eq_true rfl, Nat.le_of_ble_eq_true rfl⟩ rfl (Nat.le_of_ble_eq_true rfl) ⟨Nat.le_of_ble_eq_true rfl, Nat.le_of_ble_eq_true rfl⟩ hm (c_X7_remember hU hM0 hB) (fun H3 hp3 => ?_)
      obtain ⟨hM1, hU, hfr1⟩ := hp3
      have hT := hT.kept (H1 := H3) (fun q c1 c2 => hfr1 q (by omega))
      have hS := hS.kept (H1 := H3) (hfr1 _ (by omega))
      have hK9 := hK9.kept (H1 := H3) (hfr1 _ (by omega))
      have hJ9 := hJ9.kept (H1 := H3) (fun q c1 c2 => hfr1 q (by omega))
      obtain ⟨hm, ⟨fB, hBx, eB0, eB1, eB2⟩, ⟨fK, hKx, eK⟩, ⟨fV, hVx, eV⟩, ⟨fN, hNx, eS, eU, eO, e24, e25, e26⟩, -, -⟩ := id hM1
      unfold mxL at hm
      have hF : ∀ q : Nat, ¬ (a ≤ q ∧ q < a + 15) → H3[q]? = H[q]? := fun q hq => (hfr1 q (by omega)).trans (hF q hq)
      refine a_aload_n 0 dX7_call_25 rfl rfl ?_
      refine a_get f_X7_35 dX7_call_26 hm rfl ?_
      refine a_iload_n 1 dX7_call_29 rfl rfl ?_
      refine a_ialdN (j := w) dX7_call_30 hNx (by omega) (by decide) ?_
      refine a_toeq (dd w) (eS _ (by omega)) ?_
      refine a_iload_n 2 dX7_call_31 rfl rfl ?_
      refine a_callSp (As := [.int (dd w), .int s]) (rest := []) (d := 1) (mc := 0) (ms := 0) (x := apF (dd w) s) l_X7_153 st_X7_apart dX7_call_32 ⟨Nat.le_of_ble_eq_true rfl, Nat.le_of_ble_eq_true rfl⟩ rfl (Nat.le_of_ble_eq_true rfl) ⟨Nat.le_of_ble_eq_true rfl, Nat.le_of_ble_eq_true rfl⟩ (c_X7_apart) ?_
      refine a_istore_n (lv' := [(3, .int (apF (dd w) s)), (0, .ref a), (1, .int (nI w)), (2, .int s)]) dX7_call_35 rfl (by decide) rfl ?_
      have hG : ∀ q : Nat, q ≠ a + 8 → H3[q]? = H3[q]? := fun _ _ => rfl
      refine a_aload_n 1 dX7_call_36 rfl rfl ?_
      refine a_get f_X7_35 dX7_call_37 hm rfl ?_
      refine a_iload_n 2 dX7_call_40 rfl rfl ?_
      refine a_iload_n 3 dX7_call_41 rfl rfl ?_
      refine a_iastN (j := w) dX7_call_42 hNx (by omega) (by decide) (by omega) (fun H5 hNx hz5 hq5 => ?_)
      have hNx : Ai G H5 (a + 8) 27 (upd fN w s) := hNx
      have hm := hm.kept (hq5 _ (by omega))
      have hBx := hBx.kept (hq5 _ (by omega))
      have hKx := hKx.kept (hq5 _ (by omega))
      have hVx := hVx.kept (hq5 _ (by omega))
      have hF : ∀ q : Nat, ¬ (a ≤ q ∧ q < a + 15) → H5[q]? = H[q]? := fun q hq => (hq5 q (by omega)).trans (hF q hq)
      have hG : ∀ q : Nat, q ≠ a + 8 → H5[q]? = H3[q]? := fun q hq => (hq5 q (by omega)).trans (hG q hq)
      refine a_iload_n 0 dX7_call_43 rfl rfl ?_
      refine a_ret dX7_call_44 ⟨⟨ri ?_, ?_⟩, rfl, rfl⟩
      · rfl
      · have hT := hT.kept (H1 := _) (fun q c1 c2 => hG q (by omega))
        have hU := hU.kept (H1 := _) (hG _ (by omega))
        have hS := hS.kept (H1 := _) (hG _ (by omega))
        have hK9 := hK9.kept (H1 := _) (hG _ (by omega))
        have hJ9 := hJ9.kept (H1 := _) (fun q c1 c2 => hG q (by omega))
        exact ⟨⟨_, _, _, _, _, ⟨by unfold mxL; exact hm, ⟨fB, hBx, eB0, eB1, eB2⟩, ⟨fK, hKx, eK⟩, ⟨fV, hVx, eV⟩, ⟨_, hNx, NA.u1 (j := w) ⟨eS, eU, eO, e24, e25, e26⟩ (fun _ _ => rfl)⟩, hn, hnv⟩, hT, hU, hS, hK9, hJ9⟩, hF⟩
    · skip
      exact absurd c15 (by rw [hsn]; decide)
  · skip
    exact absurd c5 (by rw [wIx_nI hw (by omega)]; decide)
set_option maxHeartbeats 4000000 in
set_option maxRecDepth 100000 in
theorem c_X7_call_unk {G : GT} {B : Nat} {l : Launch} {H : Heap} {a : Nat} {tx : Nat → Nat} {L : Nat} {fp : Int32} {kb : Bool} {ka ks kw : Int32} {n nv : Nat} {kK kV dd : DD} {sd nx ct : Nat} {pu : Nat → DD} {sn : Nat} {sw sg : Nat → Nat} {bn : Nat} {bw : Nat → Nat} {bt : DD} {ik : Nat → Bool} {iD : Nat → DD} {iS : Nat → Nat} {w : Int32} (hw : wIx n w = false) {s : Int32} (hX : Mx G H a tx L fp kb ka ks kw n nv kK kV dd sd nx ct pu sn sw sg bn bw bt ik iD iS) (hB : B ≤ a) : AM G B l yX7_call cX7_call 4 (some .int) 2 0 0 [.ref a, .int w, .int s] H (fun rv H' => rv = some (.int (-1000000001)) ∧ (H' = H)) := by
  have hX0 := hX
  obtain ⟨ra, rf, rw, rx, ir, hM, hT, hU, hS, hK9, hJ9⟩ := hX
  have hM0 := hM
  obtain ⟨hm, ⟨fB, hBx, eB0, eB1, eB2⟩, ⟨fK, hKx, eK⟩, ⟨fV, hVx, eV⟩, ⟨fN, hNx, eS, eU, eO, e24, e25, e26⟩, hn, hnv⟩ := hM
  unfold mxL at hm
  refine AM.ofI (lv := [(0, .ref a), (1, .int w), (2, .int s)]) (by decide +kernel) (Nat.le_of_ble_eq_true rfl) rfl ?_ (fun _ h => by cases h.1)
  refine a_aload_n 0 dX7_call_0 rfl rfl ?_
  refine a_iload_n 1 dX7_call_1 rfl rfl ?_
  refine a_callVp (As := [.int w]) (rest := []) (d := 1) (mc := 0) (ms := 0) (x := bI (wIx n w)) (ci := 7) l_X7_139 im_X7_isWord se_X7_isWord ⟨_, rfl, rfl⟩ dX7_call_2 ⟨Nat.le_of_ble_eq_true rfl, Nat.le_of_ble_eq_true rfl⟩ rfl (Nat.le_of_ble_eq_true rfl) ⟨Nat.le_of_ble_eq_true rfl, Nat.le_of_ble_eq_true rfl⟩ hm (c_X7_isWord hM0) ?_
  refine a_ifneB 11 dX7_call_5 (by decide) (fun c5 => ?_) (fun c5 => ?_)
  · skip
    exact absurd c5 (by rw [hw]; decide)
  · skip
    refine a_ldc (-1000000001) k_X7_142 dX7_call_8 ?_
    refine a_ret dX7_call_10 ⟨⟨ri ?_, ?_⟩, rfl, rfl⟩
    · rfl
    · rfl
set_option maxHeartbeats 4000000 in
set_option maxRecDepth 100000 in
theorem c_X7_call_out {G : GT} {B : Nat} {l : Launch} {H : Heap} {a : Nat} {tx : Nat → Nat} {L : Nat} {fp : Int32} {kb : Bool} {ka ks kw : Int32} {n nv : Nat} {kK kV dd : DD} {sd nx ct : Nat} {pu : Nat → DD} {sn : Nat} {sw sg : Nat → Nat} {bn : Nat} {bw : Nat → Nat} {bt : DD} {ik : Nat → Bool} {iD : Nat → DD} {iS : Nat → Nat} {w : Nat} (hw : w < n) {s : Int32} (hsn : wIx 1000 s = false) (hX : Mx G H a tx L fp kb ka ks kw n nv kK kV dd sd nx ct pu sn sw sg bn bw bt ik iD iS) (hB : B ≤ a) : AM G B l yX7_call cX7_call 4 (some .int) 2 0 0 [.ref a, .int (nI w), .int s] H (fun rv H' => rv = some (.int (-1000000002)) ∧ (H' = H)) := by
  have hX0 := hX
  obtain ⟨ra, rf, rw, rx, ir, hM, hT, hU, hS, hK9, hJ9⟩ := hX
  have hM0 := hM
  obtain ⟨hm, ⟨fB, hBx, eB0, eB1, eB2⟩, ⟨fK, hKx, eK⟩, ⟨fV, hVx, eV⟩, ⟨fN, hNx, eS, eU, eO, e24, e25, e26⟩, hn, hnv⟩ := hM
  unfold mxL at hm
  refine AM.ofI (lv := [(0, .ref a), (1, .int (nI w)), (2, .int s)]) (by decide +kernel) (Nat.le_of_ble_eq_true rfl) rfl ?_ (fun _ h => by cases h.1)
  refine a_aload_n 0 dX7_call_0 rfl rfl ?_
  refine a_iload_n 1 dX7_call_1 rfl rfl ?_
  refine a_callVp (As := [.int (nI w)]) (rest := []) (d := 1) (mc := 0) (ms := 0) (x := bI (wIx n (nI w))) (ci := 7) l_X7_139 im_X7_isWord se_X7_isWord ⟨_, rfl, rfl⟩ dX7_call_2 ⟨Nat.le_of_ble_eq_true rfl, Nat.le_of_ble_eq_true rfl⟩ rfl (Nat.le_of_ble_eq_true rfl) ⟨Nat.le_of_ble_eq_true rfl, Nat.le_of_ble_eq_true rfl⟩ hm (c_X7_isWord hM0) ?_
  refine a_ifneB 11 dX7_call_5 (by decide) (fun c5 => ?_) (fun c5 => ?_)
  · skip
    refine a_iload_n 2 dX7_call_11 rfl rfl ?_
    refine a_callSp (As := [.int s]) (rest := []) (d := 1) (mc := 0) (ms := 0) (x := bI (wIx 1000 s)) l_X7_183 st_X7_isSound dX7_call_12 ⟨Nat.le_of_ble_eq_true rfl, Nat.le_of_ble_eq_true rfl⟩ rfl (Nat.le_of_ble_eq_true rfl) ⟨Nat.le_of_ble_eq_true rfl, Nat.le_of_ble_eq_true rfl⟩ (c_X7_isSound) ?_
    refine a_ifneB 21 dX7_call_15 (by decide) (fun c15 => ?_) (fun c15 => ?_)
    · skip
      exact absurd c15 (by rw [hsn]; decide)
    · skip
      refine a_ldc (-1000000002) k_X7_62 dX7_call_18 ?_
      refine a_ret dX7_call_20 ⟨⟨ri ?_, ?_⟩, rfl, rfl⟩
      · rfl
      · rfl
  · skip
    exact absurd c5 (by rw [wIx_nI hw (by omega)]; decide)
set_option maxHeartbeats 4000000 in
set_option maxRecDepth 100000 in
theorem c_X7_see {G : GT} {B : Nat} {l : Launch} {H : Heap} {a : Nat} {tx : Nat → Nat} {L : Nat} {fp : Int32} {kb : Bool} {ka ks kw : Int32} {n nv : Nat} {kK kV dd : DD} {sd nx ct : Nat} {pu : Nat → DD} {sn : Nat} {sw sg : Nat → Nat} {bn : Nat} {bw : Nat → Nat} {bt : DD} {ik : Nat → Bool} {iD : Nat → DD} {iS : Nat → Nat} {w g : Nat} (hw : w < n) (hg : g < n) (hlt : sn < 6) (hX : Mx G H a tx L fp kb ka ks kw n nv kK kV dd sd nx ct pu sn sw sg bn bw bt ik iD iS) (hB : B ≤ a) : AM G B l yX7_see cX7_see 3 (some .int) 2 0 0 [.ref a, .int (nI w), .int (nI g)] H (fun rv H' => rv = some (.int (nI (sn + 1))) ∧ (Mx G H' a tx L fp kb ka ks kw n nv kK kV dd sd nx ct pu (sn + 1) (fun i => if i = sn then w else sw i) (fun i => if i = sn then g else sg i) bn bw bt ik iD iS ∧ ∀ q : Nat, ¬ (a ≤ q ∧ q < a + 15) → H'[q]? = H[q]?)) := by
  have hX0 := hX
  obtain ⟨ra, rf, rw, rx, ir, hM, hT, hU, hS, hK9, hJ9⟩ := hX
  have hM0 := hM
  obtain ⟨hm, ⟨fB, hBx, eB0, eB1, eB2⟩, ⟨fK, hKx, eK⟩, ⟨fV, hVx, eV⟩, ⟨fN, hNx, eS, eU, eO, e24, e25, e26⟩, hn, hnv⟩ := hM
  unfold mxL at hm
  obtain ⟨fP, hp, eA, eC, hct9, hcap9⟩ := id hS
  have hF : ∀ q : Nat, ¬ (a ≤ q ∧ q < a + 15) → H[q]? = H[q]? := fun _ _ => rfl
  have hG : ∀ q : Nat, q ≠ a ∧ q ≠ a + 10 → H[q]? = H[q]? := fun _ _ => rfl
  refine AM.ofI (lv := [(0, .ref a), (1, .int (nI w)), (2, .int (nI g))]) (by decide +kernel) (Nat.le_of_ble_eq_true rfl) rfl ?_ (fun _ h => by cases h.1)
  refine a_aload_n 0 dX7_see_0 rfl rfl ?_
  refine a_iload_n 1 dX7_see_1 rfl rfl ?_
  refine a_callVp (As := [.int (nI w)]) (rest := []) (d := 1) (mc := 0) (ms := 0) (x := bI (wIx n (nI w))) (ci := 7) l_X7_139 im_X7_isWord se_X7_isWord ⟨_, rfl, rfl⟩ dX7_see_2 ⟨Nat.le_of_ble_eq_true rfl, Nat.le_of_ble_eq_true rfl⟩ rfl (Nat.le_of_ble_eq_true rfl) ⟨Nat.le_of_ble_eq_true rfl, Nat.le_of_ble_eq_true rfl⟩ hm (c_X7_isWord hM0) ?_
  refine a_ifeqB 16 dX7_see_5 (by decide) (fun c5 => ?_) (fun c5 => ?_)
  · skip
    exact absurd c5 (by rw [wIx_nI hw (by omega)]; decide)
  · skip
    refine a_aload_n 0 dX7_see_8 rfl rfl ?_
    refine a_iload_n 2 dX7_see_9 rfl rfl ?_
    refine a_callVp (As := [.int (nI g)]) (rest := []) (d := 1) (mc := 0) (ms := 0) (x := bI (wIx n (nI g))) (ci := 7) l_X7_139 im_X7_isWord se_X7_isWord ⟨_, rfl, rfl⟩ dX7_see_10 ⟨Nat.le_of_ble_eq_true rfl, Nat.le_of_ble_eq_true rfl⟩ rfl (Nat.le_of_ble_eq_true rfl) ⟨Nat.le_of_ble_eq_true rfl, Nat.le_of_ble_eq_true rfl⟩ hm (c_X7_isWord hM0) ?_
    refine a_ifneB 19 dX7_see_13 (by decide) (fun c13 => ?_) (fun c13 => ?_)
    · skip
      refine a_aload_n 0 dX7_see_19 rfl rfl ?_
      refine a_get f_X7_126 dX7_see_20 hm rfl ?_
      refine a_bipush 6 dX7_see_23 (by decide) ?_
      refine a_icmpneN (a := sn) (b := 6) 31 dX7_see_25 (by decide) (by omega) (by omega) (fun c25 => ?_) (fun c25 => ?_)
      · skip
        refine a_aload_n 0 dX7_see_31 rfl rfl ?_
        refine a_get f_X7_41 dX7_see_32 hm rfl ?_
        refine a_iconst 2 dX7_see_35 (by decide) ?_
        refine a_aload_n 0 dX7_see_36 rfl rfl ?_
        refine a_get f_X7_126 dX7_see_37 hm rfl ?_
        refine a_imulN (a := 2) (b := sn) dX7_see_40 ?_
        refine a_iload_n 1 dX7_see_41 rfl rfl ?_
        refine a_iastN (j := 2 * sn) dX7_see_42 hp (by omega) (by decide) (by omega) (fun H3 hp hz3 hq3 => ?_)
        have hp : Ai G H3 (a + 10) 12 (upd fP (2 * sn) (nI w)) := hp
        have hm := hm.kept (hq3 _ (by omega))
        have hBx := hBx.kept (hq3 _ (by omega))
        have hKx := hKx.kept (hq3 _ (by omega))
        have hVx := hVx.kept (hq3 _ (by omega))
        have hNx := hNx.kept (hq3 _ (by omega))
        have hF : ∀ q : Nat, ¬ (a ≤ q ∧ q < a + 15) → H3[q]? = H[q]? := fun q hq => (hq3 q (by omega)).trans (hF q hq)
        have hG : ∀ q : Nat, q ≠ a ∧ q ≠ a + 10 → H3[q]? = H[q]? := fun q hq => (hq3 q (by omega)).trans (hG q hq)
        refine a_aload_n 0 dX7_see_43 rfl rfl ?_
        refine a_get f_X7_41 dX7_see_44 hm rfl ?_
        refine a_iconst 2 dX7_see_47 (by decide) ?_
        refine a_aload_n 0 dX7_see_48 rfl rfl ?_
        refine a_get f_X7_126 dX7_see_49 hm rfl ?_
        refine a_imulN (a := 2) (b := sn) dX7_see_52 ?_
        refine a_iconst 1 dX7_see_53 (by decide) ?_
        refine a_iaddN (a := 2 * sn) (b := 1) dX7_see_54 ?_
        refine a_iload_n 2 dX7_see_55 rfl rfl ?_
        refine a_iastN (j := (2 * sn) + 1) dX7_see_56 hp (by omega) (by decide) (by omega) (fun H4 hp hz4 hq4 => ?_)
        have hp : Ai G H4 (a + 10) 12 (upd (upd fP (2 * sn) (nI w)) ((2 * sn) + 1) (nI g)) := hp
        have hm := hm.kept (hq4 _ (by omega))
        have hBx := hBx.kept (hq4 _ (by omega))
        have hKx := hKx.kept (hq4 _ (by omega))
        have hVx := hVx.kept (hq4 _ (by omega))
        have hNx := hNx.kept (hq4 _ (by omega))
        have hF : ∀ q : Nat, ¬ (a ≤ q ∧ q < a + 15) → H4[q]? = H[q]? := fun q hq => (hq4 q (by omega)).trans (hF q hq)
        have hG : ∀ q : Nat, q ≠ a ∧ q ≠ a + 10 → H4[q]? = H[q]? := fun q hq => (hq4 q (by omega)).trans (hG q hq)
        refine a_aload_n 0 dX7_see_57 rfl rfl ?_
        refine a_dup dX7_see_58 rfl ?_
        refine a_get f_X7_126 dX7_see_59 hm rfl ?_
        refine a_iconst 1 dX7_see_62 (by decide) ?_
        refine a_iaddN (a := sn) (b := 1) dX7_see_63 ?_
        refine a_put f_X7_126 p_X7_126 dX7_see_64 hm (Nat.le_of_ble_eq_true rfl) rfl rfl (by omega) (fun H5 hm hz5 hq5 => ?_)
        have hm : Ob G H5 a 7 [.int (nI L), .ref (a + 1), .int fp, .int ra, .int rf, .int rw, .int rx, .ref (a + 2), .ref (a + 3), .ref (a + 4), .int (bI ir), .int (bI kb), .int (nI n), .int (nI nv), .ref (a + 5), .ref (a + 6), .ref (a + 7), .ref (a + 8), .int (nI ct), .int (nI nx), .ref (a + 9), .long (lN sd), .int (nI (sn + 1)), .ref (a + 10), .int (nI bn), .ref (a + 11), .ref (a + 12), .ref (a + 13), .ref (a + 14)] := hm
        have hBx := hBx.kept (hq5 _ (by omega))
        have hKx := hKx.kept (hq5 _ (by omega))
        have hVx := hVx.kept (hq5 _ (by omega))
        have hNx := hNx.kept (hq5 _ (by omega))
        have hp := hp.kept (hq5 _ (by omega))
        have hF : ∀ q : Nat, ¬ (a ≤ q ∧ q < a + 15) → H5[q]? = H[q]? := fun q hq => (hq5 q (by omega)).trans (hF q hq)
        have hG : ∀ q : Nat, q ≠ a ∧ q ≠ a + 10 → H5[q]? = H[q]? := fun q hq => (hq5 q (by omega)).trans (hG q hq)
        refine a_aload_n 0 dX7_see_67 rfl rfl ?_
        refine a_get f_X7_126 dX7_see_68 hm rfl ?_
        refine a_ret dX7_see_71 ⟨⟨ri ?_, ?_⟩, rfl, rfl⟩
        · rfl
        · have hT := hT.kept (H1 := _) (fun q c1 c2 => hG q (by omega))
          have hU := hU.kept (H1 := _) (hG _ (by omega))
          have hK9 := hK9.kept (H1 := _) (hG _ (by omega))
          have hJ9 := hJ9.kept (H1 := _) (fun q c1 c2 => hG q (by omega))
          exact ⟨⟨_, _, _, _, _, ⟨by unfold mxL; exact hm, ⟨fB, hBx, eB0, eB1, eB2⟩, ⟨fK, hKx, eK⟩, ⟨fV, hVx, eV⟩, ⟨_, hNx, ⟨eS, eU, eO, e24, e25, e26⟩⟩, hn, hnv⟩, hT, hU, Mp.add hp eA eC (by omega) (by omega) (fun i => by dsimp only; split <;> rfl) (fun i => by dsimp only; split <;> rfl), hK9, hJ9⟩, hF⟩
      · skip
        omega
    · skip
      exact absurd c13 (by rw [wIx_nI hg (by omega)]; decide)
set_option maxHeartbeats 4000000 in
set_option maxRecDepth 100000 in
theorem c_X7_see_unk {G : GT} {B : Nat} {l : Launch} {H : Heap} {a : Nat} {tx : Nat → Nat} {L : Nat} {fp : Int32} {kb : Bool} {ka ks kw : Int32} {n nv : Nat} {kK kV dd : DD} {sd nx ct : Nat} {pu : Nat → DD} {sn : Nat} {sw sg : Nat → Nat} {bn : Nat} {bw : Nat → Nat} {bt : DD} {ik : Nat → Bool} {iD : Nat → DD} {iS : Nat → Nat} {w g : Int32} (hq : wIx n w = false ∨ wIx n g = false) (hX : Mx G H a tx L fp kb ka ks kw n nv kK kV dd sd nx ct pu sn sw sg bn bw bt ik iD iS) (hB : B ≤ a) : AM G B l yX7_see cX7_see 3 (some .int) 2 0 0 [.ref a, .int w, .int g] H (fun rv H' => rv = some (.int (-1000000001)) ∧ (H' = H)) := by
  have hX0 := hX
  obtain ⟨ra, rf, rw, rx, ir, hM, hT, hU, hS, hK9, hJ9⟩ := hX
  have hM0 := hM
  obtain ⟨hm, ⟨fB, hBx, eB0, eB1, eB2⟩, ⟨fK, hKx, eK⟩, ⟨fV, hVx, eV⟩, ⟨fN, hNx, eS, eU, eO, e24, e25, e26⟩, hn, hnv⟩ := hM
  unfold mxL at hm
  refine AM.ofI (lv := [(0, .ref a), (1, .int w), (2, .int g)]) (by decide +kernel) (Nat.le_of_ble_eq_true rfl) rfl ?_ (fun _ h => by cases h.1)
  refine a_aload_n 0 dX7_see_0 rfl rfl ?_
  refine a_iload_n 1 dX7_see_1 rfl rfl ?_
  refine a_callVp (As := [.int w]) (rest := []) (d := 1) (mc := 0) (ms := 0) (x := bI (wIx n w)) (ci := 7) l_X7_139 im_X7_isWord se_X7_isWord ⟨_, rfl, rfl⟩ dX7_see_2 ⟨Nat.le_of_ble_eq_true rfl, Nat.le_of_ble_eq_true rfl⟩ rfl (Nat.le_of_ble_eq_true rfl) ⟨Nat.le_of_ble_eq_true rfl, Nat.le_of_ble_eq_true rfl⟩ hm (c_X7_isWord hM0) ?_
  refine a_ifeqB 16 dX7_see_5 (by decide) (fun c5 => ?_) (fun c5 => ?_)
  · skip
    refine a_ldc (-1000000001) k_X7_142 dX7_see_16 ?_
    refine a_ret dX7_see_18 ⟨⟨ri ?_, ?_⟩, rfl, rfl⟩
    · rfl
    · rfl
  · skip
    refine a_aload_n 0 dX7_see_8 rfl rfl ?_
    refine a_iload_n 2 dX7_see_9 rfl rfl ?_
    refine a_callVp (As := [.int g]) (rest := []) (d := 1) (mc := 0) (ms := 0) (x := bI (wIx n g)) (ci := 7) l_X7_139 im_X7_isWord se_X7_isWord ⟨_, rfl, rfl⟩ dX7_see_10 ⟨Nat.le_of_ble_eq_true rfl, Nat.le_of_ble_eq_true rfl⟩ rfl (Nat.le_of_ble_eq_true rfl) ⟨Nat.le_of_ble_eq_true rfl, Nat.le_of_ble_eq_true rfl⟩ hm (c_X7_isWord hM0) ?_
    refine a_ifneB 19 dX7_see_13 (by decide) (fun c13 => ?_) (fun c13 => ?_)
    · skip
      rcases hq with h | h
      · exact absurd c5 (by rw [h]; decide)
      · exact absurd c13 (by rw [h]; decide)
    · skip
      refine a_ldc (-1000000001) k_X7_142 dX7_see_16 ?_
      refine a_ret dX7_see_18 ⟨⟨ri ?_, ?_⟩, rfl, rfl⟩
      · rfl
      · rfl
set_option maxHeartbeats 4000000 in
set_option maxRecDepth 100000 in
theorem c_X7_see_full {G : GT} {B : Nat} {l : Launch} {H : Heap} {a : Nat} {tx : Nat → Nat} {L : Nat} {fp : Int32} {kb : Bool} {ka ks kw : Int32} {n nv : Nat} {kK kV dd : DD} {sd nx ct : Nat} {pu : Nat → DD} {sn : Nat} {sw sg : Nat → Nat} {bn : Nat} {bw : Nat → Nat} {bt : DD} {ik : Nat → Bool} {iD : Nat → DD} {iS : Nat → Nat} {w g : Nat} (hw : w < n) (hg : g < n) (hlt : sn = 6) (hX : Mx G H a tx L fp kb ka ks kw n nv kK kV dd sd nx ct pu sn sw sg bn bw bt ik iD iS) (hB : B ≤ a) : AM G B l yX7_see cX7_see 3 (some .int) 2 0 0 [.ref a, .int (nI w), .int (nI g)] H (fun rv H' => rv = some (.int (-1000000004)) ∧ (H' = H)) := by
  have hX0 := hX
  obtain ⟨ra, rf, rw, rx, ir, hM, hT, hU, hS, hK9, hJ9⟩ := hX
  have hM0 := hM
  obtain ⟨hm, ⟨fB, hBx, eB0, eB1, eB2⟩, ⟨fK, hKx, eK⟩, ⟨fV, hVx, eV⟩, ⟨fN, hNx, eS, eU, eO, e24, e25, e26⟩, hn, hnv⟩ := hM
  unfold mxL at hm
  obtain ⟨fP, hp, eA, eC, hct9, hcap9⟩ := id hS
  refine AM.ofI (lv := [(0, .ref a), (1, .int (nI w)), (2, .int (nI g))]) (by decide +kernel) (Nat.le_of_ble_eq_true rfl) rfl ?_ (fun _ h => by cases h.1)
  refine a_aload_n 0 dX7_see_0 rfl rfl ?_
  refine a_iload_n 1 dX7_see_1 rfl rfl ?_
  refine a_callVp (As := [.int (nI w)]) (rest := []) (d := 1) (mc := 0) (ms := 0) (x := bI (wIx n (nI w))) (ci := 7) l_X7_139 im_X7_isWord se_X7_isWord ⟨_, rfl, rfl⟩ dX7_see_2 ⟨Nat.le_of_ble_eq_true rfl, Nat.le_of_ble_eq_true rfl⟩ rfl (Nat.le_of_ble_eq_true rfl) ⟨Nat.le_of_ble_eq_true rfl, Nat.le_of_ble_eq_true rfl⟩ hm (c_X7_isWord hM0) ?_
  refine a_ifeqB 16 dX7_see_5 (by decide) (fun c5 => ?_) (fun c5 => ?_)
  · skip
    exact absurd c5 (by rw [wIx_nI hw (by omega)]; decide)
  · skip
    refine a_aload_n 0 dX7_see_8 rfl rfl ?_
    refine a_iload_n 2 dX7_see_9 rfl rfl ?_
    refine a_callVp (As := [.int (nI g)]) (rest := []) (d := 1) (mc := 0) (ms := 0) (x := bI (wIx n (nI g))) (ci := 7) l_X7_139 im_X7_isWord se_X7_isWord ⟨_, rfl, rfl⟩ dX7_see_10 ⟨Nat.le_of_ble_eq_true rfl, Nat.le_of_ble_eq_true rfl⟩ rfl (Nat.le_of_ble_eq_true rfl) ⟨Nat.le_of_ble_eq_true rfl, Nat.le_of_ble_eq_true rfl⟩ hm (c_X7_isWord hM0) ?_
    refine a_ifneB 19 dX7_see_13 (by decide) (fun c13 => ?_) (fun c13 => ?_)
    · skip
      refine a_aload_n 0 dX7_see_19 rfl rfl ?_
      refine a_get f_X7_126 dX7_see_20 hm rfl ?_
      refine a_bipush 6 dX7_see_23 (by decide) ?_
      refine a_icmpneN (a := sn) (b := 6) 31 dX7_see_25 (by decide) (by omega) (by omega) (fun c25 => ?_) (fun c25 => ?_)
      · skip
        omega
      · skip
        refine a_ldc (-1000000004) k_X7_66 dX7_see_28 ?_
        refine a_ret dX7_see_30 ⟨⟨ri ?_, ?_⟩, rfl, rfl⟩
        · rfl
        · rfl
    · skip
      exact absurd c13 (by rw [wIx_nI hg (by omega)]; decide)
set_option maxHeartbeats 4000000 in
set_option maxRecDepth 100000 in
theorem c_X7_write {G : GT} {B : Nat} {l : Launch} {H : Heap} {a : Nat} {tx : Nat → Nat} {L : Nat} {fp : Int32} {kb : Bool} {ka ks kw : Int32} {n nv : Nat} {kK kV dd : DD} {sd nx ct : Nat} {pu : Nat → DD} {sn : Nat} {sw sg : Nat → Nat} {bn : Nat} {bw : Nat → Nat} {bt : DD} {ik : Nat → Bool} {iD : Nat → DD} {iS : Nat → Nat} {w : Nat} {t : Int32} (hw : w < n) (ht : ¬ t < 0) (ht2 : t ≤ 99) (hlt : bn < 15) (hX : Mx G H a tx L fp kb ka ks kw n nv kK kV dd sd nx ct pu sn sw sg bn bw bt ik iD iS) (hB : B ≤ a) : AM G B l yX7_write cX7_write 3 (some .int) 2 0 0 [.ref a, .int (nI w), .int t] H (fun rv H' => rv = some (.int (nI (bn + 1))) ∧ (Mx G H' a tx L fp kb ka ks kw n nv kK kV dd sd nx ct pu sn sw sg (bn + 1) (fun i => if i = bn then w else bw i) (upd bt bn t) ik iD iS ∧ ∀ q : Nat, ¬ (a ≤ q ∧ q < a + 15) → H'[q]? = H[q]?)) := by
  have hX0 := hX
  obtain ⟨ra, rf, rw, rx, ir, hM, hT, hU, hS, hK9, hJ9⟩ := hX
  have hM0 := hM
  obtain ⟨hm, ⟨fB, hBx, eB0, eB1, eB2⟩, ⟨fK, hKx, eK⟩, ⟨fV, hVx, eV⟩, ⟨fN, hNx, eS, eU, eO, e24, e25, e26⟩, hn, hnv⟩ := hM
  unfold mxL at hm
  obtain ⟨fP, hp, eA, eC, hct9, hcap9⟩ := id hK9
  have hF : ∀ q : Nat, ¬ (a ≤ q ∧ q < a + 15) → H[q]? = H[q]? := fun _ _ => rfl
  have hG : ∀ q : Nat, q ≠ a ∧ q ≠ a + 11 → H[q]? = H[q]? := fun _ _ => rfl
  refine AM.ofI (lv := [(0, .ref a), (1, .int (nI w)), (2, .int t)]) (by decide +kernel) (Nat.le_of_ble_eq_true rfl) rfl ?_ (fun _ h => by cases h.1)
  refine a_aload_n 0 dX7_write_0 rfl rfl ?_
  refine a_iload_n 1 dX7_write_1 rfl rfl ?_
  refine a_callVp (As := [.int (nI w)]) (rest := []) (d := 1) (mc := 0) (ms := 0) (x := bI (wIx n (nI w))) (ci := 7) l_X7_139 im_X7_isWord se_X7_isWord ⟨_, rfl, rfl⟩ dX7_write_2 ⟨Nat.le_of_ble_eq_true rfl, Nat.le_of_ble_eq_true rfl⟩ rfl (Nat.le_of_ble_eq_true rfl) ⟨Nat.le_of_ble_eq_true rfl, Nat.le_of_ble_eq_true rfl⟩ hm (c_X7_isWord hM0) ?_
  refine a_ifneB 11 dX7_write_5 (by decide) (fun c5 => ?_) (fun c5 => ?_)
  · skip
    refine a_iload_n 2 dX7_write_11 rfl rfl ?_
    refine a_iconst 0 dX7_write_12 (by decide) ?_
    refine a_bipush 99 dX7_write_13 (by decide) ?_
    refine a_callSp (As := [.int t, .int 0, .int 99]) (rest := []) (d := 0) (mc := 0) (ms := 0) (x := bI (inF t 0 99)) l_X7_58 st_X7_in dX7_write_15 ⟨Nat.le_of_ble_eq_true rfl, Nat.le_of_ble_eq_true rfl⟩ rfl (Nat.le_of_ble_eq_true rfl) ⟨Nat.le_of_ble_eq_true rfl, Nat.le_of_ble_eq_true rfl⟩ (c_X7_in) ?_
    refine a_ifneB 24 dX7_write_18 (by decide) (fun c18 => ?_) (fun c18 => ?_)
    · skip
      refine a_aload_n 0 dX7_write_24 rfl rfl ?_
      refine a_get f_X7_129 dX7_write_25 hm rfl ?_
      refine a_bipush 15 dX7_write_28 (by decide) ?_
      refine a_icmpneN (a := bn) (b := 15) 36 dX7_write_30 (by decide) (by omega) (by omega) (fun c30 => ?_) (fun c30 => ?_)
      · skip
        refine a_aload_n 0 dX7_write_36 rfl rfl ?_
        refine a_get f_X7_44 dX7_write_37 hm rfl ?_
        refine a_iconst 2 dX7_write_40 (by decide) ?_
        refine a_aload_n 0 dX7_write_41 rfl rfl ?_
        refine a_get f_X7_129 dX7_write_42 hm rfl ?_
        refine a_imulN (a := 2) (b := bn) dX7_write_45 ?_
        refine a_iload_n 1 dX7_write_46 rfl rfl ?_
        refine a_iastN (j := 2 * bn) dX7_write_47 hp (by omega) (by decide) (by omega) (fun H3 hp hz3 hq3 => ?_)
        have hp : Ai G H3 (a + 11) 30 (upd fP (2 * bn) (nI w)) := hp
        have hm := hm.kept (hq3 _ (by omega))
        have hBx := hBx.kept (hq3 _ (by omega))
        have hKx := hKx.kept (hq3 _ (by omega))
        have hVx := hVx.kept (hq3 _ (by omega))
        have hNx := hNx.kept (hq3 _ (by omega))
        have hF : ∀ q : Nat, ¬ (a ≤ q ∧ q < a + 15) → H3[q]? = H[q]? := fun q hq => (hq3 q (by omega)).trans (hF q hq)
        have hG : ∀ q : Nat, q ≠ a ∧ q ≠ a + 11 → H3[q]? = H[q]? := fun q hq => (hq3 q (by omega)).trans (hG q hq)
        refine a_aload_n 0 dX7_write_48 rfl rfl ?_
        refine a_get f_X7_44 dX7_write_49 hm rfl ?_
        refine a_iconst 2 dX7_write_52 (by decide) ?_
        refine a_aload_n 0 dX7_write_53 rfl rfl ?_
        refine a_get f_X7_129 dX7_write_54 hm rfl ?_
        refine a_imulN (a := 2) (b := bn) dX7_write_57 ?_
        refine a_iconst 1 dX7_write_58 (by decide) ?_
        refine a_iaddN (a := 2 * bn) (b := 1) dX7_write_59 ?_
        refine a_iload_n 2 dX7_write_60 rfl rfl ?_
        refine a_iastN (j := (2 * bn) + 1) dX7_write_61 hp (by omega) (by decide) (by omega) (fun H4 hp hz4 hq4 => ?_)
        have hp : Ai G H4 (a + 11) 30 (upd (upd fP (2 * bn) (nI w)) ((2 * bn) + 1) t) := hp
        have hm := hm.kept (hq4 _ (by omega))
        have hBx := hBx.kept (hq4 _ (by omega))
        have hKx := hKx.kept (hq4 _ (by omega))
        have hVx := hVx.kept (hq4 _ (by omega))
        have hNx := hNx.kept (hq4 _ (by omega))
        have hF : ∀ q : Nat, ¬ (a ≤ q ∧ q < a + 15) → H4[q]? = H[q]? := fun q hq => (hq4 q (by omega)).trans (hF q hq)
        have hG : ∀ q : Nat, q ≠ a ∧ q ≠ a + 11 → H4[q]? = H[q]? := fun q hq => (hq4 q (by omega)).trans (hG q hq)
        refine a_aload_n 0 dX7_write_62 rfl rfl ?_
        refine a_dup dX7_write_63 rfl ?_
        refine a_get f_X7_129 dX7_write_64 hm rfl ?_
        refine a_iconst 1 dX7_write_67 (by decide) ?_
        refine a_iaddN (a := bn) (b := 1) dX7_write_68 ?_
        refine a_put f_X7_129 p_X7_129 dX7_write_69 hm (Nat.le_of_ble_eq_true rfl) rfl rfl (by omega) (fun H5 hm hz5 hq5 => ?_)
        have hm : Ob G H5 a 7 [.int (nI L), .ref (a + 1), .int fp, .int ra, .int rf, .int rw, .int rx, .ref (a + 2), .ref (a + 3), .ref (a + 4), .int (bI ir), .int (bI kb), .int (nI n), .int (nI nv), .ref (a + 5), .ref (a + 6), .ref (a + 7), .ref (a + 8), .int (nI ct), .int (nI nx), .ref (a + 9), .long (lN sd), .int (nI sn), .ref (a + 10), .int (nI (bn + 1)), .ref (a + 11), .ref (a + 12), .ref (a + 13), .ref (a + 14)] := hm
        have hBx := hBx.kept (hq5 _ (by omega))
        have hKx := hKx.kept (hq5 _ (by omega))
        have hVx := hVx.kept (hq5 _ (by omega))
        have hNx := hNx.kept (hq5 _ (by omega))
        have hp := hp.kept (hq5 _ (by omega))
        have hF : ∀ q : Nat, ¬ (a ≤ q ∧ q < a + 15) → H5[q]? = H[q]? := fun q hq => (hq5 q (by omega)).trans (hF q hq)
        have hG : ∀ q : Nat, q ≠ a ∧ q ≠ a + 11 → H5[q]? = H[q]? := fun q hq => (hq5 q (by omega)).trans (hG q hq)
        refine a_aload_n 0 dX7_write_72 rfl rfl ?_
        refine a_get f_X7_129 dX7_write_73 hm rfl ?_
        refine a_ret dX7_write_76 ⟨⟨ri ?_, ?_⟩, rfl, rfl⟩
        · rfl
        · have hT := hT.kept (H1 := _) (fun q c1 c2 => hG q (by omega))
          have hU := hU.kept (H1 := _) (hG _ (by omega))
          have hS := hS.kept (H1 := _) (hG _ (by omega))
          have hJ9 := hJ9.kept (H1 := _) (fun q c1 c2 => hG q (by omega))
          exact ⟨⟨_, _, _, _, _, ⟨by unfold mxL; exact hm, ⟨fB, hBx, eB0, eB1, eB2⟩, ⟨fK, hKx, eK⟩, ⟨fV, hVx, eV⟩, ⟨_, hNx, ⟨eS, eU, eO, e24, e25, e26⟩⟩, hn, hnv⟩, hT, hU, hS, Mp.add hp eA eC (by omega) (by omega) (fun i => by dsimp only; split <;> rfl) (fun i => rfl), hJ9⟩, hF⟩
      · skip
        omega
    · skip
      exact absurd c18 (by rw [inF_t ht ht2]; decide)
  · skip
    exact absurd c5 (by rw [wIx_nI hw (by omega)]; decide)
set_option maxHeartbeats 4000000 in
set_option maxRecDepth 100000 in
theorem c_X7_write_unk {G : GT} {B : Nat} {l : Launch} {H : Heap} {a : Nat} {tx : Nat → Nat} {L : Nat} {fp : Int32} {kb : Bool} {ka ks kw : Int32} {n nv : Nat} {kK kV dd : DD} {sd nx ct : Nat} {pu : Nat → DD} {sn : Nat} {sw sg : Nat → Nat} {bn : Nat} {bw : Nat → Nat} {bt : DD} {ik : Nat → Bool} {iD : Nat → DD} {iS : Nat → Nat} {w : Int32} (hw : wIx n w = false) {t : Int32} (hX : Mx G H a tx L fp kb ka ks kw n nv kK kV dd sd nx ct pu sn sw sg bn bw bt ik iD iS) (hB : B ≤ a) : AM G B l yX7_write cX7_write 3 (some .int) 2 0 0 [.ref a, .int w, .int t] H (fun rv H' => rv = some (.int (-1000000001)) ∧ (H' = H)) := by
  have hX0 := hX
  obtain ⟨ra, rf, rw, rx, ir, hM, hT, hU, hS, hK9, hJ9⟩ := hX
  have hM0 := hM
  obtain ⟨hm, ⟨fB, hBx, eB0, eB1, eB2⟩, ⟨fK, hKx, eK⟩, ⟨fV, hVx, eV⟩, ⟨fN, hNx, eS, eU, eO, e24, e25, e26⟩, hn, hnv⟩ := hM
  unfold mxL at hm
  refine AM.ofI (lv := [(0, .ref a), (1, .int w), (2, .int t)]) (by decide +kernel) (Nat.le_of_ble_eq_true rfl) rfl ?_ (fun _ h => by cases h.1)
  refine a_aload_n 0 dX7_write_0 rfl rfl ?_
  refine a_iload_n 1 dX7_write_1 rfl rfl ?_
  refine a_callVp (As := [.int w]) (rest := []) (d := 1) (mc := 0) (ms := 0) (x := bI (wIx n w)) (ci := 7) l_X7_139 im_X7_isWord se_X7_isWord ⟨_, rfl, rfl⟩ dX7_write_2 ⟨Nat.le_of_ble_eq_true rfl, Nat.le_of_ble_eq_true rfl⟩ rfl (Nat.le_of_ble_eq_true rfl) ⟨Nat.le_of_ble_eq_true rfl, Nat.le_of_ble_eq_true rfl⟩ hm (c_X7_isWord hM0) ?_
  refine a_ifneB 11 dX7_write_5 (by decide) (fun c5 => ?_) (fun c5 => ?_)
  · skip
    exact absurd c5 (by rw [hw]; decide)
  · skip
    refine a_ldc (-1000000001) k_X7_142 dX7_write_8 ?_
    refine a_ret dX7_write_10 ⟨⟨ri ?_, ?_⟩, rfl, rfl⟩
    · rfl
    · rfl
set_option maxHeartbeats 4000000 in
set_option maxRecDepth 100000 in
theorem c_X7_write_out {G : GT} {B : Nat} {l : Launch} {H : Heap} {a : Nat} {tx : Nat → Nat} {L : Nat} {fp : Int32} {kb : Bool} {ka ks kw : Int32} {n nv : Nat} {kK kV dd : DD} {sd nx ct : Nat} {pu : Nat → DD} {sn : Nat} {sw sg : Nat → Nat} {bn : Nat} {bw : Nat → Nat} {bt : DD} {ik : Nat → Bool} {iD : Nat → DD} {iS : Nat → Nat} {w : Nat} (hw : w < n) {t : Int32} (hq : t < 0 ∨ ¬ t ≤ 99) (hX : Mx G H a tx L fp kb ka ks kw n nv kK kV dd sd nx ct pu sn sw sg bn bw bt ik iD iS) (hB : B ≤ a) : AM G B l yX7_write cX7_write 3 (some .int) 2 0 0 [.ref a, .int (nI w), .int t] H (fun rv H' => rv = some (.int (-1000000002)) ∧ (H' = H)) := by
  have hX0 := hX
  obtain ⟨ra, rf, rw, rx, ir, hM, hT, hU, hS, hK9, hJ9⟩ := hX
  have hM0 := hM
  obtain ⟨hm, ⟨fB, hBx, eB0, eB1, eB2⟩, ⟨fK, hKx, eK⟩, ⟨fV, hVx, eV⟩, ⟨fN, hNx, eS, eU, eO, e24, e25, e26⟩, hn, hnv⟩ := hM
  unfold mxL at hm
  refine AM.ofI (lv := [(0, .ref a), (1, .int (nI w)), (2, .int t)]) (by decide +kernel) (Nat.le_of_ble_eq_true rfl) rfl ?_ (fun _ h => by cases h.1)
  refine a_aload_n 0 dX7_write_0 rfl rfl ?_
  refine a_iload_n 1 dX7_write_1 rfl rfl ?_
  refine a_callVp (As := [.int (nI w)]) (rest := []) (d := 1) (mc := 0) (ms := 0) (x := bI (wIx n (nI w))) (ci := 7) l_X7_139 im_X7_isWord se_X7_isWord ⟨_, rfl, rfl⟩ dX7_write_2 ⟨Nat.le_of_ble_eq_true rfl, Nat.le_of_ble_eq_true rfl⟩ rfl (Nat.le_of_ble_eq_true rfl) ⟨Nat.le_of_ble_eq_true rfl, Nat.le_of_ble_eq_true rfl⟩ hm (c_X7_isWord hM0) ?_
  refine a_ifneB 11 dX7_write_5 (by decide) (fun c5 => ?_) (fun c5 => ?_)
  · skip
    refine a_iload_n 2 dX7_write_11 rfl rfl ?_
    refine a_iconst 0 dX7_write_12 (by decide) ?_
    refine a_bipush 99 dX7_write_13 (by decide) ?_
    refine a_callSp (As := [.int t, .int 0, .int 99]) (rest := []) (d := 0) (mc := 0) (ms := 0) (x := bI (inF t 0 99)) l_X7_58 st_X7_in dX7_write_15 ⟨Nat.le_of_ble_eq_true rfl, Nat.le_of_ble_eq_true rfl⟩ rfl (Nat.le_of_ble_eq_true rfl) ⟨Nat.le_of_ble_eq_true rfl, Nat.le_of_ble_eq_true rfl⟩ (c_X7_in) ?_
    refine a_ifneB 24 dX7_write_18 (by decide) (fun c18 => ?_) (fun c18 => ?_)
    · skip
      exact absurd c18 (by rw [inF_n hq]; decide)
    · skip
      refine a_ldc (-1000000002) k_X7_62 dX7_write_21 ?_
      refine a_ret dX7_write_23 ⟨⟨ri ?_, ?_⟩, rfl, rfl⟩
      · rfl
      · rfl
  · skip
    exact absurd c5 (by rw [wIx_nI hw (by omega)]; decide)
set_option maxHeartbeats 4000000 in
set_option maxRecDepth 100000 in
theorem c_X7_write_full {G : GT} {B : Nat} {l : Launch} {H : Heap} {a : Nat} {tx : Nat → Nat} {L : Nat} {fp : Int32} {kb : Bool} {ka ks kw : Int32} {n nv : Nat} {kK kV dd : DD} {sd nx ct : Nat} {pu : Nat → DD} {sn : Nat} {sw sg : Nat → Nat} {bn : Nat} {bw : Nat → Nat} {bt : DD} {ik : Nat → Bool} {iD : Nat → DD} {iS : Nat → Nat} {w : Nat} {t : Int32} (hw : w < n) (ht : ¬ t < 0) (ht2 : t ≤ 99) (hlt : bn = 15) (hX : Mx G H a tx L fp kb ka ks kw n nv kK kV dd sd nx ct pu sn sw sg bn bw bt ik iD iS) (hB : B ≤ a) : AM G B l yX7_write cX7_write 3 (some .int) 2 0 0 [.ref a, .int (nI w), .int t] H (fun rv H' => rv = some (.int (-1000000004)) ∧ (H' = H)) := by
  have hX0 := hX
  obtain ⟨ra, rf, rw, rx, ir, hM, hT, hU, hS, hK9, hJ9⟩ := hX
  have hM0 := hM
  obtain ⟨hm, ⟨fB, hBx, eB0, eB1, eB2⟩, ⟨fK, hKx, eK⟩, ⟨fV, hVx, eV⟩, ⟨fN, hNx, eS, eU, eO, e24, e25, e26⟩, hn, hnv⟩ := hM
  unfold mxL at hm
  obtain ⟨fP, hp, eA, eC, hct9, hcap9⟩ := id hK9
  refine AM.ofI (lv := [(0, .ref a), (1, .int (nI w)), (2, .int t)]) (by decide +kernel) (Nat.le_of_ble_eq_true rfl) rfl ?_ (fun _ h => by cases h.1)
  refine a_aload_n 0 dX7_write_0 rfl rfl ?_
  refine a_iload_n 1 dX7_write_1 rfl rfl ?_
  refine a_callVp (As := [.int (nI w)]) (rest := []) (d := 1) (mc := 0) (ms := 0) (x := bI (wIx n (nI w))) (ci := 7) l_X7_139 im_X7_isWord se_X7_isWord ⟨_, rfl, rfl⟩ dX7_write_2 ⟨Nat.le_of_ble_eq_true rfl, Nat.le_of_ble_eq_true rfl⟩ rfl (Nat.le_of_ble_eq_true rfl) ⟨Nat.le_of_ble_eq_true rfl, Nat.le_of_ble_eq_true rfl⟩ hm (c_X7_isWord hM0) ?_
  refine a_ifneB 11 dX7_write_5 (by decide) (fun c5 => ?_) (fun c5 => ?_)
  · skip
    refine a_iload_n 2 dX7_write_11 rfl rfl ?_
    refine a_iconst 0 dX7_write_12 (by decide) ?_
    refine a_bipush 99 dX7_write_13 (by decide) ?_
    refine a_callSp (As := [.int t, .int 0, .int 99]) (rest := []) (d := 0) (mc := 0) (ms := 0) (x := bI (inF t 0 99)) l_X7_58 st_X7_in dX7_write_15 ⟨Nat.le_of_ble_eq_true rfl, Nat.le_of_ble_eq_true rfl⟩ rfl (Nat.le_of_ble_eq_true rfl) ⟨Nat.le_of_ble_eq_true rfl, Nat.le_of_ble_eq_true rfl⟩ (c_X7_in) ?_
    refine a_ifneB 24 dX7_write_18 (by decide) (fun c18 => ?_) (fun c18 => ?_)
    · skip
      refine a_aload_n 0 dX7_write_24 rfl rfl ?_
      refine a_get f_X7_129 dX7_write_25 hm rfl ?_
      refine a_bipush 15 dX7_write_28 (by decide) ?_
      refine a_icmpneN (a := bn) (b := 15) 36 dX7_write_30 (by decide) (by omega) (by omega) (fun c30 => ?_) (fun c30 => ?_)
      · skip
        omega
      · skip
        refine a_ldc (-1000000004) k_X7_66 dX7_write_33 ?_
        refine a_ret dX7_write_35 ⟨⟨ri ?_, ?_⟩, rfl, rfl⟩
        · rfl
        · rfl
    · skip
      exact absurd c18 (by rw [inF_t ht ht2]; decide)
  · skip
    exact absurd c5 (by rw [wIx_nI hw (by omega)]; decide)
set_option maxHeartbeats 4000000 in
set_option maxRecDepth 100000 in
theorem c_X7_tear {G : GT} {B : Nat} {l : Launch} {H : Heap} {a : Nat} {tx : Nat → Nat} {L : Nat} {fp : Int32} {kb : Bool} {ka ks kw : Int32} {n nv : Nat} {kK kV dd : DD} {sd nx ct : Nat} {pu : Nat → DD} {sn : Nat} {sw sg : Nat → Nat} {bn : Nat} {bw : Nat → Nat} {bt : DD} {ik : Nat → Bool} {iD : Nat → DD} {iS : Nat → Nat} (hX : Mx G H a tx L fp kb ka ks kw n nv kK kV dd sd nx ct pu sn sw sg bn bw bt ik iD iS) (hB : B ≤ a) : AM G B l yX7_tear cX7_tear 2 (some .int) 0 0 0 [.ref a] H (fun rv H' => rv = some (.int (nI (sn + bn))) ∧ (Mx G H' a tx L fp kb ka ks kw n nv kK kV dd sd nx ct pu 0 sw sg 0 bw bt ik iD iS ∧ ∀ q : Nat, ¬ (a ≤ q ∧ q < a + 15) → H'[q]? = H[q]?)) := by
  have hX0 := hX
  obtain ⟨ra, rf, rw, rx, ir, hM, hT, hU, hS, hK9, hJ9⟩ := hX
  have hM0 := hM
  obtain ⟨hm, ⟨fB, hBx, eB0, eB1, eB2⟩, ⟨fK, hKx, eK⟩, ⟨fV, hVx, eV⟩, ⟨fN, hNx, eS, eU, eO, e24, e25, e26⟩, hn, hnv⟩ := hM
  unfold mxL at hm
  have hF : ∀ q : Nat, ¬ (a ≤ q ∧ q < a + 15) → H[q]? = H[q]? := fun _ _ => rfl
  have hG : ∀ q : Nat, q ≠ a → H[q]? = H[q]? := fun _ _ => rfl
  refine AM.ofI (lv := [(0, .ref a)]) (by decide +kernel) (Nat.le_of_ble_eq_true rfl) rfl ?_ (fun _ h => by cases h.1)
  refine a_aload_n 0 dX7_tear_0 rfl rfl ?_
  refine a_get f_X7_126 dX7_tear_1 hm rfl ?_
  refine a_aload_n 0 dX7_tear_4 rfl rfl ?_
  refine a_get f_X7_129 dX7_tear_5 hm rfl ?_
  refine a_iaddN (a := sn) (b := bn) dX7_tear_8 ?_
  refine a_istore_n (lv' := [(1, .int (nI (sn + bn))), (0, .ref a)]) dX7_tear_9 rfl (by decide) rfl ?_
  refine a_aload_n 1 dX7_tear_10 rfl rfl ?_
  refine a_iconst 0 dX7_tear_11 (by decide) ?_
  refine a_put f_X7_126 p_X7_126 dX7_tear_12 hm (Nat.le_of_ble_eq_true rfl) rfl rfl (by omega) (fun H1 hm hz1 hq1 => ?_)
  have hm : Ob G H1 a 7 [.int (nI L), .ref (a + 1), .int fp, .int ra, .int rf, .int rw, .int rx, .ref (a + 2), .ref (a + 3), .ref (a + 4), .int (bI ir), .int (bI kb), .int (nI n), .int (nI nv), .ref (a + 5), .ref (a + 6), .ref (a + 7), .ref (a + 8), .int (nI ct), .int (nI nx), .ref (a + 9), .long (lN sd), .int 0, .ref (a + 10), .int (nI bn), .ref (a + 11), .ref (a + 12), .ref (a + 13), .ref (a + 14)] := hm
  have hBx := hBx.kept (hq1 _ (by omega))
  have hKx := hKx.kept (hq1 _ (by omega))
  have hVx := hVx.kept (hq1 _ (by omega))
  have hNx := hNx.kept (hq1 _ (by omega))
  have hF : ∀ q : Nat, ¬ (a ≤ q ∧ q < a + 15) → H1[q]? = H[q]? := fun q hq => (hq1 q (by omega)).trans (hF q hq)
  have hG : ∀ q : Nat, q ≠ a → H1[q]? = H[q]? := fun q hq => (hq1 q (by omega)).trans (hG q hq)
  refine a_aload_n 1 dX7_tear_15 rfl rfl ?_
  refine a_iconst 0 dX7_tear_16 (by decide) ?_
  refine a_put f_X7_129 p_X7_129 dX7_tear_17 hm (Nat.le_of_ble_eq_true rfl) rfl rfl (by omega) (fun H2 hm hz2 hq2 => ?_)
  have hm : Ob G H2 a 7 [.int (nI L), .ref (a + 1), .int fp, .int ra, .int rf, .int rw, .int rx, .ref (a + 2), .ref (a + 3), .ref (a + 4), .int (bI ir), .int (bI kb), .int (nI n), .int (nI nv), .ref (a + 5), .ref (a + 6), .ref (a + 7), .ref (a + 8), .int (nI ct), .int (nI nx), .ref (a + 9), .long (lN sd), .int 0, .ref (a + 10), .int 0, .ref (a + 11), .ref (a + 12), .ref (a + 13), .ref (a + 14)] := hm
  have hBx := hBx.kept (hq2 _ (by omega))
  have hKx := hKx.kept (hq2 _ (by omega))
  have hVx := hVx.kept (hq2 _ (by omega))
  have hNx := hNx.kept (hq2 _ (by omega))
  have hF : ∀ q : Nat, ¬ (a ≤ q ∧ q < a + 15) → H2[q]? = H[q]? := fun q hq => (hq2 q (by omega)).trans (hF q hq)
  have hG : ∀ q : Nat, q ≠ a → H2[q]? = H[q]? := fun q hq => (hq2 q (by omega)).trans (hG q hq)
  refine a_iload_n 0 dX7_tear_20 rfl rfl ?_
  refine a_ret dX7_tear_21 ⟨⟨ri ?_, ?_⟩, rfl, rfl⟩
  · rfl
  · have hT := hT.kept (H1 := _) (fun q c1 c2 => hG q (by omega))
    have hU := hU.kept (H1 := _) (hG _ (by omega))
    have hS := hS.kept (H1 := _) (hG _ (by omega))
    have hK9 := hK9.kept (H1 := _) (hG _ (by omega))
    have hJ9 := hJ9.kept (H1 := _) (fun q c1 c2 => hG q (by omega))
    exact ⟨⟨_, _, _, _, _, ⟨by unfold mxL; exact hm, ⟨fB, hBx, eB0, eB1, eB2⟩, ⟨fK, hKx, eK⟩, ⟨fV, hVx, eV⟩, ⟨_, hNx, ⟨eS, eU, eO, e24, e25, e26⟩⟩, hn, hnv⟩, hT, hU, hS.none, hK9.none, hJ9⟩, hF⟩
set_option maxHeartbeats 4000000 in
set_option maxRecDepth 100000 in
theorem c_X7_seed {G : GT} {B : Nat} {l : Launch} {H : Heap} {a : Nat} {tx : Nat → Nat} {L : Nat} {fp : Int32} {kb : Bool} {ka ks kw : Int32} {n nv : Nat} {kK kV dd : DD} {sd nx ct : Nat} {pu : Nat → DD} {sn : Nat} {sw sg : Nat → Nat} {bn : Nat} {bw : Nat → Nat} {bt : DD} {ik : Nat → Bool} {iD : Nat → DD} {iS : Nat → Nat} {v : Nat} (hv : v < 2 ^ 31) (hsd : sd < 2 ^ 31) (hX : Mx G H a tx L fp kb ka ks kw n nv kK kV dd sd nx ct pu sn sw sg bn bw bt ik iD iS) (hB : B ≤ a) : AM G B l yX7_seed cX7_seed 3 (some .int) 0 0 0 [.ref a, .int (nI v)] H (fun rv H' => rv = some (.int (nI sd)) ∧ (Mx G H' a tx L fp kb ka ks kw n nv kK kV dd v nx ct pu sn sw sg bn bw bt ik iD iS ∧ ∀ q : Nat, ¬ (a ≤ q ∧ q < a + 15) → H'[q]? = H[q]?)) := by
  have hX0 := hX
  obtain ⟨ra, rf, rw, rx, ir, hM, hT, hU, hS, hK9, hJ9⟩ := hX
  have hM0 := hM
  obtain ⟨hm, ⟨fB, hBx, eB0, eB1, eB2⟩, ⟨fK, hKx, eK⟩, ⟨fV, hVx, eV⟩, ⟨fN, hNx, eS, eU, eO, e24, e25, e26⟩, hn, hnv⟩ := hM
  unfold mxL at hm
  have hF : ∀ q : Nat, ¬ (a ≤ q ∧ q < a + 15) → H[q]? = H[q]? := fun _ _ => rfl
  have hG : ∀ q : Nat, q ≠ a → H[q]? = H[q]? := fun _ _ => rfl
  refine AM.ofI (lv := [(0, .ref a), (1, .int (nI v))]) (by decide +kernel) (Nat.le_of_ble_eq_true rfl) rfl ?_ (fun _ h => by cases h.1)
  refine a_iload_n 1 dX7_seed_0 rfl rfl ?_
  refine a_ifgeN (a := v) 7 dX7_seed_1 (by decide) (by omega) (fun c1 => ?_) (fun c1 => ?_)
  · skip
    refine a_aload_n 0 dX7_seed_7 rfl rfl ?_
    refine a_get f_X7_200 dX7_seed_8 hm rfl ?_
    refine a_l2i dX7_seed_11 ?_
    rw [lN_i]
    refine a_istore_n (lv' := [(2, .int (nI sd)), (0, .ref a), (1, .int (nI v))]) dX7_seed_12 rfl (by decide) rfl ?_
    refine a_aload_n 1 dX7_seed_13 rfl rfl ?_
    refine a_iload_n 2 dX7_seed_14 rfl rfl ?_
    refine a_i2l dX7_seed_15 ?_
    rw [nI_l hv]
    refine a_put f_X7_200 p_X7_200 dX7_seed_16 hm (Nat.le_of_ble_eq_true rfl) rfl rfl (by omega) (fun H1 hm hz1 hq1 => ?_)
    have hm : Ob G H1 a 7 [.int (nI L), .ref (a + 1), .int fp, .int ra, .int rf, .int rw, .int rx, .ref (a + 2), .ref (a + 3), .ref (a + 4), .int (bI ir), .int (bI kb), .int (nI n), .int (nI nv), .ref (a + 5), .ref (a + 6), .ref (a + 7), .ref (a + 8), .int (nI ct), .int (nI nx), .ref (a + 9), .long (lN v), .int (nI sn), .ref (a + 10), .int (nI bn), .ref (a + 11), .ref (a + 12), .ref (a + 13), .ref (a + 14)] := hm
    have hBx := hBx.kept (hq1 _ (by omega))
    have hKx := hKx.kept (hq1 _ (by omega))
    have hVx := hVx.kept (hq1 _ (by omega))
    have hNx := hNx.kept (hq1 _ (by omega))
    have hF : ∀ q : Nat, ¬ (a ≤ q ∧ q < a + 15) → H1[q]? = H[q]? := fun q hq => (hq1 q (by omega)).trans (hF q hq)
    have hG : ∀ q : Nat, q ≠ a → H1[q]? = H[q]? := fun q hq => (hq1 q (by omega)).trans (hG q hq)
    refine a_iload_n 0 dX7_seed_19 rfl rfl ?_
    refine a_ret dX7_seed_20 ⟨⟨ri ?_, ?_⟩, rfl, rfl⟩
    · rfl
    · have hT := hT.kept (H1 := _) (fun q c1 c2 => hG q (by omega))
      have hU := hU.kept (H1 := _) (hG _ (by omega))
      have hS := hS.kept (H1 := _) (hG _ (by omega))
      have hK9 := hK9.kept (H1 := _) (hG _ (by omega))
      have hJ9 := hJ9.kept (H1 := _) (fun q c1 c2 => hG q (by omega))
      exact ⟨⟨_, _, _, _, _, ⟨by unfold mxL; exact hm, ⟨fB, hBx, eB0, eB1, eB2⟩, ⟨fK, hKx, eK⟩, ⟨fV, hVx, eV⟩, ⟨_, hNx, ⟨eS, eU, eO, e24, e25, e26⟩⟩, hn, hnv⟩, hT, hU, hS, hK9, hJ9⟩, hF⟩
  · skip
    exact c1.elim
set_option maxHeartbeats 4000000 in
set_option maxRecDepth 100000 in
theorem c_X7_seed_out {G : GT} {B : Nat} {l : Launch} {H : Heap} {a : Nat} {tx : Nat → Nat} {L : Nat} {fp : Int32} {kb : Bool} {ka ks kw : Int32} {n nv : Nat} {kK kV dd : DD} {sd nx ct : Nat} {pu : Nat → DD} {sn : Nat} {sw sg : Nat → Nat} {bn : Nat} {bw : Nat → Nat} {bt : DD} {ik : Nat → Bool} {iD : Nat → DD} {iS : Nat → Nat} {v : Int32} (hv : v < 0) (hX : Mx G H a tx L fp kb ka ks kw n nv kK kV dd sd nx ct pu sn sw sg bn bw bt ik iD iS) (hB : B ≤ a) : AM G B l yX7_seed cX7_seed 3 (some .int) 0 0 0 [.ref a, .int v] H (fun rv H' => rv = some (.int (-1000000002)) ∧ (H' = H)) := by
  have hX0 := hX
  obtain ⟨ra, rf, rw, rx, ir, hM, hT, hU, hS, hK9, hJ9⟩ := hX
  have hM0 := hM
  obtain ⟨hm, ⟨fB, hBx, eB0, eB1, eB2⟩, ⟨fK, hKx, eK⟩, ⟨fV, hVx, eV⟩, ⟨fN, hNx, eS, eU, eO, e24, e25, e26⟩, hn, hnv⟩ := hM
  unfold mxL at hm
  refine AM.ofI (lv := [(0, .ref a), (1, .int v)]) (by decide +kernel) (Nat.le_of_ble_eq_true rfl) rfl ?_ (fun _ h => by cases h.1)
  refine a_iload_n 1 dX7_seed_0 rfl rfl ?_
  refine a_ifge 7 dX7_seed_1 (by decide) (fun c1 => ?_) (fun c1 => ?_)
  · skip
    exact absurd hv (Int32.not_lt.mpr c1)
  · skip
    refine a_ldc (-1000000002) k_X7_62 dX7_seed_4 ?_
    refine a_ret dX7_seed_6 ⟨⟨ri ?_, ?_⟩, rfl, rfl⟩
    · rfl
    · rfl
set_option maxHeartbeats 4000000 in
set_option maxRecDepth 100000 in
theorem c_X7_feed {G : GT} {B : Nat} {l : Launch} {H : Heap} {a : Nat} {tx : Nat → Nat} {L : Nat} {fp : Int32} {kb : Bool} {ka ks kw : Int32} {n nv : Nat} {kK kV dd : DD} {sd nx ct : Nat} {pu : Nat → DD} {sn : Nat} {sw sg : Nat → Nat} {bn : Nat} {bw : Nat → Nat} {bt : DD} {ik : Nat → Bool} {iD : Nat → DD} {iS : Nat → Nat} {c : Nat} (hc : c < 256) (hL : L < 240) (hX : Mx G H a tx L fp kb ka ks kw n nv kK kV dd sd nx ct pu sn sw sg bn bw bt ik iD iS) (hB : B ≤ a) : AM G B l yX7_feed cX7_feed 2 (some .int) 1 0 0 [.ref a, .int (nI c)] H (fun rv H' => rv = some (.int (nI (L + 1))) ∧ (Mx G H' a (fun i => if i = L then c else tx i) (L + 1) fp kb ka ks kw n nv kK kV dd sd nx ct pu sn sw sg bn bw bt ik iD iS ∧ ∀ q : Nat, ¬ (a ≤ q ∧ q < a + 15) → H'[q]? = H[q]?)) := by
  have hX0 := hX
  obtain ⟨ra, rf, rw, rx, ir, hM, hT, hU, hS, hK9, hJ9⟩ := hX
  have hM0 := hM
  obtain ⟨hm, ⟨fB, hBx, eB0, eB1, eB2⟩, ⟨fK, hKx, eK⟩, ⟨fV, hVx, eV⟩, ⟨fN, hNx, eS, eU, eO, e24, e25, e26⟩, hn, hnv⟩ := hM
  unfold mxL at hm
  obtain ⟨⟨fT, hTx, eT⟩, ⟨f2, h2⟩, ⟨f3, h3⟩, ⟨f4, h4⟩, hL9, hT8⟩ := hT
  have hF : ∀ q : Nat, ¬ (a ≤ q ∧ q < a + 15) → H[q]? = H[q]? := fun _ _ => rfl
  have hG : ∀ q : Nat, q ≠ a ∧ q ≠ a + 1 → H[q]? = H[q]? := fun _ _ => rfl
  refine AM.ofI (lv := [(0, .ref a), (1, .int (nI c))]) (by decide +kernel) (Nat.le_of_ble_eq_true rfl) rfl ?_ (fun _ h => by cases h.1)
  refine a_iload_n 1 dX7_feed_0 rfl rfl ?_
  refine a_iconst 0 dX7_feed_1 (by decide) ?_
  refine a_sipush 255 dX7_feed_2 (by decide) ?_
  refine a_callSp (As := [.int (nI c), .int 0, .int 255]) (rest := []) (d := 0) (mc := 0) (ms := 0) (x := bI (inF (nI c) 0 255)) l_X7_58 st_X7_in dX7_feed_5 ⟨Nat.le_of_ble_eq_true rfl, Nat.le_of_ble_eq_true rfl⟩ rfl (Nat.le_of_ble_eq_true rfl) ⟨Nat.le_of_ble_eq_true rfl, Nat.le_of_ble_eq_true rfl⟩ (c_X7_in) ?_
  refine a_ifneB 14 dX7_feed_8 (by decide) (fun c8 => ?_) (fun c8 => ?_)
  · skip
    refine a_aload_n 0 dX7_feed_14 rfl rfl ?_
    refine a_get f_X7_63 dX7_feed_15 hm rfl ?_
    refine a_sipush 240 dX7_feed_18 (by decide) ?_
    refine a_icmpneN (a := L) (b := 240) 27 dX7_feed_21 (by decide) (by omega) (by omega) (fun c21 => ?_) (fun c21 => ?_)
    · skip
      refine a_aload_n 0 dX7_feed_27 rfl rfl ?_
      refine a_get f_X7_7 dX7_feed_28 hm rfl ?_
      refine a_aload_n 0 dX7_feed_31 rfl rfl ?_
      refine a_get f_X7_63 dX7_feed_32 hm rfl ?_
      refine a_iload_n 1 dX7_feed_35 rfl rfl ?_
      refine a_iastN (j := L) dX7_feed_36 hTx (by omega) (by decide) (by omega) (fun H2 hTx hz2 hq2 => ?_)
      have hTx : Ai G H2 (a + 1) 240 (upd fT L (nI c)) := hTx
      have hm := hm.kept (hq2 _ (by omega))
      have hBx := hBx.kept (hq2 _ (by omega))
      have hKx := hKx.kept (hq2 _ (by omega))
      have hVx := hVx.kept (hq2 _ (by omega))
      have hNx := hNx.kept (hq2 _ (by omega))
      have hF : ∀ q : Nat, ¬ (a ≤ q ∧ q < a + 15) → H2[q]? = H[q]? := fun q hq => (hq2 q (by omega)).trans (hF q hq)
      have hG : ∀ q : Nat, q ≠ a ∧ q ≠ a + 1 → H2[q]? = H[q]? := fun q hq => (hq2 q (by omega)).trans (hG q hq)
      refine a_aload_n 0 dX7_feed_37 rfl rfl ?_
      refine a_dup dX7_feed_38 rfl ?_
      refine a_get f_X7_63 dX7_feed_39 hm rfl ?_
      refine a_iconst 1 dX7_feed_42 (by decide) ?_
      refine a_iaddN (a := L) (b := 1) dX7_feed_43 ?_
      refine a_put f_X7_63 p_X7_63 dX7_feed_44 hm (Nat.le_of_ble_eq_true rfl) rfl rfl (by omega) (fun H3 hm hz3 hq3 => ?_)
      have hm : Ob G H3 a 7 [.int (nI (L + 1)), .ref (a + 1), .int fp, .int ra, .int rf, .int rw, .int rx, .ref (a + 2), .ref (a + 3), .ref (a + 4), .int (bI ir), .int (bI kb), .int (nI n), .int (nI nv), .ref (a + 5), .ref (a + 6), .ref (a + 7), .ref (a + 8), .int (nI ct), .int (nI nx), .ref (a + 9), .long (lN sd), .int (nI sn), .ref (a + 10), .int (nI bn), .ref (a + 11), .ref (a + 12), .ref (a + 13), .ref (a + 14)] := hm
      have hBx := hBx.kept (hq3 _ (by omega))
      have hKx := hKx.kept (hq3 _ (by omega))
      have hVx := hVx.kept (hq3 _ (by omega))
      have hNx := hNx.kept (hq3 _ (by omega))
      have hTx := hTx.kept (hq3 _ (by omega))
      have hF : ∀ q : Nat, ¬ (a ≤ q ∧ q < a + 15) → H3[q]? = H[q]? := fun q hq => (hq3 q (by omega)).trans (hF q hq)
      have hG : ∀ q : Nat, q ≠ a ∧ q ≠ a + 1 → H3[q]? = H[q]? := fun q hq => (hq3 q (by omega)).trans (hG q hq)
      refine a_aload_n 0 dX7_feed_47 rfl rfl ?_
      refine a_get f_X7_63 dX7_feed_48 hm rfl ?_
      refine a_ret dX7_feed_51 ⟨⟨ri ?_, ?_⟩, rfl, rfl⟩
      · rfl
      · have hU := hU.kept (H1 := _) (hG _ (by omega))
        have hS := hS.kept (H1 := _) (hG _ (by omega))
        have hK9 := hK9.kept (H1 := _) (hG _ (by omega))
        have hJ9 := hJ9.kept (H1 := _) (fun q c1 c2 => hG q (by omega))
        exact ⟨⟨_, _, _, _, _, ⟨by unfold mxL; exact hm, ⟨fB, hBx, eB0, eB1, eB2⟩, ⟨fK, hKx, eK⟩, ⟨fV, hVx, eV⟩, ⟨_, hNx, ⟨eS, eU, eO, e24, e25, e26⟩⟩, hn, hnv⟩, ⟨⟨_, hTx, mt_up eT⟩, ⟨f2, h2.kept (hG _ (by omega))⟩, ⟨f3, h3.kept (hG _ (by omega))⟩, ⟨f4, h4.kept (hG _ (by omega))⟩, by omega, fun i hi => by dsimp only; split; { omega }; { exact hT8 i (by omega) }⟩, hU, hS, hK9, hJ9⟩, hF⟩
    · skip
      omega
  · skip
    exact absurd c8 (by rw [(inF_t (nI_pos (by omega)) (Int32.not_lt.mp fun h => absurd ((nI_ltI (a := 255) (by omega) (by omega)).mp h) (by omega)) : inF (nI c) 0 255 = true)]; decide)
set_option maxHeartbeats 4000000 in
set_option maxRecDepth 100000 in
theorem c_X7_feed_full {G : GT} {B : Nat} {l : Launch} {H : Heap} {a : Nat} {tx : Nat → Nat} {L : Nat} {fp : Int32} {kb : Bool} {ka ks kw : Int32} {n nv : Nat} {kK kV dd : DD} {sd nx ct : Nat} {pu : Nat → DD} {sn : Nat} {sw sg : Nat → Nat} {bn : Nat} {bw : Nat → Nat} {bt : DD} {ik : Nat → Bool} {iD : Nat → DD} {iS : Nat → Nat} {c : Nat} (hc : c < 256) (hL : L = 240) (hX : Mx G H a tx L fp kb ka ks kw n nv kK kV dd sd nx ct pu sn sw sg bn bw bt ik iD iS) (hB : B ≤ a) : AM G B l yX7_feed cX7_feed 2 (some .int) 1 0 0 [.ref a, .int (nI c)] H (fun rv H' => rv = some (.int (-1000000004)) ∧ (H' = H)) := by
  have hX0 := hX
  obtain ⟨ra, rf, rw, rx, ir, hM, hT, hU, hS, hK9, hJ9⟩ := hX
  have hM0 := hM
  obtain ⟨hm, ⟨fB, hBx, eB0, eB1, eB2⟩, ⟨fK, hKx, eK⟩, ⟨fV, hVx, eV⟩, ⟨fN, hNx, eS, eU, eO, e24, e25, e26⟩, hn, hnv⟩ := hM
  unfold mxL at hm
  obtain ⟨⟨fT, hTx, eT⟩, ⟨f2, h2⟩, ⟨f3, h3⟩, ⟨f4, h4⟩, hL9, hT8⟩ := hT
  refine AM.ofI (lv := [(0, .ref a), (1, .int (nI c))]) (by decide +kernel) (Nat.le_of_ble_eq_true rfl) rfl ?_ (fun _ h => by cases h.1)
  refine a_iload_n 1 dX7_feed_0 rfl rfl ?_
  refine a_iconst 0 dX7_feed_1 (by decide) ?_
  refine a_sipush 255 dX7_feed_2 (by decide) ?_
  refine a_callSp (As := [.int (nI c), .int 0, .int 255]) (rest := []) (d := 0) (mc := 0) (ms := 0) (x := bI (inF (nI c) 0 255)) l_X7_58 st_X7_in dX7_feed_5 ⟨Nat.le_of_ble_eq_true rfl, Nat.le_of_ble_eq_true rfl⟩ rfl (Nat.le_of_ble_eq_true rfl) ⟨Nat.le_of_ble_eq_true rfl, Nat.le_of_ble_eq_true rfl⟩ (c_X7_in) ?_
  refine a_ifneB 14 dX7_feed_8 (by decide) (fun c8 => ?_) (fun c8 => ?_)
  · skip
    refine a_aload_n 0 dX7_feed_14 rfl rfl ?_
    refine a_get f_X7_63 dX7_feed_15 hm rfl ?_
    refine a_sipush 240 dX7_feed_18 (by decide) ?_
    refine a_icmpneN (a := L) (b := 240) 27 dX7_feed_21 (by decide) (by omega) (by omega) (fun c21 => ?_) (fun c21 => ?_)
    · skip
      omega
    · skip
      refine a_ldc (-1000000004) k_X7_66 dX7_feed_24 ?_
      refine a_ret dX7_feed_26 ⟨⟨ri ?_, ?_⟩, rfl, rfl⟩
      · rfl
      · rfl
  · skip
    exact absurd c8 (by rw [(inF_t (nI_pos (by omega)) (Int32.not_lt.mp fun h => absurd ((nI_ltI (a := 255) (by omega) (by omega)).mp h) (by omega)) : inF (nI c) 0 255 = true)]; decide)
set_option maxHeartbeats 4000000 in
set_option maxRecDepth 100000 in
theorem c_X7_feed_out {G : GT} {B : Nat} {l : Launch} {H : Heap} {a : Nat} {tx : Nat → Nat} {L : Nat} {fp : Int32} {kb : Bool} {ka ks kw : Int32} {n nv : Nat} {kK kV dd : DD} {sd nx ct : Nat} {pu : Nat → DD} {sn : Nat} {sw sg : Nat → Nat} {bn : Nat} {bw : Nat → Nat} {bt : DD} {ik : Nat → Bool} {iD : Nat → DD} {iS : Nat → Nat} {c : Int32} (hq : c < 0 ∨ ¬ c ≤ 255) (hX : Mx G H a tx L fp kb ka ks kw n nv kK kV dd sd nx ct pu sn sw sg bn bw bt ik iD iS) (hB : B ≤ a) : AM G B l yX7_feed cX7_feed 2 (some .int) 1 0 0 [.ref a, .int c] H (fun rv H' => rv = some (.int (-1000000002)) ∧ (H' = H)) := by
  have hX0 := hX
  obtain ⟨ra, rf, rw, rx, ir, hM, hT, hU, hS, hK9, hJ9⟩ := hX
  have hM0 := hM
  obtain ⟨hm, ⟨fB, hBx, eB0, eB1, eB2⟩, ⟨fK, hKx, eK⟩, ⟨fV, hVx, eV⟩, ⟨fN, hNx, eS, eU, eO, e24, e25, e26⟩, hn, hnv⟩ := hM
  unfold mxL at hm
  refine AM.ofI (lv := [(0, .ref a), (1, .int c)]) (by decide +kernel) (Nat.le_of_ble_eq_true rfl) rfl ?_ (fun _ h => by cases h.1)
  refine a_iload_n 1 dX7_feed_0 rfl rfl ?_
  refine a_iconst 0 dX7_feed_1 (by decide) ?_
  refine a_sipush 255 dX7_feed_2 (by decide) ?_
  refine a_callSp (As := [.int c, .int 0, .int 255]) (rest := []) (d := 0) (mc := 0) (ms := 0) (x := bI (inF c 0 255)) l_X7_58 st_X7_in dX7_feed_5 ⟨Nat.le_of_ble_eq_true rfl, Nat.le_of_ble_eq_true rfl⟩ rfl (Nat.le_of_ble_eq_true rfl) ⟨Nat.le_of_ble_eq_true rfl, Nat.le_of_ble_eq_true rfl⟩ (c_X7_in) ?_
  refine a_ifneB 14 dX7_feed_8 (by decide) (fun c8 => ?_) (fun c8 => ?_)
  · skip
    exact absurd c8 (by rw [inF_n hq]; decide)
  · skip
    refine a_ldc (-1000000002) k_X7_62 dX7_feed_11 ?_
    refine a_ret dX7_feed_13 ⟨⟨ri ?_, ?_⟩, rfl, rfl⟩
    · rfl
    · rfl
