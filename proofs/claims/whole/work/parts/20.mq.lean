/-! ===== BEGIN BeansBoxModel: queries ===== -/
theorem inF_28 {w : Int32} : inF w 0 27 = wIx 28 w := inF_w (n := 28) (by decide)
theorem inF_2 {w : Int32} : inF w 0 1 = wIx 2 w := inF_w (n := 2) (by decide)
theorem inF_01 {w : Int32} (h : w = 0 ∨ w = 1) : inF w 0 1 = true := by rcases h with rfl | rfl <;> decide
theorem inF_01n {w : Int32} (h : ¬ w = 0) (h1 : ¬ w = 1) : inF w 0 1 = false := by
  rw [inF_2]
  cases e : wIx 2 w with
  | false => rfl
  | true =>
    obtain ⟨k, hk, rfl⟩ := wIx_of (by decide) e
    rcases (show k = 0 ∨ k = 1 by omega) with rfl | rfl
    · exact absurd nI_0 h
    · exact absurd rfl h1
theorem inF_n {w lo hi : Int32} (h : w < lo ∨ ¬ w ≤ hi) : inF w lo hi = false := by
  rcases h with h | h
  · exact inF_f1 h
  · exact inF_f2 h
theorem ne_ok {n : Nat} {dd : DD} {c : Nat} (hR : RG n dd) (hc : c < 1000) (k : Nat) (hk : k ≤ n) : ∃ x, x ≤ 27 ∧ neF dd (nI c) k = nI x := by
  induction k with
  | zero => exact ⟨27, Nat.le_refl _, rfl⟩
  | succ k ih =>
    obtain ⟨⟨a, ha, ea⟩, -⟩ := hR k (by omega)
    simp only [neF]
    rw [ea, apF_nI ha hc]
    split
    · exact ⟨_, apN_le ha hc, rfl⟩
    · exact ih (by omega)
theorem wa_up {n : Nat} {dd : DD} {k : Nat} {b m x : Int32} (h : (k = 0 ∧ b = 0 ∧ m = -1) ∨ ∃ j, k = j + 1 ∧ waF n dd j = (b, m)) (hx : x = neF dd (nI k) n) (hl : m < x) : waF n dd k = (nI k, x) := by
  rcases h with ⟨rfl, -, -⟩ | ⟨j, rfl, e⟩
  · rw [hx]; rfl
  · simp only [waF]; rw [e, ← hx, if_pos hl]
theorem wa_no {n : Nat} {dd : DD} {k : Nat} {b m x : Int32} (hR : RG n dd) (hk : k < 1000) (h : (k = 0 ∧ b = 0 ∧ m = -1) ∨ ∃ j, k = j + 1 ∧ waF n dd j = (b, m)) (hx : x = neF dd (nI k) n) (hl : x ≤ m) : waF n dd k = (b, m) := by
  rcases h with ⟨rfl, rfl, rfl⟩ | ⟨j, rfl, e⟩
  · obtain ⟨y, hy, ey⟩ := ne_ok hR hk n (Nat.le_refl _)
    rw [hx, ey] at hl
    exact absurd (Int32.le_trans (nI_pos' (by omega)) hl) (by decide)
  · simp only [waF]; rw [e, ← hx, if_neg (Int32.not_lt.mpr hl)]
theorem akS_up {ka cr much : Int32} {k : Nat} (hk : k < 99) (h : akR ka cr much 99 0 = akR ka cr much (99 - k) k) (hm : akS ka cr (k + 1) ≤ much) : akR ka cr much 99 0 = akR ka cr much (99 - (k + 1)) (k + 1) := by
  rw [h, show 99 - k = (99 - (k + 1)) + 1 by omega]
  simp only [akR]
  rw [if_neg (Int32.not_lt.mpr hm)]
theorem akS_no {ka cr much : Int32} {k : Nat} (hk : k < 99) (h : akR ka cr much 99 0 = akR ka cr much (99 - k) k) (hm : ¬ akS ka cr (k + 1) ≤ much) : akR ka cr much 99 0 = nI k := by
  rw [h, show 99 - k = (99 - (k + 1)) + 1 by omega]
  simp only [akR]
  rw [if_pos (Int32.not_le.mp hm)]
/-- what is SEEN, the BOOK: two numbers by two -/
def Mp (G : GT) (H : Heap) (p cap ct : Nat) (P Q : DD) : Prop := ∃ f : DD, Ai G H p cap f ∧ (∀ i, i < ct → f (2 * i) = P i) ∧ (∀ i, i < ct → f (2 * i + 1) = Q i) ∧ 2 * ct ≤ cap ∧ cap ≤ 30
theorem Mp.kept {G : GT} {H H1 : Heap} {p cap ct : Nat} {P Q : DD} (h : Mp G H p cap ct P Q) (hq : H1[p]? = H[p]?) : Mp G H1 p cap ct P Q := by
  obtain ⟨f, h1, h2⟩ := h
  exact ⟨f, h1.kept hq, h2⟩
/-- bits of a number below 16, as counted one by one -/
def btF : Nat → Nat → Nat
  | 0, _ => 0
  | f + 1, x => if x = 0 then 0 else btF f (x &&& (x - 1)) + 1
theorem spk_bt {n nv : Nat} {dd kV : DD} {sw sg : Nat → Nat} {sn : Nat} (h : nv ≤ 4) : ∃ x, x < 16 ∧ spkF n dd kV sw sg sn nv = nI x ∧ btF 16 x = cnF n dd kV sw sg sn nv := by
  have key : ∀ b0 b1 b2 b3 : Bool, csF n dd kV sw sg 0 sn = b0 → csF n dd kV sw sg 1 sn = b1 → csF n dd kV sw sg 2 sn = b2 → csF n dd kV sw sg 3 sn = b3 → ∃ x, x < 16 ∧ spkF n dd kV sw sg sn nv = nI x ∧ btF 16 x = cnF n dd kV sw sg sn nv := by
    intro b0 b1 b2 b3 e0 e1 e2 e3
    rcases (show nv = 0 ∨ nv = 1 ∨ nv = 2 ∨ nv = 3 ∨ nv = 4 by omega) with rfl | rfl | rfl | rfl | rfl <;> simp only [spkF, cnF, e0, e1, e2, e3] <;> cases b0 <;> cases b1 <;> cases b2 <;> cases b3 <;> decide +kernel
  exact key _ _ _ _ rfl rfl rfl rfl
theorem nI_and1 {x : Nat} (hx : x < 16) (h0 : x ≠ 0) : nI x &&& (nI x - 1) = nI (x &&& (x - 1)) := by
  have h : ∀ y : Fin 16, y.val ≠ 0 → nI y.val &&& (nI y.val - 1) = nI (y.val &&& (y.val - 1)) := by decide +kernel
  exact h ⟨x, hx⟩ h0
theorem and1_lt {x : Nat} (hx : x < 16) (h0 : x ≠ 0) : (x &&& (x - 1)) < x := by
  have h : ∀ y : Fin 16, y.val ≠ 0 → (y.val &&& (y.val - 1)) < y.val := by decide +kernel
  exact h ⟨x, hx⟩ h0
theorem btF_st {x : Nat} (hx : x < 16) (h0 : x ≠ 0) : btF 16 (x &&& (x - 1)) + 1 = btF 16 x := by
  have h : ∀ y : Fin 16, y.val ≠ 0 → btF 16 (y.val &&& (y.val - 1)) + 1 = btF 16 y.val := by decide +kernel
  exact h ⟨x, hx⟩ h0
/-! ===== END ===== -/

set_option maxHeartbeats 4000000 in
set_option maxRecDepth 100000 in
theorem c_X7_guess {G : GT} {B : Nat} {l : Launch} {H : Heap} {a L : Nat} {fp ra rf rw rx : Int32} {ir kb : Bool} {n nv ct nx sd sn bn : Nat} {ka ks kw : Int32} {kK kV dd : DD} {s : Int32} (hsn : wIx 1000 s = true) (hM : Mc G H a L fp ra rf rw rx ir kb n nv ct nx sd sn bn ka ks kw kK kV dd) : AM G B l yX7_guess cX7_guess 2 (some .int) 4 0 0 [.ref a, .int s] H (fun rv H' => rv = some (.int (guF n dd s)) ∧ (H' = H)) := by
  have hM0 := hM
  obtain ⟨hm, ⟨fB, hBx, eB0, eB1, eB2⟩, ⟨fK, hKx, eK⟩, ⟨fV, hVx, eV⟩, ⟨fN, hNx, eS, eU, eO, e24, e25, e26⟩, hn, hnv⟩ := hM
  unfold mxL at hm
  refine AM.ofI (lv := [(0, .ref a), (1, .int s)]) (by decide +kernel) (Nat.le_of_ble_eq_true rfl) rfl ?_ (fun _ h => by cases h.1)
  refine a_iload_n 1 dX7_guess_0 rfl rfl ?_
  refine a_callSp (As := [.int s]) (rest := []) (d := 1) (mc := 0) (ms := 0) (x := bI (wIx 1000 s)) l_X7_183 st_X7_isSound dX7_guess_1 ⟨Nat.le_of_ble_eq_true rfl, Nat.le_of_ble_eq_true rfl⟩ rfl (Nat.le_of_ble_eq_true rfl) ⟨Nat.le_of_ble_eq_true rfl, Nat.le_of_ble_eq_true rfl⟩ (c_X7_isSound) ?_
  refine a_ifeqB 15 dX7_guess_4 (by decide) (fun c4 => ?_) (fun c4 => ?_)
  · skip
    exact absurd c4 (by rw [hsn]; decide)
  · skip
    refine a_aload_n 0 dX7_guess_7 rfl rfl ?_
    refine a_iload_n 1 dX7_guess_8 rfl rfl ?_
    refine a_callVp (As := [.int s]) (rest := []) (d := 3) (mc := 0) (ms := 0) (x := guF n dd s) (ci := 7) l_X7_161 im_X7_guessOf se_X7_guessOf ⟨_, rfl, rfl⟩ dX7_guess_9 ⟨Nat.le_of_ble_eq_true rfl, Nat.le_of_ble_eq_true rfl⟩ rfl (Nat.le_of_ble_eq_true rfl) ⟨Nat.le_of_ble_eq_true rfl, Nat.le_of_ble_eq_true rfl⟩ hm (c_X7_guessOf hM0) ?_
    refine a_goto 17 dX7_guess_12 (by decide) ?_
    refine a_ret dX7_guess_17 ⟨⟨ri ?_, ?_⟩, rfl, rfl⟩
    · rfl
    · rfl
set_option maxHeartbeats 4000000 in
set_option maxRecDepth 100000 in
theorem c_X7_guess_out {G : GT} {B : Nat} {l : Launch} {H : Heap} {a L : Nat} {fp ra rf rw rx : Int32} {ir kb : Bool} {n nv ct nx sd sn bn : Nat} {ka ks kw : Int32} {kK kV dd : DD} {s : Int32} (hsn : wIx 1000 s = false) (hM : Mc G H a L fp ra rf rw rx ir kb n nv ct nx sd sn bn ka ks kw kK kV dd) : AM G B l yX7_guess cX7_guess 2 (some .int) 4 0 0 [.ref a, .int s] H (fun rv H' => rv = some (.int (-1000000002)) ∧ (H' = H)) := by
  have hM0 := hM
  obtain ⟨hm, ⟨fB, hBx, eB0, eB1, eB2⟩, ⟨fK, hKx, eK⟩, ⟨fV, hVx, eV⟩, ⟨fN, hNx, eS, eU, eO, e24, e25, e26⟩, hn, hnv⟩ := hM
  unfold mxL at hm
  refine AM.ofI (lv := [(0, .ref a), (1, .int s)]) (by decide +kernel) (Nat.le_of_ble_eq_true rfl) rfl ?_ (fun _ h => by cases h.1)
  refine a_iload_n 1 dX7_guess_0 rfl rfl ?_
  refine a_callSp (As := [.int s]) (rest := []) (d := 1) (mc := 0) (ms := 0) (x := bI (wIx 1000 s)) l_X7_183 st_X7_isSound dX7_guess_1 ⟨Nat.le_of_ble_eq_true rfl, Nat.le_of_ble_eq_true rfl⟩ rfl (Nat.le_of_ble_eq_true rfl) ⟨Nat.le_of_ble_eq_true rfl, Nat.le_of_ble_eq_true rfl⟩ (c_X7_isSound) ?_
  refine a_ifeqB 15 dX7_guess_4 (by decide) (fun c4 => ?_) (fun c4 => ?_)
  · skip
    refine a_ldc (-1000000002) k_X7_62 dX7_guess_15 ?_
    refine a_ret dX7_guess_17 ⟨⟨ri ?_, ?_⟩, rfl, rfl⟩
    · rfl
    · rfl
  · skip
    exact absurd c4 (by rw [hsn]; decide)
set_option maxHeartbeats 4000000 in
set_option maxRecDepth 100000 in
theorem c_X7_sure {G : GT} {B : Nat} {l : Launch} {H : Heap} {a L : Nat} {fp ra rf rw rx : Int32} {ir kb : Bool} {n nv ct nx sd sn bn : Nat} {ka ks kw : Int32} {kK kV dd : DD} {w c : Nat} (hw : w < n) (hR : RG n dd) (hc : c < 1000) (hM : Mc G H a L fp ra rf rw rx ir kb n nv ct nx sd sn bn ka ks kw kK kV dd) : AM G B l yX7_sure cX7_sure 3 (some .int) 4 0 0 [.ref a, .int (nI w), .int (nI c)] H (fun rv H' => rv = some (.int (ceF n dd w (nI c))) ∧ (H' = H)) := by
  have hM0 := hM
  obtain ⟨hm, ⟨fB, hBx, eB0, eB1, eB2⟩, ⟨fK, hKx, eK⟩, ⟨fV, hVx, eV⟩, ⟨fN, hNx, eS, eU, eO, e24, e25, e26⟩, hn, hnv⟩ := hM
  unfold mxL at hm
  refine AM.ofI (lv := [(0, .ref a), (1, .int (nI w)), (2, .int (nI c))]) (by decide +kernel) (Nat.le_of_ble_eq_true rfl) rfl ?_ (fun _ h => by cases h.1)
  refine a_aload_n 0 dX7_sure_0 rfl rfl ?_
  refine a_iload_n 1 dX7_sure_1 rfl rfl ?_
  refine a_callVp (As := [.int (nI w)]) (rest := []) (d := 1) (mc := 0) (ms := 0) (x := bI (wIx n (nI w))) (ci := 7) l_X7_139 im_X7_isWord se_X7_isWord ⟨_, rfl, rfl⟩ dX7_sure_2 ⟨Nat.le_of_ble_eq_true rfl, Nat.le_of_ble_eq_true rfl⟩ rfl (Nat.le_of_ble_eq_true rfl) ⟨Nat.le_of_ble_eq_true rfl, Nat.le_of_ble_eq_true rfl⟩ hm (c_X7_isWord hM0) ?_
  refine a_ifneB 13 dX7_sure_5 (by decide) (fun c5 => ?_) (fun c5 => ?_)
  · skip
    refine a_iload_n 2 dX7_sure_13 rfl rfl ?_
    refine a_callSp (As := [.int (nI c)]) (rest := []) (d := 1) (mc := 0) (ms := 0) (x := bI (wIx 1000 (nI c))) l_X7_183 st_X7_isSound dX7_sure_14 ⟨Nat.le_of_ble_eq_true rfl, Nat.le_of_ble_eq_true rfl⟩ rfl (Nat.le_of_ble_eq_true rfl) ⟨Nat.le_of_ble_eq_true rfl, Nat.le_of_ble_eq_true rfl⟩ (c_X7_isSound) ?_
    refine a_ifeqB 29 dX7_sure_17 (by decide) (fun c17 => ?_) (fun c17 => ?_)
    · skip
      exact absurd c17 (by rw [wIx_nI hc (by decide)]; decide)
    · skip
      refine a_aload_n 0 dX7_sure_20 rfl rfl ?_
      refine a_iload_n 1 dX7_sure_21 rfl rfl ?_
      refine a_iload_n 2 dX7_sure_22 rfl rfl ?_
      refine a_callVp (As := [.int (nI w), .int (nI c)]) (rest := []) (d := 3) (mc := 0) (ms := 0) (x := ceF n dd w (nI c)) (ci := 7) l_X7_165 im_X7_sureOf se_X7_sureOf ⟨_, rfl, rfl⟩ dX7_sure_23 ⟨Nat.le_of_ble_eq_true rfl, Nat.le_of_ble_eq_true rfl⟩ rfl (Nat.le_of_ble_eq_true rfl) ⟨Nat.le_of_ble_eq_true rfl, Nat.le_of_ble_eq_true rfl⟩ hm (c_X7_sureOf hw hR hc hM0) ?_
      refine a_goto 31 dX7_sure_26 (by decide) ?_
      refine a_ret dX7_sure_31 ⟨⟨ri ?_, ?_⟩, rfl, rfl⟩
      · rfl
      · rfl
  · skip
    exact absurd c5 (by rw [wIx_nI hw (by omega)]; decide)
set_option maxHeartbeats 4000000 in
set_option maxRecDepth 100000 in
theorem c_X7_sure_unk {G : GT} {B : Nat} {l : Launch} {H : Heap} {a L : Nat} {fp ra rf rw rx : Int32} {ir kb : Bool} {n nv ct nx sd sn bn : Nat} {ka ks kw : Int32} {kK kV dd : DD} {w : Int32} (hw : wIx n w = false) {s : Int32} (hM : Mc G H a L fp ra rf rw rx ir kb n nv ct nx sd sn bn ka ks kw kK kV dd) : AM G B l yX7_sure cX7_sure 3 (some .int) 4 0 0 [.ref a, .int w, .int s] H (fun rv H' => rv = some (.int (-1000000001)) ∧ (H' = H)) := by
  have hM0 := hM
  obtain ⟨hm, ⟨fB, hBx, eB0, eB1, eB2⟩, ⟨fK, hKx, eK⟩, ⟨fV, hVx, eV⟩, ⟨fN, hNx, eS, eU, eO, e24, e25, e26⟩, hn, hnv⟩ := hM
  unfold mxL at hm
  refine AM.ofI (lv := [(0, .ref a), (1, .int w), (2, .int s)]) (by decide +kernel) (Nat.le_of_ble_eq_true rfl) rfl ?_ (fun _ h => by cases h.1)
  refine a_aload_n 0 dX7_sure_0 rfl rfl ?_
  refine a_iload_n 1 dX7_sure_1 rfl rfl ?_
  refine a_callVp (As := [.int w]) (rest := []) (d := 1) (mc := 0) (ms := 0) (x := bI (wIx n w)) (ci := 7) l_X7_139 im_X7_isWord se_X7_isWord ⟨_, rfl, rfl⟩ dX7_sure_2 ⟨Nat.le_of_ble_eq_true rfl, Nat.le_of_ble_eq_true rfl⟩ rfl (Nat.le_of_ble_eq_true rfl) ⟨Nat.le_of_ble_eq_true rfl, Nat.le_of_ble_eq_true rfl⟩ hm (c_X7_isWord hM0) ?_
  refine a_ifneB 13 dX7_sure_5 (by decide) (fun c5 => ?_) (fun c5 => ?_)
  · skip
    exact absurd c5 (by rw [hw]; decide)
  · skip
    refine a_ldc (-1000000001) k_X7_142 dX7_sure_8 ?_
    refine a_goto 31 dX7_sure_10 (by decide) ?_
    refine a_ret dX7_sure_31 ⟨⟨ri ?_, ?_⟩, rfl, rfl⟩
    · rfl
    · rfl
set_option maxHeartbeats 4000000 in
set_option maxRecDepth 100000 in
theorem c_X7_sure_out {G : GT} {B : Nat} {l : Launch} {H : Heap} {a L : Nat} {fp ra rf rw rx : Int32} {ir kb : Bool} {n nv ct nx sd sn bn : Nat} {ka ks kw : Int32} {kK kV dd : DD} {w : Nat} (hw : w < n) {s : Int32} (hsn : wIx 1000 s = false) (hM : Mc G H a L fp ra rf rw rx ir kb n nv ct nx sd sn bn ka ks kw kK kV dd) : AM G B l yX7_sure cX7_sure 3 (some .int) 4 0 0 [.ref a, .int (nI w), .int s] H (fun rv H' => rv = some (.int (-1000000002)) ∧ (H' = H)) := by
  have hM0 := hM
  obtain ⟨hm, ⟨fB, hBx, eB0, eB1, eB2⟩, ⟨fK, hKx, eK⟩, ⟨fV, hVx, eV⟩, ⟨fN, hNx, eS, eU, eO, e24, e25, e26⟩, hn, hnv⟩ := hM
  unfold mxL at hm
  refine AM.ofI (lv := [(0, .ref a), (1, .int (nI w)), (2, .int s)]) (by decide +kernel) (Nat.le_of_ble_eq_true rfl) rfl ?_ (fun _ h => by cases h.1)
  refine a_aload_n 0 dX7_sure_0 rfl rfl ?_
  refine a_iload_n 1 dX7_sure_1 rfl rfl ?_
  refine a_callVp (As := [.int (nI w)]) (rest := []) (d := 1) (mc := 0) (ms := 0) (x := bI (wIx n (nI w))) (ci := 7) l_X7_139 im_X7_isWord se_X7_isWord ⟨_, rfl, rfl⟩ dX7_sure_2 ⟨Nat.le_of_ble_eq_true rfl, Nat.le_of_ble_eq_true rfl⟩ rfl (Nat.le_of_ble_eq_true rfl) ⟨Nat.le_of_ble_eq_true rfl, Nat.le_of_ble_eq_true rfl⟩ hm (c_X7_isWord hM0) ?_
  refine a_ifneB 13 dX7_sure_5 (by decide) (fun c5 => ?_) (fun c5 => ?_)
  · skip
    refine a_iload_n 2 dX7_sure_13 rfl rfl ?_
    refine a_callSp (As := [.int s]) (rest := []) (d := 1) (mc := 0) (ms := 0) (x := bI (wIx 1000 s)) l_X7_183 st_X7_isSound dX7_sure_14 ⟨Nat.le_of_ble_eq_true rfl, Nat.le_of_ble_eq_true rfl⟩ rfl (Nat.le_of_ble_eq_true rfl) ⟨Nat.le_of_ble_eq_true rfl, Nat.le_of_ble_eq_true rfl⟩ (c_X7_isSound) ?_
    refine a_ifeqB 29 dX7_sure_17 (by decide) (fun c17 => ?_) (fun c17 => ?_)
    · skip
      refine a_ldc (-1000000002) k_X7_62 dX7_sure_29 ?_
      refine a_ret dX7_sure_31 ⟨⟨ri ?_, ?_⟩, rfl, rfl⟩
      · rfl
      · rfl
    · skip
      exact absurd c17 (by rw [hsn]; decide)
  · skip
    exact absurd c5 (by rw [wIx_nI hw (by omega)]; decide)
set_option maxHeartbeats 4000000 in
set_option maxRecDepth 100000 in
theorem c_X7_rule {G : GT} {B : Nat} {l : Launch} {H : Heap} {a L : Nat} {fp ra rf rw rx : Int32} {ir kb : Bool} {n nv ct nx sd sn bn : Nat} {ka ks kw : Int32} {kK kV dd : DD} {c : Nat} (hn0 : 0 < n) (hR : RG n dd) (hc : c < 1000) (hRK : RK n kK) (hM : Mc G H a L fp ra rf rw rx ir kb n nv ct nx sd sn bn ka ks kw kK kV dd) : AM G B l yX7_rule cX7_rule 2 (some .int) 6 0 0 [.ref a, .int (nI c)] H (fun rv H' => rv = some (.int (ruF n dd kK ka ks (nI c))) ∧ (H' = H)) := by
  have hM0 := hM
  obtain ⟨hm, ⟨fB, hBx, eB0, eB1, eB2⟩, ⟨fK, hKx, eK⟩, ⟨fV, hVx, eV⟩, ⟨fN, hNx, eS, eU, eO, e24, e25, e26⟩, hn, hnv⟩ := hM
  unfold mxL at hm
  refine AM.ofI (lv := [(0, .ref a), (1, .int (nI c))]) (by decide +kernel) (Nat.le_of_ble_eq_true rfl) rfl ?_ (fun _ h => by cases h.1)
  refine a_iload_n 1 dX7_rule_0 rfl rfl ?_
  refine a_callSp (As := [.int (nI c)]) (rest := []) (d := 1) (mc := 0) (ms := 0) (x := bI (wIx 1000 (nI c))) l_X7_183 st_X7_isSound dX7_rule_1 ⟨Nat.le_of_ble_eq_true rfl, Nat.le_of_ble_eq_true rfl⟩ rfl (Nat.le_of_ble_eq_true rfl) ⟨Nat.le_of_ble_eq_true rfl, Nat.le_of_ble_eq_true rfl⟩ (c_X7_isSound) ?_
  refine a_ifneB 12 dX7_rule_4 (by decide) (fun c4 => ?_) (fun c4 => ?_)
  · skip
    refine a_aload_n 0 dX7_rule_12 rfl rfl ?_
    refine a_get f_X7_120 dX7_rule_13 hm rfl ?_
    refine a_ifneN (a := n) 24 dX7_rule_16 (by decide) (by omega) (fun c16 => ?_) (fun c16 => ?_)
    · skip
      refine a_aload_n 0 dX7_rule_24 rfl rfl ?_
      refine a_iload_n 1 dX7_rule_25 rfl rfl ?_
      refine a_callVp (As := [.int (nI c)]) (rest := []) (d := 5) (mc := 0) (ms := 0) (x := ruF n dd kK ka ks (nI c)) (ci := 7) l_X7_174 im_X7_ruleOf se_X7_ruleOf ⟨_, rfl, rfl⟩ dX7_rule_26 ⟨Nat.le_of_ble_eq_true rfl, Nat.le_of_ble_eq_true rfl⟩ rfl (Nat.le_of_ble_eq_true rfl) ⟨Nat.le_of_ble_eq_true rfl, Nat.le_of_ble_eq_true rfl⟩ hm (c_X7_ruleOf hn0 hR hc hRK hM0) ?_
      refine a_ret dX7_rule_29 ⟨⟨ri ?_, ?_⟩, rfl, rfl⟩
      · rfl
      · rfl
    · skip
      omega
  · skip
    exact absurd c4 (by rw [wIx_nI hc (by decide)]; decide)
set_option maxHeartbeats 4000000 in
set_option maxRecDepth 100000 in
theorem c_X7_rule_out {G : GT} {B : Nat} {l : Launch} {H : Heap} {a L : Nat} {fp ra rf rw rx : Int32} {ir kb : Bool} {n nv ct nx sd sn bn : Nat} {ka ks kw : Int32} {kK kV dd : DD} {s : Int32} (hsn : wIx 1000 s = false) (hM : Mc G H a L fp ra rf rw rx ir kb n nv ct nx sd sn bn ka ks kw kK kV dd) : AM G B l yX7_rule cX7_rule 2 (some .int) 6 0 0 [.ref a, .int s] H (fun rv H' => rv = some (.int (-1000000002)) ∧ (H' = H)) := by
  have hM0 := hM
  obtain ⟨hm, ⟨fB, hBx, eB0, eB1, eB2⟩, ⟨fK, hKx, eK⟩, ⟨fV, hVx, eV⟩, ⟨fN, hNx, eS, eU, eO, e24, e25, e26⟩, hn, hnv⟩ := hM
  unfold mxL at hm
  refine AM.ofI (lv := [(0, .ref a), (1, .int s)]) (by decide +kernel) (Nat.le_of_ble_eq_true rfl) rfl ?_ (fun _ h => by cases h.1)
  refine a_iload_n 1 dX7_rule_0 rfl rfl ?_
  refine a_callSp (As := [.int s]) (rest := []) (d := 1) (mc := 0) (ms := 0) (x := bI (wIx 1000 s)) l_X7_183 st_X7_isSound dX7_rule_1 ⟨Nat.le_of_ble_eq_true rfl, Nat.le_of_ble_eq_true rfl⟩ rfl (Nat.le_of_ble_eq_true rfl) ⟨Nat.le_of_ble_eq_true rfl, Nat.le_of_ble_eq_true rfl⟩ (c_X7_isSound) ?_
  refine a_ifneB 12 dX7_rule_4 (by decide) (fun c4 => ?_) (fun c4 => ?_)
  · skip
    exact absurd c4 (by rw [hsn]; decide)
  · skip
    refine a_ldc (-1000000002) k_X7_62 dX7_rule_7 ?_
    refine a_goto 29 dX7_rule_9 (by decide) ?_
    refine a_ret dX7_rule_29 ⟨⟨ri ?_, ?_⟩, rfl, rfl⟩
    · rfl
    · rfl
set_option maxHeartbeats 4000000 in
set_option maxRecDepth 100000 in
theorem c_X7_rule_not {G : GT} {B : Nat} {l : Launch} {H : Heap} {a L : Nat} {fp ra rf rw rx : Int32} {ir kb : Bool} {n nv ct nx sd sn bn : Nat} {ka ks kw : Int32} {kK kV dd : DD} {s : Int32} (hsn : wIx 1000 s = true) (hn0 : n = 0) (hM : Mc G H a L fp ra rf rw rx ir kb n nv ct nx sd sn bn ka ks kw kK kV dd) : AM G B l yX7_rule cX7_rule 2 (some .int) 6 0 0 [.ref a, .int s] H (fun rv H' => rv = some (.int (-1000000003)) ∧ (H' = H)) := by
  have hM0 := hM
  obtain ⟨hm, ⟨fB, hBx, eB0, eB1, eB2⟩, ⟨fK, hKx, eK⟩, ⟨fV, hVx, eV⟩, ⟨fN, hNx, eS, eU, eO, e24, e25, e26⟩, hn, hnv⟩ := hM
  unfold mxL at hm
  refine AM.ofI (lv := [(0, .ref a), (1, .int s)]) (by decide +kernel) (Nat.le_of_ble_eq_true rfl) rfl ?_ (fun _ h => by cases h.1)
  refine a_iload_n 1 dX7_rule_0 rfl rfl ?_
  refine a_callSp (As := [.int s]) (rest := []) (d := 1) (mc := 0) (ms := 0) (x := bI (wIx 1000 s)) l_X7_183 st_X7_isSound dX7_rule_1 ⟨Nat.le_of_ble_eq_true rfl, Nat.le_of_ble_eq_true rfl⟩ rfl (Nat.le_of_ble_eq_true rfl) ⟨Nat.le_of_ble_eq_true rfl, Nat.le_of_ble_eq_true rfl⟩ (c_X7_isSound) ?_
  refine a_ifneB 12 dX7_rule_4 (by decide) (fun c4 => ?_) (fun c4 => ?_)
  · skip
    refine a_aload_n 0 dX7_rule_12 rfl rfl ?_
    refine a_get f_X7_120 dX7_rule_13 hm rfl ?_
    refine a_ifneN (a := n) 24 dX7_rule_16 (by decide) (by omega) (fun c16 => ?_) (fun c16 => ?_)
    · skip
      omega
    · skip
      refine a_ldc (-1000000003) k_X7_186 dX7_rule_19 ?_
      refine a_goto 29 dX7_rule_21 (by decide) ?_
      refine a_ret dX7_rule_29 ⟨⟨ri ?_, ?_⟩, rfl, rfl⟩
      · rfl
      · rfl
  · skip
    exact absurd c4 (by rw [hsn]; decide)
set_option maxHeartbeats 4000000 in
set_option maxRecDepth 100000 in
theorem c_X7_worth {G : GT} {B : Nat} {l : Launch} {H : Heap} {a L : Nat} {fp ra rf rw rx : Int32} {ir kb : Bool} {n nv ct nx sd sn bn : Nat} {ka ks kw : Int32} {kK kV dd : DD} {q c : Nat} (hq : q ≤ 2) (hn0 : 0 < n) (hR : RG n dd) (hc : c < 1000) (hRK : RK n kK) (hM : Mc G H a L fp ra rf rw rx ir kb n nv ct nx sd sn bn ka ks kw kK kV dd) : AM G B l yX7_worth cX7_worth 3 (some .int) 5 0 0 [.ref a, .int (nI c), .int (nI q)] H (fun rv H' => rv = some (.int (coF n dd kK ka ks (nI c) (nI q))) ∧ (H' = H)) := by
  have hM0 := hM
  obtain ⟨hm, ⟨fB, hBx, eB0, eB1, eB2⟩, ⟨fK, hKx, eK⟩, ⟨fV, hVx, eV⟩, ⟨fN, hNx, eS, eU, eO, e24, e25, e26⟩, hn, hnv⟩ := hM
  unfold mxL at hm
  refine AM.ofI (lv := [(0, .ref a), (1, .int (nI c)), (2, .int (nI q))]) (by decide +kernel) (Nat.le_of_ble_eq_true rfl) rfl ?_ (fun _ h => by cases h.1)
  refine a_iload_n 1 dX7_worth_0 rfl rfl ?_
  refine a_callSp (As := [.int (nI c)]) (rest := []) (d := 1) (mc := 0) (ms := 0) (x := bI (wIx 1000 (nI c))) l_X7_183 st_X7_isSound dX7_worth_1 ⟨Nat.le_of_ble_eq_true rfl, Nat.le_of_ble_eq_true rfl⟩ rfl (Nat.le_of_ble_eq_true rfl) ⟨Nat.le_of_ble_eq_true rfl, Nat.le_of_ble_eq_true rfl⟩ (c_X7_isSound) ?_
  refine a_ifeqB 16 dX7_worth_4 (by decide) (fun c4 => ?_) (fun c4 => ?_)
  · skip
    exact absurd c4 (by rw [wIx_nI hc (by decide)]; decide)
  · skip
    refine a_iload_n 2 dX7_worth_7 rfl rfl ?_
    refine a_iconst 0 dX7_worth_8 (by decide) ?_
    refine a_iconst 2 dX7_worth_9 (by decide) ?_
    refine a_callSp (As := [.int (nI q), .int 0, .int 2]) (rest := []) (d := 0) (mc := 0) (ms := 0) (x := bI (inF (nI q) 0 2)) l_X7_58 st_X7_in dX7_worth_10 ⟨Nat.le_of_ble_eq_true rfl, Nat.le_of_ble_eq_true rfl⟩ rfl (Nat.le_of_ble_eq_true rfl) ⟨Nat.le_of_ble_eq_true rfl, Nat.le_of_ble_eq_true rfl⟩ (c_X7_in) ?_
    refine a_ifneB 21 dX7_worth_13 (by decide) (fun c13 => ?_) (fun c13 => ?_)
    · skip
      refine a_aload_n 0 dX7_worth_21 rfl rfl ?_
      refine a_get f_X7_120 dX7_worth_22 hm rfl ?_
      refine a_ifneN (a := n) 33 dX7_worth_25 (by decide) (by omega) (fun c25 => ?_) (fun c25 => ?_)
      · skip
        refine a_aload_n 0 dX7_worth_33 rfl rfl ?_
        refine a_iload_n 1 dX7_worth_34 rfl rfl ?_
        refine a_iload_n 2 dX7_worth_35 rfl rfl ?_
        refine a_callVp (As := [.int (nI c), .int (nI q)]) (rest := []) (d := 4) (mc := 0) (ms := 0) (x := coF n dd kK ka ks (nI c) (nI q)) (ci := 7) l_X7_168 im_X7_costOf se_X7_costOf ⟨_, rfl, rfl⟩ dX7_worth_36 ⟨Nat.le_of_ble_eq_true rfl, Nat.le_of_ble_eq_true rfl⟩ rfl (Nat.le_of_ble_eq_true rfl) ⟨Nat.le_of_ble_eq_true rfl, Nat.le_of_ble_eq_true rfl⟩ hm (c_X7_costOf hq hn0 hR hc hRK hM0) ?_
        refine a_ret dX7_worth_39 ⟨⟨ri ?_, ?_⟩, rfl, rfl⟩
        · rfl
        · rfl
      · skip
        omega
    · skip
      exact absurd c13 (by rw [(by rcases (show q = 0 ∨ q = 1 ∨ q = 2 by omega) with rfl | rfl | rfl <;> decide : inF (nI q) 0 2 = true)]; decide)
set_option maxHeartbeats 4000000 in
set_option maxRecDepth 100000 in
theorem c_X7_worth_out {G : GT} {B : Nat} {l : Launch} {H : Heap} {a L : Nat} {fp ra rf rw rx : Int32} {ir kb : Bool} {n nv ct nx sd sn bn : Nat} {ka ks kw : Int32} {kK kV dd : DD} {s what : Int32} (hq : wIx 1000 s = false ∨ what < 0 ∨ ¬ what ≤ 2) (hM : Mc G H a L fp ra rf rw rx ir kb n nv ct nx sd sn bn ka ks kw kK kV dd) : AM G B l yX7_worth cX7_worth 3 (some .int) 5 0 0 [.ref a, .int s, .int what] H (fun rv H' => rv = some (.int (-1000000002)) ∧ (H' = H)) := by
  have hM0 := hM
  obtain ⟨hm, ⟨fB, hBx, eB0, eB1, eB2⟩, ⟨fK, hKx, eK⟩, ⟨fV, hVx, eV⟩, ⟨fN, hNx, eS, eU, eO, e24, e25, e26⟩, hn, hnv⟩ := hM
  unfold mxL at hm
  refine AM.ofI (lv := [(0, .ref a), (1, .int s), (2, .int what)]) (by decide +kernel) (Nat.le_of_ble_eq_true rfl) rfl ?_ (fun _ h => by cases h.1)
  refine a_iload_n 1 dX7_worth_0 rfl rfl ?_
  refine a_callSp (As := [.int s]) (rest := []) (d := 1) (mc := 0) (ms := 0) (x := bI (wIx 1000 s)) l_X7_183 st_X7_isSound dX7_worth_1 ⟨Nat.le_of_ble_eq_true rfl, Nat.le_of_ble_eq_true rfl⟩ rfl (Nat.le_of_ble_eq_true rfl) ⟨Nat.le_of_ble_eq_true rfl, Nat.le_of_ble_eq_true rfl⟩ (c_X7_isSound) ?_
  refine a_ifeqB 16 dX7_worth_4 (by decide) (fun c4 => ?_) (fun c4 => ?_)
  · skip
    refine a_ldc (-1000000002) k_X7_62 dX7_worth_16 ?_
    refine a_goto 39 dX7_worth_18 (by decide) ?_
    refine a_ret dX7_worth_39 ⟨⟨ri ?_, ?_⟩, rfl, rfl⟩
    · rfl
    · rfl
  · skip
    refine a_iload_n 2 dX7_worth_7 rfl rfl ?_
    refine a_iconst 0 dX7_worth_8 (by decide) ?_
    refine a_iconst 2 dX7_worth_9 (by decide) ?_
    refine a_callSp (As := [.int what, .int 0, .int 2]) (rest := []) (d := 0) (mc := 0) (ms := 0) (x := bI (inF what 0 2)) l_X7_58 st_X7_in dX7_worth_10 ⟨Nat.le_of_ble_eq_true rfl, Nat.le_of_ble_eq_true rfl⟩ rfl (Nat.le_of_ble_eq_true rfl) ⟨Nat.le_of_ble_eq_true rfl, Nat.le_of_ble_eq_true rfl⟩ (c_X7_in) ?_
    refine a_ifneB 21 dX7_worth_13 (by decide) (fun c13 => ?_) (fun c13 => ?_)
    · skip
      rcases hq with h | h
      · exact absurd c4 (by rw [h]; decide)
      · exact absurd c13 (by rw [inF_n h]; decide)
    · skip
      refine a_ldc (-1000000002) k_X7_62 dX7_worth_16 ?_
      refine a_goto 39 dX7_worth_18 (by decide) ?_
      refine a_ret dX7_worth_39 ⟨⟨ri ?_, ?_⟩, rfl, rfl⟩
      · rfl
      · rfl
set_option maxHeartbeats 4000000 in
set_option maxRecDepth 100000 in
theorem c_X7_worth_not {G : GT} {B : Nat} {l : Launch} {H : Heap} {a L : Nat} {fp ra rf rw rx : Int32} {ir kb : Bool} {n nv ct nx sd sn bn : Nat} {ka ks kw : Int32} {kK kV dd : DD} {s : Int32} (hsn : wIx 1000 s = true) {q : Nat} (hq : q ≤ 2) (hn0 : n = 0) (hM : Mc G H a L fp ra rf rw rx ir kb n nv ct nx sd sn bn ka ks kw kK kV dd) : AM G B l yX7_worth cX7_worth 3 (some .int) 5 0 0 [.ref a, .int s, .int (nI q)] H (fun rv H' => rv = some (.int (-1000000003)) ∧ (H' = H)) := by
  have hM0 := hM
  obtain ⟨hm, ⟨fB, hBx, eB0, eB1, eB2⟩, ⟨fK, hKx, eK⟩, ⟨fV, hVx, eV⟩, ⟨fN, hNx, eS, eU, eO, e24, e25, e26⟩, hn, hnv⟩ := hM
  unfold mxL at hm
  refine AM.ofI (lv := [(0, .ref a), (1, .int s), (2, .int (nI q))]) (by decide +kernel) (Nat.le_of_ble_eq_true rfl) rfl ?_ (fun _ h => by cases h.1)
  refine a_iload_n 1 dX7_worth_0 rfl rfl ?_
  refine a_callSp (As := [.int s]) (rest := []) (d := 1) (mc := 0) (ms := 0) (x := bI (wIx 1000 s)) l_X7_183 st_X7_isSound dX7_worth_1 ⟨Nat.le_of_ble_eq_true rfl, Nat.le_of_ble_eq_true rfl⟩ rfl (Nat.le_of_ble_eq_true rfl) ⟨Nat.le_of_ble_eq_true rfl, Nat.le_of_ble_eq_true rfl⟩ (c_X7_isSound) ?_
  refine a_ifeqB 16 dX7_worth_4 (by decide) (fun c4 => ?_) (fun c4 => ?_)
  · skip
    exact absurd c4 (by rw [hsn]; decide)
  · skip
    refine a_iload_n 2 dX7_worth_7 rfl rfl ?_
    refine a_iconst 0 dX7_worth_8 (by decide) ?_
    refine a_iconst 2 dX7_worth_9 (by decide) ?_
    refine a_callSp (As := [.int (nI q), .int 0, .int 2]) (rest := []) (d := 0) (mc := 0) (ms := 0) (x := bI (inF (nI q) 0 2)) l_X7_58 st_X7_in dX7_worth_10 ⟨Nat.le_of_ble_eq_true rfl, Nat.le_of_ble_eq_true rfl⟩ rfl (Nat.le_of_ble_eq_true rfl) ⟨Nat.le_of_ble_eq_true rfl, Nat.le_of_ble_eq_true rfl⟩ (c_X7_in) ?_
    refine a_ifneB 21 dX7_worth_13 (by decide) (fun c13 => ?_) (fun c13 => ?_)
    · skip
      refine a_aload_n 0 dX7_worth_21 rfl rfl ?_
      refine a_get f_X7_120 dX7_worth_22 hm rfl ?_
      refine a_ifneN (a := n) 33 dX7_worth_25 (by decide) (by omega) (fun c25 => ?_) (fun c25 => ?_)
      · skip
        omega
      · skip
        refine a_ldc (-1000000003) k_X7_186 dX7_worth_28 ?_
        refine a_goto 39 dX7_worth_30 (by decide) ?_
        refine a_ret dX7_worth_39 ⟨⟨ri ?_, ?_⟩, rfl, rfl⟩
        · rfl
        · rfl
    · skip
      exact absurd c13 (by rw [(by rcases (show q = 0 ∨ q = 1 ∨ q = 2 by omega) with rfl | rfl | rfl <;> decide : inF (nI q) 0 2 = true)]; decide)
set_option maxHeartbeats 4000000 in
set_option maxRecDepth 100000 in
theorem c_X7_said {G : GT} {B : Nat} {l : Launch} {H : Heap} {a L : Nat} {fp ra rf rw rx : Int32} {ir kb : Bool} {n nv ct nx sd sn bn : Nat} {ka ks kw : Int32} {kK kV dd : DD} {w : Nat} (hw : w < n) {v : Nat} (hv : v < nv) (hM : Mc G H a L fp ra rf rw rx ir kb n nv ct nx sd sn bn ka ks kw kK kV dd) : AM G B l yX7_said cX7_said 3 (some .int) 2 0 0 [.ref a, .int (nI w), .int (nI v)] H (fun rv H' => rv = some (.int (spF dd kV w v)) ∧ (H' = H)) := by
  have hM0 := hM
  obtain ⟨hm, ⟨fB, hBx, eB0, eB1, eB2⟩, ⟨fK, hKx, eK⟩, ⟨fV, hVx, eV⟩, ⟨fN, hNx, eS, eU, eO, e24, e25, e26⟩, hn, hnv⟩ := hM
  unfold mxL at hm
  refine AM.ofI (lv := [(0, .ref a), (1, .int (nI w)), (2, .int (nI v))]) (by decide +kernel) (Nat.le_of_ble_eq_true rfl) rfl ?_ (fun _ h => by cases h.1)
  refine a_aload_n 0 dX7_said_0 rfl rfl ?_
  refine a_iload_n 1 dX7_said_1 rfl rfl ?_
  refine a_callVp (As := [.int (nI w)]) (rest := []) (d := 1) (mc := 0) (ms := 0) (x := bI (wIx n (nI w))) (ci := 7) l_X7_139 im_X7_isWord se_X7_isWord ⟨_, rfl, rfl⟩ dX7_said_2 ⟨Nat.le_of_ble_eq_true rfl, Nat.le_of_ble_eq_true rfl⟩ rfl (Nat.le_of_ble_eq_true rfl) ⟨Nat.le_of_ble_eq_true rfl, Nat.le_of_ble_eq_true rfl⟩ hm (c_X7_isWord hM0) ?_
  refine a_ifeqB 25 dX7_said_5 (by decide) (fun c5 => ?_) (fun c5 => ?_)
  · skip
    exact absurd c5 (by rw [wIx_nI hw (by omega)]; decide)
  · skip
    refine a_aload_n 0 dX7_said_8 rfl rfl ?_
    refine a_iload_n 2 dX7_said_9 rfl rfl ?_
    refine a_callVp (As := [.int (nI v)]) (rest := []) (d := 1) (mc := 0) (ms := 0) (x := bI (wIx nv (nI v))) (ci := 7) l_X7_143 im_X7_isVoice se_X7_isVoice ⟨_, rfl, rfl⟩ dX7_said_10 ⟨Nat.le_of_ble_eq_true rfl, Nat.le_of_ble_eq_true rfl⟩ rfl (Nat.le_of_ble_eq_true rfl) ⟨Nat.le_of_ble_eq_true rfl, Nat.le_of_ble_eq_true rfl⟩ hm (c_X7_isVoice hM0) ?_
    refine a_ifeqB 25 dX7_said_13 (by decide) (fun c13 => ?_) (fun c13 => ?_)
    · skip
      exact absurd c13 (by rw [wIx_nI hv (by omega)]; decide)
    · skip
      refine a_aload_n 0 dX7_said_16 rfl rfl ?_
      refine a_iload_n 1 dX7_said_17 rfl rfl ?_
      refine a_iload_n 2 dX7_said_18 rfl rfl ?_
      refine a_callVp (As := [.int (nI w), .int (nI v)]) (rest := []) (d := 1) (mc := 0) (ms := 0) (x := spF dd kV w v) (ci := 7) l_X7_215 im_X7_saidBy se_X7_saidBy ⟨_, rfl, rfl⟩ dX7_said_19 ⟨Nat.le_of_ble_eq_true rfl, Nat.le_of_ble_eq_true rfl⟩ rfl (Nat.le_of_ble_eq_true rfl) ⟨Nat.le_of_ble_eq_true rfl, Nat.le_of_ble_eq_true rfl⟩ hm (c_X7_saidBy hw hv hM0) ?_
      refine a_goto 27 dX7_said_22 (by decide) ?_
      refine a_ret dX7_said_27 ⟨⟨ri ?_, ?_⟩, rfl, rfl⟩
      · rfl
      · rfl
set_option maxHeartbeats 4000000 in
set_option maxRecDepth 100000 in
theorem c_X7_said_unk {G : GT} {B : Nat} {l : Launch} {H : Heap} {a L : Nat} {fp ra rf rw rx : Int32} {ir kb : Bool} {n nv ct nx sd sn bn : Nat} {ka ks kw : Int32} {kK kV dd : DD} {w v : Int32} (hq : wIx n w = false ∨ wIx nv v = false) (hM : Mc G H a L fp ra rf rw rx ir kb n nv ct nx sd sn bn ka ks kw kK kV dd) : AM G B l yX7_said cX7_said 3 (some .int) 2 0 0 [.ref a, .int w, .int v] H (fun rv H' => rv = some (.int (-1000000001)) ∧ (H' = H)) := by
  have hM0 := hM
  obtain ⟨hm, ⟨fB, hBx, eB0, eB1, eB2⟩, ⟨fK, hKx, eK⟩, ⟨fV, hVx, eV⟩, ⟨fN, hNx, eS, eU, eO, e24, e25, e26⟩, hn, hnv⟩ := hM
  unfold mxL at hm
  refine AM.ofI (lv := [(0, .ref a), (1, .int w), (2, .int v)]) (by decide +kernel) (Nat.le_of_ble_eq_true rfl) rfl ?_ (fun _ h => by cases h.1)
  refine a_aload_n 0 dX7_said_0 rfl rfl ?_
  refine a_iload_n 1 dX7_said_1 rfl rfl ?_
  refine a_callVp (As := [.int w]) (rest := []) (d := 1) (mc := 0) (ms := 0) (x := bI (wIx n w)) (ci := 7) l_X7_139 im_X7_isWord se_X7_isWord ⟨_, rfl, rfl⟩ dX7_said_2 ⟨Nat.le_of_ble_eq_true rfl, Nat.le_of_ble_eq_true rfl⟩ rfl (Nat.le_of_ble_eq_true rfl) ⟨Nat.le_of_ble_eq_true rfl, Nat.le_of_ble_eq_true rfl⟩ hm (c_X7_isWord hM0) ?_
  refine a_ifeqB 25 dX7_said_5 (by decide) (fun c5 => ?_) (fun c5 => ?_)
  · skip
    refine a_ldc (-1000000001) k_X7_142 dX7_said_25 ?_
    refine a_ret dX7_said_27 ⟨⟨ri ?_, ?_⟩, rfl, rfl⟩
    · rfl
    · rfl
  · skip
    refine a_aload_n 0 dX7_said_8 rfl rfl ?_
    refine a_iload_n 2 dX7_said_9 rfl rfl ?_
    refine a_callVp (As := [.int v]) (rest := []) (d := 1) (mc := 0) (ms := 0) (x := bI (wIx nv v)) (ci := 7) l_X7_143 im_X7_isVoice se_X7_isVoice ⟨_, rfl, rfl⟩ dX7_said_10 ⟨Nat.le_of_ble_eq_true rfl, Nat.le_of_ble_eq_true rfl⟩ rfl (Nat.le_of_ble_eq_true rfl) ⟨Nat.le_of_ble_eq_true rfl, Nat.le_of_ble_eq_true rfl⟩ hm (c_X7_isVoice hM0) ?_
    refine a_ifeqB 25 dX7_said_13 (by decide) (fun c13 => ?_) (fun c13 => ?_)
    · skip
      refine a_ldc (-1000000001) k_X7_142 dX7_said_25 ?_
      refine a_ret dX7_said_27 ⟨⟨ri ?_, ?_⟩, rfl, rfl⟩
      · rfl
      · rfl
    · skip
      rcases hq with h | h
      · exact absurd c5 (by rw [h]; decide)
      · exact absurd c13 (by rw [h]; decide)
set_option maxHeartbeats 4000000 in
set_option maxRecDepth 100000 in
theorem c_X7_misheard {G : GT} {B : Nat} {l : Launch} {H : Heap} {a L : Nat} {fp ra rf rw rx : Int32} {ir kb : Bool} {n nv ct nx sd sn bn : Nat} {ka ks kw : Int32} {kK kV dd : DD} {i : Int32} (hM : Mc G H a L fp ra rf rw rx ir kb n nv ct nx sd sn bn ka ks kw kK kV dd) : AM G B l yX7_misheard cX7_misheard 6 (some .int) 4 0 0 [.ref a, .int i] H (fun rv H' => rv = some (.int (lkv (ml2 n dd kV nv) i)) ∧ (H' = H)) := by
  have hM0 := hM
  obtain ⟨hm, ⟨fB, hBx, eB0, eB1, eB2⟩, ⟨fK, hKx, eK⟩, ⟨fV, hVx, eV⟩, ⟨fN, hNx, eS, eU, eO, e24, e25, e26⟩, hn, hnv⟩ := hM
  unfold mxL at hm
  refine AM.ofI (lv := [(0, .ref a), (1, .int i)]) (by decide +kernel) (Nat.le_of_ble_eq_true rfl) rfl ?_ (fun _ h => by cases h.1)
  refine a_iconst 0 dX7_misheard_0 (by decide) ?_
  refine a_istore_n (lv' := [(2, .int 0), (0, .ref a), (1, .int i)]) dX7_misheard_1 rfl (by decide) rfl ?_
  refine a_iconst (-1) dX7_misheard_2 (by decide) ?_
  refine a_istore_n (lv' := [(3, .int (-1)), (2, .int 0), (0, .ref a), (1, .int i)]) dX7_misheard_3 rfl (by decide) rfl ?_
  refine a_iconst 0 dX7_misheard_4 (by decide) ?_
  refine a_istore (lv' := [(4, .int 0), (3, .int (-1)), (2, .int 0), (0, .ref a), (1, .int i)]) dX7_misheard_5 (by decide) rfl ?_
  have L7 : ∀ (fu : Nat) (v c : Nat) (f : Int32), v ≤ nv → c = (ml2 n dd kV v).length → f = lkF (ml2 n dd kV v) i → nv - v < fu → AW G B l { frames := 4, cells := 0, slots := 0, locals := 27 * 4 } yX7_misheard.cls cX7_misheard 6 false (fun rv H' ce' sl' => (rv = some (.int (lkv (ml2 n dd kV nv) i)) ∧ (H' = H)) ∧ ce' = 0 ∧ sl' = 0) 7 [(0, .ref a), (1, .int i), (2, .int (nI c)), (3, .int f), (4, .int (nI v))] [] H 0 0 := by
    intro fu
    induction fu with
    | zero => intro v c f hv hc hf hm7; exact absurd hm7 (Nat.not_lt_zero _)
    | succ fu ih7 =>
      intro v c f hv hc hf hm7
      have hl1 := ml2_len (n := n) (dd := dd) (kV := kV) (v := v)
      have hl2 : v * n ≤ 4 * 8 := Nat.mul_le_mul (by omega) hn
      refine a_iload 4 dX7_misheard_7 rfl ?_
      refine a_aload_n 0 dX7_misheard_9 rfl rfl ?_
      refine a_get f_X7_123 dX7_misheard_10 hm rfl ?_
      refine a_icmpgeN (a := v) (b := nv) 78 dX7_misheard_13 (by decide) (by omega) (by omega) (fun c13 => ?_) (fun c13 => ?_)
      · skip
        refine a_iload_n 1 dX7_misheard_78 rfl rfl ?_
        refine a_iconst (-1) dX7_misheard_79 (by decide) ?_
        refine a_icmpne 87 dX7_misheard_80 (by decide) (fun c80 => ?_) (fun c80 => ?_)
        · skip
          refine a_iload_n 3 dX7_misheard_87 rfl rfl ?_
          refine a_ret dX7_misheard_88 ⟨⟨ri ?_, ?_⟩, rfl, rfl⟩
          · unfold lkv
            have e : nv = v := by omega
            subst e
            rw [if_neg c80, hf]
          · rfl
        · skip
          refine a_iload_n 2 dX7_misheard_83 rfl rfl ?_
          refine a_goto 88 dX7_misheard_84 (by decide) ?_
          refine a_ret dX7_misheard_88 ⟨⟨ri ?_, ?_⟩, rfl, rfl⟩
          · unfold lkv
            have e : nv = v := by omega
            subst e
            rw [if_pos c80, hc]
          · rfl
      · skip
        refine a_iconst 0 dX7_misheard_16 (by decide) ?_
        refine a_istore (lv' := [(5, .int 0), (0, .ref a), (1, .int i), (2, .int (nI c)), (3, .int f), (4, .int (nI v))]) dX7_misheard_17 (by decide) rfl ?_
        have L19 : ∀ (fu : Nat) (k c : Nat) (f : Int32), k ≤ n → c = (ml2 n dd kV v ++ ml1 n dd kV v k).length → f = lkF (ml2 n dd kV v ++ ml1 n dd kV v k) i → n - k < fu → AW G B l { frames := 4, cells := 0, slots := 0, locals := 27 * 4 } yX7_misheard.cls cX7_misheard 6 false (fun rv H' ce' sl' => (rv = some (.int (lkv (ml2 n dd kV nv) i)) ∧ (H' = H)) ∧ ce' = 0 ∧ sl' = 0) 19 [(0, .ref a), (1, .int i), (2, .int (nI c)), (3, .int f), (4, .int (nI v)), (5, .int (nI k))] [] H 0 0 := by
          intro fu
          induction fu with
          | zero => intro k c f hk hc hf hm19; exact absurd hm19 (Nat.not_lt_zero _)
          | succ fu ih19 =>
            intro k c f hk hc hf hm19
            have hl3 := ml1_len (n := n) (dd := dd) (kV := kV) (v := v) (k := k)
            have hl4 : c ≤ 40 := by rw [hc, List.length_append]; omega
            refine a_iload 5 dX7_misheard_19 rfl ?_
            refine a_aload_n 0 dX7_misheard_21 rfl rfl ?_
            refine a_get f_X7_120 dX7_misheard_22 hm rfl ?_
            refine a_icmpgeN (a := k) (b := n) 72 dX7_misheard_25 (by decide) (by omega) (by omega) (fun c25 => ?_) (fun c25 => ?_)
            · skip
              refine a_iincN (q := 4) (lv' := [(4, .int (nI (v + 1))), (0, .ref a), (1, .int i), (2, .int (nI c)), (3, .int f), (5, .int (nI k))]) dX7_misheard_72 rfl (by decide) rfl ?_
              refine a_goto 7 dX7_misheard_75 (by decide) ?_
              refine a_sub [1, 2, 3, 4, 0] rfl ?_
              exact ih7 _ _ _ (by omega) (by simp only [ml2]; exact hc.trans (by rw [show k = n by omega])) (by simp only [ml2]; exact hf.trans (by rw [show k = n by omega])) (by omega)
            · skip
              refine a_aload_n 0 dX7_misheard_28 rfl rfl ?_
              refine a_aload_n 0 dX7_misheard_29 rfl rfl ?_
              refine a_iload 5 dX7_misheard_30 rfl ?_
              refine a_iload 4 dX7_misheard_32 rfl ?_
              refine a_callVp (As := [.int (nI k), .int (nI v)]) (rest := [.ref a]) (d := 1) (mc := 0) (ms := 0) (x := spF dd kV k v) (ci := 7) l_X7_215 im_X7_saidBy se_X7_saidBy ⟨_, rfl, rfl⟩ dX7_misheard_34 ⟨Nat.le_of_ble_eq_true rfl, Nat.le_of_ble_eq_true rfl⟩ rfl (Nat.le_of_ble_eq_true rfl) ⟨Nat.le_of_ble_eq_true rfl, Nat.le_of_ble_eq_true rfl⟩ hm (c_X7_saidBy (by omega) (by omega) hM0) ?_
              refine a_callVp (As := [.int (spF dd kV k v)]) (rest := []) (d := 3) (mc := 0) (ms := 0) (x := unF n dd kV k v) (ci := 7) l_X7_161 im_X7_guessOf se_X7_guessOf ⟨_, rfl, rfl⟩ dX7_misheard_37 ⟨Nat.le_of_ble_eq_true rfl, Nat.le_of_ble_eq_true rfl⟩ rfl (Nat.le_of_ble_eq_true rfl) ⟨Nat.le_of_ble_eq_true rfl, Nat.le_of_ble_eq_true rfl⟩ hm (c_X7_guessOf hM0) ?_
              refine a_iload 5 dX7_misheard_40 rfl ?_
              refine a_icmpeq 66 dX7_misheard_42 (by decide) (fun c42 => ?_) (fun c42 => ?_)
              · skip
                refine a_iincN (q := 5) (lv' := [(5, .int (nI (k + 1))), (0, .ref a), (1, .int i), (2, .int (nI c)), (3, .int f), (4, .int (nI v))]) dX7_misheard_66 rfl (by decide) rfl ?_
                refine a_goto 19 dX7_misheard_69 (by decide) ?_
                refine a_sub [1, 2, 3, 4, 5, 0] rfl ?_
                exact ih19 _ _ _ (by omega) (by simp only [ml1]; rw [if_pos c42, List.append_nil, hc]) (by simp only [ml1]; rw [if_pos c42, List.append_nil]; exact hf) (by omega)
              · skip
                refine a_iload_n 2 dX7_misheard_45 rfl rfl ?_
                refine a_iload_n 1 dX7_misheard_46 rfl rfl ?_
                refine a_icmpne 61 dX7_misheard_47 (by decide) (fun c47 => ?_) (fun c47 => ?_)
                · skip
                  refine a_iload_n 3 dX7_misheard_61 rfl rfl ?_
                  refine a_istore_n (lv' := [(3, .int f), (0, .ref a), (1, .int i), (2, .int (nI c)), (4, .int (nI v)), (5, .int (nI k))]) dX7_misheard_62 rfl (by decide) rfl ?_
                  refine a_iincN (q := 3) (lv' := [(2, .int (nI (c + 1))), (3, .int f), (0, .ref a), (1, .int i), (4, .int (nI v)), (5, .int (nI k))]) dX7_misheard_63 rfl (by decide) rfl ?_
                  refine a_iincN (q := 5) (lv' := [(5, .int (nI (k + 1))), (2, .int (nI (c + 1))), (3, .int f), (0, .ref a), (1, .int i), (4, .int (nI v))]) dX7_misheard_66 rfl (by decide) rfl ?_
                  refine a_goto 19 dX7_misheard_69 (by decide) ?_
                  refine a_sub [3, 4, 1, 2, 5, 0] rfl ?_
                  exact ih19 _ _ _ (by omega) (by simp only [ml1]; rw [if_neg c42, ← List.append_assoc, List.length_append, hc]; rfl) (by simp only [ml1]; rw [if_neg c42, ← List.append_assoc, lkF_snoc (by rw [← hc]; omega), if_neg (by rw [← hc]; exact c47)]; exact hf) (by omega)
                · skip
                  refine a_bipush 10 dX7_misheard_50 (by decide) ?_
                  refine a_iload 4 dX7_misheard_52 rfl ?_
                  refine a_imulN (a := 10) (b := v) dX7_misheard_54 ?_
                  refine a_iload 5 dX7_misheard_55 rfl ?_
                  refine a_iaddN (a := 10 * v) (b := k) dX7_misheard_57 ?_
                  refine a_goto 62 dX7_misheard_58 (by decide) ?_
                  refine a_istore_n (lv' := [(3, .int (nI ((10 * v) + k))), (0, .ref a), (1, .int i), (2, .int (nI c)), (4, .int (nI v)), (5, .int (nI k))]) dX7_misheard_62 rfl (by decide) rfl ?_
                  refine a_iincN (q := 3) (lv' := [(2, .int (nI (c + 1))), (3, .int (nI ((10 * v) + k))), (0, .ref a), (1, .int i), (4, .int (nI v)), (5, .int (nI k))]) dX7_misheard_63 rfl (by decide) rfl ?_
                  refine a_iincN (q := 5) (lv' := [(5, .int (nI (k + 1))), (2, .int (nI (c + 1))), (3, .int (nI ((10 * v) + k))), (0, .ref a), (1, .int i), (4, .int (nI v))]) dX7_misheard_66 rfl (by decide) rfl ?_
                  refine a_goto 19 dX7_misheard_69 (by decide) ?_
                  refine a_sub [3, 4, 1, 2, 5, 0] rfl ?_
                  exact ih19 _ _ _ (by omega) (by simp only [ml1]; rw [if_neg c42, ← List.append_assoc, List.length_append, hc]; rfl) (by simp only [ml1]; rw [if_neg c42, ← List.append_assoc, lkF_snoc (by rw [← hc]; omega), if_pos (by rw [← hc]; exact c47)]) (by omega)
        refine a_sub [1, 2, 3, 4, 5, 0] rfl ?_
        exact L19 _ 0 c f (Nat.zero_le _) (by simp only [ml1, List.append_nil]; exact hc) (by simp only [ml1, List.append_nil]; exact hf) (Nat.lt_succ_self _)
  refine a_sub [3, 4, 2, 1, 0] rfl ?_
  exact L7 _ 0 0 (-1) (Nat.zero_le _) rfl (lkF_nil _).symm (Nat.lt_succ_self _)
set_option maxHeartbeats 4000000 in
set_option maxRecDepth 100000 in
theorem c_X7_meantBy {G : GT} {B : Nat} {l : Launch} {H : Heap} {a L : Nat} {fp ra rf rw rx : Int32} {ir kb : Bool} {n nv ct nx sd sn bn : Nat} {ka ks kw : Int32} {kK kV dd : DD} {v : Nat} {s : Int32} (hv : v < nv) (hM : Mc G H a L fp ra rf rw rx ir kb n nv ct nx sd sn bn ka ks kw kK kV dd) : AM G B l yX7_meantBy cX7_meantBy 5 (some .int) 2 0 0 [.ref a, .int (nI v), .int s] H (fun rv H' => rv = some (.int (wsF dd kV v s n)) ∧ (H' = H)) := by
  have hM0 := hM
  obtain ⟨hm, ⟨fB, hBx, eB0, eB1, eB2⟩, ⟨fK, hKx, eK⟩, ⟨fV, hVx, eV⟩, ⟨fN, hNx, eS, eU, eO, e24, e25, e26⟩, hn, hnv⟩ := hM
  unfold mxL at hm
  refine AM.ofI (lv := [(0, .ref a), (1, .int (nI v)), (2, .int s)]) (by decide +kernel) (Nat.le_of_ble_eq_true rfl) rfl ?_ (fun _ h => by cases h.1)
  refine a_iconst 0 dX7_meantBy_0 (by decide) ?_
  refine a_istore_n (lv' := [(3, .int 0), (0, .ref a), (1, .int (nI v)), (2, .int s)]) dX7_meantBy_1 rfl (by decide) rfl ?_
  refine a_iconst 0 dX7_meantBy_2 (by decide) ?_
  refine a_istore (lv' := [(4, .int 0), (3, .int 0), (0, .ref a), (1, .int (nI v)), (2, .int s)]) dX7_meantBy_3 (by decide) rfl ?_
  have L5 : ∀ (fu : Nat) (k : Nat) (r : Int32), k ≤ n → r = wsF dd kV v s k → n - k < fu → AW G B l { frames := 2, cells := 0, slots := 0, locals := 27 * 2 } yX7_meantBy.cls cX7_meantBy 5 false (fun rv H' ce' sl' => (rv = some (.int (wsF dd kV v s n)) ∧ (H' = H)) ∧ ce' = 0 ∧ sl' = 0) 5 [(0, .ref a), (1, .int (nI v)), (2, .int s), (3, .int r), (4, .int (nI k))] [] H 0 0 := by
    intro fu
    induction fu with
    | zero => intro k r hk hg hm5; exact absurd hm5 (Nat.not_lt_zero _)
    | succ fu ih5 =>
      intro k r hk hg hm5
      refine a_iload 4 dX7_meantBy_5 rfl ?_
      refine a_aload_n 0 dX7_meantBy_7 rfl rfl ?_
      refine a_get f_X7_120 dX7_meantBy_8 hm rfl ?_
      refine a_icmpgeN (a := k) (b := n) 42 dX7_meantBy_11 (by decide) (by omega) (by omega) (fun c11 => ?_) (fun c11 => ?_)
      · skip
        refine a_iload_n 3 dX7_meantBy_42 rfl rfl ?_
        refine a_ret dX7_meantBy_43 ⟨⟨ri ?_, ?_⟩, rfl, rfl⟩
        · rw [hg, show n = k by omega]
        · rfl
      · skip
        refine a_iload_n 3 dX7_meantBy_14 rfl rfl ?_
        refine a_aload_n 0 dX7_meantBy_15 rfl rfl ?_
        refine a_iload 4 dX7_meantBy_16 rfl ?_
        refine a_iload_n 1 dX7_meantBy_18 rfl rfl ?_
        refine a_callVp (As := [.int (nI k), .int (nI v)]) (rest := [.int r]) (d := 1) (mc := 0) (ms := 0) (x := spF dd kV k v) (ci := 7) l_X7_215 im_X7_saidBy se_X7_saidBy ⟨_, rfl, rfl⟩ dX7_meantBy_19 ⟨Nat.le_of_ble_eq_true rfl, Nat.le_of_ble_eq_true rfl⟩ rfl (Nat.le_of_ble_eq_true rfl) ⟨Nat.le_of_ble_eq_true rfl, Nat.le_of_ble_eq_true rfl⟩ hm (c_X7_saidBy (by omega) hv hM0) ?_
        refine a_iload_n 2 dX7_meantBy_22 rfl rfl ?_
        refine a_icmpne 33 dX7_meantBy_23 (by decide) (fun c23 => ?_) (fun c23 => ?_)
        · skip
          refine a_iconst 0 dX7_meantBy_33 (by decide) ?_
          refine a_ior dX7_meantBy_34 ?_
          refine a_istore_n (lv' := [(3, .int (r ||| 0)), (0, .ref a), (1, .int (nI v)), (2, .int s), (4, .int (nI k))]) dX7_meantBy_35 rfl (by decide) rfl ?_
          refine a_iincN (q := 4) (lv' := [(4, .int (nI (k + 1))), (3, .int (r ||| 0)), (0, .ref a), (1, .int (nI v)), (2, .int s)]) dX7_meantBy_36 rfl (by decide) rfl ?_
          refine a_goto 5 dX7_meantBy_39 (by decide) ?_
          refine a_sub [2, 3, 4, 1, 0] rfl ?_
          exact ih5 _ _ (by omega) (by simp only [wsF]; rw [if_neg c23, Int32.or_zero, hg]) (by omega)
        · skip
          refine a_iconst 1 dX7_meantBy_26 (by decide) ?_
          refine a_iload 4 dX7_meantBy_27 rfl ?_
          refine a_ishl dX7_meantBy_29 ?_
          refine a_goto 34 dX7_meantBy_30 (by decide) ?_
          refine a_ior dX7_meantBy_34 ?_
          refine a_istore_n (lv' := [(3, .int (r ||| (1 <<< ((nI k) &&& 31)))), (0, .ref a), (1, .int (nI v)), (2, .int s), (4, .int (nI k))]) dX7_meantBy_35 rfl (by decide) rfl ?_
          refine a_iincN (q := 4) (lv' := [(4, .int (nI (k + 1))), (3, .int (r ||| (1 <<< ((nI k) &&& 31)))), (0, .ref a), (1, .int (nI v)), (2, .int s)]) dX7_meantBy_36 rfl (by decide) rfl ?_
          refine a_goto 5 dX7_meantBy_39 (by decide) ?_
          refine a_sub [2, 3, 4, 1, 0] rfl ?_
          exact ih5 _ _ (by omega) (by simp only [wsF]; rw [if_pos c23, ← hg]; rfl) (by omega)
  refine a_sub [2, 3, 4, 1, 0] rfl ?_
  exact L5 _ 0 0 (Nat.zero_le _) rfl (Nat.lt_succ_self _)
set_option maxHeartbeats 4000000 in
set_option maxRecDepth 100000 in
theorem c_X7_who {G : GT} {B : Nat} {l : Launch} {H : Heap} {a L : Nat} {fp ra rf rw rx : Int32} {ir kb : Bool} {n nv ct nx sd sn bn : Nat} {ka ks kw : Int32} {kK kV dd : DD} {s : Int32} (hsn : wIx 1000 s = true) (hM : Mc G H a L fp ra rf rw rx ir kb n nv ct nx sd sn bn ka ks kw kK kV dd) : AM G B l yX7_who cX7_who 4 (some .int) 3 0 0 [.ref a, .int s] H (fun rv H' => rv = some (.int (whF n dd kV s nv)) ∧ (H' = H)) := by
  have hM0 := hM
  obtain ⟨hm, ⟨fB, hBx, eB0, eB1, eB2⟩, ⟨fK, hKx, eK⟩, ⟨fV, hVx, eV⟩, ⟨fN, hNx, eS, eU, eO, e24, e25, e26⟩, hn, hnv⟩ := hM
  unfold mxL at hm
  refine AM.ofI (lv := [(0, .ref a), (1, .int s)]) (by decide +kernel) (Nat.le_of_ble_eq_true rfl) rfl ?_ (fun _ h => by cases h.1)
  refine a_iload_n 1 dX7_who_0 rfl rfl ?_
  refine a_callSp (As := [.int s]) (rest := []) (d := 1) (mc := 0) (ms := 0) (x := bI (wIx 1000 s)) l_X7_183 st_X7_isSound dX7_who_1 ⟨Nat.le_of_ble_eq_true rfl, Nat.le_of_ble_eq_true rfl⟩ rfl (Nat.le_of_ble_eq_true rfl) ⟨Nat.le_of_ble_eq_true rfl, Nat.le_of_ble_eq_true rfl⟩ (c_X7_isSound) ?_
  refine a_ifneB 10 dX7_who_4 (by decide) (fun c4 => ?_) (fun c4 => ?_)
  · skip
    refine a_iconst 0 dX7_who_10 (by decide) ?_
    refine a_istore_n (lv' := [(2, .int 0), (0, .ref a), (1, .int s)]) dX7_who_11 rfl (by decide) rfl ?_
    refine a_iconst 0 dX7_who_12 (by decide) ?_
    refine a_istore_n (lv' := [(3, .int 0), (2, .int 0), (0, .ref a), (1, .int s)]) dX7_who_13 rfl (by decide) rfl ?_
    have L14 : ∀ (fu : Nat) (v : Nat) (r : Int32), v ≤ nv → r = whF n dd kV s v → nv - v < fu → AW G B l { frames := 3, cells := 0, slots := 0, locals := 27 * 3 } yX7_who.cls cX7_who 4 false (fun rv H' ce' sl' => (rv = some (.int (whF n dd kV s nv)) ∧ (H' = H)) ∧ ce' = 0 ∧ sl' = 0) 14 [(0, .ref a), (1, .int s), (2, .int r), (3, .int (nI v))] [] H 0 0 := by
      intro fu
      induction fu with
      | zero => intro v r hk hg hm14; exact absurd hm14 (Nat.not_lt_zero _)
      | succ fu ih14 =>
        intro v r hk hg hm14
        refine a_iload_n 3 dX7_who_14 rfl rfl ?_
        refine a_aload_n 0 dX7_who_15 rfl rfl ?_
        refine a_get f_X7_123 dX7_who_16 hm rfl ?_
        refine a_icmpgeN (a := v) (b := nv) 47 dX7_who_19 (by decide) (by omega) (by omega) (fun c19 => ?_) (fun c19 => ?_)
        · skip
          refine a_iload_n 2 dX7_who_47 rfl rfl ?_
          refine a_ret dX7_who_48 ⟨⟨ri ?_, ?_⟩, rfl, rfl⟩
          · rw [hg, show nv = v by omega]
          · rfl
        · skip
          refine a_iload_n 2 dX7_who_22 rfl rfl ?_
          refine a_aload_n 0 dX7_who_23 rfl rfl ?_
          refine a_iload_n 3 dX7_who_24 rfl rfl ?_
          refine a_iload_n 1 dX7_who_25 rfl rfl ?_
          refine a_callVp (As := [.int (nI v), .int s]) (rest := [.int r]) (d := 2) (mc := 0) (ms := 0) (x := wsF dd kV v s n) (ci := 7) l_X7_218 im_X7_meantBy se_X7_meantBy ⟨_, rfl, rfl⟩ dX7_who_26 ⟨Nat.le_of_ble_eq_true rfl, Nat.le_of_ble_eq_true rfl⟩ rfl (Nat.le_of_ble_eq_true rfl) ⟨Nat.le_of_ble_eq_true rfl, Nat.le_of_ble_eq_true rfl⟩ hm (c_X7_meantBy (by omega) hM0) ?_
          refine a_ifeq 38 dX7_who_29 (by decide) (fun c29 => ?_) (fun c29 => ?_)
          · skip
            refine a_iconst 0 dX7_who_38 (by decide) ?_
            refine a_ior dX7_who_39 ?_
            refine a_istore_n (lv' := [(2, .int (r ||| 0)), (0, .ref a), (1, .int s), (3, .int (nI v))]) dX7_who_40 rfl (by decide) rfl ?_
            refine a_iincN (q := 3) (lv' := [(3, .int (nI (v + 1))), (2, .int (r ||| 0)), (0, .ref a), (1, .int s)]) dX7_who_41 rfl (by decide) rfl ?_
            refine a_goto 14 dX7_who_44 (by decide) ?_
            refine a_sub [2, 3, 1, 0] rfl ?_
            exact ih14 _ _ (by omega) (by simp only [whF]; rw [if_pos c29, Int32.or_zero, hg]) (by omega)
          · skip
            refine a_iconst 1 dX7_who_32 (by decide) ?_
            refine a_iload_n 3 dX7_who_33 rfl rfl ?_
            refine a_ishl dX7_who_34 ?_
            refine a_goto 39 dX7_who_35 (by decide) ?_
            refine a_ior dX7_who_39 ?_
            refine a_istore_n (lv' := [(2, .int (r ||| (1 <<< ((nI v) &&& 31)))), (0, .ref a), (1, .int s), (3, .int (nI v))]) dX7_who_40 rfl (by decide) rfl ?_
            refine a_iincN (q := 3) (lv' := [(3, .int (nI (v + 1))), (2, .int (r ||| (1 <<< ((nI v) &&& 31)))), (0, .ref a), (1, .int s)]) dX7_who_41 rfl (by decide) rfl ?_
            refine a_goto 14 dX7_who_44 (by decide) ?_
            refine a_sub [2, 3, 1, 0] rfl ?_
            exact ih14 _ _ (by omega) (by simp only [whF]; rw [if_neg c29, ← hg]; rfl) (by omega)
    refine a_sub [2, 3, 1, 0] rfl ?_
    exact L14 _ 0 0 (Nat.zero_le _) rfl (Nat.lt_succ_self _)
  · skip
    exact absurd c4 (by rw [hsn]; decide)
set_option maxHeartbeats 4000000 in
set_option maxRecDepth 100000 in
theorem c_X7_who_out {G : GT} {B : Nat} {l : Launch} {H : Heap} {a L : Nat} {fp ra rf rw rx : Int32} {ir kb : Bool} {n nv ct nx sd sn bn : Nat} {ka ks kw : Int32} {kK kV dd : DD} {s : Int32} (hsn : wIx 1000 s = false) (hM : Mc G H a L fp ra rf rw rx ir kb n nv ct nx sd sn bn ka ks kw kK kV dd) : AM G B l yX7_who cX7_who 4 (some .int) 3 0 0 [.ref a, .int s] H (fun rv H' => rv = some (.int (-1000000002)) ∧ (H' = H)) := by
  have hM0 := hM
  obtain ⟨hm, ⟨fB, hBx, eB0, eB1, eB2⟩, ⟨fK, hKx, eK⟩, ⟨fV, hVx, eV⟩, ⟨fN, hNx, eS, eU, eO, e24, e25, e26⟩, hn, hnv⟩ := hM
  unfold mxL at hm
  refine AM.ofI (lv := [(0, .ref a), (1, .int s)]) (by decide +kernel) (Nat.le_of_ble_eq_true rfl) rfl ?_ (fun _ h => by cases h.1)
  refine a_iload_n 1 dX7_who_0 rfl rfl ?_
  refine a_callSp (As := [.int s]) (rest := []) (d := 1) (mc := 0) (ms := 0) (x := bI (wIx 1000 s)) l_X7_183 st_X7_isSound dX7_who_1 ⟨Nat.le_of_ble_eq_true rfl, Nat.le_of_ble_eq_true rfl⟩ rfl (Nat.le_of_ble_eq_true rfl) ⟨Nat.le_of_ble_eq_true rfl, Nat.le_of_ble_eq_true rfl⟩ (c_X7_isSound) ?_
  refine a_ifneB 10 dX7_who_4 (by decide) (fun c4 => ?_) (fun c4 => ?_)
  · skip
    exact absurd c4 (by rw [hsn]; decide)
  · skip
    refine a_ldc (-1000000002) k_X7_62 dX7_who_7 ?_
    refine a_ret dX7_who_9 ⟨⟨ri ?_, ?_⟩, rfl, rfl⟩
    · rfl
    · rfl
set_option maxHeartbeats 4000000 in
set_option maxRecDepth 100000 in
theorem c_X7_meant {G : GT} {B : Nat} {l : Launch} {H : Heap} {a L : Nat} {fp ra rf rw rx : Int32} {ir kb : Bool} {n nv ct nx sd sn bn : Nat} {ka ks kw : Int32} {kK kV dd : DD} {v : Nat} (hv : v < nv) {s : Int32} (hsn : wIx 1000 s = true) (hM : Mc G H a L fp ra rf rw rx ir kb n nv ct nx sd sn bn ka ks kw kK kV dd) : AM G B l yX7_meant cX7_meant 3 (some .int) 3 0 0 [.ref a, .int (nI v), .int s] H (fun rv H' => rv = some (.int (wsF dd kV v s n)) ∧ (H' = H)) := by
  have hM0 := hM
  obtain ⟨hm, ⟨fB, hBx, eB0, eB1, eB2⟩, ⟨fK, hKx, eK⟩, ⟨fV, hVx, eV⟩, ⟨fN, hNx, eS, eU, eO, e24, e25, e26⟩, hn, hnv⟩ := hM
  unfold mxL at hm
  refine AM.ofI (lv := [(0, .ref a), (1, .int (nI v)), (2, .int s)]) (by decide +kernel) (Nat.le_of_ble_eq_true rfl) rfl ?_ (fun _ h => by cases h.1)
  refine a_aload_n 0 dX7_meant_0 rfl rfl ?_
  refine a_iload_n 1 dX7_meant_1 rfl rfl ?_
  refine a_callVp (As := [.int (nI v)]) (rest := []) (d := 1) (mc := 0) (ms := 0) (x := bI (wIx nv (nI v))) (ci := 7) l_X7_143 im_X7_isVoice se_X7_isVoice ⟨_, rfl, rfl⟩ dX7_meant_2 ⟨Nat.le_of_ble_eq_true rfl, Nat.le_of_ble_eq_true rfl⟩ rfl (Nat.le_of_ble_eq_true rfl) ⟨Nat.le_of_ble_eq_true rfl, Nat.le_of_ble_eq_true rfl⟩ hm (c_X7_isVoice hM0) ?_
  refine a_ifneB 13 dX7_meant_5 (by decide) (fun c5 => ?_) (fun c5 => ?_)
  · skip
    refine a_iload_n 2 dX7_meant_13 rfl rfl ?_
    refine a_callSp (As := [.int s]) (rest := []) (d := 1) (mc := 0) (ms := 0) (x := bI (wIx 1000 s)) l_X7_183 st_X7_isSound dX7_meant_14 ⟨Nat.le_of_ble_eq_true rfl, Nat.le_of_ble_eq_true rfl⟩ rfl (Nat.le_of_ble_eq_true rfl) ⟨Nat.le_of_ble_eq_true rfl, Nat.le_of_ble_eq_true rfl⟩ (c_X7_isSound) ?_
    refine a_ifeqB 29 dX7_meant_17 (by decide) (fun c17 => ?_) (fun c17 => ?_)
    · skip
      exact absurd c17 (by rw [hsn]; decide)
    · skip
      refine a_aload_n 0 dX7_meant_20 rfl rfl ?_
      refine a_iload_n 1 dX7_meant_21 rfl rfl ?_
      refine a_iload_n 2 dX7_meant_22 rfl rfl ?_
      refine a_callVp (As := [.int (nI v), .int s]) (rest := []) (d := 2) (mc := 0) (ms := 0) (x := wsF dd kV v s n) (ci := 7) l_X7_218 im_X7_meantBy se_X7_meantBy ⟨_, rfl, rfl⟩ dX7_meant_23 ⟨Nat.le_of_ble_eq_true rfl, Nat.le_of_ble_eq_true rfl⟩ rfl (Nat.le_of_ble_eq_true rfl) ⟨Nat.le_of_ble_eq_true rfl, Nat.le_of_ble_eq_true rfl⟩ hm (c_X7_meantBy hv hM0) ?_
      refine a_goto 31 dX7_meant_26 (by decide) ?_
      refine a_ret dX7_meant_31 ⟨⟨ri ?_, ?_⟩, rfl, rfl⟩
      · rfl
      · rfl
  · skip
    exact absurd c5 (by rw [wIx_nI hv (by omega)]; decide)
set_option maxHeartbeats 4000000 in
set_option maxRecDepth 100000 in
theorem c_X7_meant_unk {G : GT} {B : Nat} {l : Launch} {H : Heap} {a L : Nat} {fp ra rf rw rx : Int32} {ir kb : Bool} {n nv ct nx sd sn bn : Nat} {ka ks kw : Int32} {kK kV dd : DD} {v : Int32} (hv : wIx nv v = false) {s : Int32} (hM : Mc G H a L fp ra rf rw rx ir kb n nv ct nx sd sn bn ka ks kw kK kV dd) : AM G B l yX7_meant cX7_meant 3 (some .int) 3 0 0 [.ref a, .int v, .int s] H (fun rv H' => rv = some (.int (-1000000001)) ∧ (H' = H)) := by
  have hM0 := hM
  obtain ⟨hm, ⟨fB, hBx, eB0, eB1, eB2⟩, ⟨fK, hKx, eK⟩, ⟨fV, hVx, eV⟩, ⟨fN, hNx, eS, eU, eO, e24, e25, e26⟩, hn, hnv⟩ := hM
  unfold mxL at hm
  refine AM.ofI (lv := [(0, .ref a), (1, .int v), (2, .int s)]) (by decide +kernel) (Nat.le_of_ble_eq_true rfl) rfl ?_ (fun _ h => by cases h.1)
  refine a_aload_n 0 dX7_meant_0 rfl rfl ?_
  refine a_iload_n 1 dX7_meant_1 rfl rfl ?_
  refine a_callVp (As := [.int v]) (rest := []) (d := 1) (mc := 0) (ms := 0) (x := bI (wIx nv v)) (ci := 7) l_X7_143 im_X7_isVoice se_X7_isVoice ⟨_, rfl, rfl⟩ dX7_meant_2 ⟨Nat.le_of_ble_eq_true rfl, Nat.le_of_ble_eq_true rfl⟩ rfl (Nat.le_of_ble_eq_true rfl) ⟨Nat.le_of_ble_eq_true rfl, Nat.le_of_ble_eq_true rfl⟩ hm (c_X7_isVoice hM0) ?_
  refine a_ifneB 13 dX7_meant_5 (by decide) (fun c5 => ?_) (fun c5 => ?_)
  · skip
    exact absurd c5 (by rw [hv]; decide)
  · skip
    refine a_ldc (-1000000001) k_X7_142 dX7_meant_8 ?_
    refine a_goto 31 dX7_meant_10 (by decide) ?_
    refine a_ret dX7_meant_31 ⟨⟨ri ?_, ?_⟩, rfl, rfl⟩
    · rfl
    · rfl
set_option maxHeartbeats 4000000 in
set_option maxRecDepth 100000 in
theorem c_X7_meant_out {G : GT} {B : Nat} {l : Launch} {H : Heap} {a L : Nat} {fp ra rf rw rx : Int32} {ir kb : Bool} {n nv ct nx sd sn bn : Nat} {ka ks kw : Int32} {kK kV dd : DD} {v : Nat} (hv : v < nv) {s : Int32} (hsn : wIx 1000 s = false) (hM : Mc G H a L fp ra rf rw rx ir kb n nv ct nx sd sn bn ka ks kw kK kV dd) : AM G B l yX7_meant cX7_meant 3 (some .int) 3 0 0 [.ref a, .int (nI v), .int s] H (fun rv H' => rv = some (.int (-1000000002)) ∧ (H' = H)) := by
  have hM0 := hM
  obtain ⟨hm, ⟨fB, hBx, eB0, eB1, eB2⟩, ⟨fK, hKx, eK⟩, ⟨fV, hVx, eV⟩, ⟨fN, hNx, eS, eU, eO, e24, e25, e26⟩, hn, hnv⟩ := hM
  unfold mxL at hm
  refine AM.ofI (lv := [(0, .ref a), (1, .int (nI v)), (2, .int s)]) (by decide +kernel) (Nat.le_of_ble_eq_true rfl) rfl ?_ (fun _ h => by cases h.1)
  refine a_aload_n 0 dX7_meant_0 rfl rfl ?_
  refine a_iload_n 1 dX7_meant_1 rfl rfl ?_
  refine a_callVp (As := [.int (nI v)]) (rest := []) (d := 1) (mc := 0) (ms := 0) (x := bI (wIx nv (nI v))) (ci := 7) l_X7_143 im_X7_isVoice se_X7_isVoice ⟨_, rfl, rfl⟩ dX7_meant_2 ⟨Nat.le_of_ble_eq_true rfl, Nat.le_of_ble_eq_true rfl⟩ rfl (Nat.le_of_ble_eq_true rfl) ⟨Nat.le_of_ble_eq_true rfl, Nat.le_of_ble_eq_true rfl⟩ hm (c_X7_isVoice hM0) ?_
  refine a_ifneB 13 dX7_meant_5 (by decide) (fun c5 => ?_) (fun c5 => ?_)
  · skip
    refine a_iload_n 2 dX7_meant_13 rfl rfl ?_
    refine a_callSp (As := [.int s]) (rest := []) (d := 1) (mc := 0) (ms := 0) (x := bI (wIx 1000 s)) l_X7_183 st_X7_isSound dX7_meant_14 ⟨Nat.le_of_ble_eq_true rfl, Nat.le_of_ble_eq_true rfl⟩ rfl (Nat.le_of_ble_eq_true rfl) ⟨Nat.le_of_ble_eq_true rfl, Nat.le_of_ble_eq_true rfl⟩ (c_X7_isSound) ?_
    refine a_ifeqB 29 dX7_meant_17 (by decide) (fun c17 => ?_) (fun c17 => ?_)
    · skip
      refine a_ldc (-1000000002) k_X7_62 dX7_meant_29 ?_
      refine a_ret dX7_meant_31 ⟨⟨ri ?_, ?_⟩, rfl, rfl⟩
      · rfl
      · rfl
    · skip
      exact absurd c17 (by rw [hsn]; decide)
  · skip
    exact absurd c5 (by rw [wIx_nI hv (by omega)]; decide)
set_option maxHeartbeats 4000000 in
set_option maxRecDepth 100000 in
theorem c_X7_alike {G : GT} {B : Nat} {l : Launch} {H : Heap} {a L : Nat} {fp ra rf rw rx : Int32} {ir kb : Bool} {n nv ct nx sd sn bn : Nat} {ka ks kw : Int32} {kK kV dd : DD} {m i : Int32} (hm28 : wIx 28 m = true) (hM : Mc G H a L fp ra rf rw rx ir kb n nv ct nx sd sn bn ka ks kw kK kV dd) : AM G B l yX7_alike cX7_alike 7 (some .int) 2 0 0 [.ref a, .int m, .int i] H (fun rv H' => rv = some (.int (lkv (al2 n dd m n) i)) ∧ (H' = H)) := by
  have hM0 := hM
  obtain ⟨hm, ⟨fB, hBx, eB0, eB1, eB2⟩, ⟨fK, hKx, eK⟩, ⟨fV, hVx, eV⟩, ⟨fN, hNx, eS, eU, eO, e24, e25, e26⟩, hn, hnv⟩ := hM
  unfold mxL at hm
  refine AM.ofI (lv := [(0, .ref a), (1, .int m), (2, .int i)]) (by decide +kernel) (Nat.le_of_ble_eq_true rfl) rfl ?_ (fun _ h => by cases h.1)
  refine a_iload_n 1 dX7_alike_0 rfl rfl ?_
  refine a_iconst 0 dX7_alike_1 (by decide) ?_
  refine a_bipush 27 dX7_alike_2 (by decide) ?_
  refine a_callSp (As := [.int m, .int 0, .int 27]) (rest := []) (d := 0) (mc := 0) (ms := 0) (x := bI (inF m 0 27)) l_X7_58 st_X7_in dX7_alike_4 ⟨Nat.le_of_ble_eq_true rfl, Nat.le_of_ble_eq_true rfl⟩ rfl (Nat.le_of_ble_eq_true rfl) ⟨Nat.le_of_ble_eq_true rfl, Nat.le_of_ble_eq_true rfl⟩ (c_X7_in) ?_
  rw [inF_28]
  refine a_ifneB 13 dX7_alike_7 (by decide) (fun c7 => ?_) (fun c7 => ?_)
  · skip
    refine a_iconst 0 dX7_alike_13 (by decide) ?_
    refine a_istore_n (lv' := [(3, .int 0), (0, .ref a), (1, .int m), (2, .int i)]) dX7_alike_14 rfl (by decide) rfl ?_
    refine a_iconst (-1) dX7_alike_15 (by decide) ?_
    refine a_istore (lv' := [(4, .int (-1)), (3, .int 0), (0, .ref a), (1, .int m), (2, .int i)]) dX7_alike_16 (by decide) rfl ?_
    refine a_iconst 0 dX7_alike_18 (by decide) ?_
    refine a_istore (lv' := [(5, .int 0), (4, .int (-1)), (3, .int 0), (0, .ref a), (1, .int m), (2, .int i)]) dX7_alike_19 (by decide) rfl ?_
    have L21 : ∀ (fu : Nat) (p c : Nat) (f : Int32), p ≤ n → c = (al2 n dd m p).length → f = lkF (al2 n dd m p) i → n - p < fu → AW G B l { frames := 2, cells := 0, slots := 0, locals := 27 * 2 } yX7_alike.cls cX7_alike 7 false (fun rv H' ce' sl' => (rv = some (.int (lkv (al2 n dd m n) i)) ∧ (H' = H)) ∧ ce' = 0 ∧ sl' = 0) 21 [(0, .ref a), (1, .int m), (2, .int i), (3, .int (nI c)), (4, .int f), (5, .int (nI p))] [] H 0 0 := by
      intro fu
      induction fu with
      | zero => intro p c f ha hc hf hm21; exact absurd hm21 (Nat.not_lt_zero _)
      | succ fu ih21 =>
        intro p c f ha hc hf hm21
        have hl1 := al2_len (n := n) (dd := dd) (m := m) (a := p)
        have hl2 : p * n ≤ 8 * 8 := Nat.mul_le_mul (by omega) hn
        refine a_iload 5 dX7_alike_21 rfl ?_
        refine a_aload_n 0 dX7_alike_23 rfl rfl ?_
        refine a_get f_X7_120 dX7_alike_24 hm rfl ?_
        refine a_icmpgeN (a := p) (b := n) 101 dX7_alike_27 (by decide) (by omega) (by omega) (fun c27 => ?_) (fun c27 => ?_)
        · skip
          refine a_iload_n 2 dX7_alike_101 rfl rfl ?_
          refine a_iconst (-1) dX7_alike_102 (by decide) ?_
          refine a_icmpne 110 dX7_alike_103 (by decide) (fun c103 => ?_) (fun c103 => ?_)
          · skip
            refine a_iload 4 dX7_alike_110 rfl ?_
            refine a_ret dX7_alike_112 ⟨⟨ri ?_, ?_⟩, rfl, rfl⟩
            · unfold lkv
              have e : n = p := by omega
              subst e
              rw [if_neg c103, hf]
            · rfl
          · skip
            refine a_iload_n 3 dX7_alike_106 rfl rfl ?_
            refine a_goto 112 dX7_alike_107 (by decide) ?_
            refine a_ret dX7_alike_112 ⟨⟨ri ?_, ?_⟩, rfl, rfl⟩
            · unfold lkv
              have e : n = p := by omega
              subst e
              rw [if_pos c103, hc]
            · rfl
        · skip
          refine a_iload 5 dX7_alike_30 rfl ?_
          refine a_iconst 1 dX7_alike_32 (by decide) ?_
          refine a_iaddN (a := p) (b := 1) dX7_alike_33 ?_
          refine a_istore (lv' := [(6, .int (nI (p + 1))), (0, .ref a), (1, .int m), (2, .int i), (3, .int (nI c)), (4, .int f), (5, .int (nI p))]) dX7_alike_34 (by decide) rfl ?_
          have L36 : ∀ (fu : Nat) (k c : Nat) (f : Int32), k ≤ n → p < k → c = (al2 n dd m p ++ al1 dd m p k).length → f = lkF (al2 n dd m p ++ al1 dd m p k) i → n - k < fu → AW G B l { frames := 2, cells := 0, slots := 0, locals := 27 * 2 } yX7_alike.cls cX7_alike 7 false (fun rv H' ce' sl' => (rv = some (.int (lkv (al2 n dd m n) i)) ∧ (H' = H)) ∧ ce' = 0 ∧ sl' = 0) 36 [(0, .ref a), (1, .int m), (2, .int i), (3, .int (nI c)), (4, .int f), (5, .int (nI p)), (6, .int (nI k))] [] H 0 0 := by
            intro fu
            induction fu with
            | zero => intro k c f hk hak hc hf hm36; exact absurd hm36 (Nat.not_lt_zero _)
            | succ fu ih36 =>
              intro k c f hk hak hc hf hm36
              have hl3 := al1_len (dd := dd) (m := m) (a := p) (k := k)
              have hl4 : c ≤ 80 := by rw [hc, List.length_append]; omega
              refine a_iload 6 dX7_alike_36 rfl ?_
              refine a_aload_n 0 dX7_alike_38 rfl rfl ?_
              refine a_get f_X7_120 dX7_alike_39 hm rfl ?_
              refine a_icmpgeN (a := k) (b := n) 95 dX7_alike_42 (by decide) (by omega) (by omega) (fun c42 => ?_) (fun c42 => ?_)
              · skip
                refine a_iincN (q := 5) (lv' := [(5, .int (nI (p + 1))), (0, .ref a), (1, .int m), (2, .int i), (3, .int (nI c)), (4, .int f), (6, .int (nI k))]) dX7_alike_95 rfl (by decide) rfl ?_
                refine a_goto 21 dX7_alike_98 (by decide) ?_
                refine a_sub [1, 2, 3, 4, 5, 0] rfl ?_
                exact ih21 _ _ _ (by omega) (by simp only [al2]; exact hc.trans (by rw [show k = n by omega])) (by simp only [al2]; exact hf.trans (by rw [show k = n by omega])) (by omega)
              · skip
                refine a_aload_n 0 dX7_alike_45 rfl rfl ?_
                refine a_get f_X7_35 dX7_alike_46 hm rfl ?_
                refine a_iload 5 dX7_alike_49 rfl ?_
                refine a_ialdN (j := p) dX7_alike_51 hNx (by omega) (by decide) ?_
                refine a_toeq (dd p) (eS _ (by omega)) ?_
                refine a_aload_n 0 dX7_alike_52 rfl rfl ?_
                refine a_get f_X7_35 dX7_alike_53 hm rfl ?_
                refine a_iload 6 dX7_alike_56 rfl ?_
                refine a_ialdN (j := k) dX7_alike_58 hNx (by omega) (by decide) ?_
                refine a_toeq (dd k) (eS _ (by omega)) ?_
                refine a_callSp (As := [.int (dd p), .int (dd k)]) (rest := []) (d := 1) (mc := 0) (ms := 0) (x := apF (dd p) (dd k)) l_X7_153 st_X7_apart dX7_alike_59 ⟨Nat.le_of_ble_eq_true rfl, Nat.le_of_ble_eq_true rfl⟩ rfl (Nat.le_of_ble_eq_true rfl) ⟨Nat.le_of_ble_eq_true rfl, Nat.le_of_ble_eq_true rfl⟩ (c_X7_apart) ?_
                refine a_iload_n 1 dX7_alike_62 rfl rfl ?_
                refine a_icmpgt 89 dX7_alike_63 (by decide) (fun c63 => ?_) (fun c63 => ?_)
                · skip
                  refine a_iincN (q := 6) (lv' := [(6, .int (nI (k + 1))), (0, .ref a), (1, .int m), (2, .int i), (3, .int (nI c)), (4, .int f), (5, .int (nI p))]) dX7_alike_89 rfl (by decide) rfl ?_
                  refine a_goto 36 dX7_alike_92 (by decide) ?_
                  refine a_sub [1, 2, 3, 4, 5, 6, 0] rfl ?_
                  exact ih36 _ _ _ (by omega) (by omega) (by simp only [al1]; rw [if_neg (fun h => absurd c63 (Int32.not_lt.mpr h.2)), List.append_nil, hc]) (by simp only [al1]; rw [if_neg (fun h => absurd c63 (Int32.not_lt.mpr h.2)), List.append_nil]; exact hf) (by omega)
                · skip
                  refine a_iload_n 3 dX7_alike_66 rfl rfl ?_
                  refine a_iload_n 2 dX7_alike_67 rfl rfl ?_
                  refine a_icmpne 82 dX7_alike_68 (by decide) (fun c68 => ?_) (fun c68 => ?_)
                  · skip
                    refine a_iload 4 dX7_alike_82 rfl ?_
                    refine a_istore (lv' := [(4, .int f), (0, .ref a), (1, .int m), (2, .int i), (3, .int (nI c)), (5, .int (nI p)), (6, .int (nI k))]) dX7_alike_84 (by decide) rfl ?_
                    refine a_iincN (q := 4) (lv' := [(3, .int (nI (c + 1))), (4, .int f), (0, .ref a), (1, .int m), (2, .int i), (5, .int (nI p)), (6, .int (nI k))]) dX7_alike_86 rfl (by decide) rfl ?_
                    refine a_iincN (q := 6) (lv' := [(6, .int (nI (k + 1))), (3, .int (nI (c + 1))), (4, .int f), (0, .ref a), (1, .int m), (2, .int i), (5, .int (nI p))]) dX7_alike_89 rfl (by decide) rfl ?_
                    refine a_goto 36 dX7_alike_92 (by decide) ?_
                    refine a_sub [3, 4, 5, 1, 2, 6, 0] rfl ?_
                    exact ih36 _ _ _ (by omega) (by omega) (by simp only [al1]; rw [if_pos (And.intro (by omega) (Int32.not_lt.mp c63)), ← List.append_assoc, List.length_append, hc]; rfl) (by simp only [al1]; rw [if_pos (And.intro (by omega) (Int32.not_lt.mp c63)), ← List.append_assoc, lkF_snoc (by rw [← hc]; omega), if_neg (by rw [← hc]; exact c68)]; exact hf) (by omega)
                  · skip
                    refine a_bipush 10 dX7_alike_71 (by decide) ?_
                    refine a_iload 5 dX7_alike_73 rfl ?_
                    refine a_imulN (a := 10) (b := p) dX7_alike_75 ?_
                    refine a_iload 6 dX7_alike_76 rfl ?_
                    refine a_iaddN (a := 10 * p) (b := k) dX7_alike_78 ?_
                    refine a_goto 84 dX7_alike_79 (by decide) ?_
                    refine a_istore (lv' := [(4, .int (nI ((10 * p) + k))), (0, .ref a), (1, .int m), (2, .int i), (3, .int (nI c)), (5, .int (nI p)), (6, .int (nI k))]) dX7_alike_84 (by decide) rfl ?_
                    refine a_iincN (q := 4) (lv' := [(3, .int (nI (c + 1))), (4, .int (nI ((10 * p) + k))), (0, .ref a), (1, .int m), (2, .int i), (5, .int (nI p)), (6, .int (nI k))]) dX7_alike_86 rfl (by decide) rfl ?_
                    refine a_iincN (q := 6) (lv' := [(6, .int (nI (k + 1))), (3, .int (nI (c + 1))), (4, .int (nI ((10 * p) + k))), (0, .ref a), (1, .int m), (2, .int i), (5, .int (nI p))]) dX7_alike_89 rfl (by decide) rfl ?_
                    refine a_goto 36 dX7_alike_92 (by decide) ?_
                    refine a_sub [3, 4, 5, 1, 2, 6, 0] rfl ?_
                    exact ih36 _ _ _ (by omega) (by omega) (by simp only [al1]; rw [if_pos (And.intro (by omega) (Int32.not_lt.mp c63)), ← List.append_assoc, List.length_append, hc]; rfl) (by simp only [al1]; rw [if_pos (And.intro (by omega) (Int32.not_lt.mp c63)), ← List.append_assoc, lkF_snoc (by rw [← hc]; omega), if_pos (by rw [← hc]; exact c68)]) (by omega)
          refine a_sub [1, 2, 3, 4, 5, 6, 0] rfl ?_
          exact L36 _ (p + 1) c f (by omega) (by omega) (by rw [al1_0 (Nat.le_refl _), List.append_nil]; exact hc) (by rw [al1_0 (Nat.le_refl _), List.append_nil]; exact hf) (Nat.lt_succ_self _)
    refine a_sub [3, 4, 5, 2, 1, 0] rfl ?_
    exact L21 _ 0 0 (-1) (Nat.zero_le _) rfl (lkF_nil _).symm (Nat.lt_succ_self _)
  · skip
    exact absurd c7 (by rw [hm28]; decide)
set_option maxHeartbeats 4000000 in
set_option maxRecDepth 100000 in
theorem c_X7_alike_out {G : GT} {B : Nat} {l : Launch} {H : Heap} {a L : Nat} {fp ra rf rw rx : Int32} {ir kb : Bool} {n nv ct nx sd sn bn : Nat} {ka ks kw : Int32} {kK kV dd : DD} {m i : Int32} (hm28 : wIx 28 m = false) (hM : Mc G H a L fp ra rf rw rx ir kb n nv ct nx sd sn bn ka ks kw kK kV dd) : AM G B l yX7_alike cX7_alike 7 (some .int) 2 0 0 [.ref a, .int m, .int i] H (fun rv H' => rv = some (.int (-1000000002)) ∧ (H' = H)) := by
  have hM0 := hM
  obtain ⟨hm, ⟨fB, hBx, eB0, eB1, eB2⟩, ⟨fK, hKx, eK⟩, ⟨fV, hVx, eV⟩, ⟨fN, hNx, eS, eU, eO, e24, e25, e26⟩, hn, hnv⟩ := hM
  unfold mxL at hm
  refine AM.ofI (lv := [(0, .ref a), (1, .int m), (2, .int i)]) (by decide +kernel) (Nat.le_of_ble_eq_true rfl) rfl ?_ (fun _ h => by cases h.1)
  refine a_iload_n 1 dX7_alike_0 rfl rfl ?_
  refine a_iconst 0 dX7_alike_1 (by decide) ?_
  refine a_bipush 27 dX7_alike_2 (by decide) ?_
  refine a_callSp (As := [.int m, .int 0, .int 27]) (rest := []) (d := 0) (mc := 0) (ms := 0) (x := bI (inF m 0 27)) l_X7_58 st_X7_in dX7_alike_4 ⟨Nat.le_of_ble_eq_true rfl, Nat.le_of_ble_eq_true rfl⟩ rfl (Nat.le_of_ble_eq_true rfl) ⟨Nat.le_of_ble_eq_true rfl, Nat.le_of_ble_eq_true rfl⟩ (c_X7_in) ?_
  rw [inF_28]
  refine a_ifneB 13 dX7_alike_7 (by decide) (fun c7 => ?_) (fun c7 => ?_)
  · skip
    exact absurd c7 (by rw [hm28]; decide)
  · skip
    refine a_ldc (-1000000002) k_X7_62 dX7_alike_10 ?_
    refine a_ret dX7_alike_12 ⟨⟨ri ?_, ?_⟩, rfl, rfl⟩
    · rfl
    · rfl
set_option maxHeartbeats 4000000 in
set_option maxRecDepth 100000 in
theorem c_X7_wake {G : GT} {B : Nat} {l : Launch} {H : Heap} {a L : Nat} {fp ra rf rw rx : Int32} {ir kb : Bool} {n nv ct nx sd sn bn : Nat} {ka ks kw : Int32} {kK kV dd : DD} {what : Int32} (hq : what = 0 ∨ what = 1) (hR : RG n dd) (hM : Mc G H a L fp ra rf rw rx ir kb n nv ct nx sd sn bn ka ks kw kK kV dd) : AM G B l yX7_wake cX7_wake 8 (some .int) 2 0 0 [.ref a, .int what] H (fun rv H' => rv = some (.int (if what = 0 then (waF n dd 999).1 else (waF n dd 999).2)) ∧ (H' = H)) := by
  have hM0 := hM
  obtain ⟨hm, ⟨fB, hBx, eB0, eB1, eB2⟩, ⟨fK, hKx, eK⟩, ⟨fV, hVx, eV⟩, ⟨fN, hNx, eS, eU, eO, e24, e25, e26⟩, hn, hnv⟩ := hM
  unfold mxL at hm
  refine AM.ofI (lv := [(0, .ref a), (1, .int what)]) (by decide +kernel) (Nat.le_of_ble_eq_true rfl) rfl ?_ (fun _ h => by cases h.1)
  refine a_iload_n 1 dX7_wake_0 rfl rfl ?_
  refine a_iconst 0 dX7_wake_1 (by decide) ?_
  refine a_iconst 1 dX7_wake_2 (by decide) ?_
  refine a_callSp (As := [.int what, .int 0, .int 1]) (rest := []) (d := 0) (mc := 0) (ms := 0) (x := bI (inF what 0 1)) l_X7_58 st_X7_in dX7_wake_3 ⟨Nat.le_of_ble_eq_true rfl, Nat.le_of_ble_eq_true rfl⟩ rfl (Nat.le_of_ble_eq_true rfl) ⟨Nat.le_of_ble_eq_true rfl, Nat.le_of_ble_eq_true rfl⟩ (c_X7_in) ?_
  refine a_ifneB 12 dX7_wake_6 (by decide) (fun c6 => ?_) (fun c6 => ?_)
  · skip
    refine a_iconst 0 dX7_wake_12 (by decide) ?_
    refine a_istore_n (lv' := [(2, .int 0), (0, .ref a), (1, .int what)]) dX7_wake_13 rfl (by decide) rfl ?_
    refine a_iconst (-1) dX7_wake_14 (by decide) ?_
    refine a_istore_n (lv' := [(3, .int (-1)), (2, .int 0), (0, .ref a), (1, .int what)]) dX7_wake_15 rfl (by decide) rfl ?_
    refine a_iconst 0 dX7_wake_16 (by decide) ?_
    refine a_istore (lv' := [(4, .int 0), (3, .int (-1)), (2, .int 0), (0, .ref a), (1, .int what)]) dX7_wake_17 (by decide) rfl ?_
    have L19 : ∀ (fu : Nat) (k : Nat) (b m : Int32), k ≤ 1000 → ((k = 0 ∧ b = 0 ∧ m = -1) ∨ ∃ j, k = j + 1 ∧ waF n dd j = (b, m)) → 1000 - k < fu → AW G B l { frames := 2, cells := 0, slots := 0, locals := 27 * 2 } yX7_wake.cls cX7_wake 8 false (fun rv H' ce' sl' => (rv = some (.int (if what = 0 then (waF n dd 999).1 else (waF n dd 999).2)) ∧ (H' = H)) ∧ ce' = 0 ∧ sl' = 0) 19 [(0, .ref a), (1, .int what), (2, .int b), (3, .int m), (4, .int (nI k))] [] H 0 0 := by
      intro fu
      induction fu with
      | zero => intro k b m hk hg hm19; exact absurd hm19 (Nat.not_lt_zero _)
      | succ fu ih19 =>
        intro k b m hk hg hm19
        refine a_iload 4 dX7_wake_19 rfl ?_
        refine a_sipush 1000 dX7_wake_21 (by decide) ?_
        refine a_icmpgeN (a := k) (b := 1000) 111 dX7_wake_24 (by decide) (by omega) (by omega) (fun c24 => ?_) (fun c24 => ?_)
        · skip
          refine a_iload_n 1 dX7_wake_111 rfl rfl ?_
          refine a_ifne 119 dX7_wake_112 (by decide) (fun c112 => ?_) (fun c112 => ?_)
          · skip
            refine a_iload_n 3 dX7_wake_119 rfl rfl ?_
            refine a_ret dX7_wake_120 ⟨⟨ri ?_, ?_⟩, rfl, rfl⟩
            · rcases hg with ⟨h, -, -⟩ | ⟨j, hj, e⟩
              · omega
              · have hj : j = 999 := by omega
                subst hj
                rw [e]
                exact (if_neg c112).symm
            · rfl
          · skip
            refine a_iload_n 2 dX7_wake_115 rfl rfl ?_
            refine a_goto 120 dX7_wake_116 (by decide) ?_
            refine a_ret dX7_wake_120 ⟨⟨ri ?_, ?_⟩, rfl, rfl⟩
            · rcases hg with ⟨h, -, -⟩ | ⟨j, hj, e⟩
              · omega
              · have hj : j = 999 := by omega
                subst hj
                rw [e]
                exact (if_pos c112).symm
            · rfl
        · skip
          refine a_bipush 27 dX7_wake_27 (by decide) ?_
          refine a_istore (lv' := [(5, .int 27), (0, .ref a), (1, .int what), (2, .int b), (3, .int m), (4, .int (nI k))]) dX7_wake_29 (by decide) rfl ?_
          refine a_iconst 0 dX7_wake_31 (by decide) ?_
          refine a_istore (lv' := [(6, .int 0), (5, .int 27), (0, .ref a), (1, .int what), (2, .int b), (3, .int m), (4, .int (nI k))]) dX7_wake_32 (by decide) rfl ?_
          have L34 : ∀ (fu : Nat) (j : Nat) (x : Int32), j ≤ n → x = neF dd (nI k) j → n - j < fu → AW G B l { frames := 2, cells := 0, slots := 0, locals := 27 * 2 } yX7_wake.cls cX7_wake 8 false (fun rv H' ce' sl' => (rv = some (.int (if what = 0 then (waF n dd 999).1 else (waF n dd 999).2)) ∧ (H' = H)) ∧ ce' = 0 ∧ sl' = 0) 34 [(0, .ref a), (1, .int what), (2, .int b), (3, .int m), (4, .int (nI k)), (5, .int x), (6, .int (nI j))] [] H 0 0 := by
            intro fu
            induction fu with
            | zero => intro j x hj hx hm34; exact absurd hm34 (Nat.not_lt_zero _)
            | succ fu ih34 =>
              intro j x hj hx hm34
              refine a_iload 6 dX7_wake_34 rfl ?_
              refine a_aload_n 0 dX7_wake_36 rfl rfl ?_
              refine a_get f_X7_120 dX7_wake_37 hm rfl ?_
              refine a_icmpgeN (a := j) (b := n) 79 dX7_wake_40 (by decide) (by omega) (by omega) (fun c40 => ?_) (fun c40 => ?_)
              · skip
                refine a_iload 5 dX7_wake_79 rfl ?_
                refine a_iload_n 3 dX7_wake_81 rfl rfl ?_
                refine a_icmple 90 dX7_wake_82 (by decide) (fun c82 => ?_) (fun c82 => ?_)
                · skip
                  refine a_iload_n 2 dX7_wake_90 rfl rfl ?_
                  refine a_istore_n (lv' := [(2, .int b), (0, .ref a), (1, .int what), (3, .int m), (4, .int (nI k)), (5, .int x), (6, .int (nI j))]) dX7_wake_91 rfl (by decide) rfl ?_
                  refine a_iload 5 dX7_wake_92 rfl ?_
                  refine a_iload_n 3 dX7_wake_94 rfl rfl ?_
                  refine a_icmple 103 dX7_wake_95 (by decide) (fun c95 => ?_) (fun c95 => ?_)
                  · skip
                    refine a_iload_n 3 dX7_wake_103 rfl rfl ?_
                    refine a_istore_n (lv' := [(3, .int m), (2, .int b), (0, .ref a), (1, .int what), (4, .int (nI k)), (5, .int x), (6, .int (nI j))]) dX7_wake_104 rfl (by decide) rfl ?_
                    refine a_iincN (q := 4) (lv' := [(4, .int (nI (k + 1))), (3, .int m), (2, .int b), (0, .ref a), (1, .int what), (5, .int x), (6, .int (nI j))]) dX7_wake_105 rfl (by decide) rfl ?_
                    refine a_goto 19 dX7_wake_108 (by decide) ?_
                    refine a_sub [3, 4, 2, 1, 0] rfl ?_
                    exact ih19 _ _ _ (by omega) (Or.inr ⟨k, rfl, wa_no hR (by omega) hg (hx.trans (by rw [show j = n by omega])) (Int32.not_lt.mp (fun h => absurd c82 (Int32.not_le.mpr h)))⟩) (by omega)
                  · skip
                    exact absurd c82 c95
                · skip
                  refine a_iload 4 dX7_wake_85 rfl ?_
                  refine a_goto 91 dX7_wake_87 (by decide) ?_
                  refine a_istore_n (lv' := [(2, .int (nI k)), (0, .ref a), (1, .int what), (3, .int m), (4, .int (nI k)), (5, .int x), (6, .int (nI j))]) dX7_wake_91 rfl (by decide) rfl ?_
                  refine a_iload 5 dX7_wake_92 rfl ?_
                  refine a_iload_n 3 dX7_wake_94 rfl rfl ?_
                  refine a_icmple 103 dX7_wake_95 (by decide) (fun c95 => ?_) (fun c95 => ?_)
                  · skip
                    exact absurd c95 c82
                  · skip
                    refine a_iload 5 dX7_wake_98 rfl ?_
                    refine a_goto 104 dX7_wake_100 (by decide) ?_
                    refine a_istore_n (lv' := [(3, .int x), (2, .int (nI k)), (0, .ref a), (1, .int what), (4, .int (nI k)), (5, .int x), (6, .int (nI j))]) dX7_wake_104 rfl (by decide) rfl ?_
                    refine a_iincN (q := 4) (lv' := [(4, .int (nI (k + 1))), (3, .int x), (2, .int (nI k)), (0, .ref a), (1, .int what), (5, .int x), (6, .int (nI j))]) dX7_wake_105 rfl (by decide) rfl ?_
                    refine a_goto 19 dX7_wake_108 (by decide) ?_
                    refine a_sub [3, 4, 2, 1, 0] rfl ?_
                    exact ih19 _ _ _ (by omega) (Or.inr ⟨k, rfl, wa_up hg (hx.trans (by rw [show j = n by omega])) (Int32.not_le.mp c82)⟩) (by omega)
              · skip
                refine a_aload_n 0 dX7_wake_43 rfl rfl ?_
                refine a_get f_X7_35 dX7_wake_44 hm rfl ?_
                refine a_iload 6 dX7_wake_47 rfl ?_
                refine a_ialdN (j := j) dX7_wake_49 hNx (by omega) (by decide) ?_
                refine a_toeq (dd j) (eS _ (by omega)) ?_
                refine a_iload 4 dX7_wake_50 rfl ?_
                refine a_callSp (As := [.int (dd j), .int (nI k)]) (rest := []) (d := 1) (mc := 0) (ms := 0) (x := apF (dd j) (nI k)) l_X7_153 st_X7_apart dX7_wake_52 ⟨Nat.le_of_ble_eq_true rfl, Nat.le_of_ble_eq_true rfl⟩ rfl (Nat.le_of_ble_eq_true rfl) ⟨Nat.le_of_ble_eq_true rfl, Nat.le_of_ble_eq_true rfl⟩ (c_X7_apart) ?_
                refine a_istore (lv' := [(7, .int (apF (dd j) (nI k))), (0, .ref a), (1, .int what), (2, .int b), (3, .int m), (4, .int (nI k)), (5, .int x), (6, .int (nI j))]) dX7_wake_55 (by decide) rfl ?_
                refine a_iload 0 dX7_wake_57 rfl ?_
                refine a_iload 6 dX7_wake_59 rfl ?_
                refine a_icmpge 69 dX7_wake_61 (by decide) (fun c61 => ?_) (fun c61 => ?_)
                · skip
                  refine a_iload 6 dX7_wake_69 rfl ?_
                  refine a_istore (lv' := [(5, .int x), (7, .int (apF (dd j) (nI k))), (0, .ref a), (1, .int what), (2, .int b), (3, .int m), (4, .int (nI k)), (6, .int (nI j))]) dX7_wake_71 (by decide) rfl ?_
                  refine a_iincN (q := 7) (lv' := [(6, .int (nI (j + 1))), (5, .int x), (7, .int (apF (dd j) (nI k))), (0, .ref a), (1, .int what), (2, .int b), (3, .int m), (4, .int (nI k))]) dX7_wake_73 rfl (by decide) rfl ?_
                  refine a_goto 34 dX7_wake_76 (by decide) ?_
                  refine a_sub [3, 4, 5, 6, 7, 1, 0] rfl ?_
                  exact ih34 _ _ (by omega) (by simp only [neF]; rw [← hx, if_neg (Int32.not_lt.mpr c61)]) (by omega)
                · skip
                  refine a_iload 0 dX7_wake_64 rfl ?_
                  refine a_goto 71 dX7_wake_66 (by decide) ?_
                  refine a_istore (lv' := [(5, .int (apF (dd j) (nI k))), (7, .int (apF (dd j) (nI k))), (0, .ref a), (1, .int what), (2, .int b), (3, .int m), (4, .int (nI k)), (6, .int (nI j))]) dX7_wake_71 (by decide) rfl ?_
                  refine a_iincN (q := 7) (lv' := [(6, .int (nI (j + 1))), (5, .int (apF (dd j) (nI k))), (7, .int (apF (dd j) (nI k))), (0, .ref a), (1, .int what), (2, .int b), (3, .int m), (4, .int (nI k))]) dX7_wake_73 rfl (by decide) rfl ?_
                  refine a_goto 34 dX7_wake_76 (by decide) ?_
                  refine a_sub [3, 4, 5, 6, 7, 1, 0] rfl ?_
                  exact ih34 _ _ (by omega) (by simp only [neF]; rw [← hx, if_pos (Int32.not_le.mp c61)]) (by omega)
          refine a_sub [2, 3, 4, 5, 6, 1, 0] rfl ?_
          exact L34 _ 0 27 (Nat.zero_le _) rfl (Nat.lt_succ_self _)
    refine a_sub [3, 4, 2, 1, 0] rfl ?_
    exact L19 _ 0 0 (-1) (by omega) (Or.inl ⟨rfl, rfl, rfl⟩) (Nat.lt_succ_self _)
  · skip
    exact absurd c6 (by rw [inF_01 hq]; decide)
set_option maxHeartbeats 4000000 in
set_option maxRecDepth 100000 in
theorem c_X7_wake_out {G : GT} {B : Nat} {l : Launch} {H : Heap} {a L : Nat} {fp ra rf rw rx : Int32} {ir kb : Bool} {n nv ct nx sd sn bn : Nat} {ka ks kw : Int32} {kK kV dd : DD} {what : Int32} (hq : ¬ what = 0) (hq1 : ¬ what = 1) (hM : Mc G H a L fp ra rf rw rx ir kb n nv ct nx sd sn bn ka ks kw kK kV dd) : AM G B l yX7_wake cX7_wake 8 (some .int) 2 0 0 [.ref a, .int what] H (fun rv H' => rv = some (.int (-1000000002)) ∧ (H' = H)) := by
  have hM0 := hM
  obtain ⟨hm, ⟨fB, hBx, eB0, eB1, eB2⟩, ⟨fK, hKx, eK⟩, ⟨fV, hVx, eV⟩, ⟨fN, hNx, eS, eU, eO, e24, e25, e26⟩, hn, hnv⟩ := hM
  unfold mxL at hm
  refine AM.ofI (lv := [(0, .ref a), (1, .int what)]) (by decide +kernel) (Nat.le_of_ble_eq_true rfl) rfl ?_ (fun _ h => by cases h.1)
  refine a_iload_n 1 dX7_wake_0 rfl rfl ?_
  refine a_iconst 0 dX7_wake_1 (by decide) ?_
  refine a_iconst 1 dX7_wake_2 (by decide) ?_
  refine a_callSp (As := [.int what, .int 0, .int 1]) (rest := []) (d := 0) (mc := 0) (ms := 0) (x := bI (inF what 0 1)) l_X7_58 st_X7_in dX7_wake_3 ⟨Nat.le_of_ble_eq_true rfl, Nat.le_of_ble_eq_true rfl⟩ rfl (Nat.le_of_ble_eq_true rfl) ⟨Nat.le_of_ble_eq_true rfl, Nat.le_of_ble_eq_true rfl⟩ (c_X7_in) ?_
  refine a_ifneB 12 dX7_wake_6 (by decide) (fun c6 => ?_) (fun c6 => ?_)
  · skip
    exact absurd c6 (by rw [inF_01n hq hq1]; decide)
  · skip
    refine a_ldc (-1000000002) k_X7_62 dX7_wake_9 ?_
    refine a_ret dX7_wake_11 ⟨⟨ri ?_, ?_⟩, rfl, rfl⟩
    · rfl
    · rfl
set_option maxHeartbeats 4000000 in
set_option maxRecDepth 100000 in
theorem c_X7_falsely {G : GT} {B : Nat} {l : Launch} {H : Heap} {a L : Nat} {fp ra rf rw rx : Int32} {ir kb : Bool} {n nv ct nx sd sn bn : Nat} {ka ks kw : Int32} {kK kV dd : DD} {v : Nat} (hv : v < nv) {m : Int32} (hm28 : wIx 28 m = true) (hM : Mc G H a L fp ra rf rw rx ir kb n nv ct nx sd sn bn ka ks kw kK kV dd) : AM G B l yX7_falsely cX7_falsely 5 (some .int) 2 0 0 [.ref a, .int (nI v), .int m] H (fun rv H' => rv = some (.int (faF dd kV v kw m n)) ∧ (H' = H)) := by
  have hM0 := hM
  obtain ⟨hm, ⟨fB, hBx, eB0, eB1, eB2⟩, ⟨fK, hKx, eK⟩, ⟨fV, hVx, eV⟩, ⟨fN, hNx, eS, eU, eO, e24, e25, e26⟩, hn, hnv⟩ := hM
  unfold mxL at hm
  refine AM.ofI (lv := [(0, .ref a), (1, .int (nI v)), (2, .int m)]) (by decide +kernel) (Nat.le_of_ble_eq_true rfl) rfl ?_ (fun _ h => by cases h.1)
  refine a_aload_n 0 dX7_falsely_0 rfl rfl ?_
  refine a_iload_n 1 dX7_falsely_1 rfl rfl ?_
  refine a_callVp (As := [.int (nI v)]) (rest := []) (d := 1) (mc := 0) (ms := 0) (x := bI (wIx nv (nI v))) (ci := 7) l_X7_143 im_X7_isVoice se_X7_isVoice ⟨_, rfl, rfl⟩ dX7_falsely_2 ⟨Nat.le_of_ble_eq_true rfl, Nat.le_of_ble_eq_true rfl⟩ rfl (Nat.le_of_ble_eq_true rfl) ⟨Nat.le_of_ble_eq_true rfl, Nat.le_of_ble_eq_true rfl⟩ hm (c_X7_isVoice hM0) ?_
  refine a_ifneB 11 dX7_falsely_5 (by decide) (fun c5 => ?_) (fun c5 => ?_)
  · skip
    refine a_iload_n 2 dX7_falsely_11 rfl rfl ?_
    refine a_iconst 0 dX7_falsely_12 (by decide) ?_
    refine a_bipush 27 dX7_falsely_13 (by decide) ?_
    refine a_callSp (As := [.int m, .int 0, .int 27]) (rest := []) (d := 0) (mc := 0) (ms := 0) (x := bI (inF m 0 27)) l_X7_58 st_X7_in dX7_falsely_15 ⟨Nat.le_of_ble_eq_true rfl, Nat.le_of_ble_eq_true rfl⟩ rfl (Nat.le_of_ble_eq_true rfl) ⟨Nat.le_of_ble_eq_true rfl, Nat.le_of_ble_eq_true rfl⟩ (c_X7_in) ?_
    rw [inF_28]
    refine a_ifneB 24 dX7_falsely_18 (by decide) (fun c18 => ?_) (fun c18 => ?_)
    · skip
      refine a_iconst 0 dX7_falsely_24 (by decide) ?_
      refine a_istore_n (lv' := [(3, .int 0), (0, .ref a), (1, .int (nI v)), (2, .int m)]) dX7_falsely_25 rfl (by decide) rfl ?_
      refine a_iconst 0 dX7_falsely_26 (by decide) ?_
      refine a_istore (lv' := [(4, .int 0), (3, .int 0), (0, .ref a), (1, .int (nI v)), (2, .int m)]) dX7_falsely_27 (by decide) rfl ?_
      have L29 : ∀ (fu : Nat) (k : Nat) (r : Int32), k ≤ n → r = faF dd kV v kw m k → n - k < fu → AW G B l { frames := 2, cells := 0, slots := 0, locals := 27 * 2 } yX7_falsely.cls cX7_falsely 5 false (fun rv H' ce' sl' => (rv = some (.int (faF dd kV v kw m n)) ∧ (H' = H)) ∧ ce' = 0 ∧ sl' = 0) 29 [(0, .ref a), (1, .int (nI v)), (2, .int m), (3, .int r), (4, .int (nI k))] [] H 0 0 := by
        intro fu
        induction fu with
        | zero => intro k r hk hg hm29; exact absurd hm29 (Nat.not_lt_zero _)
        | succ fu ih29 =>
          intro k r hk hg hm29
          refine a_iload 4 dX7_falsely_29 rfl ?_
          refine a_aload_n 0 dX7_falsely_31 rfl rfl ?_
          refine a_get f_X7_120 dX7_falsely_32 hm rfl ?_
          refine a_icmpgeN (a := k) (b := n) 75 dX7_falsely_35 (by decide) (by omega) (by omega) (fun c35 => ?_) (fun c35 => ?_)
          · skip
            refine a_iload_n 3 dX7_falsely_75 rfl rfl ?_
            refine a_ret dX7_falsely_76 ⟨⟨ri ?_, ?_⟩, rfl, rfl⟩
            · rw [hg, show n = k by omega]
            · rfl
          · skip
            refine a_iload_n 3 dX7_falsely_38 rfl rfl ?_
            refine a_aload_n 0 dX7_falsely_39 rfl rfl ?_
            refine a_iload 4 dX7_falsely_40 rfl ?_
            refine a_iload_n 1 dX7_falsely_42 rfl rfl ?_
            refine a_callVp (As := [.int (nI k), .int (nI v)]) (rest := [.int r]) (d := 1) (mc := 0) (ms := 0) (x := spF dd kV k v) (ci := 7) l_X7_215 im_X7_saidBy se_X7_saidBy ⟨_, rfl, rfl⟩ dX7_falsely_43 ⟨Nat.le_of_ble_eq_true rfl, Nat.le_of_ble_eq_true rfl⟩ rfl (Nat.le_of_ble_eq_true rfl) ⟨Nat.le_of_ble_eq_true rfl, Nat.le_of_ble_eq_true rfl⟩ hm (c_X7_saidBy (by omega) hv hM0) ?_
            refine a_aload_n 0 dX7_falsely_46 rfl rfl ?_
            refine a_get f_X7_26 dX7_falsely_47 hm rfl ?_
            refine a_iconst 2 dX7_falsely_50 (by decide) ?_
            refine a_ialdN (j := 2) dX7_falsely_51 hBx (by omega) (by decide) ?_
            refine a_toeq (kw) eB2 ?_
            refine a_callSp (As := [.int (spF dd kV k v), .int kw]) (rest := [.int r]) (d := 1) (mc := 0) (ms := 0) (x := apF (spF dd kV k v) kw) l_X7_153 st_X7_apart dX7_falsely_52 ⟨Nat.le_of_ble_eq_true rfl, Nat.le_of_ble_eq_true rfl⟩ rfl (Nat.le_of_ble_eq_true rfl) ⟨Nat.le_of_ble_eq_true rfl, Nat.le_of_ble_eq_true rfl⟩ (c_X7_apart) ?_
            refine a_iload_n 2 dX7_falsely_55 rfl rfl ?_
            refine a_icmpgt 66 dX7_falsely_56 (by decide) (fun c56 => ?_) (fun c56 => ?_)
            · skip
              refine a_iconst 0 dX7_falsely_66 (by decide) ?_
              refine a_ior dX7_falsely_67 ?_
              refine a_istore_n (lv' := [(3, .int (r ||| 0)), (0, .ref a), (1, .int (nI v)), (2, .int m), (4, .int (nI k))]) dX7_falsely_68 rfl (by decide) rfl ?_
              refine a_iincN (q := 4) (lv' := [(4, .int (nI (k + 1))), (3, .int (r ||| 0)), (0, .ref a), (1, .int (nI v)), (2, .int m)]) dX7_falsely_69 rfl (by decide) rfl ?_
              refine a_goto 29 dX7_falsely_72 (by decide) ?_
              refine a_sub [2, 3, 4, 1, 0] rfl ?_
              exact ih29 _ _ (by omega) (by simp only [faF]; rw [if_neg (Int32.not_le.mpr c56), Int32.or_zero, hg]) (by omega)
            · skip
              refine a_iconst 1 dX7_falsely_59 (by decide) ?_
              refine a_iload 4 dX7_falsely_60 rfl ?_
              refine a_ishl dX7_falsely_62 ?_
              refine a_goto 67 dX7_falsely_63 (by decide) ?_
              refine a_ior dX7_falsely_67 ?_
              refine a_istore_n (lv' := [(3, .int (r ||| (1 <<< ((nI k) &&& 31)))), (0, .ref a), (1, .int (nI v)), (2, .int m), (4, .int (nI k))]) dX7_falsely_68 rfl (by decide) rfl ?_
              refine a_iincN (q := 4) (lv' := [(4, .int (nI (k + 1))), (3, .int (r ||| (1 <<< ((nI k) &&& 31)))), (0, .ref a), (1, .int (nI v)), (2, .int m)]) dX7_falsely_69 rfl (by decide) rfl ?_
              refine a_goto 29 dX7_falsely_72 (by decide) ?_
              refine a_sub [2, 3, 4, 1, 0] rfl ?_
              exact ih29 _ _ (by omega) (by simp only [faF]; rw [if_pos (Int32.not_lt.mp c56), ← hg]; rfl) (by omega)
      refine a_sub [2, 3, 4, 1, 0] rfl ?_
      exact L29 _ 0 0 (Nat.zero_le _) rfl (Nat.lt_succ_self _)
    · skip
      exact absurd c18 (by rw [hm28]; decide)
  · skip
    exact absurd c5 (by rw [wIx_nI hv (by omega)]; decide)
set_option maxHeartbeats 4000000 in
set_option maxRecDepth 100000 in
theorem c_X7_falsely_unk {G : GT} {B : Nat} {l : Launch} {H : Heap} {a L : Nat} {fp ra rf rw rx : Int32} {ir kb : Bool} {n nv ct nx sd sn bn : Nat} {ka ks kw : Int32} {kK kV dd : DD} {v : Int32} (hv : wIx nv v = false) {m : Int32} (hM : Mc G H a L fp ra rf rw rx ir kb n nv ct nx sd sn bn ka ks kw kK kV dd) : AM G B l yX7_falsely cX7_falsely 5 (some .int) 2 0 0 [.ref a, .int v, .int m] H (fun rv H' => rv = some (.int (-1000000001)) ∧ (H' = H)) := by
  have hM0 := hM
  obtain ⟨hm, ⟨fB, hBx, eB0, eB1, eB2⟩, ⟨fK, hKx, eK⟩, ⟨fV, hVx, eV⟩, ⟨fN, hNx, eS, eU, eO, e24, e25, e26⟩, hn, hnv⟩ := hM
  unfold mxL at hm
  refine AM.ofI (lv := [(0, .ref a), (1, .int v), (2, .int m)]) (by decide +kernel) (Nat.le_of_ble_eq_true rfl) rfl ?_ (fun _ h => by cases h.1)
  refine a_aload_n 0 dX7_falsely_0 rfl rfl ?_
  refine a_iload_n 1 dX7_falsely_1 rfl rfl ?_
  refine a_callVp (As := [.int v]) (rest := []) (d := 1) (mc := 0) (ms := 0) (x := bI (wIx nv v)) (ci := 7) l_X7_143 im_X7_isVoice se_X7_isVoice ⟨_, rfl, rfl⟩ dX7_falsely_2 ⟨Nat.le_of_ble_eq_true rfl, Nat.le_of_ble_eq_true rfl⟩ rfl (Nat.le_of_ble_eq_true rfl) ⟨Nat.le_of_ble_eq_true rfl, Nat.le_of_ble_eq_true rfl⟩ hm (c_X7_isVoice hM0) ?_
  refine a_ifneB 11 dX7_falsely_5 (by decide) (fun c5 => ?_) (fun c5 => ?_)
  · skip
    exact absurd c5 (by rw [hv]; decide)
  · skip
    refine a_ldc (-1000000001) k_X7_142 dX7_falsely_8 ?_
    refine a_ret dX7_falsely_10 ⟨⟨ri ?_, ?_⟩, rfl, rfl⟩
    · rfl
    · rfl
set_option maxHeartbeats 4000000 in
set_option maxRecDepth 100000 in
theorem c_X7_falsely_out {G : GT} {B : Nat} {l : Launch} {H : Heap} {a L : Nat} {fp ra rf rw rx : Int32} {ir kb : Bool} {n nv ct nx sd sn bn : Nat} {ka ks kw : Int32} {kK kV dd : DD} {v : Nat} (hv : v < nv) {m : Int32} (hm28 : wIx 28 m = false) (hM : Mc G H a L fp ra rf rw rx ir kb n nv ct nx sd sn bn ka ks kw kK kV dd) : AM G B l yX7_falsely cX7_falsely 5 (some .int) 2 0 0 [.ref a, .int (nI v), .int m] H (fun rv H' => rv = some (.int (-1000000002)) ∧ (H' = H)) := by
  have hM0 := hM
  obtain ⟨hm, ⟨fB, hBx, eB0, eB1, eB2⟩, ⟨fK, hKx, eK⟩, ⟨fV, hVx, eV⟩, ⟨fN, hNx, eS, eU, eO, e24, e25, e26⟩, hn, hnv⟩ := hM
  unfold mxL at hm
  refine AM.ofI (lv := [(0, .ref a), (1, .int (nI v)), (2, .int m)]) (by decide +kernel) (Nat.le_of_ble_eq_true rfl) rfl ?_ (fun _ h => by cases h.1)
  refine a_aload_n 0 dX7_falsely_0 rfl rfl ?_
  refine a_iload_n 1 dX7_falsely_1 rfl rfl ?_
  refine a_callVp (As := [.int (nI v)]) (rest := []) (d := 1) (mc := 0) (ms := 0) (x := bI (wIx nv (nI v))) (ci := 7) l_X7_143 im_X7_isVoice se_X7_isVoice ⟨_, rfl, rfl⟩ dX7_falsely_2 ⟨Nat.le_of_ble_eq_true rfl, Nat.le_of_ble_eq_true rfl⟩ rfl (Nat.le_of_ble_eq_true rfl) ⟨Nat.le_of_ble_eq_true rfl, Nat.le_of_ble_eq_true rfl⟩ hm (c_X7_isVoice hM0) ?_
  refine a_ifneB 11 dX7_falsely_5 (by decide) (fun c5 => ?_) (fun c5 => ?_)
  · skip
    refine a_iload_n 2 dX7_falsely_11 rfl rfl ?_
    refine a_iconst 0 dX7_falsely_12 (by decide) ?_
    refine a_bipush 27 dX7_falsely_13 (by decide) ?_
    refine a_callSp (As := [.int m, .int 0, .int 27]) (rest := []) (d := 0) (mc := 0) (ms := 0) (x := bI (inF m 0 27)) l_X7_58 st_X7_in dX7_falsely_15 ⟨Nat.le_of_ble_eq_true rfl, Nat.le_of_ble_eq_true rfl⟩ rfl (Nat.le_of_ble_eq_true rfl) ⟨Nat.le_of_ble_eq_true rfl, Nat.le_of_ble_eq_true rfl⟩ (c_X7_in) ?_
    rw [inF_28]
    refine a_ifneB 24 dX7_falsely_18 (by decide) (fun c18 => ?_) (fun c18 => ?_)
    · skip
      exact absurd c18 (by rw [hm28]; decide)
    · skip
      refine a_ldc (-1000000002) k_X7_62 dX7_falsely_21 ?_
      refine a_ret dX7_falsely_23 ⟨⟨ri ?_, ?_⟩, rfl, rfl⟩
      · rfl
      · rfl
  · skip
    exact absurd c5 (by rw [wIx_nI hv (by omega)]; decide)
set_option maxHeartbeats 4000000 in
set_option maxRecDepth 100000 in
theorem c_X7_asks {G : GT} {B : Nat} {l : Launch} {H : Heap} {a L : Nat} {fp ra rf rw rx : Int32} {ir kb : Bool} {n nv ct nx sd sn bn : Nat} {ka ks kw : Int32} {kK kV dd : DD} {much : Int32} (hq : ¬ much < 0) (hq2 : much ≤ 9999) (hM : Mc G H a L fp ra rf rw rx ir kb n nv ct nx sd sn bn ka ks kw kK kV dd) : AM G B l yX7_asks cX7_asks 4 (some .int) 1 0 0 [.ref a, .int much] H (fun rv H' => rv = some (.int (akR ka (dd 25) much 99 0)) ∧ (H' = H)) := by
  have hM0 := hM
  obtain ⟨hm, ⟨fB, hBx, eB0, eB1, eB2⟩, ⟨fK, hKx, eK⟩, ⟨fV, hVx, eV⟩, ⟨fN, hNx, eS, eU, eO, e24, e25, e26⟩, hn, hnv⟩ := hM
  unfold mxL at hm
  refine AM.ofI (lv := [(0, .ref a), (1, .int much)]) (by decide +kernel) (Nat.le_of_ble_eq_true rfl) rfl ?_ (fun _ h => by cases h.1)
  refine a_iload_n 1 dX7_asks_0 rfl rfl ?_
  refine a_iconst 0 dX7_asks_1 (by decide) ?_
  refine a_sipush 9999 dX7_asks_2 (by decide) ?_
  refine a_callSp (As := [.int much, .int 0, .int 9999]) (rest := []) (d := 0) (mc := 0) (ms := 0) (x := bI (inF much 0 9999)) l_X7_58 st_X7_in dX7_asks_5 ⟨Nat.le_of_ble_eq_true rfl, Nat.le_of_ble_eq_true rfl⟩ rfl (Nat.le_of_ble_eq_true rfl) ⟨Nat.le_of_ble_eq_true rfl, Nat.le_of_ble_eq_true rfl⟩ (c_X7_in) ?_
  refine a_ifneB 14 dX7_asks_8 (by decide) (fun c8 => ?_) (fun c8 => ?_)
  · skip
    refine a_iconst 0 dX7_asks_14 (by decide) ?_
    refine a_istore_n (lv' := [(2, .int 0), (0, .ref a), (1, .int much)]) dX7_asks_15 rfl (by decide) rfl ?_
    refine a_aload_n 1 dX7_asks_16 rfl rfl ?_
    refine a_get f_X7_26 dX7_asks_17 hm rfl ?_
    refine a_iconst 0 dX7_asks_20 (by decide) ?_
    refine a_ialdN (j := 0) dX7_asks_21 hBx (by omega) (by decide) ?_
    refine a_toeq (ka) eB0 ?_
    refine a_aload_n 1 dX7_asks_22 rfl rfl ?_
    refine a_get f_X7_35 dX7_asks_23 hm rfl ?_
    refine a_bipush 25 dX7_asks_26 (by decide) ?_
    refine a_ialdN (j := 25) dX7_asks_28 hNx (by omega) (by decide) ?_
    refine a_toeq (dd 25) (e25) ?_
    refine a_iadd dX7_asks_29 ?_
    refine a_istore_n (lv' := [(3, .int (ka + (dd 25))), (2, .int 0), (0, .ref a), (1, .int much)]) dX7_asks_30 rfl (by decide) rfl ?_
    have L31 : ∀ (fu : Nat) (k : Nat) (x : Int32), k ≤ 99 → x = akS ka (dd 25) (k + 1) → akR ka (dd 25) much 99 0 = akR ka (dd 25) much (99 - k) k → 99 - k < fu → AW G B l { frames := 1, cells := 0, slots := 0, locals := 27 * 1 } yX7_asks.cls cX7_asks 4 false (fun rv H' ce' sl' => (rv = some (.int (akR ka (dd 25) much 99 0)) ∧ (H' = H)) ∧ ce' = 0 ∧ sl' = 0) 31 [(0, .ref a), (1, .int much), (2, .int (nI k)), (3, .int x)] [] H 0 0 := by
      intro fu
      induction fu with
      | zero => intro k x hk hx hg hm31; exact absurd hm31 (Nat.not_lt_zero _)
      | succ fu ih31 =>
        intro k x hk hx hg hm31
        refine a_iload_n 2 dX7_asks_31 rfl rfl ?_
        refine a_bipush 99 dX7_asks_32 (by decide) ?_
        refine a_icmpgeN (a := k) (b := 99) 67 dX7_asks_34 (by decide) (by omega) (by omega) (fun c34 => ?_) (fun c34 => ?_)
        · skip
          refine a_iload_n 2 dX7_asks_67 rfl rfl ?_
          refine a_ret dX7_asks_68 ⟨⟨ri ?_, ?_⟩, rfl, rfl⟩
          · rw [hg, show k = 99 by omega]; rfl
          · rfl
        · skip
          refine a_iload_n 3 dX7_asks_37 rfl rfl ?_
          refine a_iload_n 1 dX7_asks_38 rfl rfl ?_
          refine a_icmpgt 67 dX7_asks_39 (by decide) (fun c39 => ?_) (fun c39 => ?_)
          · skip
            refine a_iload_n 2 dX7_asks_67 rfl rfl ?_
            refine a_ret dX7_asks_68 ⟨⟨ri ?_, ?_⟩, rfl, rfl⟩
            · rw [akS_no (by omega) hg (by rw [← hx]; exact Int32.not_le.mpr c39)]
            · rfl
          · skip
            refine a_iincN (q := 2) (lv' := [(2, .int (nI (k + 1))), (0, .ref a), (1, .int much), (3, .int x)]) dX7_asks_42 rfl (by decide) rfl ?_
            refine a_iload_n 3 dX7_asks_45 rfl rfl ?_
            refine a_aload_n 1 dX7_asks_46 rfl rfl ?_
            refine a_get f_X7_26 dX7_asks_47 hm rfl ?_
            refine a_iconst 0 dX7_asks_50 (by decide) ?_
            refine a_ialdN (j := 0) dX7_asks_51 hBx (by omega) (by decide) ?_
            refine a_toeq (ka) eB0 ?_
            refine a_aload_n 1 dX7_asks_52 rfl rfl ?_
            refine a_get f_X7_35 dX7_asks_53 hm rfl ?_
            refine a_bipush 25 dX7_asks_56 (by decide) ?_
            refine a_ialdN (j := 25) dX7_asks_58 hNx (by omega) (by decide) ?_
            refine a_toeq (dd 25) (e25) ?_
            refine a_iadd dX7_asks_59 ?_
            refine a_iload_n 0 dX7_asks_60 rfl rfl ?_
            refine a_iadd dX7_asks_61 ?_
            refine a_iadd dX7_asks_62 ?_
            refine a_istore_n (lv' := [(3, .int (x + ((ka + (dd 25)) + (nI (k + 1))))), (2, .int (nI (k + 1))), (0, .ref a), (1, .int much)]) dX7_asks_63 rfl (by decide) rfl ?_
            refine a_goto 31 dX7_asks_64 (by decide) ?_
            refine a_sub [2, 3, 1, 0] rfl ?_
            exact ih31 _ _ (by omega) (by rw [hx]; simp only [akS]) (akS_up (by omega) hg (by rw [← hx]; exact Int32.not_lt.mp c39)) (by omega)
    refine a_sub [2, 3, 1, 0] rfl ?_
    exact L31 _ 0 _ (Nat.zero_le _) (by simp only [akS]; rw [nI_0, Int32.zero_add, Int32.add_zero]) rfl (Nat.lt_succ_self _)
  · skip
    exact absurd c8 (by rw [inF_t hq hq2]; decide)
set_option maxHeartbeats 4000000 in
set_option maxRecDepth 100000 in
theorem c_X7_asks_out {G : GT} {B : Nat} {l : Launch} {H : Heap} {a L : Nat} {fp ra rf rw rx : Int32} {ir kb : Bool} {n nv ct nx sd sn bn : Nat} {ka ks kw : Int32} {kK kV dd : DD} {much : Int32} (hmo : much < 0 ∨ ¬ much ≤ 9999) (hM : Mc G H a L fp ra rf rw rx ir kb n nv ct nx sd sn bn ka ks kw kK kV dd) : AM G B l yX7_asks cX7_asks 4 (some .int) 1 0 0 [.ref a, .int much] H (fun rv H' => rv = some (.int (-1000000002)) ∧ (H' = H)) := by
  have hM0 := hM
  obtain ⟨hm, ⟨fB, hBx, eB0, eB1, eB2⟩, ⟨fK, hKx, eK⟩, ⟨fV, hVx, eV⟩, ⟨fN, hNx, eS, eU, eO, e24, e25, e26⟩, hn, hnv⟩ := hM
  unfold mxL at hm
  refine AM.ofI (lv := [(0, .ref a), (1, .int much)]) (by decide +kernel) (Nat.le_of_ble_eq_true rfl) rfl ?_ (fun _ h => by cases h.1)
  refine a_iload_n 1 dX7_asks_0 rfl rfl ?_
  refine a_iconst 0 dX7_asks_1 (by decide) ?_
  refine a_sipush 9999 dX7_asks_2 (by decide) ?_
  refine a_callSp (As := [.int much, .int 0, .int 9999]) (rest := []) (d := 0) (mc := 0) (ms := 0) (x := bI (inF much 0 9999)) l_X7_58 st_X7_in dX7_asks_5 ⟨Nat.le_of_ble_eq_true rfl, Nat.le_of_ble_eq_true rfl⟩ rfl (Nat.le_of_ble_eq_true rfl) ⟨Nat.le_of_ble_eq_true rfl, Nat.le_of_ble_eq_true rfl⟩ (c_X7_in) ?_
  refine a_ifneB 14 dX7_asks_8 (by decide) (fun c8 => ?_) (fun c8 => ?_)
  · skip
    exact absurd c8 (by rw [inF_n hmo]; decide)
  · skip
    refine a_ldc (-1000000002) k_X7_62 dX7_asks_11 ?_
    refine a_ret dX7_asks_13 ⟨⟨ri ?_, ?_⟩, rfl, rfl⟩
    · rfl
    · rfl
set_option maxHeartbeats 4000000 in
set_option maxRecDepth 100000 in
theorem c_X7_waked {G : GT} {B : Nat} {l : Launch} {H : Heap} {a L : Nat} {fp ra rf rw rx : Int32} {ir kb : Bool} {n nv ct nx sd sn bn : Nat} {ka ks kw : Int32} {kK kV dd : DD} {j : Nat} {q : Int32} (hj : j ≤ 60) (hq : ¬ q < 0) (hq2 : q ≤ 100) (hM : Mc G H a L fp ra rf rw rx ir kb n nv ct nx sd sn bn ka ks kw kK kV dd) : AM G B l yX7_waked cX7_waked 6 (some .int) 1 0 0 [.ref a, .int (nI j), .int q] H (fun rv H' => rv = some (.int ((wkF q j).toInt32)) ∧ (H' = H)) := by
  have hM0 := hM
  obtain ⟨hm, ⟨fB, hBx, eB0, eB1, eB2⟩, ⟨fK, hKx, eK⟩, ⟨fV, hVx, eV⟩, ⟨fN, hNx, eS, eU, eO, e24, e25, e26⟩, hn, hnv⟩ := hM
  unfold mxL at hm
  refine AM.ofI (lv := [(0, .ref a), (1, .int (nI j)), (2, .int q)]) (by decide +kernel) (Nat.le_of_ble_eq_true rfl) rfl ?_ (fun _ h => by cases h.1)
  refine a_iload_n 1 dX7_waked_0 rfl rfl ?_
  refine a_iconst 0 dX7_waked_1 (by decide) ?_
  refine a_bipush 60 dX7_waked_2 (by decide) ?_
  refine a_callSp (As := [.int (nI j), .int 0, .int 60]) (rest := []) (d := 0) (mc := 0) (ms := 0) (x := bI (inF (nI j) 0 60)) l_X7_58 st_X7_in dX7_waked_4 ⟨Nat.le_of_ble_eq_true rfl, Nat.le_of_ble_eq_true rfl⟩ rfl (Nat.le_of_ble_eq_true rfl) ⟨Nat.le_of_ble_eq_true rfl, Nat.le_of_ble_eq_true rfl⟩ (c_X7_in) ?_
  refine a_ifeqB 20 dX7_waked_7 (by decide) (fun c7 => ?_) (fun c7 => ?_)
  · skip
    exact absurd c7 (by rw [(inF_t (nI_pos (by omega)) (Int32.not_lt.mp fun h => absurd ((nI_ltI (a := 60) (by omega) (by omega)).mp h) (by omega)) : inF (nI j) 0 60 = true)]; decide)
  · skip
    refine a_iload_n 2 dX7_waked_10 rfl rfl ?_
    refine a_iconst 0 dX7_waked_11 (by decide) ?_
    refine a_bipush 100 dX7_waked_12 (by decide) ?_
    refine a_callSp (As := [.int q, .int 0, .int 100]) (rest := []) (d := 0) (mc := 0) (ms := 0) (x := bI (inF q 0 100)) l_X7_58 st_X7_in dX7_waked_14 ⟨Nat.le_of_ble_eq_true rfl, Nat.le_of_ble_eq_true rfl⟩ rfl (Nat.le_of_ble_eq_true rfl) ⟨Nat.le_of_ble_eq_true rfl, Nat.le_of_ble_eq_true rfl⟩ (c_X7_in) ?_
    refine a_ifneB 23 dX7_waked_17 (by decide) (fun c17 => ?_) (fun c17 => ?_)
    · skip
      refine a_ldc2 1000000000 k_X7_224 dX7_waked_23 ?_
      refine a_lstore_n (lv' := [(3, .long 1000000000), (0, .ref a), (1, .int (nI j)), (2, .int q)]) dX7_waked_26 rfl (by decide) rfl ?_
      refine a_iconst 0 dX7_waked_27 (by decide) ?_
      refine a_istore (lv' := [(5, .int 0), (3, .long 1000000000), (0, .ref a), (1, .int (nI j)), (2, .int q)]) dX7_waked_28 (by decide) rfl ?_
      have L30 : ∀ (fu : Nat) (k : Nat) (x : Int64), k ≤ j → x = wkF q k → j - k < fu → AW G B l { frames := 1, cells := 0, slots := 0, locals := 27 * 1 } yX7_waked.cls cX7_waked 6 false (fun rv H' ce' sl' => (rv = some (.int ((wkF q j).toInt32)) ∧ (H' = H)) ∧ ce' = 0 ∧ sl' = 0) 30 [(0, .ref a), (1, .int (nI j)), (2, .int q), (3, .long x), (5, .int (nI k))] [] H 0 0 := by
        intro fu
        induction fu with
        | zero => intro k x hk hg hm30; exact absurd hm30 (Nat.not_lt_zero _)
        | succ fu ih30 =>
          intro k x hk hg hm30
          refine a_iload 4 dX7_waked_30 rfl ?_
          refine a_iload_n 1 dX7_waked_32 rfl rfl ?_
          refine a_icmpgeN (a := k) (b := j) 54 dX7_waked_33 (by decide) (by omega) (by omega) (fun c33 => ?_) (fun c33 => ?_)
          · skip
            refine a_lload_n 3 dX7_waked_54 rfl rfl ?_
            refine a_l2i dX7_waked_55 ?_
            refine a_ret dX7_waked_56 ⟨⟨ri ?_, ?_⟩, rfl, rfl⟩
            · rw [hg, show j = k by omega]
            · rfl
          · skip
            refine a_lload_n 3 dX7_waked_36 rfl rfl ?_
            refine a_bipush 100 dX7_waked_37 (by decide) ?_
            refine a_iload_n 2 dX7_waked_39 rfl rfl ?_
            refine a_isub dX7_waked_40 ?_
            refine a_i2l dX7_waked_41 ?_
            refine a_lmul dX7_waked_42 ?_
            refine a_ldc2 100 k_X7_226 dX7_waked_43 ?_
            refine a_ldiv dX7_waked_46 (by decide +kernel) ?_
            refine a_lstore_n (lv' := [(3, .long ((x * ((100 - q).toInt64)) / 100)), (0, .ref a), (1, .int (nI j)), (2, .int q), (5, .int (nI k))]) dX7_waked_47 rfl (by decide) rfl ?_
            refine a_iincN (q := 4) (lv' := [(5, .int (nI (k + 1))), (3, .long ((x * ((100 - q).toInt64)) / 100)), (0, .ref a), (1, .int (nI j)), (2, .int q)]) dX7_waked_48 rfl (by decide) rfl ?_
            refine a_goto 30 dX7_waked_51 (by decide) ?_
            refine a_sub [2, 3, 4, 1, 0] rfl ?_
            exact ih30 _ _ (by omega) (by rw [hg]; rfl) (by omega)
      refine a_sub [2, 3, 4, 1, 0] rfl ?_
      exact L30 _ 0 _ (Nat.zero_le _) rfl (Nat.lt_succ_self _)
    · skip
      exact absurd c17 (by rw [inF_t hq hq2]; decide)
set_option maxHeartbeats 4000000 in
set_option maxRecDepth 100000 in
theorem c_X7_waked_out {G : GT} {B : Nat} {l : Launch} {H : Heap} {a L : Nat} {fp ra rf rw rx : Int32} {ir kb : Bool} {n nv ct nx sd sn bn : Nat} {ka ks kw : Int32} {kK kV dd : DD} {j q : Int32} (hq : j < 0 ∨ ¬ j ≤ 60 ∨ q < 0 ∨ ¬ q ≤ 100) (hM : Mc G H a L fp ra rf rw rx ir kb n nv ct nx sd sn bn ka ks kw kK kV dd) : AM G B l yX7_waked cX7_waked 6 (some .int) 1 0 0 [.ref a, .int j, .int q] H (fun rv H' => rv = some (.int (-1000000002)) ∧ (H' = H)) := by
  have hM0 := hM
  obtain ⟨hm, ⟨fB, hBx, eB0, eB1, eB2⟩, ⟨fK, hKx, eK⟩, ⟨fV, hVx, eV⟩, ⟨fN, hNx, eS, eU, eO, e24, e25, e26⟩, hn, hnv⟩ := hM
  unfold mxL at hm
  refine AM.ofI (lv := [(0, .ref a), (1, .int j), (2, .int q)]) (by decide +kernel) (Nat.le_of_ble_eq_true rfl) rfl ?_ (fun _ h => by cases h.1)
  refine a_iload_n 1 dX7_waked_0 rfl rfl ?_
  refine a_iconst 0 dX7_waked_1 (by decide) ?_
  refine a_bipush 60 dX7_waked_2 (by decide) ?_
  refine a_callSp (As := [.int j, .int 0, .int 60]) (rest := []) (d := 0) (mc := 0) (ms := 0) (x := bI (inF j 0 60)) l_X7_58 st_X7_in dX7_waked_4 ⟨Nat.le_of_ble_eq_true rfl, Nat.le_of_ble_eq_true rfl⟩ rfl (Nat.le_of_ble_eq_true rfl) ⟨Nat.le_of_ble_eq_true rfl, Nat.le_of_ble_eq_true rfl⟩ (c_X7_in) ?_
  refine a_ifeqB 20 dX7_waked_7 (by decide) (fun c7 => ?_) (fun c7 => ?_)
  · skip
    refine a_ldc (-1000000002) k_X7_62 dX7_waked_20 ?_
    refine a_ret dX7_waked_22 ⟨⟨ri ?_, ?_⟩, rfl, rfl⟩
    · rfl
    · rfl
  · skip
    refine a_iload_n 2 dX7_waked_10 rfl rfl ?_
    refine a_iconst 0 dX7_waked_11 (by decide) ?_
    refine a_bipush 100 dX7_waked_12 (by decide) ?_
    refine a_callSp (As := [.int q, .int 0, .int 100]) (rest := []) (d := 0) (mc := 0) (ms := 0) (x := bI (inF q 0 100)) l_X7_58 st_X7_in dX7_waked_14 ⟨Nat.le_of_ble_eq_true rfl, Nat.le_of_ble_eq_true rfl⟩ rfl (Nat.le_of_ble_eq_true rfl) ⟨Nat.le_of_ble_eq_true rfl, Nat.le_of_ble_eq_true rfl⟩ (c_X7_in) ?_
    refine a_ifneB 23 dX7_waked_17 (by decide) (fun c17 => ?_) (fun c17 => ?_)
    · skip
      rcases hq with h | h | h
      · exact absurd c7 (by rw [inF_f1 h]; decide)
      · exact absurd c7 (by rw [inF_f2 h]; decide)
      · exact absurd c17 (by rw [inF_n h]; decide)
    · skip
      refine a_ldc (-1000000002) k_X7_62 dX7_waked_20 ?_
      refine a_ret dX7_waked_22 ⟨⟨ri ?_, ?_⟩, rfl, rfl⟩
      · rfl
      · rfl
set_option maxHeartbeats 4000000 in
set_option maxRecDepth 100000 in
theorem c_X7_voice {G : GT} {B : Nat} {l : Launch} {H : Heap} {a L : Nat} {fp ra rf rw rx : Int32} {ir kb : Bool} {n nv ct nx sd sn bn : Nat} {ka ks kw : Int32} {kK kV dd : DD} {v : Nat} (hv : v < nv) (hM : Mc G H a L fp ra rf rw rx ir kb n nv ct nx sd sn bn ka ks kw kK kV dd) : AM G B l yX7_voice cX7_voice 2 (some .int) 2 0 0 [.ref a, .int (nI v)] H (fun rv H' => rv = some (.int (kV v)) ∧ (H' = H)) := by
  have hM0 := hM
  obtain ⟨hm, ⟨fB, hBx, eB0, eB1, eB2⟩, ⟨fK, hKx, eK⟩, ⟨fV, hVx, eV⟩, ⟨fN, hNx, eS, eU, eO, e24, e25, e26⟩, hn, hnv⟩ := hM
  unfold mxL at hm
  refine AM.ofI (lv := [(0, .ref a), (1, .int (nI v))]) (by decide +kernel) (Nat.le_of_ble_eq_true rfl) rfl ?_ (fun _ h => by cases h.1)
  refine a_aload_n 0 dX7_voice_0 rfl rfl ?_
  refine a_iload_n 1 dX7_voice_1 rfl rfl ?_
  refine a_callVp (As := [.int (nI v)]) (rest := []) (d := 1) (mc := 0) (ms := 0) (x := bI (wIx nv (nI v))) (ci := 7) l_X7_143 im_X7_isVoice se_X7_isVoice ⟨_, rfl, rfl⟩ dX7_voice_2 ⟨Nat.le_of_ble_eq_true rfl, Nat.le_of_ble_eq_true rfl⟩ rfl (Nat.le_of_ble_eq_true rfl) ⟨Nat.le_of_ble_eq_true rfl, Nat.le_of_ble_eq_true rfl⟩ hm (c_X7_isVoice hM0) ?_
  refine a_ifeqB 17 dX7_voice_5 (by decide) (fun c5 => ?_) (fun c5 => ?_)
  · skip
    exact absurd c5 (by rw [wIx_nI hv (by omega)]; decide)
  · skip
    refine a_aload_n 0 dX7_voice_8 rfl rfl ?_
    refine a_get f_X7_32 dX7_voice_9 hm rfl ?_
    refine a_iload_n 1 dX7_voice_12 rfl rfl ?_
    refine a_ialdN (j := v) dX7_voice_13 hVx (by omega) (by decide) ?_
    refine a_toeq (kV v) (eV _ (by omega)) ?_
    refine a_goto 19 dX7_voice_14 (by decide) ?_
    refine a_ret dX7_voice_19 ⟨⟨ri ?_, ?_⟩, rfl, rfl⟩
    · rfl
    · rfl
set_option maxHeartbeats 4000000 in
set_option maxRecDepth 100000 in
theorem c_X7_voice_unk {G : GT} {B : Nat} {l : Launch} {H : Heap} {a L : Nat} {fp ra rf rw rx : Int32} {ir kb : Bool} {n nv ct nx sd sn bn : Nat} {ka ks kw : Int32} {kK kV dd : DD} {v : Int32} (hv : wIx nv v = false) (hM : Mc G H a L fp ra rf rw rx ir kb n nv ct nx sd sn bn ka ks kw kK kV dd) : AM G B l yX7_voice cX7_voice 2 (some .int) 2 0 0 [.ref a, .int v] H (fun rv H' => rv = some (.int (-1000000001)) ∧ (H' = H)) := by
  have hM0 := hM
  obtain ⟨hm, ⟨fB, hBx, eB0, eB1, eB2⟩, ⟨fK, hKx, eK⟩, ⟨fV, hVx, eV⟩, ⟨fN, hNx, eS, eU, eO, e24, e25, e26⟩, hn, hnv⟩ := hM
  unfold mxL at hm
  refine AM.ofI (lv := [(0, .ref a), (1, .int v)]) (by decide +kernel) (Nat.le_of_ble_eq_true rfl) rfl ?_ (fun _ h => by cases h.1)
  refine a_aload_n 0 dX7_voice_0 rfl rfl ?_
  refine a_iload_n 1 dX7_voice_1 rfl rfl ?_
  refine a_callVp (As := [.int v]) (rest := []) (d := 1) (mc := 0) (ms := 0) (x := bI (wIx nv v)) (ci := 7) l_X7_143 im_X7_isVoice se_X7_isVoice ⟨_, rfl, rfl⟩ dX7_voice_2 ⟨Nat.le_of_ble_eq_true rfl, Nat.le_of_ble_eq_true rfl⟩ rfl (Nat.le_of_ble_eq_true rfl) ⟨Nat.le_of_ble_eq_true rfl, Nat.le_of_ble_eq_true rfl⟩ hm (c_X7_isVoice hM0) ?_
  refine a_ifeqB 17 dX7_voice_5 (by decide) (fun c5 => ?_) (fun c5 => ?_)
  · skip
    refine a_ldc (-1000000001) k_X7_142 dX7_voice_17 ?_
    refine a_ret dX7_voice_19 ⟨⟨ri ?_, ?_⟩, rfl, rfl⟩
    · rfl
    · rfl
  · skip
    exact absurd c5 (by rw [hv]; decide)
set_option maxHeartbeats 4000000 in
set_option maxRecDepth 100000 in
theorem c_X7_fault {G : GT} {B : Nat} {l : Launch} {H : Heap} {a L : Nat} {fp ra rf rw rx : Int32} {ir kb : Bool} {n nv ct nx sd sn bn : Nat} {ka ks kw : Int32} {kK kV dd : DD} (hM : Mc G H a L fp ra rf rw rx ir kb n nv ct nx sd sn bn ka ks kw kK kV dd) : AM G B l yX7_fault cX7_fault 1 (some .int) 0 0 0 [.ref a] H (fun rv H' => rv = some (.int fp) ∧ (H' = H)) := by
  have hM0 := hM
  obtain ⟨hm, ⟨fB, hBx, eB0, eB1, eB2⟩, ⟨fK, hKx, eK⟩, ⟨fV, hVx, eV⟩, ⟨fN, hNx, eS, eU, eO, e24, e25, e26⟩, hn, hnv⟩ := hM
  unfold mxL at hm
  refine AM.ofI (lv := [(0, .ref a)]) (by decide +kernel) (Nat.le_of_ble_eq_true rfl) rfl ?_ (fun _ h => by cases h.1)
  refine a_aload_n 0 dX7_fault_0 rfl rfl ?_
  refine a_get f_X7_13 dX7_fault_1 hm rfl ?_
  refine a_ret dX7_fault_4 ⟨⟨ri ?_, ?_⟩, rfl, rfl⟩
  · rfl
  · rfl
set_option maxHeartbeats 4000000 in
set_option maxRecDepth 100000 in
theorem c_X7_word {G : GT} {B : Nat} {l : Launch} {H : Heap} {a L : Nat} {fp ra rf rw rx : Int32} {ir kb : Bool} {n nv ct nx sd sn bn : Nat} {ka ks kw : Int32} {kK kV dd : DD} {w : Nat} (hw : w < n) {what : Int32} (hM : Mc G H a L fp ra rf rw rx ir kb n nv ct nx sd sn bn ka ks kw kK kV dd) : AM G B l yX7_word cX7_word 3 (some .int) 2 0 0 [.ref a, .int (nI w), .int what] H (fun rv H' => rv = some (.int (if what = 0 then dd w else if what = 1 then dd (8 + w) else if what = 2 then kK w else if what = 3 then dd (16 + w) else -1000000002)) ∧ (H' = H)) := by
  have hM0 := hM
  obtain ⟨hm, ⟨fB, hBx, eB0, eB1, eB2⟩, ⟨fK, hKx, eK⟩, ⟨fV, hVx, eV⟩, ⟨fN, hNx, eS, eU, eO, e24, e25, e26⟩, hn, hnv⟩ := hM
  unfold mxL at hm
  refine AM.ofI (lv := [(0, .ref a), (1, .int (nI w)), (2, .int what)]) (by decide +kernel) (Nat.le_of_ble_eq_true rfl) rfl ?_ (fun _ h => by cases h.1)
  refine a_aload_n 0 dX7_word_0 rfl rfl ?_
  refine a_iload_n 1 dX7_word_1 rfl rfl ?_
  refine a_callVp (As := [.int (nI w)]) (rest := []) (d := 1) (mc := 0) (ms := 0) (x := bI (wIx n (nI w))) (ci := 7) l_X7_139 im_X7_isWord se_X7_isWord ⟨_, rfl, rfl⟩ dX7_word_2 ⟨Nat.le_of_ble_eq_true rfl, Nat.le_of_ble_eq_true rfl⟩ rfl (Nat.le_of_ble_eq_true rfl) ⟨Nat.le_of_ble_eq_true rfl, Nat.le_of_ble_eq_true rfl⟩ hm (c_X7_isWord hM0) ?_
  refine a_ifneB 11 dX7_word_5 (by decide) (fun c5 => ?_) (fun c5 => ?_)
  · skip
    refine a_iload_n 2 dX7_word_11 rfl rfl ?_
    by_cases e0 : what = 0
    · skip
      refine a_toeq 0 e0 ?_
      refine a_tabIn 44 dX7_word_12 (by decide) (by decide) (off := 32) (by rfl) (by decide) ?_
      refine a_aload_n 0 dX7_word_44 rfl rfl ?_
      refine a_get f_X7_35 dX7_word_45 hm rfl ?_
      refine a_iload_n 1 dX7_word_48 rfl rfl ?_
      refine a_ialdN (j := w) dX7_word_49 hNx (by omega) (by decide) ?_
      refine a_toeq (dd w) (eS _ (by omega)) ?_
      refine a_ret dX7_word_50 ⟨⟨ri ?_, ?_⟩, rfl, rfl⟩
      · rw [if_pos e0]
      · rfl
    by_cases e1 : what = 1
    · skip
      refine a_toeq 1 e1 ?_
      refine a_tabIn 51 dX7_word_12 (by decide) (by decide) (off := 39) (by rfl) (by decide) ?_
      refine a_aload_n 0 dX7_word_51 rfl rfl ?_
      refine a_get f_X7_35 dX7_word_52 hm rfl ?_
      refine a_bipush 8 dX7_word_55 (by decide) ?_
      refine a_iload_n 1 dX7_word_57 rfl rfl ?_
      refine a_iaddN (a := 8) (b := w) dX7_word_58 ?_
      refine a_ialdN (j := 8 + w) dX7_word_59 hNx (by omega) (by decide) ?_
      refine a_toeq (dd (8 + w)) (eU _ (by omega)) ?_
      refine a_ret dX7_word_60 ⟨⟨ri ?_, ?_⟩, rfl, rfl⟩
      · rw [if_neg e0, if_pos e1]
      · rfl
    by_cases e2 : what = 2
    · skip
      refine a_toeq 2 e2 ?_
      refine a_tabIn 61 dX7_word_12 (by decide) (by decide) (off := 49) (by rfl) (by decide) ?_
      refine a_aload_n 0 dX7_word_61 rfl rfl ?_
      refine a_get f_X7_29 dX7_word_62 hm rfl ?_
      refine a_iload_n 1 dX7_word_65 rfl rfl ?_
      refine a_ialdN (j := w) dX7_word_66 hKx (by omega) (by decide) ?_
      refine a_toeq (kK w) (eK _ (by omega)) ?_
      refine a_ret dX7_word_67 ⟨⟨ri ?_, ?_⟩, rfl, rfl⟩
      · rw [if_neg e0, if_neg e1, if_pos e2]
      · rfl
    by_cases e3 : what = 3
    · skip
      refine a_toeq 3 e3 ?_
      refine a_tabIn 68 dX7_word_12 (by decide) (by decide) (off := 56) (by rfl) (by decide) ?_
      refine a_aload_n 0 dX7_word_68 rfl rfl ?_
      refine a_get f_X7_35 dX7_word_69 hm rfl ?_
      refine a_bipush 16 dX7_word_72 (by decide) ?_
      refine a_iload_n 1 dX7_word_74 rfl rfl ?_
      refine a_iaddN (a := 16) (b := w) dX7_word_75 ?_
      refine a_ialdN (j := 16 + w) dX7_word_76 hNx (by omega) (by decide) ?_
      refine a_toeq (dd (16 + w)) (eO _ (by omega)) ?_
      refine a_ret dX7_word_77 ⟨⟨ri ?_, ?_⟩, rfl, rfl⟩
      · rw [if_neg e0, if_neg e1, if_neg e2, if_pos e3]
      · rfl
    · skip
      refine a_tabOut 78 dX7_word_12 (by have h0 := lv_neT e0 (a := 0) rfl; have h1 := lv_neT e1 (a := 1) rfl; have h2 := lv_neT e2 (a := 2) rfl; have h3 := lv_neT e3 (a := 3) rfl; omega) (by decide) ?_
      refine a_ldc (-1000000002) k_X7_62 dX7_word_78 ?_
      refine a_ret dX7_word_80 ⟨⟨ri ?_, ?_⟩, rfl, rfl⟩
      · rw [if_neg e0, if_neg e1, if_neg e2, if_neg e3]
      · rfl
  · skip
    exact absurd c5 (by rw [wIx_nI hw (by omega)]; decide)
set_option maxHeartbeats 4000000 in
set_option maxRecDepth 100000 in
theorem c_X7_word_unk {G : GT} {B : Nat} {l : Launch} {H : Heap} {a L : Nat} {fp ra rf rw rx : Int32} {ir kb : Bool} {n nv ct nx sd sn bn : Nat} {ka ks kw : Int32} {kK kV dd : DD} {w : Int32} (hw : wIx n w = false) {what : Int32} (hM : Mc G H a L fp ra rf rw rx ir kb n nv ct nx sd sn bn ka ks kw kK kV dd) : AM G B l yX7_word cX7_word 3 (some .int) 2 0 0 [.ref a, .int w, .int what] H (fun rv H' => rv = some (.int (-1000000001)) ∧ (H' = H)) := by
  have hM0 := hM
  obtain ⟨hm, ⟨fB, hBx, eB0, eB1, eB2⟩, ⟨fK, hKx, eK⟩, ⟨fV, hVx, eV⟩, ⟨fN, hNx, eS, eU, eO, e24, e25, e26⟩, hn, hnv⟩ := hM
  unfold mxL at hm
  refine AM.ofI (lv := [(0, .ref a), (1, .int w), (2, .int what)]) (by decide +kernel) (Nat.le_of_ble_eq_true rfl) rfl ?_ (fun _ h => by cases h.1)
  refine a_aload_n 0 dX7_word_0 rfl rfl ?_
  refine a_iload_n 1 dX7_word_1 rfl rfl ?_
  refine a_callVp (As := [.int w]) (rest := []) (d := 1) (mc := 0) (ms := 0) (x := bI (wIx n w)) (ci := 7) l_X7_139 im_X7_isWord se_X7_isWord ⟨_, rfl, rfl⟩ dX7_word_2 ⟨Nat.le_of_ble_eq_true rfl, Nat.le_of_ble_eq_true rfl⟩ rfl (Nat.le_of_ble_eq_true rfl) ⟨Nat.le_of_ble_eq_true rfl, Nat.le_of_ble_eq_true rfl⟩ hm (c_X7_isWord hM0) ?_
  refine a_ifneB 11 dX7_word_5 (by decide) (fun c5 => ?_) (fun c5 => ?_)
  · skip
    exact absurd c5 (by rw [hw]; decide)
  · skip
    refine a_ldc (-1000000001) k_X7_142 dX7_word_8 ?_
    refine a_ret dX7_word_10 ⟨⟨ri ?_, ?_⟩, rfl, rfl⟩
    · rfl
    · rfl
set_option maxHeartbeats 4000000 in
set_option maxRecDepth 100000 in
theorem c_X7_greatestPart {G : GT} {B : Nat} {l : Launch} {H : Heap} {a L : Nat} {fp ra rf rw rx : Int32} {ir kb : Bool} {n nv ct nx sd sn bn : Nat} {ka ks kw : Int32} {kK kV dd : DD} {w : Nat} {set : Int32} (hw : w < n) (hM : Mc G H a L fp ra rf rw rx ir kb n nv ct nx sd sn bn ka ks kw kK kV dd) : AM G B l yX7_greatestPart cX7_greatestPart 7 (some .int) 4 0 0 [.ref a, .int (nI w), .int set] H (fun rv H' => rv = some (.int (nI (gpO n nv dd kV w set n))) ∧ (H' = H)) := by
  have hM0 := hM
  obtain ⟨hm, ⟨fB, hBx, eB0, eB1, eB2⟩, ⟨fK, hKx, eK⟩, ⟨fV, hVx, eV⟩, ⟨fN, hNx, eS, eU, eO, e24, e25, e26⟩, hn, hnv⟩ := hM
  unfold mxL at hm
  refine AM.ofI (lv := [(0, .ref a), (1, .int (nI w)), (2, .int set)]) (by decide +kernel) (Nat.le_of_ble_eq_true rfl) rfl ?_ (fun _ h => by cases h.1)
  refine a_iconst 0 dX7_greatestPart_0 (by decide) ?_
  refine a_istore_n (lv' := [(3, .int 0), (0, .ref a), (1, .int (nI w)), (2, .int set)]) dX7_greatestPart_1 rfl (by decide) rfl ?_
  refine a_iconst 0 dX7_greatestPart_2 (by decide) ?_
  refine a_istore (lv' := [(4, .int 0), (3, .int 0), (0, .ref a), (1, .int (nI w)), (2, .int set)]) dX7_greatestPart_3 (by decide) rfl ?_
  have L5 : ∀ (fu : Nat) (g r : Nat), g ≤ n → r = gpO n nv dd kV w set g → n - g < fu → AW G B l { frames := 4, cells := 0, slots := 0, locals := 27 * 4 } yX7_greatestPart.cls cX7_greatestPart 7 false (fun rv H' ce' sl' => (rv = some (.int (nI (gpO n nv dd kV w set n))) ∧ (H' = H)) ∧ ce' = 0 ∧ sl' = 0) 5 [(0, .ref a), (1, .int (nI w)), (2, .int set), (3, .int (nI r)), (4, .int (nI g))] [] H 0 0 := by
    intro fu
    induction fu with
    | zero => intro g r hk hg hm5; exact absurd hm5 (Nat.not_lt_zero _)
    | succ fu ih5 =>
      intro g r hk hg hm5
      have hle := gpO_le (n := n) (nv := nv) (dd := dd) (kV := kV) (w := w) (set := set) (g := g)
      refine a_iload 4 dX7_greatestPart_5 rfl ?_
      refine a_aload_n 0 dX7_greatestPart_7 rfl rfl ?_
      refine a_get f_X7_120 dX7_greatestPart_8 hm rfl ?_
      refine a_icmpgeN (a := g) (b := n) 90 dX7_greatestPart_11 (by decide) (by omega) (by omega) (fun c11 => ?_) (fun c11 => ?_)
      · skip
        refine a_iload_n 3 dX7_greatestPart_90 rfl rfl ?_
        refine a_ret dX7_greatestPart_91 ⟨⟨ri ?_, ?_⟩, rfl, rfl⟩
        · rw [hg, show n = g by omega]
        · rfl
      · skip
        refine a_iconst 0 dX7_greatestPart_14 (by decide) ?_
        refine a_istore (lv' := [(5, .int 0), (0, .ref a), (1, .int (nI w)), (2, .int set), (3, .int (nI r)), (4, .int (nI g))]) dX7_greatestPart_15 (by decide) rfl ?_
        refine a_iconst 0 dX7_greatestPart_17 (by decide) ?_
        refine a_istore (lv' := [(6, .int 0), (5, .int 0), (0, .ref a), (1, .int (nI w)), (2, .int set), (3, .int (nI r)), (4, .int (nI g))]) dX7_greatestPart_18 (by decide) rfl ?_
        have L20 : ∀ (fu : Nat) (v c : Nat), v ≤ nv → c = gpI n dd kV w set g v → nv - v < fu → AW G B l { frames := 4, cells := 0, slots := 0, locals := 27 * 4 } yX7_greatestPart.cls cX7_greatestPart 7 false (fun rv H' ce' sl' => (rv = some (.int (nI (gpO n nv dd kV w set n))) ∧ (H' = H)) ∧ ce' = 0 ∧ sl' = 0) 20 [(0, .ref a), (1, .int (nI w)), (2, .int set), (3, .int (nI r)), (4, .int (nI g)), (5, .int (nI c)), (6, .int (nI v))] [] H 0 0 := by
          intro fu
          induction fu with
          | zero => intro v c hk2 hh hm20; exact absurd hm20 (Nat.not_lt_zero _)
          | succ fu ih20 =>
            intro v c hk2 hh hm20
            have hlc := gpI_le (n := n) (dd := dd) (kV := kV) (w := w) (set := set) (g := g) (v := v)
            refine a_iload 6 dX7_greatestPart_20 rfl ?_
            refine a_aload_n 0 dX7_greatestPart_22 rfl rfl ?_
            refine a_get f_X7_123 dX7_greatestPart_23 hm rfl ?_
            refine a_icmpgeN (a := v) (b := nv) 71 dX7_greatestPart_26 (by decide) (by omega) (by omega) (fun c26 => ?_) (fun c26 => ?_)
            · skip
              refine a_iload 5 dX7_greatestPart_71 rfl ?_
              refine a_iload_n 3 dX7_greatestPart_73 rfl rfl ?_
              refine a_icmpleN (a := c) (b := r) 82 dX7_greatestPart_74 (by decide) (by omega) (by omega) (fun c74 => ?_) (fun c74 => ?_)
              · skip
                refine a_iload_n 3 dX7_greatestPart_82 rfl rfl ?_
                refine a_istore_n (lv' := [(3, .int (nI r)), (0, .ref a), (1, .int (nI w)), (2, .int set), (4, .int (nI g)), (5, .int (nI c)), (6, .int (nI v))]) dX7_greatestPart_83 rfl (by decide) rfl ?_
                refine a_iincN (q := 4) (lv' := [(4, .int (nI (g + 1))), (3, .int (nI r)), (0, .ref a), (1, .int (nI w)), (2, .int set), (5, .int (nI c)), (6, .int (nI v))]) dX7_greatestPart_84 rfl (by decide) rfl ?_
                refine a_goto 5 dX7_greatestPart_87 (by decide) ?_
                refine a_sub [2, 3, 4, 1, 0] rfl ?_
                exact ih5 _ _ (by omega) (by simp only [gpO]; rw [← hg, show nv = v by omega, ← hh]; omega) (by omega)
              · skip
                refine a_iload 5 dX7_greatestPart_77 rfl ?_
                refine a_goto 83 dX7_greatestPart_79 (by decide) ?_
                refine a_istore_n (lv' := [(3, .int (nI c)), (0, .ref a), (1, .int (nI w)), (2, .int set), (4, .int (nI g)), (5, .int (nI c)), (6, .int (nI v))]) dX7_greatestPart_83 rfl (by decide) rfl ?_
                refine a_iincN (q := 4) (lv' := [(4, .int (nI (g + 1))), (3, .int (nI c)), (0, .ref a), (1, .int (nI w)), (2, .int set), (5, .int (nI c)), (6, .int (nI v))]) dX7_greatestPart_84 rfl (by decide) rfl ?_
                refine a_goto 5 dX7_greatestPart_87 (by decide) ?_
                refine a_sub [2, 3, 4, 1, 0] rfl ?_
                exact ih5 _ _ (by omega) (by simp only [gpO]; rw [← hg, show nv = v by omega, ← hh]; omega) (by omega)
            · skip
              refine a_iload 5 dX7_greatestPart_29 rfl ?_
              refine a_iload_n 2 dX7_greatestPart_31 rfl rfl ?_
              refine a_iload 6 dX7_greatestPart_32 rfl ?_
              refine a_ishr dX7_greatestPart_34 ?_
              refine a_iconst 1 dX7_greatestPart_35 (by decide) ?_
              refine a_iand dX7_greatestPart_36 ?_
              refine a_iconst 1 dX7_greatestPart_37 (by decide) ?_
              refine a_icmpne 61 dX7_greatestPart_38 (by decide) (fun c38 => ?_) (fun c38 => ?_)
              · skip
                refine a_iconst 0 dX7_greatestPart_61 (by decide) ?_
                refine a_iaddN (a := c) (b := 0) dX7_greatestPart_62 ?_
                refine a_istore (lv' := [(5, .int (nI (c + 0))), (0, .ref a), (1, .int (nI w)), (2, .int set), (3, .int (nI r)), (4, .int (nI g)), (6, .int (nI v))]) dX7_greatestPart_63 (by decide) rfl ?_
                refine a_iincN (q := 6) (lv' := [(6, .int (nI (v + 1))), (5, .int (nI (c + 0))), (0, .ref a), (1, .int (nI w)), (2, .int set), (3, .int (nI r)), (4, .int (nI g))]) dX7_greatestPart_65 rfl (by decide) rfl ?_
                refine a_goto 20 dX7_greatestPart_68 (by decide) ?_
                refine a_sub [2, 3, 4, 5, 6, 1, 0] rfl ?_
                exact ih20 _ _ (by omega) (by simp only [gpI]; rw [if_neg (fun h => c38 h.1), hh]; rfl) (by omega)
              · skip
                refine a_aload_n 0 dX7_greatestPart_41 rfl rfl ?_
                refine a_aload_n 0 dX7_greatestPart_42 rfl rfl ?_
                refine a_iload_n 1 dX7_greatestPart_43 rfl rfl ?_
                refine a_iload 6 dX7_greatestPart_44 rfl ?_
                refine a_callVp (As := [.int (nI w), .int (nI v)]) (rest := [.ref a, .int (nI c)]) (d := 1) (mc := 0) (ms := 0) (x := spF dd kV w v) (ci := 7) l_X7_215 im_X7_saidBy se_X7_saidBy ⟨_, rfl, rfl⟩ dX7_greatestPart_46 ⟨Nat.le_of_ble_eq_true rfl, Nat.le_of_ble_eq_true rfl⟩ rfl (Nat.le_of_ble_eq_true rfl) ⟨Nat.le_of_ble_eq_true rfl, Nat.le_of_ble_eq_true rfl⟩ hm (c_X7_saidBy hw (by omega) hM0) ?_
                refine a_callVp (As := [.int (spF dd kV w v)]) (rest := [.int (nI c)]) (d := 3) (mc := 0) (ms := 0) (x := unF n dd kV w v) (ci := 7) l_X7_161 im_X7_guessOf se_X7_guessOf ⟨_, rfl, rfl⟩ dX7_greatestPart_49 ⟨Nat.le_of_ble_eq_true rfl, Nat.le_of_ble_eq_true rfl⟩ rfl (Nat.le_of_ble_eq_true rfl) ⟨Nat.le_of_ble_eq_true rfl, Nat.le_of_ble_eq_true rfl⟩ hm (c_X7_guessOf hM0) ?_
                refine a_iload 4 dX7_greatestPart_52 rfl ?_
                refine a_icmpne 61 dX7_greatestPart_54 (by decide) (fun c54 => ?_) (fun c54 => ?_)
                · skip
                  refine a_iconst 0 dX7_greatestPart_61 (by decide) ?_
                  refine a_iaddN (a := c) (b := 0) dX7_greatestPart_62 ?_
                  refine a_istore (lv' := [(5, .int (nI (c + 0))), (0, .ref a), (1, .int (nI w)), (2, .int set), (3, .int (nI r)), (4, .int (nI g)), (6, .int (nI v))]) dX7_greatestPart_63 (by decide) rfl ?_
                  refine a_iincN (q := 6) (lv' := [(6, .int (nI (v + 1))), (5, .int (nI (c + 0))), (0, .ref a), (1, .int (nI w)), (2, .int set), (3, .int (nI r)), (4, .int (nI g))]) dX7_greatestPart_65 rfl (by decide) rfl ?_
                  refine a_goto 20 dX7_greatestPart_68 (by decide) ?_
                  refine a_sub [2, 3, 4, 5, 6, 1, 0] rfl ?_
                  exact ih20 _ _ (by omega) (by simp only [gpI]; rw [if_neg (fun h => c54 h.2), hh]; rfl) (by omega)
                · skip
                  refine a_iconst 1 dX7_greatestPart_57 (by decide) ?_
                  refine a_goto 62 dX7_greatestPart_58 (by decide) ?_
                  refine a_iaddN (a := c) (b := 1) dX7_greatestPart_62 ?_
                  refine a_istore (lv' := [(5, .int (nI (c + 1))), (0, .ref a), (1, .int (nI w)), (2, .int set), (3, .int (nI r)), (4, .int (nI g)), (6, .int (nI v))]) dX7_greatestPart_63 (by decide) rfl ?_
                  refine a_iincN (q := 6) (lv' := [(6, .int (nI (v + 1))), (5, .int (nI (c + 1))), (0, .ref a), (1, .int (nI w)), (2, .int set), (3, .int (nI r)), (4, .int (nI g))]) dX7_greatestPart_65 rfl (by decide) rfl ?_
                  refine a_goto 20 dX7_greatestPart_68 (by decide) ?_
                  refine a_sub [2, 3, 4, 5, 6, 1, 0] rfl ?_
                  exact ih20 _ _ (by omega) (by simp only [gpI]; rw [if_pos ⟨c38, c54⟩, hh]) (by omega)
        refine a_sub [2, 3, 4, 5, 6, 1, 0] rfl ?_
        exact L20 _ 0 0 (Nat.zero_le _) rfl (Nat.lt_succ_self _)
  refine a_sub [2, 3, 4, 1, 0] rfl ?_
  exact L5 _ 0 0 (Nat.zero_le _) rfl (Nat.lt_succ_self _)
set_option maxHeartbeats 4000000 in
set_option maxRecDepth 100000 in
theorem c_X7_bits {G : GT} {B : Nat} {l : Launch} {H : Heap} {x : Nat} (hx : x < 16) : AM G B l yX7_bits cX7_bits 3 (some .int) 0 0 0 [.int (nI x)] H (fun rv H' => rv = some (.int (nI (btF 16 x))) ∧ (H' = H)) := by
  refine AM.ofI (lv := [(0, .int (nI x))]) (by decide +kernel) (Nat.le_of_ble_eq_true rfl) rfl ?_ (fun _ h => by cases h.1)
  refine a_iconst 0 dX7_bits_0 (by decide) ?_
  refine a_istore_n (lv' := [(1, .int 0), (0, .int (nI x))]) dX7_bits_1 rfl (by decide) rfl ?_
  refine a_iload_n 1 dX7_bits_2 rfl rfl ?_
  refine a_istore_n (lv' := [(2, .int (nI x)), (1, .int 0), (0, .int (nI x))]) dX7_bits_3 rfl (by decide) rfl ?_
  have L4 : ∀ (fu : Nat) (c y : Nat), y < 16 → c + btF 16 y = btF 16 x → c + y < 32 → y < fu → AW G B l { frames := 0, cells := 0, slots := 0, locals := 27 * 0 } yX7_bits.cls cX7_bits 3 false (fun rv H' ce' sl' => (rv = some (.int (nI (btF 16 x))) ∧ (H' = H)) ∧ ce' = 0 ∧ sl' = 0) 4 [(0, .int (nI x)), (1, .int (nI c)), (2, .int (nI y))] [] H 0 0 := by
    intro fu
    induction fu with
    | zero => intro c y hy hc hcy hm4; exact absurd hm4 (Nat.not_lt_zero _)
    | succ fu ih4 =>
      intro c y hy hc hcy hm4
      refine a_iload_n 2 dX7_bits_4 rfl rfl ?_
      refine a_ifeqN (a := y) 20 dX7_bits_5 (by decide) (by omega) (fun c5 => ?_) (fun c5 => ?_)
      · skip
        refine a_iload_n 1 dX7_bits_20 rfl rfl ?_
        refine a_ret dX7_bits_21 ⟨⟨ri ?_, ?_⟩, rfl, rfl⟩
        · rw [← hc, c5]; rfl
        · rfl
      · skip
        refine a_iincN (q := 1) (lv' := [(1, .int (nI (c + 1))), (0, .int (nI x)), (2, .int (nI y))]) dX7_bits_8 rfl (by decide) rfl ?_
        refine a_iload_n 2 dX7_bits_11 rfl rfl ?_
        refine a_iload_n 2 dX7_bits_12 rfl rfl ?_
        refine a_iconst 1 dX7_bits_13 (by decide) ?_
        refine a_isub dX7_bits_14 ?_
        refine a_iand dX7_bits_15 ?_
        rw [nI_and1 hy c5]
        refine a_istore_n (lv' := [(2, .int (nI (y &&& (y - 1)))), (1, .int (nI (c + 1))), (0, .int (nI x))]) dX7_bits_16 rfl (by decide) rfl ?_
        refine a_goto 4 dX7_bits_17 (by decide) ?_
        refine a_sub [2, 1, 0] rfl ?_
        exact ih4 _ _ (Nat.lt_trans (and1_lt hy c5) hy) (by rw [← hc, ← btF_st hy c5]; omega) (by have := and1_lt hy c5; omega) (by have := and1_lt hy c5; omega)
  refine a_sub [2, 1, 0] rfl ?_
  exact L4 _ 0 x hx (Nat.zero_add _) (by omega) (Nat.lt_succ_self _)
set_option maxHeartbeats 4000000 in
set_option maxRecDepth 100000 in
theorem c_X7_speaker {G : GT} {B : Nat} {l : Launch} {H : Heap} {a L : Nat} {fp ra rf rw rx : Int32} {ir kb : Bool} {n nv ct nx sd sn bn : Nat} {ka ks kw : Int32} {kK kV dd : DD} {sw sg : Nat → Nat} (hS : Mp G H (a + 10) 12 sn (fun i => nI (sw i)) (fun i => nI (sg i))) (hsw : ∀ i, i < sn → sw i < n) (hM : Mc G H a L fp ra rf rw rx ir kb n nv ct nx sd sn bn ka ks kw kK kV dd) : AM G B l yX7_speaker cX7_speaker 5 (some .int) 4 0 0 [.ref a] H (fun rv H' => rv = some (.int (spkF n dd kV sw sg sn nv)) ∧ (H' = H)) := by
  have hM0 := hM
  obtain ⟨hm, ⟨fB, hBx, eB0, eB1, eB2⟩, ⟨fK, hKx, eK⟩, ⟨fV, hVx, eV⟩, ⟨fN, hNx, eS, eU, eO, e24, e25, e26⟩, hn, hnv⟩ := hM
  unfold mxL at hm
  have hS0 := hS
  obtain ⟨fP, hp, eA, eC, hct, hcap⟩ := hS
  refine AM.ofI (lv := [(0, .ref a)]) (by decide +kernel) (Nat.le_of_ble_eq_true rfl) rfl ?_ (fun _ h => by cases h.1)
  refine a_iconst 0 dX7_speaker_0 (by decide) ?_
  refine a_istore_n (lv' := [(1, .int 0), (0, .ref a)]) dX7_speaker_1 rfl (by decide) rfl ?_
  refine a_iconst 0 dX7_speaker_2 (by decide) ?_
  refine a_istore_n (lv' := [(2, .int 0), (1, .int 0), (0, .ref a)]) dX7_speaker_3 rfl (by decide) rfl ?_
  have L4 : ∀ (fu : Nat) (v : Nat) (r : Int32), v ≤ nv → r = spkF n dd kV sw sg sn v → nv - v < fu → AW G B l { frames := 4, cells := 0, slots := 0, locals := 27 * 4 } yX7_speaker.cls cX7_speaker 5 false (fun rv H' ce' sl' => (rv = some (.int (spkF n dd kV sw sg sn nv)) ∧ (H' = H)) ∧ ce' = 0 ∧ sl' = 0) 4 [(0, .ref a), (1, .int r), (2, .int (nI v))] [] H 0 0 := by
    intro fu
    induction fu with
    | zero => intro v r hk2 hg hm4; exact absurd hm4 (Nat.not_lt_zero _)
    | succ fu ih4 =>
      intro v r hk2 hg hm4
      refine a_iload_n 2 dX7_speaker_4 rfl rfl ?_
      refine a_aload_n 0 dX7_speaker_5 rfl rfl ?_
      refine a_get f_X7_123 dX7_speaker_6 hm rfl ?_
      refine a_icmpgeN (a := v) (b := nv) 94 dX7_speaker_9 (by decide) (by omega) (by omega) (fun c9 => ?_) (fun c9 => ?_)
      · skip
        refine a_iload_n 1 dX7_speaker_94 rfl rfl ?_
        refine a_ret dX7_speaker_95 ⟨⟨ri ?_, ?_⟩, rfl, rfl⟩
        · rw [hg, show nv = v by omega]
        · rfl
      · skip
        refine a_iconst 1 dX7_speaker_12 (by decide) ?_
        refine a_istore_n (lv' := [(3, .int 1), (0, .ref a), (1, .int r), (2, .int (nI v))]) dX7_speaker_13 rfl (by decide) rfl ?_
        refine a_iconst 0 dX7_speaker_14 (by decide) ?_
        refine a_istore (lv' := [(4, .int 0), (3, .int 1), (0, .ref a), (1, .int r), (2, .int (nI v))]) dX7_speaker_15 (by decide) rfl ?_
        have L17 : ∀ (fu : Nat) (k : Nat) (is : Bool), k ≤ sn → is = csF n dd kV sw sg v k → sn - k < fu → AW G B l { frames := 4, cells := 0, slots := 0, locals := 27 * 4 } yX7_speaker.cls cX7_speaker 5 false (fun rv H' ce' sl' => (rv = some (.int (spkF n dd kV sw sg sn nv)) ∧ (H' = H)) ∧ ce' = 0 ∧ sl' = 0) 17 [(0, .ref a), (1, .int r), (2, .int (nI v)), (3, .int (bI is)), (4, .int (nI k))] [] H 0 0 := by
          intro fu
          induction fu with
          | zero => intro k is hk hi hm17; exact absurd hm17 (Nat.not_lt_zero _)
          | succ fu ih17 =>
            intro k is hk hi hm17
            refine a_iload 4 dX7_speaker_17 rfl ?_
            refine a_aload_n 0 dX7_speaker_19 rfl rfl ?_
            refine a_get f_X7_126 dX7_speaker_20 hm rfl ?_
            refine a_icmpgeN (a := k) (b := sn) 74 dX7_speaker_23 (by decide) (by omega) (by omega) (fun c23 => ?_) (fun c23 => ?_)
            · skip
              refine a_iload_n 1 dX7_speaker_74 rfl rfl ?_
              refine a_iload_n 3 dX7_speaker_75 rfl rfl ?_
              refine a_ifeqB 85 dX7_speaker_76 (by decide) (fun c76 => ?_) (fun c76 => ?_)
              · skip
                refine a_iconst 0 dX7_speaker_85 (by decide) ?_
                refine a_ior dX7_speaker_86 ?_
                refine a_istore_n (lv' := [(1, .int (r ||| 0)), (0, .ref a), (2, .int (nI v)), (3, .int (bI is)), (4, .int (nI k))]) dX7_speaker_87 rfl (by decide) rfl ?_
                refine a_iincN (q := 2) (lv' := [(2, .int (nI (v + 1))), (1, .int (r ||| 0)), (0, .ref a), (3, .int (bI is)), (4, .int (nI k))]) dX7_speaker_88 rfl (by decide) rfl ?_
                refine a_goto 4 dX7_speaker_91 (by decide) ?_
                refine a_sub [2, 1, 0] rfl ?_
                exact ih4 _ _ (by omega) (by simp only [spkF]; rw [show sn = k by omega] at hg ⊢; rw [← hi, if_neg (by rw [c76]; decide), Int32.or_zero, hg]) (by omega)
              · skip
                refine a_iconst 1 dX7_speaker_79 (by decide) ?_
                refine a_iload_n 2 dX7_speaker_80 rfl rfl ?_
                refine a_ishl dX7_speaker_81 ?_
                refine a_goto 86 dX7_speaker_82 (by decide) ?_
                refine a_ior dX7_speaker_86 ?_
                refine a_istore_n (lv' := [(1, .int (r ||| (1 <<< ((nI v) &&& 31)))), (0, .ref a), (2, .int (nI v)), (3, .int (bI is)), (4, .int (nI k))]) dX7_speaker_87 rfl (by decide) rfl ?_
                refine a_iincN (q := 2) (lv' := [(2, .int (nI (v + 1))), (1, .int (r ||| (1 <<< ((nI v) &&& 31)))), (0, .ref a), (3, .int (bI is)), (4, .int (nI k))]) dX7_speaker_88 rfl (by decide) rfl ?_
                refine a_goto 4 dX7_speaker_91 (by decide) ?_
                refine a_sub [2, 1, 0] rfl ?_
                exact ih4 _ _ (by omega) (by simp only [spkF]; rw [show sn = k by omega] at hg ⊢; rw [← hi, if_pos c76, ← hg]; rfl) (by omega)
            · skip
              refine a_iload_n 3 dX7_speaker_26 rfl rfl ?_
              refine a_ifeqB 66 dX7_speaker_27 (by decide) (fun c27 => ?_) (fun c27 => ?_)
              · skip
                refine a_iconst 0 dX7_speaker_66 (by decide) ?_
                refine a_istore_n (lv' := [(3, .int 0), (0, .ref a), (1, .int r), (2, .int (nI v)), (4, .int (nI k))]) dX7_speaker_67 rfl (by decide) rfl ?_
                refine a_iincN (q := 4) (lv' := [(4, .int (nI (k + 1))), (3, .int 0), (0, .ref a), (1, .int r), (2, .int (nI v))]) dX7_speaker_68 rfl (by decide) rfl ?_
                refine a_goto 17 dX7_speaker_71 (by decide) ?_
                refine a_sub [2, 3, 4, 1, 0] rfl ?_
                exact ih17 _ false (by omega) (by simp only [csF]; rw [← hi, c27]; rfl) (by omega)
              · skip
                refine a_aload_n 0 dX7_speaker_30 rfl rfl ?_
                refine a_aload_n 0 dX7_speaker_31 rfl rfl ?_
                refine a_aload_n 0 dX7_speaker_32 rfl rfl ?_
                refine a_get f_X7_41 dX7_speaker_33 hm rfl ?_
                refine a_iconst 2 dX7_speaker_36 (by decide) ?_
                refine a_iload 4 dX7_speaker_37 rfl ?_
                refine a_imulN (a := 2) (b := k) dX7_speaker_39 ?_
                refine a_ialdN (j := 2 * k) dX7_speaker_40 hp (by omega) (by decide) ?_
                refine a_toeq (nI (sw k)) (eA _ (by omega)) ?_
                refine a_iload_n 2 dX7_speaker_41 rfl rfl ?_
                refine a_callVp (As := [.int (nI (sw k)), .int (nI v)]) (rest := [.ref a]) (d := 1) (mc := 0) (ms := 0) (x := spF dd kV (sw k) v) (ci := 7) l_X7_215 im_X7_saidBy se_X7_saidBy ⟨_, rfl, rfl⟩ dX7_speaker_42 ⟨Nat.le_of_ble_eq_true rfl, Nat.le_of_ble_eq_true rfl⟩ rfl (Nat.le_of_ble_eq_true rfl) ⟨Nat.le_of_ble_eq_true rfl, Nat.le_of_ble_eq_true rfl⟩ hm (c_X7_saidBy (hsw k (by omega)) (by omega) hM0) ?_
                refine a_callVp (As := [.int (spF dd kV (sw k) v)]) (rest := []) (d := 3) (mc := 0) (ms := 0) (x := unF n dd kV (sw k) v) (ci := 7) l_X7_161 im_X7_guessOf se_X7_guessOf ⟨_, rfl, rfl⟩ dX7_speaker_45 ⟨Nat.le_of_ble_eq_true rfl, Nat.le_of_ble_eq_true rfl⟩ rfl (Nat.le_of_ble_eq_true rfl) ⟨Nat.le_of_ble_eq_true rfl, Nat.le_of_ble_eq_true rfl⟩ hm (c_X7_guessOf hM0) ?_
                refine a_aload_n 0 dX7_speaker_48 rfl rfl ?_
                refine a_get f_X7_41 dX7_speaker_49 hm rfl ?_
                refine a_iconst 2 dX7_speaker_52 (by decide) ?_
                refine a_iload 4 dX7_speaker_53 rfl ?_
                refine a_imulN (a := 2) (b := k) dX7_speaker_55 ?_
                refine a_iconst 1 dX7_speaker_56 (by decide) ?_
                refine a_iaddN (a := 2 * k) (b := 1) dX7_speaker_57 ?_
                refine a_ialdN (j := (2 * k) + 1) dX7_speaker_58 hp (by omega) (by decide) ?_
                refine a_toeq (nI (sg k)) (eC _ (by omega)) ?_
                refine a_icmpne 66 dX7_speaker_59 (by decide) (fun c59 => ?_) (fun c59 => ?_)
                · skip
                  refine a_iconst 0 dX7_speaker_66 (by decide) ?_
                  refine a_istore_n (lv' := [(3, .int 0), (0, .ref a), (1, .int r), (2, .int (nI v)), (4, .int (nI k))]) dX7_speaker_67 rfl (by decide) rfl ?_
                  refine a_iincN (q := 4) (lv' := [(4, .int (nI (k + 1))), (3, .int 0), (0, .ref a), (1, .int r), (2, .int (nI v))]) dX7_speaker_68 rfl (by decide) rfl ?_
                  refine a_goto 17 dX7_speaker_71 (by decide) ?_
                  refine a_sub [2, 3, 4, 1, 0] rfl ?_
                  exact ih17 _ false (by omega) (by simp only [csF]; rw [← hi, c27]; rw [decide_eq_false c59]; rfl) (by omega)
                · skip
                  refine a_iconst 1 dX7_speaker_62 (by decide) ?_
                  refine a_goto 67 dX7_speaker_63 (by decide) ?_
                  refine a_istore_n (lv' := [(3, .int 1), (0, .ref a), (1, .int r), (2, .int (nI v)), (4, .int (nI k))]) dX7_speaker_67 rfl (by decide) rfl ?_
                  refine a_iincN (q := 4) (lv' := [(4, .int (nI (k + 1))), (3, .int 1), (0, .ref a), (1, .int r), (2, .int (nI v))]) dX7_speaker_68 rfl (by decide) rfl ?_
                  refine a_goto 17 dX7_speaker_71 (by decide) ?_
                  refine a_sub [2, 3, 4, 1, 0] rfl ?_
                  exact ih17 _ true (by omega) (by simp only [csF]; rw [← hi, c27]; rw [decide_eq_true c59]; rfl) (by omega)
        refine a_sub [2, 3, 4, 1, 0] rfl ?_
        exact L17 _ 0 true (Nat.zero_le _) rfl (Nat.lt_succ_self _)
  refine a_sub [2, 1, 0] rfl ?_
  exact L4 _ 0 0 (Nat.zero_le _) rfl (Nat.lt_succ_self _)
set_option maxHeartbeats 4000000 in
set_option maxRecDepth 100000 in
theorem c_X7_sayNext {G : GT} {B : Nat} {l : Launch} {H : Heap} {a L : Nat} {fp ra rf rw rx : Int32} {ir kb : Bool} {n nv ct nx sd sn bn : Nat} {ka ks kw : Int32} {kK kV dd : DD} {sw sg : Nat → Nat} (hS : Mp G H (a + 10) 12 sn (fun i => nI (sw i)) (fun i => nI (sg i))) (hsw : ∀ i, i < sn → sw i < n) (hM : Mc G H a L fp ra rf rw rx ir kb n nv ct nx sd sn bn ka ks kw kK kV dd) : AM G B l yX7_sayNext cX7_sayNext 6 (some .int) 5 0 0 [.ref a] H (fun rv H' => rv = some (.int ((snF n nv dd kV (spkF n dd kV sw sg sn nv) (cnF n dd kV sw sg sn nv) n).1)) ∧ (H' = H)) := by
  have hM0 := hM
  obtain ⟨hm, ⟨fB, hBx, eB0, eB1, eB2⟩, ⟨fK, hKx, eK⟩, ⟨fV, hVx, eV⟩, ⟨fN, hNx, eS, eU, eO, e24, e25, e26⟩, hn, hnv⟩ := hM
  unfold mxL at hm
  have hS0 := hS
  obtain ⟨fP, hp, eA, eC, hct, hcap⟩ := hS
  obtain ⟨x, hx, ex, eb⟩ := spk_bt (n := n) (dd := dd) (kV := kV) (sw := sw) (sg := sg) (sn := sn) hnv
  have hcl := cnF_le (n := n) (dd := dd) (kV := kV) (sw := sw) (sg := sg) (sn := sn) (v := nv)
  refine AM.ofI (lv := [(0, .ref a)]) (by decide +kernel) (Nat.le_of_ble_eq_true rfl) rfl ?_ (fun _ h => by cases h.1)
  refine a_aload_n 0 dX7_sayNext_0 rfl rfl ?_
  refine a_callVp (As := []) (rest := []) (d := 4) (mc := 0) (ms := 0) (x := nI x) (ci := 7) l_X7_228 im_X7_speaker se_X7_speaker ⟨_, rfl, rfl⟩ dX7_sayNext_1 ⟨Nat.le_of_ble_eq_true rfl, Nat.le_of_ble_eq_true rfl⟩ rfl (Nat.le_of_ble_eq_true rfl) ⟨Nat.le_of_ble_eq_true rfl, Nat.le_of_ble_eq_true rfl⟩ hm ((by rw [← ex]; exact c_X7_speaker hS0 hsw hM0)) ?_
  refine a_istore_n (lv' := [(1, .int (nI x)), (0, .ref a)]) dX7_sayNext_4 rfl (by decide) rfl ?_
  refine a_iconst (-1) dX7_sayNext_5 (by decide) ?_
  refine a_istore_n (lv' := [(2, .int (-1)), (1, .int (nI x)), (0, .ref a)]) dX7_sayNext_6 rfl (by decide) rfl ?_
  refine a_iload_n 1 dX7_sayNext_7 rfl rfl ?_
  refine a_callSp (As := [.int (nI x)]) (rest := []) (d := 0) (mc := 0) (ms := 0) (x := nI (cnF n dd kV sw sg sn nv)) l_X7_231 st_X7_bits dX7_sayNext_8 ⟨Nat.le_of_ble_eq_true rfl, Nat.le_of_ble_eq_true rfl⟩ rfl (Nat.le_of_ble_eq_true rfl) ⟨Nat.le_of_ble_eq_true rfl, Nat.le_of_ble_eq_true rfl⟩ ((by rw [← eb]; exact c_X7_bits hx)) ?_
  refine a_istore_n (lv' := [(3, .int (nI (cnF n dd kV sw sg sn nv))), (2, .int (-1)), (1, .int (nI x)), (0, .ref a)]) dX7_sayNext_11 rfl (by decide) rfl ?_
  refine a_iconst 0 dX7_sayNext_12 (by decide) ?_
  refine a_istore (lv' := [(4, .int 0), (3, .int (nI (cnF n dd kV sw sg sn nv))), (2, .int (-1)), (1, .int (nI x)), (0, .ref a)]) dX7_sayNext_13 (by decide) rfl ?_
  have L15 : ∀ (fu : Nat) (k : Nat) (r : Int32) (m : Nat), k ≤ n → m ≤ 4 → snF n nv dd kV (nI x) (cnF n dd kV sw sg sn nv) k = (r, m) → n - k < fu → AW G B l { frames := 5, cells := 0, slots := 0, locals := 27 * 5 } yX7_sayNext.cls cX7_sayNext 6 false (fun rv H' ce' sl' => (rv = some (.int ((snF n nv dd kV (spkF n dd kV sw sg sn nv) (cnF n dd kV sw sg sn nv) n).1)) ∧ (H' = H)) ∧ ce' = 0 ∧ sl' = 0) 15 [(0, .ref a), (1, .int (nI x)), (2, .int r), (3, .int (nI m)), (4, .int (nI k))] [] H 0 0 := by
    intro fu
    induction fu with
    | zero => intro k r m hk hm4 hg hm15; exact absurd hm15 (Nat.not_lt_zero _)
    | succ fu ih15 =>
      intro k r m hk hm4 hg hm15
      have hgl := gpO_le (n := n) (nv := nv) (dd := dd) (kV := kV) (w := k) (set := nI x) (g := n)
      refine a_iload 4 dX7_sayNext_15 rfl ?_
      refine a_aload_n 0 dX7_sayNext_17 rfl rfl ?_
      refine a_get f_X7_120 dX7_sayNext_18 hm rfl ?_
      refine a_icmpgeN (a := k) (b := n) 65 dX7_sayNext_21 (by decide) (by omega) (by omega) (fun c21 => ?_) (fun c21 => ?_)
      · skip
        refine a_iload_n 2 dX7_sayNext_65 rfl rfl ?_
        refine a_ret dX7_sayNext_66 ⟨⟨ri ?_, ?_⟩, rfl, rfl⟩
        · rw [ex]; have e : n = k := by omega
          subst e; rw [hg]
        · rfl
      · skip
        refine a_aload_n 0 dX7_sayNext_24 rfl rfl ?_
        refine a_iload 4 dX7_sayNext_25 rfl ?_
        refine a_iload_n 1 dX7_sayNext_27 rfl rfl ?_
        refine a_callVp (As := [.int (nI k), .int (nI x)]) (rest := []) (d := 4) (mc := 0) (ms := 0) (x := nI (gpO n nv dd kV k (nI x) n)) (ci := 7) l_X7_234 im_X7_greatestPart se_X7_greatestPart ⟨_, rfl, rfl⟩ dX7_sayNext_28 ⟨Nat.le_of_ble_eq_true rfl, Nat.le_of_ble_eq_true rfl⟩ rfl (Nat.le_of_ble_eq_true rfl) ⟨Nat.le_of_ble_eq_true rfl, Nat.le_of_ble_eq_true rfl⟩ hm (c_X7_greatestPart (by omega) hM0) ?_
        refine a_istore (lv' := [(5, .int (nI (gpO n nv dd kV k (nI x) n))), (0, .ref a), (1, .int (nI x)), (2, .int r), (3, .int (nI m)), (4, .int (nI k))]) dX7_sayNext_31 (by decide) rfl ?_
        refine a_iload 0 dX7_sayNext_33 rfl ?_
        refine a_iload_n 4 dX7_sayNext_35 rfl rfl ?_
        refine a_icmpgeN (a := gpO n nv dd kV k (nI x) n) (b := m) 44 dX7_sayNext_36 (by decide) (by omega) (by omega) (fun c36 => ?_) (fun c36 => ?_)
        · skip
          refine a_iload_n 3 dX7_sayNext_44 rfl rfl ?_
          refine a_istore_n (lv' := [(2, .int r), (5, .int (nI (gpO n nv dd kV k (nI x) n))), (0, .ref a), (1, .int (nI x)), (3, .int (nI m)), (4, .int (nI k))]) dX7_sayNext_45 rfl (by decide) rfl ?_
          refine a_iload 1 dX7_sayNext_46 rfl ?_
          refine a_iload_n 4 dX7_sayNext_48 rfl rfl ?_
          refine a_icmpgeN (a := gpO n nv dd kV k (nI x) n) (b := m) 57 dX7_sayNext_49 (by decide) (by omega) (by omega) (fun c49 => ?_) (fun c49 => ?_)
          · skip
            refine a_iload_n 4 dX7_sayNext_57 rfl rfl ?_
            refine a_istore_n (lv' := [(3, .int (nI m)), (2, .int r), (5, .int (nI (gpO n nv dd kV k (nI x) n))), (0, .ref a), (1, .int (nI x)), (4, .int (nI k))]) dX7_sayNext_58 rfl (by decide) rfl ?_
            refine a_iincN (q := 5) (lv' := [(4, .int (nI (k + 1))), (3, .int (nI m)), (2, .int r), (5, .int (nI (gpO n nv dd kV k (nI x) n))), (0, .ref a), (1, .int (nI x))]) dX7_sayNext_59 rfl (by decide) rfl ?_
            refine a_goto 15 dX7_sayNext_62 (by decide) ?_
            refine a_sub [4, 5, 2, 1, 0] rfl ?_
            exact ih15 _ _ _ (by omega) (by omega) (by simp only [snF]; rw [hg]; exact if_neg (by dsimp only; omega)) (by omega)
          · skip
            omega
        · skip
          refine a_iload 5 dX7_sayNext_39 rfl ?_
          refine a_goto 45 dX7_sayNext_41 (by decide) ?_
          refine a_istore_n (lv' := [(2, .int (nI k)), (5, .int (nI (gpO n nv dd kV k (nI x) n))), (0, .ref a), (1, .int (nI x)), (3, .int (nI m)), (4, .int (nI k))]) dX7_sayNext_45 rfl (by decide) rfl ?_
          refine a_iload 1 dX7_sayNext_46 rfl ?_
          refine a_iload_n 4 dX7_sayNext_48 rfl rfl ?_
          refine a_icmpgeN (a := gpO n nv dd kV k (nI x) n) (b := m) 57 dX7_sayNext_49 (by decide) (by omega) (by omega) (fun c49 => ?_) (fun c49 => ?_)
          · skip
            omega
          · skip
            refine a_iload 1 dX7_sayNext_52 rfl ?_
            refine a_goto 58 dX7_sayNext_54 (by decide) ?_
            refine a_istore_n (lv' := [(3, .int (nI (gpO n nv dd kV k (nI x) n))), (2, .int (nI k)), (5, .int (nI (gpO n nv dd kV k (nI x) n))), (0, .ref a), (1, .int (nI x)), (4, .int (nI k))]) dX7_sayNext_58 rfl (by decide) rfl ?_
            refine a_iincN (q := 5) (lv' := [(4, .int (nI (k + 1))), (3, .int (nI (gpO n nv dd kV k (nI x) n))), (2, .int (nI k)), (5, .int (nI (gpO n nv dd kV k (nI x) n))), (0, .ref a), (1, .int (nI x))]) dX7_sayNext_59 rfl (by decide) rfl ?_
            refine a_goto 15 dX7_sayNext_62 (by decide) ?_
            refine a_sub [4, 5, 2, 1, 0] rfl ?_
            exact ih15 _ _ _ (by omega) (by omega) (by simp only [snF]; rw [hg]; exact if_pos (by dsimp only; omega)) (by omega)
  refine a_sub [4, 3, 2, 1, 0] rfl ?_
  exact L15 _ 0 _ _ (Nat.zero_le _) (by omega) rfl (Nat.lt_succ_self _)
