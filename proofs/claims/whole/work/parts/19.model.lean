/-! ===== BEGIN BeansBoxModel: what it is, in the same numbers ===== -/
def inF (v lo hi : Int32) : Bool := decide (lo ≤ v) && decide (v ≤ hi)
theorem inF_f1 {v lo hi : Int32} (h : v < lo) : inF v lo hi = false := by
  unfold inF
  rw [decide_eq_false (Int32.not_le.mpr h)]; rfl
theorem inF_f2 {v lo hi : Int32} (h : ¬ v ≤ hi) : inF v lo hi = false := by
  unfold inF
  rw [decide_eq_false h, Bool.and_false]
theorem inF_t {v lo hi : Int32} (h : ¬ v < lo) (h2 : v ≤ hi) : inF v lo hi = true := by
  unfold inF
  rw [decide_eq_true (Int32.not_lt.mp h), decide_eq_true h2]; rfl
theorem inF_w {n : Nat} {w : Int32} (hn : n < 2 ^ 31) : inF w 0 (nI n - 1) = wIx n w := by
  rcases pk_ix w hn with h | h | ⟨k, hk, rfl⟩
  · rw [inF_f1 h, wIx_f1 h]
  · rw [wIx_f2 h]
    refine inF_f2 (fun q => ?_)
    cases n with
    | zero => exact absurd (Int32.le_trans h q) (by decide)
    | succ m =>
      rw [nI_pred] at q
      exact nI_ge (show m < m + 1 by omega) hn (Int32.le_trans h q)
  · rw [wIx_nI hk hn]
    cases n with
    | zero => omega
    | succ m =>
      rw [nI_pred]
      refine inF_t (nI_pos (by omega)) (Int32.not_lt.mp (fun q => ?_))
      exact absurd ((nI_ltI (by omega) (by omega)).mp q) (by omega)
theorem inF_s {w : Int32} : inF w 0 999 = wIx 1000 w := inF_w (n := 1000) (by decide)
/-- a row of now: the same as dd where it counts -/
def NA (n : Nat) (f dd : DD) : Prop := (∀ i, i < n → f i = dd i) ∧ (∀ i, i < n → f (8 + i) = dd (8 + i)) ∧ (∀ i, i < n → f (16 + i) = dd (16 + i)) ∧ f 24 = dd 24 ∧ f 25 = dd 25 ∧ f 26 = dd 26
/-- its fields -/
def mxL (a L : Nat) (fp ra rf rw rv : Int32) (ir kb : Bool) (n nv ct nx sd sn bn : Nat) : List Value := [.int (nI L), .ref (a + 1), .int fp, .int ra, .int rf, .int rw, .int rv, .ref (a + 2), .ref (a + 3), .ref (a + 4), .int (bI ir), .int (bI kb), .int (nI n), .int (nI nv), .ref (a + 5), .ref (a + 6), .ref (a + 7), .ref (a + 8), .int (nI ct), .int (nI nx), .ref (a + 9), .long (lN sd), .int (nI sn), .ref (a + 10), .int (nI bn), .ref (a + 11), .ref (a + 12), .ref (a + 13), .ref (a + 14)]
/-- what its queries read -/
def Mc (G : GT) (H : Heap) (a L : Nat) (fp ra rf rw rv : Int32) (ir kb : Bool) (n nv ct nx sd sn bn : Nat) (ka ks kw : Int32) (kK kV dd : DD) : Prop := Ob G H a 7 (mxL a L fp ra rf rw rv ir kb n nv ct nx sd sn bn) ∧ (∃ f : DD, Ai G H (a + 5) 3 f ∧ f 0 = ka ∧ f 1 = ks ∧ f 2 = kw) ∧ (∃ f : DD, Ai G H (a + 6) 8 f ∧ ∀ i, i < n → f i = kK i) ∧ (∃ f : DD, Ai G H (a + 7) 4 f ∧ ∀ i, i < nv → f i = kV i) ∧ (∃ f : DD, Ai G H (a + 8) 27 f ∧ NA n f dd) ∧ n ≤ 8 ∧ nv ≤ 4
theorem Mc.kept {G : GT} {H H1 : Heap} {a L : Nat} {fp ra rf rw rv : Int32} {ir kb : Bool} {n nv ct nx sd sn bn : Nat} {ka ks kw : Int32} {kK kV dd : DD} (h : Mc G H a L fp ra rf rw rv ir kb n nv ct nx sd sn bn ka ks kw kK kV dd) (hq : ∀ q, (q = a ∨ a + 5 ≤ q ∧ q < a + 9) → H1[q]? = H[q]?) : Mc G H1 a L fp ra rf rw rv ir kb n nv ct nx sd sn bn ka ks kw kK kV dd := by
  obtain ⟨h1, ⟨f2, h2, h2'⟩, ⟨f3, h3, h3'⟩, ⟨f4, h4, h4'⟩, ⟨f5, h5, h5'⟩, h6⟩ := h
  exact ⟨h1.kept (hq _ (by omega)), ⟨f2, h2.kept (hq _ (by omega)), h2'⟩, ⟨f3, h3.kept (hq _ (by omega)), h3'⟩, ⟨f4, h4.kept (hq _ (by omega)), h4'⟩, ⟨f5, h5.kept (hq _ (by omega)), h5'⟩, h6⟩
def RK (n : Nat) (kK : DD) : Prop := ∀ w, w < n → ∃ c, c ≤ 99 ∧ kK w = nI c
theorem sm_ok {n : Nat} {dd : DD} {c : Nat} (hR : RG n dd) (hc : c < 1000) (k : Nat) (hk : k ≤ n) : ∃ S, smF dd (nI c) k = nI S ∧ k ≤ S ∧ S ≤ 2800 * k ∧ ∀ w, w < k → ∃ m, m ≤ S ∧ m ≤ 2800 ∧ wtF dd w (nI c) = nI m := by
  induction k with
  | zero => exact ⟨0, rfl, Nat.le_refl _, Nat.le_refl _, fun w h => absurd h (Nat.not_lt_zero _)⟩
  | succ k ih =>
    obtain ⟨S, h1, h2, h3, h4⟩ := ih (by omega)
    obtain ⟨m, h5, h6, h7⟩ := wt_ok hR (show k < n by omega) hc
    refine ⟨S + m, ?_, by omega, by omega, ?_⟩
    · simp only [smF]; rw [h1, h7, nI_add]
    · intro w hw
      by_cases e : w = k
      · subst e; exact ⟨m, by omega, h6, h7⟩
      · obtain ⟨m2, g1, g2, g3⟩ := h4 w (by omega)
        exact ⟨m2, by omega, g2, g3⟩
theorem ce_ok {n : Nat} {dd : DD} {c w : Nat} (hR : RG n dd) (hn : n ≤ 8) (hc : c < 1000) (hw : w < n) : ∃ e, e ≤ 1000000 ∧ ceF n dd w (nI c) = nI e := by
  obtain ⟨S, h1, h2, h3, h4⟩ := sm_ok hR hc n (Nat.le_refl _)
  obtain ⟨m, h5, h6, h7⟩ := h4 w hw
  refine ⟨m * 1000000 / S, ?_, ?_⟩
  · exact Nat.div_le_of_le_mul (Nat.mul_le_mul_right _ h5)
  · unfold ceF
    rw [h1, if_neg (fun h => by rw [← nI_0] at h; exact nI_ge (show 0 < S by omega) (by omega) h), h7, nI_l (by omega), nI_l (by omega), show (1000000 : Int64) = lN 1000000 from rfl, lN_mul, pk_lDiv (by omega) (by omega) (by omega), lN_i]
/-! ===== END ===== -/

set_option maxHeartbeats 4000000 in
set_option maxRecDepth 100000 in
theorem c_X7_in {G : GT} {B : Nat} {l : Launch} {H : Heap} {v lo hi : Int32} : AM G B l yX7_in cX7_in 3 (some .boolean) 0 0 0 [.int v, .int lo, .int hi] H (fun rv H' => rv = some (.int (bI (inF v lo hi))) ∧ (H' = H)) := by
  refine AM.ofZ (lv := [(0, .int v), (1, .int lo), (2, .int hi)]) (by decide +kernel) (Nat.le_of_ble_eq_true rfl) rfl ?_ (fun _ _ h => ⟨_, h.1⟩)
  refine a_iload_n 0 dX7_in_0 rfl rfl ?_
  refine a_iload_n 1 dX7_in_1 rfl rfl ?_
  refine a_icmplt 14 dX7_in_2 (by decide) (fun c2 => ?_) (fun c2 => ?_)
  · skip
    refine a_iconst 0 dX7_in_14 (by decide) ?_
    refine a_ret dX7_in_15 ⟨⟨ri ?_, ?_⟩, rfl, rfl⟩
    · first | (rw [inF_f1 c2]; rfl) | (rw [inF_f2 (Int32.not_le.mpr c7)]; rfl)
    · rfl
  · skip
    refine a_iload_n 0 dX7_in_5 rfl rfl ?_
    refine a_iload_n 2 dX7_in_6 rfl rfl ?_
    refine a_icmpgt 14 dX7_in_7 (by decide) (fun c7 => ?_) (fun c7 => ?_)
    · skip
      refine a_iconst 0 dX7_in_14 (by decide) ?_
      refine a_ret dX7_in_15 ⟨⟨ri ?_, ?_⟩, rfl, rfl⟩
      · first | (rw [inF_f1 c2]; rfl) | (rw [inF_f2 (Int32.not_le.mpr c7)]; rfl)
      · rfl
    · skip
      refine a_iconst 1 dX7_in_10 (by decide) ?_
      refine a_goto 15 dX7_in_11 (by decide) ?_
      refine a_ret dX7_in_15 ⟨⟨ri ?_, ?_⟩, rfl, rfl⟩
      · rw [inF_t c2 (Int32.not_lt.mp c7)]; rfl
      · rfl
set_option maxHeartbeats 4000000 in
set_option maxRecDepth 100000 in
theorem c_X7_isWord {G : GT} {B : Nat} {l : Launch} {H : Heap} {a L : Nat} {fp ra rf rw rx : Int32} {ir kb : Bool} {n nv ct nx sd sn bn : Nat} {ka ks kw : Int32} {kK kV dd : DD} {w : Int32} (hM : Mc G H a L fp ra rf rw rx ir kb n nv ct nx sd sn bn ka ks kw kK kV dd) : AM G B l yX7_isWord cX7_isWord 2 (some .boolean) 1 0 0 [.ref a, .int w] H (fun rv H' => rv = some (.int (bI (wIx n w))) ∧ (H' = H)) := by
  have hM0 := hM
  obtain ⟨hm, ⟨fB, hBx, eB0, eB1, eB2⟩, ⟨fK, hKx, eK⟩, ⟨fV, hVx, eV⟩, ⟨fN, hNx, eS, eU, eO, e24, e25, e26⟩, hn, hnv⟩ := hM
  unfold mxL at hm
  refine AM.ofZ (lv := [(0, .ref a), (1, .int w)]) (by decide +kernel) (Nat.le_of_ble_eq_true rfl) rfl ?_ (fun _ _ h => ⟨_, h.1⟩)
  refine a_iload_n 1 dX7_isWord_0 rfl rfl ?_
  refine a_iconst 0 dX7_isWord_1 (by decide) ?_
  refine a_aload_n 0 dX7_isWord_2 rfl rfl ?_
  refine a_get f_X7_120 dX7_isWord_3 hm rfl ?_
  refine a_iconst 1 dX7_isWord_6 (by decide) ?_
  refine a_isub dX7_isWord_7 ?_
  refine a_callSp (As := [.int w, .int 0, .int ((nI n) - 1)]) (rest := []) (d := 0) (mc := 0) (ms := 0) (x := bI (inF w 0 (nI n - 1))) l_X7_58 st_X7_in dX7_isWord_8 ⟨Nat.le_of_ble_eq_true rfl, Nat.le_of_ble_eq_true rfl⟩ rfl (Nat.le_of_ble_eq_true rfl) ⟨Nat.le_of_ble_eq_true rfl, Nat.le_of_ble_eq_true rfl⟩ (c_X7_in) ?_
  rw [inF_w (by omega)]
  refine a_ret dX7_isWord_11 ⟨⟨ri ?_, ?_⟩, rfl, rfl⟩
  · rfl
  · rfl
set_option maxHeartbeats 4000000 in
set_option maxRecDepth 100000 in
theorem c_X7_isVoice {G : GT} {B : Nat} {l : Launch} {H : Heap} {a L : Nat} {fp ra rf rw rx : Int32} {ir kb : Bool} {n nv ct nx sd sn bn : Nat} {ka ks kw : Int32} {kK kV dd : DD} {w : Int32} (hM : Mc G H a L fp ra rf rw rx ir kb n nv ct nx sd sn bn ka ks kw kK kV dd) : AM G B l yX7_isVoice cX7_isVoice 2 (some .boolean) 1 0 0 [.ref a, .int w] H (fun rv H' => rv = some (.int (bI (wIx nv w))) ∧ (H' = H)) := by
  have hM0 := hM
  obtain ⟨hm, ⟨fB, hBx, eB0, eB1, eB2⟩, ⟨fK, hKx, eK⟩, ⟨fV, hVx, eV⟩, ⟨fN, hNx, eS, eU, eO, e24, e25, e26⟩, hn, hnv⟩ := hM
  unfold mxL at hm
  refine AM.ofZ (lv := [(0, .ref a), (1, .int w)]) (by decide +kernel) (Nat.le_of_ble_eq_true rfl) rfl ?_ (fun _ _ h => ⟨_, h.1⟩)
  refine a_iload_n 1 dX7_isVoice_0 rfl rfl ?_
  refine a_iconst 0 dX7_isVoice_1 (by decide) ?_
  refine a_aload_n 0 dX7_isVoice_2 rfl rfl ?_
  refine a_get f_X7_123 dX7_isVoice_3 hm rfl ?_
  refine a_iconst 1 dX7_isVoice_6 (by decide) ?_
  refine a_isub dX7_isVoice_7 ?_
  refine a_callSp (As := [.int w, .int 0, .int ((nI nv) - 1)]) (rest := []) (d := 0) (mc := 0) (ms := 0) (x := bI (inF w 0 (nI nv - 1))) l_X7_58 st_X7_in dX7_isVoice_8 ⟨Nat.le_of_ble_eq_true rfl, Nat.le_of_ble_eq_true rfl⟩ rfl (Nat.le_of_ble_eq_true rfl) ⟨Nat.le_of_ble_eq_true rfl, Nat.le_of_ble_eq_true rfl⟩ (c_X7_in) ?_
  rw [inF_w (by omega)]
  refine a_ret dX7_isVoice_11 ⟨⟨ri ?_, ?_⟩, rfl, rfl⟩
  · rfl
  · rfl
set_option maxHeartbeats 4000000 in
set_option maxRecDepth 100000 in
theorem c_X7_isSound {G : GT} {B : Nat} {l : Launch} {H : Heap} {s : Int32} : AM G B l yX7_isSound cX7_isSound 1 (some .boolean) 1 0 0 [.int s] H (fun rv H' => rv = some (.int (bI (wIx 1000 s))) ∧ (H' = H)) := by
  refine AM.ofZ (lv := [(0, .int s)]) (by decide +kernel) (Nat.le_of_ble_eq_true rfl) rfl ?_ (fun _ _ h => ⟨_, h.1⟩)
  refine a_iload_n 0 dX7_isSound_0 rfl rfl ?_
  refine a_iconst 0 dX7_isSound_1 (by decide) ?_
  refine a_sipush 999 dX7_isSound_2 (by decide) ?_
  refine a_callSp (As := [.int s, .int 0, .int 999]) (rest := []) (d := 0) (mc := 0) (ms := 0) (x := bI (inF s 0 999)) l_X7_58 st_X7_in dX7_isSound_5 ⟨Nat.le_of_ble_eq_true rfl, Nat.le_of_ble_eq_true rfl⟩ rfl (Nat.le_of_ble_eq_true rfl) ⟨Nat.le_of_ble_eq_true rfl, Nat.le_of_ble_eq_true rfl⟩ (c_X7_in) ?_
  rw [inF_s]
  refine a_ret dX7_isSound_8 ⟨⟨ri ?_, ?_⟩, rfl, rfl⟩
  · rfl
  · rfl
set_option maxHeartbeats 4000000 in
set_option maxRecDepth 100000 in
theorem c_X7_far {G : GT} {B : Nat} {l : Launch} {H : Heap} {x y : Int32} : AM G B l yX7_far cX7_far 3 (some .int) 0 0 0 [.int x, .int y] H (fun rv H' => rv = some (.int (abI (x - y))) ∧ (H' = H)) := by
  refine AM.ofI (lv := [(0, .int x), (1, .int y)]) (by decide +kernel) (Nat.le_of_ble_eq_true rfl) rfl ?_ (fun _ h => by cases h.1)
  refine a_iload_n 0 dX7_far_0 rfl rfl ?_
  refine a_iload_n 1 dX7_far_1 rfl rfl ?_
  refine a_isub dX7_far_2 ?_
  refine a_istore_n (lv' := [(2, .int (x - y)), (0, .int x), (1, .int y)]) dX7_far_3 rfl (by decide) rfl ?_
  refine a_iload_n 0 dX7_far_4 rfl rfl ?_
  refine a_ifge 13 dX7_far_5 (by decide) (fun c5 => ?_) (fun c5 => ?_)
  · skip
    refine a_iload_n 0 dX7_far_13 rfl rfl ?_
    refine a_ret dX7_far_14 ⟨⟨ri ?_, ?_⟩, rfl, rfl⟩
    · unfold abI
      rw [if_pos c5]
    · rfl
  · skip
    refine a_iload_n 0 dX7_far_8 rfl rfl ?_
    refine a_ineg dX7_far_9 ?_
    refine a_goto 14 dX7_far_10 (by decide) ?_
    refine a_ret dX7_far_14 ⟨⟨ri ?_, ?_⟩, rfl, rfl⟩
    · unfold abI
      rw [if_neg c5, Int32.zero_sub]
    · rfl
set_option maxHeartbeats 4000000 in
set_option maxRecDepth 100000 in
theorem c_X7_apart {G : GT} {B : Nat} {l : Launch} {H : Heap} {x y : Int32} : AM G B l yX7_apart cX7_apart 2 (some .int) 1 0 0 [.int x, .int y] H (fun rv H' => rv = some (.int (apF x y)) ∧ (H' = H)) := by
  refine AM.ofI (lv := [(0, .int x), (1, .int y)]) (by decide +kernel) (Nat.le_of_ble_eq_true rfl) rfl ?_ (fun _ h => by cases h.1)
  refine a_iload_n 0 dX7_apart_0 rfl rfl ?_
  refine a_bipush 100 dX7_apart_1 (by decide) ?_
  refine a_idiv dX7_apart_3 (by decide +kernel) ?_
  refine a_iload_n 1 dX7_apart_4 rfl rfl ?_
  refine a_bipush 100 dX7_apart_5 (by decide) ?_
  refine a_idiv dX7_apart_7 (by decide +kernel) ?_
  refine a_callSp (As := [.int (x / 100), .int (y / 100)]) (rest := []) (d := 0) (mc := 0) (ms := 0) (x := abI (x / 100 - y / 100)) l_X7_146 st_X7_far dX7_apart_8 ⟨Nat.le_of_ble_eq_true rfl, Nat.le_of_ble_eq_true rfl⟩ rfl (Nat.le_of_ble_eq_true rfl) ⟨Nat.le_of_ble_eq_true rfl, Nat.le_of_ble_eq_true rfl⟩ (c_X7_far) ?_
  refine a_iload_n 0 dX7_apart_11 rfl rfl ?_
  refine a_bipush 10 dX7_apart_12 (by decide) ?_
  refine a_idiv dX7_apart_14 (by decide +kernel) ?_
  refine a_bipush 10 dX7_apart_15 (by decide) ?_
  refine a_irem dX7_apart_17 (by decide +kernel) ?_
  refine a_iload_n 1 dX7_apart_18 rfl rfl ?_
  refine a_bipush 10 dX7_apart_19 (by decide) ?_
  refine a_idiv dX7_apart_21 (by decide +kernel) ?_
  refine a_bipush 10 dX7_apart_22 (by decide) ?_
  refine a_irem dX7_apart_24 (by decide +kernel) ?_
  refine a_callSp (As := [.int ((x / 10) % 10), .int ((y / 10) % 10)]) (rest := [.int (abI (x / 100 - y / 100))]) (d := 0) (mc := 0) (ms := 0) (x := abI (x / 10 % 10 - y / 10 % 10)) l_X7_146 st_X7_far dX7_apart_25 ⟨Nat.le_of_ble_eq_true rfl, Nat.le_of_ble_eq_true rfl⟩ rfl (Nat.le_of_ble_eq_true rfl) ⟨Nat.le_of_ble_eq_true rfl, Nat.le_of_ble_eq_true rfl⟩ (c_X7_far) ?_
  refine a_iadd dX7_apart_28 ?_
  refine a_iload_n 0 dX7_apart_29 rfl rfl ?_
  refine a_bipush 10 dX7_apart_30 (by decide) ?_
  refine a_irem dX7_apart_32 (by decide +kernel) ?_
  refine a_iload_n 1 dX7_apart_33 rfl rfl ?_
  refine a_bipush 10 dX7_apart_34 (by decide) ?_
  refine a_irem dX7_apart_36 (by decide +kernel) ?_
  refine a_callSp (As := [.int (x % 10), .int (y % 10)]) (rest := [.int ((abI (x / 100 - y / 100)) + (abI (x / 10 % 10 - y / 10 % 10)))]) (d := 0) (mc := 0) (ms := 0) (x := abI (x % 10 - y % 10)) l_X7_146 st_X7_far dX7_apart_37 ⟨Nat.le_of_ble_eq_true rfl, Nat.le_of_ble_eq_true rfl⟩ rfl (Nat.le_of_ble_eq_true rfl) ⟨Nat.le_of_ble_eq_true rfl, Nat.le_of_ble_eq_true rfl⟩ (c_X7_far) ?_
  refine a_iadd dX7_apart_40 ?_
  refine a_ret dX7_apart_41 ⟨⟨ri ?_, ?_⟩, rfl, rfl⟩
  · rfl
  · rfl
set_option maxHeartbeats 4000000 in
set_option maxRecDepth 100000 in
theorem c_X7_shifted {G : GT} {B : Nat} {l : Launch} {H : Heap} {x y : Int32} : AM G B l yX7_shifted cX7_shifted 2 (some .int) 0 0 0 [.int x, .int y] H (fun rv H' => rv = some (.int (shF x y)) ∧ (H' = H)) := by
  refine AM.ofI (lv := [(0, .int x), (1, .int y)]) (by decide +kernel) (Nat.le_of_ble_eq_true rfl) rfl ?_ (fun _ h => by cases h.1)
  refine a_iload_n 0 dX7_shifted_0 rfl rfl ?_
  refine a_bipush 100 dX7_shifted_1 (by decide) ?_
  refine a_idiv dX7_shifted_3 (by decide +kernel) ?_
  refine a_iload_n 1 dX7_shifted_4 rfl rfl ?_
  refine a_bipush 100 dX7_shifted_5 (by decide) ?_
  refine a_idiv dX7_shifted_7 (by decide +kernel) ?_
  refine a_iadd dX7_shifted_8 ?_
  refine a_bipush 10 dX7_shifted_9 (by decide) ?_
  refine a_irem dX7_shifted_11 (by decide +kernel) ?_
  refine a_bipush 100 dX7_shifted_12 (by decide) ?_
  refine a_imul dX7_shifted_14 ?_
  refine a_iload_n 0 dX7_shifted_15 rfl rfl ?_
  refine a_bipush 10 dX7_shifted_16 (by decide) ?_
  refine a_idiv dX7_shifted_18 (by decide +kernel) ?_
  refine a_iload_n 1 dX7_shifted_19 rfl rfl ?_
  refine a_bipush 10 dX7_shifted_20 (by decide) ?_
  refine a_idiv dX7_shifted_22 (by decide +kernel) ?_
  refine a_iadd dX7_shifted_23 ?_
  refine a_bipush 10 dX7_shifted_24 (by decide) ?_
  refine a_irem dX7_shifted_26 (by decide +kernel) ?_
  refine a_bipush 10 dX7_shifted_27 (by decide) ?_
  refine a_imul dX7_shifted_29 ?_
  refine a_iadd dX7_shifted_30 ?_
  refine a_iload_n 0 dX7_shifted_31 rfl rfl ?_
  refine a_iload_n 1 dX7_shifted_32 rfl rfl ?_
  refine a_iadd dX7_shifted_33 ?_
  refine a_bipush 10 dX7_shifted_34 (by decide) ?_
  refine a_irem dX7_shifted_36 (by decide +kernel) ?_
  refine a_iadd dX7_shifted_37 ?_
  refine a_ret dX7_shifted_38 ⟨⟨ri ?_, ?_⟩, rfl, rfl⟩
  · rfl
  · rfl
set_option maxHeartbeats 4000000 in
set_option maxRecDepth 100000 in
theorem c_X7_saidBy {G : GT} {B : Nat} {l : Launch} {H : Heap} {a L : Nat} {fp ra rf rw rx : Int32} {ir kb : Bool} {n nv ct nx sd sn bn : Nat} {ka ks kw : Int32} {kK kV dd : DD} {w v : Nat} (hw : w < n) (hv : v < nv) (hM : Mc G H a L fp ra rf rw rx ir kb n nv ct nx sd sn bn ka ks kw kK kV dd) : AM G B l yX7_saidBy cX7_saidBy 3 (some .int) 1 0 0 [.ref a, .int (nI w), .int (nI v)] H (fun rv H' => rv = some (.int (spF dd kV w v)) ∧ (H' = H)) := by
  have hM0 := hM
  obtain ⟨hm, ⟨fB, hBx, eB0, eB1, eB2⟩, ⟨fK, hKx, eK⟩, ⟨fV, hVx, eV⟩, ⟨fN, hNx, eS, eU, eO, e24, e25, e26⟩, hn, hnv⟩ := hM
  unfold mxL at hm
  refine AM.ofI (lv := [(0, .ref a), (1, .int (nI w)), (2, .int (nI v))]) (by decide +kernel) (Nat.le_of_ble_eq_true rfl) rfl ?_ (fun _ h => by cases h.1)
  refine a_aload_n 0 dX7_saidBy_0 rfl rfl ?_
  refine a_get f_X7_35 dX7_saidBy_1 hm rfl ?_
  refine a_iload_n 1 dX7_saidBy_4 rfl rfl ?_
  refine a_ialdN (j := w) dX7_saidBy_5 hNx (by omega) (by decide) ?_
  refine a_toeq (dd w) (eS _ (by omega)) ?_
  refine a_aload_n 0 dX7_saidBy_6 rfl rfl ?_
  refine a_get f_X7_32 dX7_saidBy_7 hm rfl ?_
  refine a_iload_n 2 dX7_saidBy_10 rfl rfl ?_
  refine a_ialdN (j := v) dX7_saidBy_11 hVx (by omega) (by decide) ?_
  refine a_toeq (kV v) (eV _ (by omega)) ?_
  refine a_callSp (As := [.int (dd w), .int (kV v)]) (rest := []) (d := 0) (mc := 0) (ms := 0) (x := spF dd kV w v) l_X7_150 st_X7_shifted dX7_saidBy_12 ⟨Nat.le_of_ble_eq_true rfl, Nat.le_of_ble_eq_true rfl⟩ rfl (Nat.le_of_ble_eq_true rfl) ⟨Nat.le_of_ble_eq_true rfl, Nat.le_of_ble_eq_true rfl⟩ (c_X7_shifted) ?_
  refine a_ret dX7_saidBy_15 ⟨⟨ri ?_, ?_⟩, rfl, rfl⟩
  · rfl
  · rfl
set_option maxHeartbeats 4000000 in
set_option maxRecDepth 100000 in
theorem c_X7_weight {G : GT} {B : Nat} {l : Launch} {H : Heap} {a L : Nat} {fp ra rf rw rx : Int32} {ir kb : Bool} {n nv ct nx sd sn bn : Nat} {ka ks kw : Int32} {kK kV dd : DD} {w : Nat} {s : Int32} (hw : w < n) (hM : Mc G H a L fp ra rf rw rx ir kb n nv ct nx sd sn bn ka ks kw kK kV dd) : AM G B l yX7_weight cX7_weight 3 (some .int) 2 0 0 [.ref a, .int (nI w), .int s] H (fun rv H' => rv = some (.int (wtF dd w s)) ∧ (H' = H)) := by
  have hM0 := hM
  obtain ⟨hm, ⟨fB, hBx, eB0, eB1, eB2⟩, ⟨fK, hKx, eK⟩, ⟨fV, hVx, eV⟩, ⟨fN, hNx, eS, eU, eO, e24, e25, e26⟩, hn, hnv⟩ := hM
  unfold mxL at hm
  refine AM.ofI (lv := [(0, .ref a), (1, .int (nI w)), (2, .int s)]) (by decide +kernel) (Nat.le_of_ble_eq_true rfl) rfl ?_ (fun _ h => by cases h.1)
  refine a_aload_n 0 dX7_weight_0 rfl rfl ?_
  refine a_get f_X7_35 dX7_weight_1 hm rfl ?_
  refine a_bipush 8 dX7_weight_4 (by decide) ?_
  refine a_iload_n 1 dX7_weight_6 rfl rfl ?_
  refine a_iaddN (a := 8) (b := w) dX7_weight_7 ?_
  refine a_ialdN (j := 8 + w) dX7_weight_8 hNx (by omega) (by decide) ?_
  refine a_toeq (dd (8 + w)) (eU _ (by omega)) ?_
  refine a_iconst 1 dX7_weight_9 (by decide) ?_
  refine a_iadd dX7_weight_10 ?_
  refine a_bipush 28 dX7_weight_11 (by decide) ?_
  refine a_aload_n 0 dX7_weight_13 rfl rfl ?_
  refine a_get f_X7_35 dX7_weight_14 hm rfl ?_
  refine a_iload_n 1 dX7_weight_17 rfl rfl ?_
  refine a_ialdN (j := w) dX7_weight_18 hNx (by omega) (by decide) ?_
  refine a_toeq (dd w) (eS _ (by omega)) ?_
  refine a_iload_n 2 dX7_weight_19 rfl rfl ?_
  refine a_callSp (As := [.int (dd w), .int s]) (rest := [.int 28, .int ((dd (8 + w)) + 1)]) (d := 1) (mc := 0) (ms := 0) (x := apF (dd w) s) l_X7_153 st_X7_apart dX7_weight_20 ⟨Nat.le_of_ble_eq_true rfl, Nat.le_of_ble_eq_true rfl⟩ rfl (Nat.le_of_ble_eq_true rfl) ⟨Nat.le_of_ble_eq_true rfl, Nat.le_of_ble_eq_true rfl⟩ (c_X7_apart) ?_
  refine a_isub dX7_weight_23 ?_
  refine a_imul dX7_weight_24 ?_
  refine a_ret dX7_weight_25 ⟨⟨ri ?_, ?_⟩, rfl, rfl⟩
  · rfl
  · rfl
set_option maxHeartbeats 4000000 in
set_option maxRecDepth 100000 in
theorem c_X7_guessOf {G : GT} {B : Nat} {l : Launch} {H : Heap} {a L : Nat} {fp ra rf rw rx : Int32} {ir kb : Bool} {n nv ct nx sd sn bn : Nat} {ka ks kw : Int32} {kK kV dd : DD} {s : Int32} (hM : Mc G H a L fp ra rf rw rx ir kb n nv ct nx sd sn bn ka ks kw kK kV dd) : AM G B l yX7_guessOf cX7_guessOf 6 (some .int) 3 0 0 [.ref a, .int s] H (fun rv H' => rv = some (.int (guF n dd s)) ∧ (H' = H)) := by
  have hM0 := hM
  obtain ⟨hm, ⟨fB, hBx, eB0, eB1, eB2⟩, ⟨fK, hKx, eK⟩, ⟨fV, hVx, eV⟩, ⟨fN, hNx, eS, eU, eO, e24, e25, e26⟩, hn, hnv⟩ := hM
  unfold mxL at hm
  refine AM.ofI (lv := [(0, .ref a), (1, .int s)]) (by decide +kernel) (Nat.le_of_ble_eq_true rfl) rfl ?_ (fun _ h => by cases h.1)
  refine a_iconst (-1) dX7_guessOf_0 (by decide) ?_
  refine a_istore_n (lv' := [(2, .int (-1)), (0, .ref a), (1, .int s)]) dX7_guessOf_1 rfl (by decide) rfl ?_
  refine a_iconst 0 dX7_guessOf_2 (by decide) ?_
  refine a_istore_n (lv' := [(3, .int 0), (2, .int (-1)), (0, .ref a), (1, .int s)]) dX7_guessOf_3 rfl (by decide) rfl ?_
  refine a_iconst 0 dX7_guessOf_4 (by decide) ?_
  refine a_istore (lv' := [(4, .int 0), (3, .int 0), (2, .int (-1)), (0, .ref a), (1, .int s)]) dX7_guessOf_5 (by decide) rfl ?_
  have L7 : ∀ (fu : Nat) (k : Nat) (b m : Int32), k ≤ n → gsF dd s k = (b, m) → n - k < fu → AW G B l { frames := 3, cells := 0, slots := 0, locals := 27 * 3 } yX7_guessOf.cls cX7_guessOf 6 false (fun rv H' ce' sl' => (rv = some (.int (guF n dd s)) ∧ (H' = H)) ∧ ce' = 0 ∧ sl' = 0) 7 [(0, .ref a), (1, .int s), (2, .int b), (3, .int m), (4, .int (nI k))] [] H 0 0 := by
    intro fu
    induction fu with
    | zero => intro k b m hk hg hm7; exact absurd hm7 (Nat.not_lt_zero _)
    | succ fu ih7 =>
      intro k b m hk hg hm7
      refine a_iload 4 dX7_guessOf_7 rfl ?_
      refine a_aload_n 0 dX7_guessOf_9 rfl rfl ?_
      refine a_get f_X7_120 dX7_guessOf_10 hm rfl ?_
      refine a_icmpgeN (a := k) (b := n) 57 dX7_guessOf_13 (by decide) (by omega) (by omega) (fun c13 => ?_) (fun c13 => ?_)
      · skip
        refine a_iload_n 2 dX7_guessOf_57 rfl rfl ?_
        refine a_ret dX7_guessOf_58 ⟨⟨ri ?_, ?_⟩, rfl, rfl⟩
        · unfold guF
          rw [show n = k by omega, hg]
        · rfl
      · skip
        refine a_aload_n 0 dX7_guessOf_16 rfl rfl ?_
        refine a_iload 4 dX7_guessOf_17 rfl ?_
        refine a_iload_n 1 dX7_guessOf_19 rfl rfl ?_
        refine a_callVp (As := [.int (nI k), .int s]) (rest := []) (d := 2) (mc := 0) (ms := 0) (x := wtF dd k s) (ci := 7) l_X7_156 im_X7_weight se_X7_weight ⟨_, rfl, rfl⟩ dX7_guessOf_20 ⟨Nat.le_of_ble_eq_true rfl, Nat.le_of_ble_eq_true rfl⟩ rfl (Nat.le_of_ble_eq_true rfl) ⟨Nat.le_of_ble_eq_true rfl, Nat.le_of_ble_eq_true rfl⟩ hm (c_X7_weight (by omega) hM0) ?_
        refine a_istore (lv' := [(5, .int (wtF dd k s)), (0, .ref a), (1, .int s), (2, .int b), (3, .int m), (4, .int (nI k))]) dX7_guessOf_23 (by decide) rfl ?_
        refine a_iload 0 dX7_guessOf_25 rfl ?_
        refine a_iload_n 4 dX7_guessOf_27 rfl rfl ?_
        refine a_icmple 36 dX7_guessOf_28 (by decide) (fun c28 => ?_) (fun c28 => ?_)
        · skip
          refine a_iload_n 3 dX7_guessOf_36 rfl rfl ?_
          refine a_istore_n (lv' := [(2, .int b), (5, .int (wtF dd k s)), (0, .ref a), (1, .int s), (3, .int m), (4, .int (nI k))]) dX7_guessOf_37 rfl (by decide) rfl ?_
          refine a_iload 1 dX7_guessOf_38 rfl ?_
          refine a_iload_n 4 dX7_guessOf_40 rfl rfl ?_
          refine a_icmple 49 dX7_guessOf_41 (by decide) (fun c41 => ?_) (fun c41 => ?_)
          · skip
            refine a_iload_n 4 dX7_guessOf_49 rfl rfl ?_
            refine a_istore_n (lv' := [(3, .int m), (2, .int b), (5, .int (wtF dd k s)), (0, .ref a), (1, .int s), (4, .int (nI k))]) dX7_guessOf_50 rfl (by decide) rfl ?_
            refine a_iincN (q := 5) (lv' := [(4, .int (nI (k + 1))), (3, .int m), (2, .int b), (5, .int (wtF dd k s)), (0, .ref a), (1, .int s)]) dX7_guessOf_51 rfl (by decide) rfl ?_
            refine a_goto 7 dX7_guessOf_54 (by decide) ?_
            refine a_sub [4, 5, 2, 1, 0] rfl ?_
            exact ih7 _ _ _ (by omega) (by simp only [gsF, hg]; rw [if_neg (Int32.not_lt.mpr c28)]) (by omega)
          · skip
            exact absurd c28 c41
        · skip
          refine a_iload 5 dX7_guessOf_31 rfl ?_
          refine a_goto 37 dX7_guessOf_33 (by decide) ?_
          refine a_istore_n (lv' := [(2, .int (nI k)), (5, .int (wtF dd k s)), (0, .ref a), (1, .int s), (3, .int m), (4, .int (nI k))]) dX7_guessOf_37 rfl (by decide) rfl ?_
          refine a_iload 1 dX7_guessOf_38 rfl ?_
          refine a_iload_n 4 dX7_guessOf_40 rfl rfl ?_
          refine a_icmple 49 dX7_guessOf_41 (by decide) (fun c41 => ?_) (fun c41 => ?_)
          · skip
            exact absurd c41 c28
          · skip
            refine a_iload 1 dX7_guessOf_44 rfl ?_
            refine a_goto 50 dX7_guessOf_46 (by decide) ?_
            refine a_istore_n (lv' := [(3, .int (wtF dd k s)), (2, .int (nI k)), (5, .int (wtF dd k s)), (0, .ref a), (1, .int s), (4, .int (nI k))]) dX7_guessOf_50 rfl (by decide) rfl ?_
            refine a_iincN (q := 5) (lv' := [(4, .int (nI (k + 1))), (3, .int (wtF dd k s)), (2, .int (nI k)), (5, .int (wtF dd k s)), (0, .ref a), (1, .int s)]) dX7_guessOf_51 rfl (by decide) rfl ?_
            refine a_goto 7 dX7_guessOf_54 (by decide) ?_
            refine a_sub [4, 5, 2, 1, 0] rfl ?_
            exact ih7 _ _ _ (by omega) (by simp only [gsF, hg]; rw [if_pos (Int32.not_le.mp c28)]) (by omega)
  refine a_sub [3, 4, 2, 1, 0] rfl ?_
  exact L7 _ 0 (-1) 0 (Nat.zero_le _) rfl (Nat.lt_succ_self _)
set_option maxHeartbeats 4000000 in
set_option maxRecDepth 100000 in
theorem c_X7_sureOf {G : GT} {B : Nat} {l : Launch} {H : Heap} {a L : Nat} {fp ra rf rw rx : Int32} {ir kb : Bool} {n nv ct nx sd sn bn : Nat} {ka ks kw : Int32} {kK kV dd : DD} {w c : Nat} (hw : w < n) (hR : RG n dd) (hc : c < 1000) (hM : Mc G H a L fp ra rf rw rx ir kb n nv ct nx sd sn bn ka ks kw kK kV dd) : AM G B l yX7_sureOf cX7_sureOf 6 (some .int) 3 0 0 [.ref a, .int (nI w), .int (nI c)] H (fun rv H' => rv = some (.int (ceF n dd w (nI c))) ∧ (H' = H)) := by
  have hM0 := hM
  obtain ⟨hm, ⟨fB, hBx, eB0, eB1, eB2⟩, ⟨fK, hKx, eK⟩, ⟨fV, hVx, eV⟩, ⟨fN, hNx, eS, eU, eO, e24, e25, e26⟩, hn, hnv⟩ := hM
  unfold mxL at hm
  refine AM.ofI (lv := [(0, .ref a), (1, .int (nI w)), (2, .int (nI c))]) (by decide +kernel) (Nat.le_of_ble_eq_true rfl) rfl ?_ (fun _ h => by cases h.1)
  refine a_lconst 0 dX7_sureOf_0 (by decide) ?_
  refine a_lstore_n (lv' := [(3, .long 0), (0, .ref a), (1, .int (nI w)), (2, .int (nI c))]) dX7_sureOf_1 rfl (by decide) rfl ?_
  refine a_iconst 0 dX7_sureOf_2 (by decide) ?_
  refine a_istore (lv' := [(5, .int 0), (3, .long 0), (0, .ref a), (1, .int (nI w)), (2, .int (nI c))]) dX7_sureOf_3 (by decide) rfl ?_
  have L5 : ∀ (fu : Nat) (k S : Nat), k ≤ n → smF dd (nI c) k = nI S → k ≤ S → S ≤ 2800 * k → n - k < fu → AW G B l { frames := 3, cells := 0, slots := 0, locals := 27 * 3 } yX7_sureOf.cls cX7_sureOf 6 false (fun rv H' ce' sl' => (rv = some (.int (ceF n dd w (nI c))) ∧ (H' = H)) ∧ ce' = 0 ∧ sl' = 0) 5 [(0, .ref a), (1, .int (nI w)), (2, .int (nI c)), (3, .long (lN S)), (5, .int (nI k))] [] H 0 0 := by
    intro fu
    induction fu with
    | zero => intro k S hk hg hS1 hS2 hm5; exact absurd hm5 (Nat.not_lt_zero _)
    | succ fu ih5 =>
      intro k S hk hg hS1 hS2 hm5
      refine a_iload 4 dX7_sureOf_5 rfl ?_
      refine a_aload_n 0 dX7_sureOf_7 rfl rfl ?_
      refine a_get f_X7_120 dX7_sureOf_8 hm rfl ?_
      refine a_icmpgeN (a := k) (b := n) 31 dX7_sureOf_11 (by decide) (by omega) (by omega) (fun c11 => ?_) (fun c11 => ?_)
      · skip
        refine a_aload_n 0 dX7_sureOf_31 rfl rfl ?_
        refine a_iload_n 1 dX7_sureOf_32 rfl rfl ?_
        refine a_iload_n 2 dX7_sureOf_33 rfl rfl ?_
        refine a_callVp (As := [.int (nI w), .int (nI c)]) (rest := []) (d := 2) (mc := 0) (ms := 0) (x := wtF dd w (nI c)) (ci := 7) l_X7_156 im_X7_weight se_X7_weight ⟨_, rfl, rfl⟩ dX7_sureOf_34 ⟨Nat.le_of_ble_eq_true rfl, Nat.le_of_ble_eq_true rfl⟩ rfl (Nat.le_of_ble_eq_true rfl) ⟨Nat.le_of_ble_eq_true rfl, Nat.le_of_ble_eq_true rfl⟩ hm (c_X7_weight hw hM0) ?_
        refine a_i2l dX7_sureOf_37 ?_
        refine a_ldc2 1000000 k_X7_159 dX7_sureOf_38 ?_
        refine a_lmul dX7_sureOf_41 ?_
        refine a_lload_n 3 dX7_sureOf_42 rfl rfl ?_
        refine a_ldiv dX7_sureOf_43 (by rw [← nI_l (show S < 2 ^ 31 by omega)]; exact i64_ne0 (by rw [← nI_0]; exact nI_lt (by omega) (by omega))) ?_
        refine a_l2i dX7_sureOf_44 ?_
        refine a_ret dX7_sureOf_45 ⟨⟨ri ?_, ?_⟩, rfl, rfl⟩
        · unfold ceF
          have hkn : k = n := by omega
          subst hkn
          rw [hg, if_neg (fun h => by rw [← nI_0] at h; exact nI_ge (show 0 < S by omega) (by omega) h), nI_l (show S < 2 ^ 31 by omega)]
        · rfl
      · skip
        refine a_lload_n 3 dX7_sureOf_14 rfl rfl ?_
        refine a_aload_n 0 dX7_sureOf_15 rfl rfl ?_
        refine a_iload 4 dX7_sureOf_16 rfl ?_
        refine a_iload_n 2 dX7_sureOf_18 rfl rfl ?_
        refine a_callVp (As := [.int (nI k), .int (nI c)]) (rest := [.long (lN S)]) (d := 2) (mc := 0) (ms := 0) (x := wtF dd k (nI c)) (ci := 7) l_X7_156 im_X7_weight se_X7_weight ⟨_, rfl, rfl⟩ dX7_sureOf_19 ⟨Nat.le_of_ble_eq_true rfl, Nat.le_of_ble_eq_true rfl⟩ rfl (Nat.le_of_ble_eq_true rfl) ⟨Nat.le_of_ble_eq_true rfl, Nat.le_of_ble_eq_true rfl⟩ hm (c_X7_weight (by omega) hM0) ?_
        obtain ⟨m, hm1, hm2, em⟩ := wt_ok hR (show k < n by omega) hc
        rw [em]
        refine a_i2l dX7_sureOf_22 ?_
        rw [nI_l (by omega)]
        refine a_ladd dX7_sureOf_23 ?_
        rw [lN_add]
        refine a_lstore_n (lv' := [(3, .long (lN (S + m))), (0, .ref a), (1, .int (nI w)), (2, .int (nI c)), (5, .int (nI k))]) dX7_sureOf_24 rfl (by decide) rfl ?_
        refine a_iincN (q := 4) (lv' := [(5, .int (nI (k + 1))), (3, .long (lN (S + m))), (0, .ref a), (1, .int (nI w)), (2, .int (nI c))]) dX7_sureOf_25 rfl (by decide) rfl ?_
        refine a_goto 5 dX7_sureOf_28 (by decide) ?_
        refine a_sub [2, 3, 4, 1, 0] rfl ?_
        exact ih5 _ _ (by omega) (by simp only [smF]; rw [hg, em, nI_add]) (by omega) (by omega) (by omega)
  refine a_sub [2, 3, 4, 1, 0] rfl ?_
  exact L5 _ 0 0 (Nat.zero_le _) rfl (Nat.le_refl _) (Nat.le_refl _) (Nat.lt_succ_self _)
set_option maxHeartbeats 4000000 in
set_option maxRecDepth 100000 in
theorem c_X7_costOf {G : GT} {B : Nat} {l : Launch} {H : Heap} {a L : Nat} {fp ra rf rw rx : Int32} {ir kb : Bool} {n nv ct nx sd sn bn : Nat} {ka ks kw : Int32} {kK kV dd : DD} {q c : Nat} (hq : q ≤ 2) (hn0 : 0 < n) (hR : RG n dd) (hc : c < 1000) (hRK : RK n kK) (hM : Mc G H a L fp ra rf rw rx ir kb n nv ct nx sd sn bn ka ks kw kK kV dd) : AM G B l yX7_costOf cX7_costOf 4 (some .int) 4 0 0 [.ref a, .int (nI c), .int (nI q)] H (fun rv H' => rv = some (.int (coF n dd kK ka ks (nI c) (nI q))) ∧ (H' = H)) := by
  have hM0 := hM
  obtain ⟨hm, ⟨fB, hBx, eB0, eB1, eB2⟩, ⟨fK, hKx, eK⟩, ⟨fV, hVx, eV⟩, ⟨fN, hNx, eS, eU, eO, e24, e25, e26⟩, hn, hnv⟩ := hM
  unfold mxL at hm
  obtain ⟨g, hg, eg⟩ := gu_ok hR hc hn0
  obtain ⟨e, he, ee⟩ := ce_ok hR hn hc hg
  obtain ⟨x, hx, ex⟩ := hRK g hg
  refine AM.ofI (lv := [(0, .ref a), (1, .int (nI c)), (2, .int (nI q))]) (by decide +kernel) (Nat.le_of_ble_eq_true rfl) rfl ?_ (fun _ h => by cases h.1)
  refine a_iload_n 2 dX7_costOf_0 rfl rfl ?_
  refine a_ifleN (a := q) 13 dX7_costOf_1 (by decide) (by omega) (fun c1 => ?_) (fun c1 => ?_)
  · skip
    refine a_aload_n 0 dX7_costOf_13 rfl rfl ?_
    refine a_iload_n 1 dX7_costOf_14 rfl rfl ?_
    refine a_callVp (As := [.int (nI c)]) (rest := []) (d := 3) (mc := 0) (ms := 0) (x := guF n dd (nI c)) (ci := 7) l_X7_161 im_X7_guessOf se_X7_guessOf ⟨_, rfl, rfl⟩ dX7_costOf_15 ⟨Nat.le_of_ble_eq_true rfl, Nat.le_of_ble_eq_true rfl⟩ rfl (Nat.le_of_ble_eq_true rfl) ⟨Nat.le_of_ble_eq_true rfl, Nat.le_of_ble_eq_true rfl⟩ hm (c_X7_guessOf hM0) ?_
    rw [eg]
    refine a_istore_n (lv' := [(3, .int (nI g)), (0, .ref a), (1, .int (nI c)), (2, .int (nI q))]) dX7_costOf_18 rfl (by decide) rfl ?_
    refine a_ldc 1000000 k_X7_164 dX7_costOf_19 ?_
    refine a_aload_n 1 dX7_costOf_21 rfl rfl ?_
    refine a_iload_n 0 dX7_costOf_22 rfl rfl ?_
    refine a_iload_n 2 dX7_costOf_23 rfl rfl ?_
    refine a_callVp (As := [.int (nI g), .int (nI c)]) (rest := [.int 1000000]) (d := 3) (mc := 0) (ms := 0) (x := ceF n dd g (nI c)) (ci := 7) l_X7_165 im_X7_sureOf se_X7_sureOf ⟨_, rfl, rfl⟩ dX7_costOf_24 ⟨Nat.le_of_ble_eq_true rfl, Nat.le_of_ble_eq_true rfl⟩ rfl (Nat.le_of_ble_eq_true rfl) ⟨Nat.le_of_ble_eq_true rfl, Nat.le_of_ble_eq_true rfl⟩ hm (c_X7_sureOf hg hR hc hM0) ?_
    rw [ee]
    refine a_isub dX7_costOf_27 ?_
    rw [show (1000000 : Int32) = nI 1000000 from rfl, pk_sub he]
    refine a_i2l dX7_costOf_28 ?_
    rw [nI_l (by omega)]
    refine a_aload_n 1 dX7_costOf_29 rfl rfl ?_
    refine a_get f_X7_29 dX7_costOf_30 hm rfl ?_
    refine a_iload_n 0 dX7_costOf_33 rfl rfl ?_
    refine a_ialdN (j := g) dX7_costOf_34 hKx (by omega) (by decide) ?_
    refine a_toeq (kK g) (eK _ (by omega)) ?_
    rw [ex]
    refine a_i2l dX7_costOf_35 ?_
    rw [nI_l (by omega)]
    refine a_lmul dX7_costOf_36 ?_
    rw [lN_mul]
    refine a_ldc2 1000000 k_X7_159 dX7_costOf_37 ?_
    refine a_ldiv dX7_costOf_40 (by decide +kernel) ?_
    refine a_l2i dX7_costOf_41 ?_
    refine a_ret dX7_costOf_42 ⟨⟨ri ?_, ?_⟩, rfl, rfl⟩
    · have hm2 : (1000000 - e) * x ≤ 1000000 * 99 := Nat.mul_le_mul (by omega) hx
      have hq0 : q = 0 := by omega
      subst hq0
      unfold coF
      rw [if_neg (by decide), if_neg (by decide), eg, if_pos (wIx_nI hg (by omega)), nI_clamp (by omega), ee, ex]
      rw [show (1000000 : Int32) = nI 1000000 from rfl, pk_sub he, pk_mul, pk_div (by omega) (by decide) (by decide), show (1000000 : Int64) = lN 1000000 from rfl, pk_lDiv (by omega) (by decide) (by decide), lN_i]
    · rfl
  · skip
    refine a_aload_n 0 dX7_costOf_4 rfl rfl ?_
    refine a_get f_X7_26 dX7_costOf_5 hm rfl ?_
    refine a_iload_n 2 dX7_costOf_8 rfl rfl ?_
    refine a_iconst 1 dX7_costOf_9 (by decide) ?_
    refine a_isubN (a := q) (b := 1) dX7_costOf_10 (by omega) ?_
    refine a_ialdN (j := q - 1) dX7_costOf_11 hBx (by omega) (by decide) ?_
    refine a_ret dX7_costOf_12 ⟨⟨ri ?_, ?_⟩, rfl, rfl⟩
    · rcases (show q = 1 ∨ q = 2 by omega) with rfl | rfl
      · exact eB0
      · exact eB1
    · rfl
set_option maxHeartbeats 4000000 in
set_option maxRecDepth 100000 in
theorem c_X7_ruleOf {G : GT} {B : Nat} {l : Launch} {H : Heap} {a L : Nat} {fp ra rf rw rx : Int32} {ir kb : Bool} {n nv ct nx sd sn bn : Nat} {ka ks kw : Int32} {kK kV dd : DD} {c : Nat} (hn0 : 0 < n) (hR : RG n dd) (hc : c < 1000) (hRK : RK n kK) (hM : Mc G H a L fp ra rf rw rx ir kb n nv ct nx sd sn bn ka ks kw kK kV dd) : AM G B l yX7_ruleOf cX7_ruleOf 4 (some .int) 5 0 0 [.ref a, .int (nI c)] H (fun rv H' => rv = some (.int (ruF n dd kK ka ks (nI c))) ∧ (H' = H)) := by
  have hM0 := hM
  obtain ⟨hm, ⟨fB, hBx, eB0, eB1, eB2⟩, ⟨fK, hKx, eK⟩, ⟨fV, hVx, eV⟩, ⟨fN, hNx, eS, eU, eO, e24, e25, e26⟩, hn, hnv⟩ := hM
  unfold mxL at hm
  refine AM.ofI (lv := [(0, .ref a), (1, .int (nI c))]) (by decide +kernel) (Nat.le_of_ble_eq_true rfl) rfl ?_ (fun _ h => by cases h.1)
  refine a_iconst 0 dX7_ruleOf_0 (by decide) ?_
  refine a_istore_n (lv' := [(2, .int 0), (0, .ref a), (1, .int (nI c))]) dX7_ruleOf_1 rfl (by decide) rfl ?_
  refine a_iconst 1 dX7_ruleOf_2 (by decide) ?_
  refine a_istore_n (lv' := [(3, .int 1), (2, .int 0), (0, .ref a), (1, .int (nI c))]) dX7_ruleOf_3 rfl (by decide) rfl ?_
  have L4 : ∀ (fu : Nat) (k r : Nat), k ≤ 2 → r ≤ k → chF n dd kK ka ks (nI c) k = (nI r, coF n dd kK ka ks (nI c) (nI r)) → 2 - k < fu → AW G B l { frames := 5, cells := 0, slots := 0, locals := 27 * 5 } yX7_ruleOf.cls cX7_ruleOf 4 false (fun rv H' ce' sl' => (rv = some (.int (ruF n dd kK ka ks (nI c))) ∧ (H' = H)) ∧ ce' = 0 ∧ sl' = 0) 4 [(0, .ref a), (1, .int (nI c)), (2, .int (nI r)), (3, .int (nI (k + 1)))] [] H 0 0 := by
    intro fu
    induction fu with
    | zero => intro k r hk hr hg hm4; exact absurd hm4 (Nat.not_lt_zero _)
    | succ fu ih4 =>
      intro k r hk hr hg hm4
      refine a_iload_n 3 dX7_ruleOf_4 rfl rfl ?_
      refine a_iconst 3 dX7_ruleOf_5 (by decide) ?_
      refine a_icmpgeN (a := k + 1) (b := 3) 36 dX7_ruleOf_6 (by decide) (by omega) (by omega) (fun c6 => ?_) (fun c6 => ?_)
      · skip
        refine a_iload_n 2 dX7_ruleOf_36 rfl rfl ?_
        refine a_ret dX7_ruleOf_37 ⟨⟨ri ?_, ?_⟩, rfl, rfl⟩
        · unfold ruF
          rw [show 2 = k by omega, hg]
        · rfl
      · skip
        refine a_aload_n 0 dX7_ruleOf_9 rfl rfl ?_
        refine a_iload_n 1 dX7_ruleOf_10 rfl rfl ?_
        refine a_iload_n 3 dX7_ruleOf_11 rfl rfl ?_
        refine a_callVp (As := [.int (nI c), .int (nI (k + 1))]) (rest := []) (d := 4) (mc := 0) (ms := 0) (x := coF n dd kK ka ks (nI c) (nI (k + 1))) (ci := 7) l_X7_168 im_X7_costOf se_X7_costOf ⟨_, rfl, rfl⟩ dX7_ruleOf_12 ⟨Nat.le_of_ble_eq_true rfl, Nat.le_of_ble_eq_true rfl⟩ rfl (Nat.le_of_ble_eq_true rfl) ⟨Nat.le_of_ble_eq_true rfl, Nat.le_of_ble_eq_true rfl⟩ hm (c_X7_costOf (by omega) hn0 hR hc hRK hM0) ?_
        refine a_aload_n 0 dX7_ruleOf_15 rfl rfl ?_
        refine a_iload_n 1 dX7_ruleOf_16 rfl rfl ?_
        refine a_iload_n 2 dX7_ruleOf_17 rfl rfl ?_
        refine a_callVp (As := [.int (nI c), .int (nI r)]) (rest := [.int (coF n dd kK ka ks (nI c) (nI (k + 1)))]) (d := 4) (mc := 0) (ms := 0) (x := coF n dd kK ka ks (nI c) (nI r)) (ci := 7) l_X7_168 im_X7_costOf se_X7_costOf ⟨_, rfl, rfl⟩ dX7_ruleOf_18 ⟨Nat.le_of_ble_eq_true rfl, Nat.le_of_ble_eq_true rfl⟩ rfl (Nat.le_of_ble_eq_true rfl) ⟨Nat.le_of_ble_eq_true rfl, Nat.le_of_ble_eq_true rfl⟩ hm (c_X7_costOf (by omega) hn0 hR hc hRK hM0) ?_
        refine a_icmpge 28 dX7_ruleOf_21 (by decide) (fun c21 => ?_) (fun c21 => ?_)
        · skip
          refine a_iload_n 2 dX7_ruleOf_28 rfl rfl ?_
          refine a_istore_n (lv' := [(2, .int (nI r)), (0, .ref a), (1, .int (nI c)), (3, .int (nI (k + 1)))]) dX7_ruleOf_29 rfl (by decide) rfl ?_
          refine a_iincN (q := 3) (lv' := [(3, .int (nI (k + 1 + 1))), (2, .int (nI r)), (0, .ref a), (1, .int (nI c))]) dX7_ruleOf_30 rfl (by decide) rfl ?_
          refine a_goto 4 dX7_ruleOf_33 (by decide) ?_
          refine a_sub [2, 3, 1, 0] rfl ?_
          exact ih4 _ _ (by omega) (by omega) (by simp only [chF]; rw [hg]; rw [if_neg (Int32.not_lt.mpr c21)]) (by omega)
        · skip
          refine a_iload_n 3 dX7_ruleOf_24 rfl rfl ?_
          refine a_goto 29 dX7_ruleOf_25 (by decide) ?_
          refine a_istore_n (lv' := [(2, .int (nI (k + 1))), (0, .ref a), (1, .int (nI c)), (3, .int (nI (k + 1)))]) dX7_ruleOf_29 rfl (by decide) rfl ?_
          refine a_iincN (q := 3) (lv' := [(3, .int (nI (k + 1 + 1))), (2, .int (nI (k + 1))), (0, .ref a), (1, .int (nI c))]) dX7_ruleOf_30 rfl (by decide) rfl ?_
          refine a_goto 4 dX7_ruleOf_33 (by decide) ?_
          refine a_sub [2, 3, 1, 0] rfl ?_
          exact ih4 _ _ (by omega) (by omega) (by simp only [chF]; rw [hg]; rw [if_pos (Int32.not_le.mp c21)]) (by omega)
  refine a_sub [2, 3, 1, 0] rfl ?_
  exact L4 _ 0 0 (Nat.zero_le _) (Nat.le_refl _) rfl (Nat.lt_succ_self _)
set_option maxHeartbeats 4000000 in
set_option maxRecDepth 100000 in
theorem c_X7_allListed {G : GT} {B : Nat} {l : Launch} {H : Heap} {a L : Nat} {fp ra rf rw rx : Int32} {ir kb : Bool} {n nv ct nx sd sn bn : Nat} {ka ks kw : Int32} {kK kV dd : DD} (hM : Mc G H a L fp ra rf rw rx ir kb n nv ct nx sd sn bn ka ks kw kK kV dd) : AM G B l yX7_allListed cX7_allListed 3 (some .int) 0 0 0 [.ref a] H (fun rv H' => rv = some (.int (liF dd n)) ∧ (H' = H)) := by
  have hM0 := hM
  obtain ⟨hm, ⟨fB, hBx, eB0, eB1, eB2⟩, ⟨fK, hKx, eK⟩, ⟨fV, hVx, eV⟩, ⟨fN, hNx, eS, eU, eO, e24, e25, e26⟩, hn, hnv⟩ := hM
  unfold mxL at hm
  refine AM.ofI (lv := [(0, .ref a)]) (by decide +kernel) (Nat.le_of_ble_eq_true rfl) rfl ?_ (fun _ h => by cases h.1)
  refine a_iconst 0 dX7_allListed_0 (by decide) ?_
  refine a_istore_n (lv' := [(1, .int 0), (0, .ref a)]) dX7_allListed_1 rfl (by decide) rfl ?_
  refine a_iconst 0 dX7_allListed_2 (by decide) ?_
  refine a_istore_n (lv' := [(2, .int 0), (1, .int 0), (0, .ref a)]) dX7_allListed_3 rfl (by decide) rfl ?_
  have L4 : ∀ (fu : Nat) (k : Nat) (b : Int32), k ≤ n → b = liF dd k → n - k < fu → AW G B l { frames := 0, cells := 0, slots := 0, locals := 27 * 0 } yX7_allListed.cls cX7_allListed 3 false (fun rv H' ce' sl' => (rv = some (.int (liF dd n)) ∧ (H' = H)) ∧ ce' = 0 ∧ sl' = 0) 4 [(0, .ref a), (1, .int b), (2, .int (nI k))] [] H 0 0 := by
    intro fu
    induction fu with
    | zero => intro k b hk hg hm4; exact absurd hm4 (Nat.not_lt_zero _)
    | succ fu ih4 =>
      intro k b hk hg hm4
      refine a_iload_n 2 dX7_allListed_4 rfl rfl ?_
      refine a_aload_n 0 dX7_allListed_5 rfl rfl ?_
      refine a_get f_X7_120 dX7_allListed_6 hm rfl ?_
      refine a_icmpgeN (a := k) (b := n) 30 dX7_allListed_9 (by decide) (by omega) (by omega) (fun c9 => ?_) (fun c9 => ?_)
      · skip
        refine a_iload_n 1 dX7_allListed_30 rfl rfl ?_
        refine a_ret dX7_allListed_31 ⟨⟨ri ?_, ?_⟩, rfl, rfl⟩
        · rw [hg, show n = k by omega]
        · rfl
      · skip
        refine a_iload_n 1 dX7_allListed_12 rfl rfl ?_
        refine a_aload_n 0 dX7_allListed_13 rfl rfl ?_
        refine a_get f_X7_35 dX7_allListed_14 hm rfl ?_
        refine a_bipush 16 dX7_allListed_17 (by decide) ?_
        refine a_iload_n 2 dX7_allListed_19 rfl rfl ?_
        refine a_iaddN (a := 16) (b := k) dX7_allListed_20 ?_
        refine a_ialdN (j := 16 + k) dX7_allListed_21 hNx (by omega) (by decide) ?_
        refine a_toeq (dd (16 + k)) (eO _ (by omega)) ?_
        refine a_iadd dX7_allListed_22 ?_
        refine a_istore_n (lv' := [(1, .int (b + (dd (16 + k)))), (0, .ref a), (2, .int (nI k))]) dX7_allListed_23 rfl (by decide) rfl ?_
        refine a_iincN (q := 2) (lv' := [(2, .int (nI (k + 1))), (1, .int (b + (dd (16 + k)))), (0, .ref a)]) dX7_allListed_24 rfl (by decide) rfl ?_
        refine a_goto 4 dX7_allListed_27 (by decide) ?_
        refine a_sub [2, 1, 0] rfl ?_
        exact ih4 _ _ (by omega) (by rw [hg]; rfl) (by omega)
  refine a_sub [2, 1, 0] rfl ?_
  exact L4 _ 0 0 (Nat.zero_le _) rfl (Nat.lt_succ_self _)
set_option maxHeartbeats 4000000 in
set_option maxRecDepth 100000 in
theorem c_X7_atMost {G : GT} {B : Nat} {l : Launch} {H : Heap} {x : Int32} : AM G B l yX7_atMost cX7_atMost 1 (some .int) 0 0 0 [.int x] H (fun rv H' => rv = some (.int (mnF x)) ∧ (H' = H)) := by
  refine AM.ofI (lv := [(0, .int x)]) (by decide +kernel) (Nat.le_of_ble_eq_true rfl) rfl ?_ (fun _ h => by cases h.1)
  refine a_iload_n 0 dX7_atMost_0 rfl rfl ?_
  refine a_bipush 99 dX7_atMost_1 (by decide) ?_
  refine a_icmple 11 dX7_atMost_3 (by decide) (fun c3 => ?_) (fun c3 => ?_)
  · skip
    refine a_iload_n 0 dX7_atMost_11 rfl rfl ?_
    refine a_ret dX7_atMost_12 ⟨⟨ri ?_, ?_⟩, rfl, rfl⟩
    · unfold mnF
      rw [if_neg (Int32.not_lt.mpr c3)]
    · rfl
  · skip
    refine a_bipush 99 dX7_atMost_6 (by decide) ?_
    refine a_goto 12 dX7_atMost_8 (by decide) ?_
    refine a_ret dX7_atMost_12 ⟨⟨ri ?_, ?_⟩, rfl, rfl⟩
    · unfold mnF
      rw [if_pos (Int32.not_le.mp c3)]
    · rfl
set_option maxHeartbeats 4000000 in
set_option maxRecDepth 100000 in
theorem c_X7_less {G : GT} {B : Nat} {l : Launch} {H : Heap} {u : Nat} (hu : u ≤ 99) : AM G B l yX7_less cX7_less 1 (some .int) 0 0 0 [.int (nI u)] H (fun rv H' => rv = some (.int (lsF (nI u))) ∧ (H' = H)) := by
  refine AM.ofI (lv := [(0, .int (nI u))]) (by decide +kernel) (Nat.le_of_ble_eq_true rfl) rfl ?_ (fun _ h => by cases h.1)
  refine a_iload_n 0 dX7_less_0 rfl rfl ?_
  refine a_ifleN (a := u) 10 dX7_less_1 (by decide) (by omega) (fun c1 => ?_) (fun c1 => ?_)
  · skip
    refine a_iconst 0 dX7_less_10 (by decide) ?_
    refine a_ret dX7_less_11 ⟨⟨ri ?_, ?_⟩, rfl, rfl⟩
    · have hu0 : u = 0 := by omega
      subst hu0; decide
    · rfl
  · skip
    refine a_iload_n 0 dX7_less_4 rfl rfl ?_
    refine a_iconst 1 dX7_less_5 (by decide) ?_
    refine a_isub dX7_less_6 ?_
    refine a_goto 11 dX7_less_7 (by decide) ?_
    refine a_ret dX7_less_11 ⟨⟨ri ?_, ?_⟩, rfl, rfl⟩
    · unfold lsF
      rw [show u = (u - 1) + 1 by omega, nI_pred, if_neg (nI_pos (by omega))]
    · rfl
