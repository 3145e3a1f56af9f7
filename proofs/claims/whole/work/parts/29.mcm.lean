/-! ===== BEGIN BeansBoxModel: what is read so far ===== -/
def Mw (G : GT) (H : Heap) (a : Nat) (kb : Bool) (ka ks kw : Int32) (n2 v2 : Nat) (kS kU kK kV : DD) : Prop := (∃ f : DD, Ai G H (a + 2) 3 f ∧ (kb = true → f 0 = ka ∧ f 1 = ks ∧ f 2 = kw)) ∧ (∃ f : DD, Ai G H (a + 3) 24 f ∧ ∀ i, i < n2 → f (3 * i) = kS i ∧ f (3 * i + 1) = kU i ∧ f (3 * i + 2) = kK i) ∧ (∃ f : DD, Ai G H (a + 4) 4 f ∧ ∀ i, i < v2 → f i = kV i) ∧ n2 ≤ 8 ∧ v2 ≤ 4
def Mz (G : GT) (H : Heap) (a : Nat) : Prop := (∃ f : DD, Ai G H (a + 2) 3 f) ∧ (∃ f : DD, Ai G H (a + 3) 24 f) ∧ (∃ f : DD, Ai G H (a + 4) 4 f)
def MwK (G : GT) (H : Heap) (a : Nat) (K : KK) : Prop := Mw G H a K.1 K.2.1 K.2.2.1 K.2.2.2.1 K.2.2.2.2.1 K.2.2.2.2.2.1 K.2.2.2.2.2.2.1 K.2.2.2.2.2.2.2.1 K.2.2.2.2.2.2.2.2.1 K.2.2.2.2.2.2.2.2.2
/-! ===== END ===== -/

set_option maxHeartbeats 4000000 in
set_option maxRecDepth 100000 in
theorem c_X7_readsBox_3 {G : GT} {B : Nat} {l : Launch} {H : Heap} {a : Nat} {tx : Nat → Nat} {L : Nat} {fp rf rw rx : Int32} {ir kb : Bool} {n nv ct nx sd sn bn : Nat} {pl : Nat} (hO : Mo G H a tx L fp (nI pl) rf rw rx ir kb n nv ct nx sd sn bn) (hB : B ≤ a) : AM G B l yX7_readsBox cX7_readsBox 3 (some .boolean) 3 0 0 [.ref a, .int (bI false)] H (fun rv H' => rv = some (.int (bI false)) ∧ (Mo G H' a tx L fp (nI pl) (nI 3) rw rx ir kb n nv ct nx sd sn bn ∧ ∀ q : Nat, q ≠ a → H'[q]? = H[q]?)) := by
  have hO0 := hO
  obtain ⟨hm, ⟨fT, hTx, eT⟩, hL9, hT8⟩ := hO
  unfold mxL at hm
  have hF : ∀ q : Nat, q ≠ a → H[q]? = H[q]? := fun _ _ => rfl
  refine AM.ofZ (lv := [(0, .ref a), (1, .int (bI false))]) (by decide +kernel) (Nat.le_of_ble_eq_true rfl) rfl ?_ (fun _ _ h => ⟨_, h.1⟩)
  refine a_iload_n 1 dX7_readsBox_0 rfl rfl ?_
  refine a_ifneB 10 dX7_readsBox_1 (by decide) (fun c1 => ?_) (fun c1 => ?_)
  · skip
    cases c1
  · skip
    refine a_aload_n 0 dX7_readsBox_4 rfl rfl ?_
    refine a_iconst 3 dX7_readsBox_5 (by decide) ?_
    refine a_callVi (As := [.int 3]) (rest := []) (d := 0) (mc := 0) (ms := 0) (x := bI false) (ci := 7) l_X7_80 im_X7_fails se_X7_fails ⟨_, rfl, rfl⟩ dX7_readsBox_6 ⟨Nat.le_of_ble_eq_true rfl, Nat.le_of_ble_eq_true rfl⟩ rfl (Nat.le_of_ble_eq_true rfl) ⟨Nat.le_of_ble_eq_true rfl, Nat.le_of_ble_eq_true rfl⟩ hm (c_X7_fails hO0 hB) (fun H1 hp1 => ?_)
    obtain ⟨hO2, hfr2⟩ := hp1
    have hF : ∀ q : Nat, q ≠ a → H1[q]? = H[q]? := fun q hq => (hfr2 q (by omega)).trans (hF q hq)
    refine a_ret dX7_readsBox_9 ⟨⟨ri ?_, ?_⟩, rfl, rfl⟩
    · rfl
    · exact ⟨hO2, hF⟩
set_option maxHeartbeats 4000000 in
set_option maxRecDepth 100000 in
theorem c_X7_readsWord_3 {G : GT} {B : Nat} {l : Launch} {H : Heap} {a : Nat} {tx : Nat → Nat} {L : Nat} {fp rf rx : Int32} {ir kb : Bool} {n nv ct nx sd sn bn : Nat} {pl : Nat} (hO : Mo G H a tx L fp (nI pl) rf (nI 8) rx ir kb n nv ct nx sd sn bn) (hB : B ≤ a) : AM G B l yX7_readsWord cX7_readsWord 3 (some .boolean) 3 0 0 [.ref a] H (fun rv H' => rv = some (.int (bI false)) ∧ (Mo G H' a tx L fp (nI pl) (nI 3) (nI 8) rx ir kb n nv ct nx sd sn bn ∧ ∀ q : Nat, q ≠ a → H'[q]? = H[q]?)) := by
  have hO0 := hO
  obtain ⟨hm, ⟨fT, hTx, eT⟩, hL9, hT8⟩ := hO
  unfold mxL at hm
  have hF : ∀ q : Nat, q ≠ a → H[q]? = H[q]? := fun _ _ => rfl
  refine AM.ofZ (lv := [(0, .ref a)]) (by decide +kernel) (Nat.le_of_ble_eq_true rfl) rfl ?_ (fun _ _ h => ⟨_, h.1⟩)
  refine a_aload_n 0 dX7_readsWord_0 rfl rfl ?_
  refine a_get f_X7_91 dX7_readsWord_1 hm rfl ?_
  refine a_bipush 8 dX7_readsWord_4 (by decide) ?_
  refine a_icmpneN (a := 8) (b := 8) 15 dX7_readsWord_6 (by decide) (by omega) (by omega) (fun c6 => ?_) (fun c6 => ?_)
  · skip
    omega
  · skip
    refine a_aload_n 0 dX7_readsWord_9 rfl rfl ?_
    refine a_iconst 3 dX7_readsWord_10 (by decide) ?_
    refine a_callVi (As := [.int 3]) (rest := []) (d := 0) (mc := 0) (ms := 0) (x := bI false) (ci := 7) l_X7_80 im_X7_fails se_X7_fails ⟨_, rfl, rfl⟩ dX7_readsWord_11 ⟨Nat.le_of_ble_eq_true rfl, Nat.le_of_ble_eq_true rfl⟩ rfl (Nat.le_of_ble_eq_true rfl) ⟨Nat.le_of_ble_eq_true rfl, Nat.le_of_ble_eq_true rfl⟩ hm (c_X7_fails hO0 hB) (fun H1 hp1 => ?_)
    obtain ⟨hO2, hfr2⟩ := hp1
    have hF : ∀ q : Nat, q ≠ a → H1[q]? = H[q]? := fun q hq => (hfr2 q (by omega)).trans (hF q hq)
    refine a_ret dX7_readsWord_14 ⟨⟨ri ?_, ?_⟩, rfl, rfl⟩
    · rfl
    · exact ⟨hO2, hF⟩
set_option maxHeartbeats 4000000 in
set_option maxRecDepth 100000 in
theorem c_X7_readsVoice_3 {G : GT} {B : Nat} {l : Launch} {H : Heap} {a : Nat} {tx : Nat → Nat} {L : Nat} {fp rf rw : Int32} {ir kb : Bool} {n nv ct nx sd sn bn : Nat} {pl : Nat} (hO : Mo G H a tx L fp (nI pl) rf rw (nI 4) ir kb n nv ct nx sd sn bn) (hB : B ≤ a) : AM G B l yX7_readsVoice cX7_readsVoice 2 (some .boolean) 3 0 0 [.ref a] H (fun rv H' => rv = some (.int (bI false)) ∧ (Mo G H' a tx L fp (nI pl) (nI 3) rw (nI 4) ir kb n nv ct nx sd sn bn ∧ ∀ q : Nat, q ≠ a → H'[q]? = H[q]?)) := by
  have hO0 := hO
  obtain ⟨hm, ⟨fT, hTx, eT⟩, hL9, hT8⟩ := hO
  unfold mxL at hm
  have hF : ∀ q : Nat, q ≠ a → H[q]? = H[q]? := fun _ _ => rfl
  refine AM.ofZ (lv := [(0, .ref a)]) (by decide +kernel) (Nat.le_of_ble_eq_true rfl) rfl ?_ (fun _ _ h => ⟨_, h.1⟩)
  refine a_aload_n 0 dX7_readsVoice_0 rfl rfl ?_
  refine a_get f_X7_94 dX7_readsVoice_1 hm rfl ?_
  refine a_iconst 4 dX7_readsVoice_4 (by decide) ?_
  refine a_icmpneN (a := 4) (b := 4) 14 dX7_readsVoice_5 (by decide) (by omega) (by omega) (fun c5 => ?_) (fun c5 => ?_)
  · skip
    omega
  · skip
    refine a_aload_n 0 dX7_readsVoice_8 rfl rfl ?_
    refine a_iconst 3 dX7_readsVoice_9 (by decide) ?_
    refine a_callVi (As := [.int 3]) (rest := []) (d := 0) (mc := 0) (ms := 0) (x := bI false) (ci := 7) l_X7_80 im_X7_fails se_X7_fails ⟨_, rfl, rfl⟩ dX7_readsVoice_10 ⟨Nat.le_of_ble_eq_true rfl, Nat.le_of_ble_eq_true rfl⟩ rfl (Nat.le_of_ble_eq_true rfl) ⟨Nat.le_of_ble_eq_true rfl, Nat.le_of_ble_eq_true rfl⟩ hm (c_X7_fails hO0 hB) (fun H1 hp1 => ?_)
    obtain ⟨hO2, hfr2⟩ := hp1
    have hF : ∀ q : Nat, q ≠ a → H1[q]? = H[q]? := fun q hq => (hfr2 q (by omega)).trans (hF q hq)
    refine a_ret dX7_readsVoice_13 ⟨⟨ri ?_, ?_⟩, rfl, rfl⟩
    · rfl
    · exact ⟨hO2, hF⟩
