/-! ===== BEGIN what is tried ===== -/
/-- SAID, and the GUESS of it -/
def spF (dd kV : DD) (w v : Nat) : Int32 := shF (dd w) (kV v)
def unF (n : Nat) (dd kV : DD) (w v : Nat) : Int32 := guF n dd (spF dd kV w v)
def biF (k : Nat) : Int32 := (1 : Int32) <<< (nI k &&& 31)
/-- WORDS whose SAID by v is that SOUND, of the first k -/
def wsF (dd kV : DD) (v : Nat) (s : Int32) : Nat → Int32
  | 0 => 0
  | k + 1 => if spF dd kV k v = s then wsF dd kV v s k ||| biF k else wsF dd kV v s k
/-- what doing, asking, silence costs, as BeansBox has it -/
def coF (n : Nat) (dd kK : DD) (ka ks s what : Int32) : Int32 := if what = 1 then ka else if what = 2 then ks else if wIx n (guF n dd s) = true then (1000000 - ceF n dd (guF n dd s).toNatClampNeg s) * kK (guF n dd s).toNatClampNeg / 1000000 else 0
def chF (n : Nat) (dd kK : DD) (ka ks s : Int32) : Nat → Int32 × Int32
  | 0 => (0, coF n dd kK ka ks s 0)
  | j + 1 => if coF n dd kK ka ks s (nI (j + 1)) < (chF n dd kK ka ks s j).2 then (nI (j + 1), coF n dd kK ka ks s (nI (j + 1))) else chF n dd kK ka ks s j
def ruF (n : Nat) (dd kK : DD) (ka ks s : Int32) : Int32 := (chF n dd kK ka ks s 2).1
def sdF (sd : Nat) : Nat := (sd * 1103515245 + 12345) % 2147483648
def drF (sd k : Nat) : Nat := sdF sd / 65536 % k
/-- whether a VOICE is one by which all that is SEEN is so, of the first k -/
def csF (n : Nat) (dd kV : DD) (sw sg : Nat → Nat) (v : Nat) : Nat → Bool
  | 0 => true
  | k + 1 => csF n dd kV sw sg v k && decide (unF n dd kV (sw k) v = nI (sg k))
theorem csF_false {n : Nat} {dd kV : DD} {sw sg : Nat → Nat} {v k m : Nat} (hkm : k ≤ m) (h : csF n dd kV sw sg v k = false) : csF n dd kV sw sg v m = false := by
  induction m with
  | zero => rw [show k = 0 by omega] at h; exact h
  | succ m ih =>
    by_cases e : k = m + 1
    · rw [← e]; exact h
    · unfold csF; rw [ih (by omega)]; rfl
def spkF (n : Nat) (dd kV : DD) (sw sg : Nat → Nat) (sn : Nat) : Nat → Int32
  | 0 => 0
  | v + 1 => if csF n dd kV sw sg v sn = true then spkF n dd kV sw sg sn v ||| biF v else spkF n dd kV sw sg sn v
def gpI (n : Nat) (dd kV : DD) (w : Nat) (set : Int32) (g : Nat) : Nat → Nat
  | 0 => 0
  | v + 1 => if (set >>> (nI v &&& 31)) &&& 1 = 1 ∧ unF n dd kV w v = nI g then gpI n dd kV w set g v + 1 else gpI n dd kV w set g v
theorem gpI_le {n : Nat} {dd kV : DD} {w : Nat} {set : Int32} {g v : Nat} : gpI n dd kV w set g v ≤ v := by
  induction v with
  | zero => exact Nat.le_refl 0
  | succ v ih => unfold gpI; split <;> omega
def gpO (n nv : Nat) (dd kV : DD) (w : Nat) (set : Int32) : Nat → Nat
  | 0 => 0
  | g + 1 => max (gpO n nv dd kV w set g) (gpI n dd kV w set g nv)
theorem gpO_le {n nv : Nat} {dd kV : DD} {w : Nat} {set : Int32} {g : Nat} : gpO n nv dd kV w set g ≤ nv := by
  induction g with
  | zero => exact Nat.zero_le _
  | succ g ih => unfold gpO; have := gpI_le (n := n) (dd := dd) (kV := kV) (w := w) (set := set) (g := g) (v := nv); omega
/-- as BeansBox counts VOICES that hear a WORD right, with its end before time -/
def vhF (n nv : Nat) (td kV : DD) (w : Nat) (s : Int32) (nd : Nat) : Nat → Nat → Nat → Nat
  | 0, _, c => c
  | f + 1, v, c => if v < nv then (if c + nv - v < nd then c else vhF n nv td kV w s nd f (v + 1) (if guF n td (shF s (kV v)) = nI w then c + 1 else c)) else c
/-- the core of a BeansBox at b: its fields, the kitchen that stands, what is so -/
def bxL (b kr sp : Nat) (fp dr : Int32) : List Value := [.ref (b + 1), .int fp, .ref kr, .ref sp, .ref (b + 13), .ref (b + 17), .ref (b + 21), .ref (b + 103), .int dr, .ref (b + 104), .ref (b + 107)]
def Bc (G : GT) (H : Heap) (b kr sp : Nat) (fp dr : Int32) (kb : Bool) (ka ks kw : Int32) (n nv : Nat) (kS kU kK kV dd : DD) : Prop := Ob G H b 6 (bxL b kr sp fp dr) ∧ Kt G H kr kb ka ks kw n nv kS kU kK kV ∧ Dd G H (b + 13) n dd ∧ (kr = b + 3 ∧ sp = b + 8 ∨ kr = b + 8 ∧ sp = b + 3)
theorem shF_comm (s b : Int32) : 100 * ((s / 100 + b / 100) % 10) + 10 * ((s / 10 + b / 10) % 10) + (s + b) % 10 = shF s b := by
  unfold shF
  rw [Int32.mul_comm 100, Int32.mul_comm 10]
theorem sd_eq {sd : Nat} (h : sd < 2 ^ 31) : (lN sd * 1103515245 + 12345 - (lN sd * 1103515245 + 12345) / 2147483648 * 2147483648).toInt32 = nI (sdF sd) := by
  have e1 : (1103515245 : Int64) = lN 1103515245 := rfl
  have e2 : (12345 : Int64) = lN 12345 := rfl
  have e3 : (2147483648 : Int64) = lN 2147483648 := rfl
  rw [e1, e2, e3, lN_mul, lN_add, pk_lRem (by omega) (by decide) (by decide), lN_i]
  rfl
/-! ===== END ===== -/
theorem le28 {i : Int32} (h : 27 < i) : nI 28 ≤ i := by
  have h1 := Int32.lt_iff_toInt_lt.mp h
  have e1 : (27 : Int32).toInt = 27 := rfl
  have e2 : (nI 28).toInt = 28 := rfl
  rw [Int32.le_iff_toInt_le, e2]
  omega
theorem nI_nm1 (k : Nat) (h : k < 2 ^ 31) : ¬ nI k = -1 := by
  intro e
  have h1 := nI_pos' h
  rw [e] at h1
  exact absurd h1 (by decide)

set_option maxHeartbeats 4000000 in
set_option maxRecDepth 100000 in
theorem c_X6_isWord {G : GT} {B : Nat} {l : Launch} {H : Heap} {b kr sp : Nat} {fp dr : Int32} {kb : Bool} {ka ks kw : Int32} {n nv : Nat} {kS kU kK kV dd : DD} {w : Int32} (hC : Bc G H b kr sp fp dr kb ka ks kw n nv kS kU kK kV dd) : AM G B l yX6_isWord cX6_isWord 2 (some .boolean) 0 0 0 [.ref b, .int w] H (fun rv H' => rv = some (.int (bI (wIx n w))) ∧ (H' = H)) := by
  have hC0 := hC
  obtain ⟨hb, hK, hD, hkr⟩ := hC
  have hK0 := hK
  have hN := hD
  unfold bxL at hb
  obtain ⟨fS3, fU3, fK3, fV3, hk3, ha3, hb3, hc3, he3, eS3, eU3, eK3, eV3, hn3, hnv3⟩ := hK
  obtain ⟨fS, fU, fO, hd, hs, hu, ho, eS, eU, eO, hn⟩ := hD
  refine AM.ofZ (lv := [(0, .ref b), (1, .int w)]) (by decide +kernel) (Nat.le_of_ble_eq_true rfl) rfl ?_ (fun _ _ h => ⟨_, h.1⟩)
  refine a_iload_n 1 dX6_isWord_0 rfl rfl ?_
  refine a_iflt 19 dX6_isWord_1 (by decide) (fun c1 => ?_) (fun c1 => ?_)
  · skip
    refine a_iconst 0 dX6_isWord_19 (by decide) ?_
    refine a_ret dX6_isWord_20 ⟨⟨ri ?_, ?_⟩, rfl, rfl⟩
    · first | (rw [wIx_f1 c1]; rfl) | (rw [wIx_f2 c12]; rfl)
    · rfl
  · skip
    refine a_iload_n 1 dX6_isWord_4 rfl rfl ?_
    refine a_aload_n 0 dX6_isWord_5 rfl rfl ?_
    refine a_get f_X6_23 dX6_isWord_6 hb rfl ?_
    refine a_get f_X6_100 dX6_isWord_9 hk3 rfl ?_
    refine a_icmpge 19 dX6_isWord_12 (by decide) (fun c12 => ?_) (fun c12 => ?_)
    · skip
      refine a_iconst 0 dX6_isWord_19 (by decide) ?_
      refine a_ret dX6_isWord_20 ⟨⟨ri ?_, ?_⟩, rfl, rfl⟩
      · first | (rw [wIx_f1 c1]; rfl) | (rw [wIx_f2 c12]; rfl)
      · rfl
    · skip
      refine a_iconst 1 dX6_isWord_15 (by decide) ?_
      refine a_goto 20 dX6_isWord_16 (by decide) ?_
      refine a_ret dX6_isWord_20 ⟨⟨ri ?_, ?_⟩, rfl, rfl⟩
      · rw [wIx_t c1 c12]; rfl
      · rfl
set_option maxHeartbeats 4000000 in
set_option maxRecDepth 100000 in
theorem c_X6_isVoice {G : GT} {B : Nat} {l : Launch} {H : Heap} {b kr sp : Nat} {fp dr : Int32} {kb : Bool} {ka ks kw : Int32} {n nv : Nat} {kS kU kK kV dd : DD} {v : Int32} (hC : Bc G H b kr sp fp dr kb ka ks kw n nv kS kU kK kV dd) : AM G B l yX6_isVoice cX6_isVoice 2 (some .boolean) 0 0 0 [.ref b, .int v] H (fun rv H' => rv = some (.int (bI (wIx nv v))) ∧ (H' = H)) := by
  have hC0 := hC
  obtain ⟨hb, hK, hD, hkr⟩ := hC
  have hK0 := hK
  have hN := hD
  unfold bxL at hb
  obtain ⟨fS3, fU3, fK3, fV3, hk3, ha3, hb3, hc3, he3, eS3, eU3, eK3, eV3, hn3, hnv3⟩ := hK
  obtain ⟨fS, fU, fO, hd, hs, hu, ho, eS, eU, eO, hn⟩ := hD
  refine AM.ofZ (lv := [(0, .ref b), (1, .int v)]) (by decide +kernel) (Nat.le_of_ble_eq_true rfl) rfl ?_ (fun _ _ h => ⟨_, h.1⟩)
  refine a_iload_n 1 dX6_isVoice_0 rfl rfl ?_
  refine a_iflt 19 dX6_isVoice_1 (by decide) (fun c1 => ?_) (fun c1 => ?_)
  · skip
    refine a_iconst 0 dX6_isVoice_19 (by decide) ?_
    refine a_ret dX6_isVoice_20 ⟨⟨ri ?_, ?_⟩, rfl, rfl⟩
    · first | (rw [wIx_f1 c1]; rfl) | (rw [wIx_f2 c12]; rfl)
    · rfl
  · skip
    refine a_iload_n 1 dX6_isVoice_4 rfl rfl ?_
    refine a_aload_n 0 dX6_isVoice_5 rfl rfl ?_
    refine a_get f_X6_23 dX6_isVoice_6 hb rfl ?_
    refine a_get f_X6_112 dX6_isVoice_9 hk3 rfl ?_
    refine a_icmpge 19 dX6_isVoice_12 (by decide) (fun c12 => ?_) (fun c12 => ?_)
    · skip
      refine a_iconst 0 dX6_isVoice_19 (by decide) ?_
      refine a_ret dX6_isVoice_20 ⟨⟨ri ?_, ?_⟩, rfl, rfl⟩
      · first | (rw [wIx_f1 c1]; rfl) | (rw [wIx_f2 c12]; rfl)
      · rfl
    · skip
      refine a_iconst 1 dX6_isVoice_15 (by decide) ?_
      refine a_goto 20 dX6_isVoice_16 (by decide) ?_
      refine a_ret dX6_isVoice_20 ⟨⟨ri ?_, ?_⟩, rfl, rfl⟩
      · rw [wIx_t c1 c12]; rfl
      · rfl
set_option maxHeartbeats 4000000 in
set_option maxRecDepth 100000 in
theorem c_X6_isImage {G : GT} {B : Nat} {l : Launch} {H : Heap} {i : Int32} : AM G B l yX6_isImage cX6_isImage 1 (some .boolean) 0 0 0 [.int i] H (fun rv H' => rv = some (.int (bI (wIx 2 i))) ∧ (H' = H)) := by
  refine AM.ofZ (lv := [(0, .int i)]) (by decide +kernel) (Nat.le_of_ble_eq_true rfl) rfl ?_ (fun _ _ h => ⟨_, h.1⟩)
  refine a_iload_n 0 dX6_isImage_0 rfl rfl ?_
  refine a_iflt 13 dX6_isImage_1 (by decide) (fun c1 => ?_) (fun c1 => ?_)
  · skip
    refine a_iconst 0 dX6_isImage_13 (by decide) ?_
    refine a_ret dX6_isImage_14 ⟨⟨ri ?_, ?_⟩, rfl, rfl⟩
    · first | (rw [wIx_f1 c1]; rfl) | (rw [wIx_f2 c6]; rfl)
    · rfl
  · skip
    refine a_iload_n 0 dX6_isImage_4 rfl rfl ?_
    refine a_iconst 2 dX6_isImage_5 (by decide) ?_
    refine a_icmpge 13 dX6_isImage_6 (by decide) (fun c6 => ?_) (fun c6 => ?_)
    · skip
      refine a_iconst 0 dX6_isImage_13 (by decide) ?_
      refine a_ret dX6_isImage_14 ⟨⟨ri ?_, ?_⟩, rfl, rfl⟩
      · first | (rw [wIx_f1 c1]; rfl) | (rw [wIx_f2 c6]; rfl)
      · rfl
    · skip
      refine a_iconst 1 dX6_isImage_9 (by decide) ?_
      refine a_goto 14 dX6_isImage_10 (by decide) ?_
      refine a_ret dX6_isImage_14 ⟨⟨ri ?_, ?_⟩, rfl, rfl⟩
      · rw [wIx_t c1 c6]; rfl
      · rfl
set_option maxHeartbeats 4000000 in
set_option maxRecDepth 100000 in
theorem c_X6_isSound {G : GT} {B : Nat} {l : Launch} {H : Heap} {s : Int32} : AM G B l yX6_isSound cX6_isSound 1 (some .boolean) 0 0 0 [.int s] H (fun rv H' => rv = some (.int (bI (wIx 1000 s))) ∧ (H' = H)) := by
  refine AM.ofZ (lv := [(0, .int s)]) (by decide +kernel) (Nat.le_of_ble_eq_true rfl) rfl ?_ (fun _ _ h => ⟨_, h.1⟩)
  refine a_iload_n 0 dX6_isSound_0 rfl rfl ?_
  refine a_iflt 15 dX6_isSound_1 (by decide) (fun c1 => ?_) (fun c1 => ?_)
  · skip
    refine a_iconst 0 dX6_isSound_15 (by decide) ?_
    refine a_ret dX6_isSound_16 ⟨⟨ri ?_, ?_⟩, rfl, rfl⟩
    · first | (rw [wIx_f1 c1]; rfl) | (rw [wIx_f2 c8]; rfl)
    · rfl
  · skip
    refine a_iload_n 0 dX6_isSound_4 rfl rfl ?_
    refine a_sipush 1000 dX6_isSound_5 (by decide) ?_
    refine a_icmpge 15 dX6_isSound_8 (by decide) (fun c8 => ?_) (fun c8 => ?_)
    · skip
      refine a_iconst 0 dX6_isSound_15 (by decide) ?_
      refine a_ret dX6_isSound_16 ⟨⟨ri ?_, ?_⟩, rfl, rfl⟩
      · first | (rw [wIx_f1 c1]; rfl) | (rw [wIx_f2 c8]; rfl)
      · rfl
    · skip
      refine a_iconst 1 dX6_isSound_11 (by decide) ?_
      refine a_goto 16 dX6_isSound_12 (by decide) ?_
      refine a_ret dX6_isSound_16 ⟨⟨ri ?_, ?_⟩, rfl, rfl⟩
      · rw [wIx_t c1 c8]; rfl
      · rfl
set_option maxHeartbeats 4000000 in
set_option maxRecDepth 100000 in
theorem c_X6_isDistance {G : GT} {B : Nat} {l : Launch} {H : Heap} {i : Int32} : AM G B l yX6_isDistance cX6_isDistance 1 (some .boolean) 0 0 0 [.int i] H (fun rv H' => rv = some (.int (bI (wIx 28 i))) ∧ (H' = H)) := by
  refine AM.ofZ (lv := [(0, .int i)]) (by decide +kernel) (Nat.le_of_ble_eq_true rfl) rfl ?_ (fun _ _ h => ⟨_, h.1⟩)
  refine a_iload_n 0 dX6_isDistance_0 rfl rfl ?_
  refine a_iflt 14 dX6_isDistance_1 (by decide) (fun c1 => ?_) (fun c1 => ?_)
  · skip
    refine a_iconst 0 dX6_isDistance_14 (by decide) ?_
    refine a_ret dX6_isDistance_15 ⟨⟨ri ?_, ?_⟩, rfl, rfl⟩
    · first | (rw [wIx_f1 c1]; rfl) | (rw [wIx_f2 (le28 c7)]; rfl)
    · rfl
  · skip
    refine a_iload_n 0 dX6_isDistance_4 rfl rfl ?_
    refine a_bipush 27 dX6_isDistance_5 (by decide) ?_
    refine a_icmpgt 14 dX6_isDistance_7 (by decide) (fun c7 => ?_) (fun c7 => ?_)
    · skip
      refine a_iconst 0 dX6_isDistance_14 (by decide) ?_
      refine a_ret dX6_isDistance_15 ⟨⟨ri ?_, ?_⟩, rfl, rfl⟩
      · first | (rw [wIx_f1 c1]; rfl) | (rw [wIx_f2 (le28 c7)]; rfl)
      · rfl
    · skip
      refine a_iconst 1 dX6_isDistance_10 (by decide) ?_
      refine a_goto 15 dX6_isDistance_11 (by decide) ?_
      refine a_ret dX6_isDistance_15 ⟨⟨ri ?_, ?_⟩, rfl, rfl⟩
      · rw [wIx_t c1 (fun h => c7 (Int32.lt_of_lt_of_le (by decide) h))]; rfl
      · rfl
set_option maxHeartbeats 4000000 in
set_option maxRecDepth 100000 in
theorem c_X6_shifted {G : GT} {B : Nat} {l : Launch} {H : Heap} {a b : Int32} : AM G B l yX6_shifted cX6_shifted 5 (some .int) 0 0 0 [.int a, .int b] H (fun rv H' => rv = some (.int (shF a b)) ∧ (H' = H)) := by
  refine AM.ofI (lv := [(0, .int a), (1, .int b)]) (by decide +kernel) (Nat.le_of_ble_eq_true rfl) rfl ?_ (fun _ h => by cases h.1)
  refine a_iload_n 0 dX6_shifted_0 rfl rfl ?_
  refine a_bipush 100 dX6_shifted_1 (by decide) ?_
  refine a_idiv dX6_shifted_3 (by decide +kernel) ?_
  refine a_iload_n 1 dX6_shifted_4 rfl rfl ?_
  refine a_bipush 100 dX6_shifted_5 (by decide) ?_
  refine a_idiv dX6_shifted_7 (by decide +kernel) ?_
  refine a_iadd dX6_shifted_8 ?_
  refine a_bipush 10 dX6_shifted_9 (by decide) ?_
  refine a_irem dX6_shifted_11 (by decide +kernel) ?_
  refine a_istore_n (lv' := [(2, .int (((a / 100) + (b / 100)) % 10)), (0, .int a), (1, .int b)]) dX6_shifted_12 rfl (by decide) rfl ?_
  refine a_iload_n 1 dX6_shifted_13 rfl rfl ?_
  refine a_bipush 10 dX6_shifted_14 (by decide) ?_
  refine a_idiv dX6_shifted_16 (by decide +kernel) ?_
  refine a_iload_n 2 dX6_shifted_17 rfl rfl ?_
  refine a_bipush 10 dX6_shifted_18 (by decide) ?_
  refine a_idiv dX6_shifted_20 (by decide +kernel) ?_
  refine a_iadd dX6_shifted_21 ?_
  refine a_bipush 10 dX6_shifted_22 (by decide) ?_
  refine a_irem dX6_shifted_24 (by decide +kernel) ?_
  refine a_istore_n (lv' := [(3, .int (((a / 10) + (b / 10)) % 10)), (2, .int (((a / 100) + (b / 100)) % 10)), (0, .int a), (1, .int b)]) dX6_shifted_25 rfl (by decide) rfl ?_
  refine a_iload_n 2 dX6_shifted_26 rfl rfl ?_
  refine a_iload_n 3 dX6_shifted_27 rfl rfl ?_
  refine a_iadd dX6_shifted_28 ?_
  refine a_bipush 10 dX6_shifted_29 (by decide) ?_
  refine a_irem dX6_shifted_31 (by decide +kernel) ?_
  refine a_istore (lv' := [(4, .int ((a + b) % 10)), (3, .int (((a / 10) + (b / 10)) % 10)), (2, .int (((a / 100) + (b / 100)) % 10)), (0, .int a), (1, .int b)]) dX6_shifted_32 (by decide) rfl ?_
  refine a_bipush 100 dX6_shifted_34 (by decide) ?_
  refine a_iload_n 2 dX6_shifted_36 rfl rfl ?_
  refine a_imul dX6_shifted_37 ?_
  refine a_bipush 10 dX6_shifted_38 (by decide) ?_
  refine a_iload_n 1 dX6_shifted_40 rfl rfl ?_
  refine a_imul dX6_shifted_41 ?_
  refine a_iadd dX6_shifted_42 ?_
  refine a_iload 0 dX6_shifted_43 rfl ?_
  refine a_iadd dX6_shifted_45 ?_
  refine a_ret dX6_shifted_46 ⟨⟨ri ?_, ?_⟩, rfl, rfl⟩
  · exact shF_comm a b
  · rfl
set_option maxHeartbeats 4000000 in
set_option maxRecDepth 100000 in
theorem c_X6_spoken {G : GT} {B : Nat} {l : Launch} {H : Heap} {b kr sp : Nat} {fp dr : Int32} {kb : Bool} {ka ks kw : Int32} {n nv : Nat} {kS kU kK kV dd : DD} {w v : Nat} (hw : w < n) (hv : v < nv) (hC : Bc G H b kr sp fp dr kb ka ks kw n nv kS kU kK kV dd) : AM G B l yX6_spoken cX6_spoken 3 (some .int) 1 0 0 [.ref b, .int (nI w), .int (nI v)] H (fun rv H' => rv = some (.int (spF dd kV w v)) ∧ (H' = H)) := by
  have hC0 := hC
  obtain ⟨hb, hK, hD, hkr⟩ := hC
  have hK0 := hK
  have hN := hD
  unfold bxL at hb
  obtain ⟨fS3, fU3, fK3, fV3, hk3, ha3, hb3, hc3, he3, eS3, eU3, eK3, eV3, hn3, hnv3⟩ := hK
  obtain ⟨fS, fU, fO, hd, hs, hu, ho, eS, eU, eO, hn⟩ := hD
  refine AM.ofI (lv := [(0, .ref b), (1, .int (nI w)), (2, .int (nI v))]) (by decide +kernel) (Nat.le_of_ble_eq_true rfl) rfl ?_ (fun _ h => by cases h.1)
  refine a_aload_n 0 dX6_spoken_0 rfl rfl ?_
  refine a_get f_X6_33 dX6_spoken_1 hb rfl ?_
  refine a_get f_X6_135 dX6_spoken_4 hd rfl ?_
  refine a_iload_n 1 dX6_spoken_7 rfl rfl ?_
  refine a_ialdN (j := w) dX6_spoken_8 hs (by omega) (by decide) ?_
  refine a_toeq (dd w) (eS _ (by omega)) ?_
  refine a_aload_n 0 dX6_spoken_9 rfl rfl ?_
  refine a_get f_X6_23 dX6_spoken_10 hb rfl ?_
  refine a_get f_X6_151 dX6_spoken_13 hk3 rfl ?_
  refine a_iload_n 2 dX6_spoken_16 rfl rfl ?_
  refine a_ialdN (j := v) dX6_spoken_17 he3 (by omega) (by decide) ?_
  refine a_toeq (kV v) (eV3 _ (by omega)) ?_
  refine a_callSp (As := [.int (dd w), .int (kV v)]) (rest := []) (d := 0) (mc := 0) (ms := 0) (x := spF dd kV w v) l_X6_265 st_X6_shifted dX6_spoken_18 ⟨Nat.le_of_ble_eq_true rfl, Nat.le_of_ble_eq_true rfl⟩ rfl (Nat.le_of_ble_eq_true rfl) ⟨Nat.le_of_ble_eq_true rfl, Nat.le_of_ble_eq_true rfl⟩ (c_X6_shifted) ?_
  refine a_ret dX6_spoken_21 ⟨⟨ri ?_, ?_⟩, rfl, rfl⟩
  · rfl
  · rfl
set_option maxHeartbeats 4000000 in
set_option maxRecDepth 100000 in
theorem c_X6_understood {G : GT} {B : Nat} {l : Launch} {H : Heap} {b kr sp : Nat} {fp dr : Int32} {kb : Bool} {ka ks kw : Int32} {n nv : Nat} {kS kU kK kV dd : DD} {w v : Nat} (hw : w < n) (hv : v < nv) (hC : Bc G H b kr sp fp dr kb ka ks kw n nv kS kU kK kV dd) : AM G B l yX6_understood cX6_understood 3 (some .int) 4 0 0 [.ref b, .int (nI w), .int (nI v)] H (fun rv H' => rv = some (.int (unF n dd kV w v)) ∧ (H' = H)) := by
  have hC0 := hC
  obtain ⟨hb, hK, hD, hkr⟩ := hC
  have hK0 := hK
  have hN := hD
  unfold bxL at hb
  obtain ⟨fS3, fU3, fK3, fV3, hk3, ha3, hb3, hc3, he3, eS3, eU3, eK3, eV3, hn3, hnv3⟩ := hK
  obtain ⟨fS, fU, fO, hd, hs, hu, ho, eS, eU, eO, hn⟩ := hD
  refine AM.ofI (lv := [(0, .ref b), (1, .int (nI w)), (2, .int (nI v))]) (by decide +kernel) (Nat.le_of_ble_eq_true rfl) rfl ?_ (fun _ h => by cases h.1)
  refine a_aload_n 0 dX6_understood_0 rfl rfl ?_
  refine a_get f_X6_33 dX6_understood_1 hb rfl ?_
  refine a_aload_n 0 dX6_understood_4 rfl rfl ?_
  refine a_iload_n 1 dX6_understood_5 rfl rfl ?_
  refine a_iload_n 2 dX6_understood_6 rfl rfl ?_
  refine a_callVp (As := [.int (nI w), .int (nI v)]) (rest := [.ref (b + 13)]) (d := 1) (mc := 0) (ms := 0) (x := spF dd kV w v) (ci := 6) l_X6_182 im_X6_spoken se_X6_spoken ⟨_, rfl, rfl⟩ dX6_understood_7 ⟨Nat.le_of_ble_eq_true rfl, Nat.le_of_ble_eq_true rfl⟩ rfl (Nat.le_of_ble_eq_true rfl) ⟨Nat.le_of_ble_eq_true rfl, Nat.le_of_ble_eq_true rfl⟩ hb (c_X6_spoken hw hv hC0) ?_
  refine a_callVp (As := [.int (spF dd kV w v)]) (rest := []) (d := 3) (mc := 0) (ms := 0) (x := unF n dd kV w v) (ci := 0) l_X6_193 im_X0_strongest se_X0_strongest ⟨_, rfl, rfl⟩ dX6_understood_10 ⟨Nat.le_of_ble_eq_true rfl, Nat.le_of_ble_eq_true rfl⟩ rfl (Nat.le_of_ble_eq_true rfl) ⟨Nat.le_of_ble_eq_true rfl, Nat.le_of_ble_eq_true rfl⟩ hd (c_X0_strongest hN) ?_
  refine a_ret dX6_understood_13 ⟨⟨ri ?_, ?_⟩, rfl, rfl⟩
  · rfl
  · rfl
set_option maxHeartbeats 4000000 in
set_option maxRecDepth 100000 in
theorem c_X6_wordsSpokenAs {G : GT} {B : Nat} {l : Launch} {H : Heap} {b kr sp : Nat} {fp dr : Int32} {kb : Bool} {ka ks kw : Int32} {n nv : Nat} {kS kU kK kV dd : DD} {v : Nat} {s : Int32} (hv : v < nv) (hC : Bc G H b kr sp fp dr kb ka ks kw n nv kS kU kK kV dd) : AM G B l yX6_wordsSpokenAs cX6_wordsSpokenAs 5 (some .int) 2 0 0 [.ref b, .int (nI v), .int s] H (fun rv H' => rv = some (.int (wsF dd kV v s n)) ∧ (H' = H)) := by
  have hC0 := hC
  obtain ⟨hb, hK, hD, hkr⟩ := hC
  have hK0 := hK
  have hN := hD
  unfold bxL at hb
  obtain ⟨fS3, fU3, fK3, fV3, hk3, ha3, hb3, hc3, he3, eS3, eU3, eK3, eV3, hn3, hnv3⟩ := hK
  obtain ⟨fS, fU, fO, hd, hs, hu, ho, eS, eU, eO, hn⟩ := hD
  refine AM.ofI (lv := [(0, .ref b), (1, .int (nI v)), (2, .int s)]) (by decide +kernel) (Nat.le_of_ble_eq_true rfl) rfl ?_ (fun _ h => by cases h.1)
  refine a_iconst 0 dX6_wordsSpokenAs_0 (by decide) ?_
  refine a_istore_n (lv' := [(3, .int 0), (0, .ref b), (1, .int (nI v)), (2, .int s)]) dX6_wordsSpokenAs_1 rfl (by decide) rfl ?_
  refine a_iconst 0 dX6_wordsSpokenAs_2 (by decide) ?_
  refine a_istore (lv' := [(4, .int 0), (3, .int 0), (0, .ref b), (1, .int (nI v)), (2, .int s)]) dX6_wordsSpokenAs_3 (by decide) rfl ?_
  have L5 : ∀ (fu : Nat) (k : Nat) (r : Int32), k ≤ n → r = wsF dd kV v s k → n - k < fu → AW G B l { frames := 2, cells := 0, slots := 0, locals := 27 * 2 } yX6_wordsSpokenAs.cls cX6_wordsSpokenAs 5 false (fun rv H' ce' sl' => (rv = some (.int (wsF dd kV v s n)) ∧ (H' = H)) ∧ ce' = 0 ∧ sl' = 0) 5 [(0, .ref b), (1, .int (nI v)), (2, .int s), (3, .int r), (4, .int (nI k))] [] H 0 0 := by
    intro fu
    induction fu with
    | zero => intro k r hk hg hm5; exact absurd hm5 (Nat.not_lt_zero _)
    | succ fu ih5 =>
      intro k r hk hg hm5
      refine a_iload 4 dX6_wordsSpokenAs_5 rfl ?_
      refine a_aload_n 0 dX6_wordsSpokenAs_7 rfl rfl ?_
      refine a_get f_X6_23 dX6_wordsSpokenAs_8 hb rfl ?_
      refine a_get f_X6_100 dX6_wordsSpokenAs_11 hk3 rfl ?_
      refine a_icmpgeN (a := k) (b := n) 41 dX6_wordsSpokenAs_14 (by decide) (by omega) (by omega) (fun c14 => ?_) (fun c14 => ?_)
      · skip
        refine a_iload_n 3 dX6_wordsSpokenAs_41 rfl rfl ?_
        refine a_ret dX6_wordsSpokenAs_42 ⟨⟨ri ?_, ?_⟩, rfl, rfl⟩
        · rw [hg, show n = k by omega]
        · rfl
      · skip
        refine a_aload_n 0 dX6_wordsSpokenAs_17 rfl rfl ?_
        refine a_iload 4 dX6_wordsSpokenAs_18 rfl ?_
        refine a_iload_n 1 dX6_wordsSpokenAs_20 rfl rfl ?_
        refine a_callVp (As := [.int (nI k), .int (nI v)]) (rest := []) (d := 1) (mc := 0) (ms := 0) (x := spF dd kV k v) (ci := 6) l_X6_182 im_X6_spoken se_X6_spoken ⟨_, rfl, rfl⟩ dX6_wordsSpokenAs_21 ⟨Nat.le_of_ble_eq_true rfl, Nat.le_of_ble_eq_true rfl⟩ rfl (Nat.le_of_ble_eq_true rfl) ⟨Nat.le_of_ble_eq_true rfl, Nat.le_of_ble_eq_true rfl⟩ hb (c_X6_spoken (by omega) hv hC0) ?_
        refine a_iload_n 2 dX6_wordsSpokenAs_24 rfl rfl ?_
        refine a_icmpne 35 dX6_wordsSpokenAs_25 (by decide) (fun c25 => ?_) (fun c25 => ?_)
        · skip
          refine a_iincN (q := 4) (lv' := [(4, .int (nI (k + 1))), (0, .ref b), (1, .int (nI v)), (2, .int s), (3, .int r)]) dX6_wordsSpokenAs_35 rfl (by decide) rfl ?_
          refine a_goto 5 dX6_wordsSpokenAs_38 (by decide) ?_
          refine a_sub [1, 2, 3, 4, 0] rfl ?_
          exact ih5 _ _ (by omega) (by rw [hg]; simp only [wsF]; first | (rw [if_pos c25]; rfl) | rw [if_neg c25]) (by omega)
        · skip
          refine a_iload_n 3 dX6_wordsSpokenAs_28 rfl rfl ?_
          refine a_iconst 1 dX6_wordsSpokenAs_29 (by decide) ?_
          refine a_iload 4 dX6_wordsSpokenAs_30 rfl ?_
          refine a_ishl dX6_wordsSpokenAs_32 ?_
          refine a_ior dX6_wordsSpokenAs_33 ?_
          refine a_istore_n (lv' := [(3, .int (r ||| (1 <<< ((nI k) &&& 31)))), (0, .ref b), (1, .int (nI v)), (2, .int s), (4, .int (nI k))]) dX6_wordsSpokenAs_34 rfl (by decide) rfl ?_
          refine a_iincN (q := 4) (lv' := [(4, .int (nI (k + 1))), (3, .int (r ||| (1 <<< ((nI k) &&& 31)))), (0, .ref b), (1, .int (nI v)), (2, .int s)]) dX6_wordsSpokenAs_35 rfl (by decide) rfl ?_
          refine a_goto 5 dX6_wordsSpokenAs_38 (by decide) ?_
          refine a_sub [2, 3, 4, 1, 0] rfl ?_
          exact ih5 _ _ (by omega) (by rw [hg]; simp only [wsF]; first | (rw [if_pos c25]; rfl) | rw [if_neg c25]) (by omega)
  refine a_sub [2, 3, 4, 1, 0] rfl ?_
  exact L5 _ 0 0 (Nat.zero_le _) rfl (Nat.lt_succ_self _)
set_option maxHeartbeats 4000000 in
set_option maxRecDepth 100000 in
theorem c_X6_cost {G : GT} {B : Nat} {l : Launch} {H : Heap} {b kr sp : Nat} {fp dr : Int32} {kb : Bool} {ka ks kw : Int32} {n nv : Nat} {kS kU kK kV dd : DD} {d : Nat} {td : DD} (hT : Dd G H d n td) {s what : Int32} (hC : Bc G H b kr sp fp dr kb ka ks kw n nv kS kU kK kV dd) : AM G B l yX6_cost cX6_cost 5 (some .int) 4 0 0 [.ref b, .ref d, .int s, .int what] H (fun rv H' => rv = some (.int (coF n td kK ka ks s what)) ∧ (H' = H)) := by
  have hT0 := hT
  obtain ⟨fS4, fU4, fO4, hd4, -⟩ := hT
  have hC0 := hC
  obtain ⟨hb, hK, hD, hkr⟩ := hC
  have hK0 := hK
  have hN := hD
  unfold bxL at hb
  obtain ⟨fS3, fU3, fK3, fV3, hk3, ha3, hb3, hc3, he3, eS3, eU3, eK3, eV3, hn3, hnv3⟩ := hK
  obtain ⟨fS, fU, fO, hd, hs, hu, ho, eS, eU, eO, hn⟩ := hD
  refine AM.ofI (lv := [(0, .ref b), (1, .ref d), (2, .int s), (3, .int what)]) (by decide +kernel) (Nat.le_of_ble_eq_true rfl) rfl ?_ (fun _ h => by cases h.1)
  refine a_iload_n 3 dX6_cost_0 rfl rfl ?_
  refine a_iconst 1 dX6_cost_1 (by decide) ?_
  refine a_icmpne 13 dX6_cost_2 (by decide) (fun c2 => ?_) (fun c2 => ?_)
  · skip
    refine a_iload_n 3 dX6_cost_13 rfl rfl ?_
    refine a_iconst 2 dX6_cost_14 (by decide) ?_
    refine a_icmpne 26 dX6_cost_15 (by decide) (fun c15 => ?_) (fun c15 => ?_)
    · skip
      refine a_aload_n 1 dX6_cost_26 rfl rfl ?_
      refine a_iload_n 2 dX6_cost_27 rfl rfl ?_
      refine a_callVp (As := [.int s]) (rest := []) (d := 3) (mc := 0) (ms := 0) (x := guF n td s) (ci := 0) l_X6_193 im_X0_strongest se_X0_strongest ⟨_, rfl, rfl⟩ dX6_cost_28 ⟨Nat.le_of_ble_eq_true rfl, Nat.le_of_ble_eq_true rfl⟩ rfl (Nat.le_of_ble_eq_true rfl) ⟨Nat.le_of_ble_eq_true rfl, Nat.le_of_ble_eq_true rfl⟩ hd4 (c_X0_strongest hT0) ?_
      refine a_istore (lv' := [(4, .int (guF n td s)), (0, .ref b), (1, .ref d), (2, .int s), (3, .int what)]) dX6_cost_31 (by decide) rfl ?_
      refine a_aload_n 1 dX6_cost_33 rfl rfl ?_
      refine a_iload 0 dX6_cost_34 rfl ?_
      refine a_callVp (As := [.int (guF n td s)]) (rest := []) (d := 0) (mc := 0) (ms := 0) (x := bI (wIx n (guF n td s))) (ci := 6) l_X6_131 im_X6_isWord se_X6_isWord ⟨_, rfl, rfl⟩ dX6_cost_36 ⟨Nat.le_of_ble_eq_true rfl, Nat.le_of_ble_eq_true rfl⟩ rfl (Nat.le_of_ble_eq_true rfl) ⟨Nat.le_of_ble_eq_true rfl, Nat.le_of_ble_eq_true rfl⟩ hb (c_X6_isWord hC0) ?_
      refine a_ifneB 44 dX6_cost_39 (by decide) (fun c39 => ?_) (fun c39 => ?_)
      · skip
        obtain ⟨j, hj, ej⟩ := wIx_of (by omega) c39
        have ecl : (guF n td s).toNatClampNeg = j := by rw [ej]; exact nI_clamp (by omega)
        rw [ej]
        refine a_ldcw 1000000 k_X6_268 dX6_cost_44 ?_
        refine a_aload_n 2 dX6_cost_47 rfl rfl ?_
        refine a_iload 0 dX6_cost_48 rfl ?_
        refine a_iload_n 3 dX6_cost_50 rfl rfl ?_
        refine a_callVp (As := [.int (nI j), .int s]) (rest := [.int 1000000]) (d := 3) (mc := 0) (ms := 0) (x := ceF n td j s) (ci := 0) l_X6_196 im_X0_certainty se_X0_certainty ⟨_, rfl, rfl⟩ dX6_cost_51 ⟨Nat.le_of_ble_eq_true rfl, Nat.le_of_ble_eq_true rfl⟩ rfl (Nat.le_of_ble_eq_true rfl) ⟨Nat.le_of_ble_eq_true rfl, Nat.le_of_ble_eq_true rfl⟩ hd4 (c_X0_certainty hT0 hj) ?_
        refine a_isub dX6_cost_54 ?_
        refine a_aload_n 1 dX6_cost_55 rfl rfl ?_
        refine a_get f_X6_23 dX6_cost_56 hb rfl ?_
        refine a_get f_X6_142 dX6_cost_59 hk3 rfl ?_
        refine a_iload 0 dX6_cost_62 rfl ?_
        refine a_ialdN (j := j) dX6_cost_64 hc3 (by omega) (by decide) ?_
        refine a_toeq (kK j) (eK3 _ (by omega)) ?_
        refine a_imul dX6_cost_65 ?_
        refine a_ldcw 1000000 k_X6_268 dX6_cost_66 ?_
        refine a_idiv dX6_cost_69 (by decide +kernel) ?_
        refine a_ret dX6_cost_70 ⟨⟨ri ?_, ?_⟩, rfl, rfl⟩
        · unfold coF
          rw [if_neg c2, if_neg c15, if_pos c39, ecl]
        · rfl
      · skip
        refine a_iconst 0 dX6_cost_42 (by decide) ?_
        refine a_ret dX6_cost_43 ⟨⟨ri ?_, ?_⟩, rfl, rfl⟩
        · unfold coF
          rw [if_neg c2, if_neg c15, if_neg (by rw [c39]; decide)]
        · rfl
    · skip
      refine a_aload_n 0 dX6_cost_18 rfl rfl ?_
      refine a_get f_X6_23 dX6_cost_19 hb rfl ?_
      refine a_get f_X6_106 dX6_cost_22 hk3 rfl ?_
      refine a_ret dX6_cost_25 ⟨⟨ri ?_, ?_⟩, rfl, rfl⟩
      · unfold coF
        rw [if_neg c2, if_pos c15]
      · rfl
  · skip
    refine a_aload_n 0 dX6_cost_5 rfl rfl ?_
    refine a_get f_X6_23 dX6_cost_6 hb rfl ?_
    refine a_get f_X6_103 dX6_cost_9 hk3 rfl ?_
    refine a_ret dX6_cost_12 ⟨⟨ri ?_, ?_⟩, rfl, rfl⟩
    · unfold coF
      rw [if_pos c2]
    · rfl
set_option maxHeartbeats 4000000 in
set_option maxRecDepth 100000 in
theorem c_X6_cheapest {G : GT} {B : Nat} {l : Launch} {H : Heap} {b kr sp : Nat} {fp dr : Int32} {kb : Bool} {ka ks kw : Int32} {n nv : Nat} {kS kU kK kV dd : DD} {d : Nat} {td : DD} (hT : Dd G H d n td) {s : Int32} (hC : Bc G H b kr sp fp dr kb ka ks kw n nv kS kU kK kV dd) : AM G B l yX6_cheapest cX6_cheapest 7 (some .int) 5 0 0 [.ref b, .ref d, .int s] H (fun rv H' => rv = some (.int (ruF n td kK ka ks s)) ∧ (H' = H)) := by
  have hT0 := hT
  obtain ⟨fS4, fU4, fO4, hd4, -⟩ := hT
  have hC0 := hC
  obtain ⟨hb, hK, hD, hkr⟩ := hC
  have hK0 := hK
  have hN := hD
  unfold bxL at hb
  obtain ⟨fS3, fU3, fK3, fV3, hk3, ha3, hb3, hc3, he3, eS3, eU3, eK3, eV3, hn3, hnv3⟩ := hK
  obtain ⟨fS, fU, fO, hd, hs, hu, ho, eS, eU, eO, hn⟩ := hD
  refine AM.ofI (lv := [(0, .ref b), (1, .ref d), (2, .int s)]) (by decide +kernel) (Nat.le_of_ble_eq_true rfl) rfl ?_ (fun _ h => by cases h.1)
  refine a_iconst 0 dX6_cheapest_0 (by decide) ?_
  refine a_istore_n (lv' := [(3, .int 0), (0, .ref b), (1, .ref d), (2, .int s)]) dX6_cheapest_1 rfl (by decide) rfl ?_
  refine a_aload_n 1 dX6_cheapest_2 rfl rfl ?_
  refine a_aload_n 2 dX6_cheapest_3 rfl rfl ?_
  refine a_iload_n 3 dX6_cheapest_4 rfl rfl ?_
  refine a_iconst 0 dX6_cheapest_5 (by decide) ?_
  refine a_callVp (As := [.ref d, .int s, .int 0]) (rest := []) (d := 4) (mc := 0) (ms := 0) (x := coF n td kK ka ks s 0) (ci := 6) l_X6_203 im_X6_cost se_X6_cost ⟨_, rfl, rfl⟩ dX6_cheapest_6 ⟨Nat.le_of_ble_eq_true rfl, Nat.le_of_ble_eq_true rfl⟩ rfl (Nat.le_of_ble_eq_true rfl) ⟨Nat.le_of_ble_eq_true rfl, Nat.le_of_ble_eq_true rfl⟩ hb (c_X6_cost hT0 hC0) ?_
  refine a_istore (lv' := [(4, .int (coF n td kK ka ks s 0)), (3, .int 0), (0, .ref b), (1, .ref d), (2, .int s)]) dX6_cheapest_9 (by decide) rfl ?_
  refine a_iconst 1 dX6_cheapest_11 (by decide) ?_
  refine a_istore (lv' := [(5, .int 1), (4, .int (coF n td kK ka ks s 0)), (3, .int 0), (0, .ref b), (1, .ref d), (2, .int s)]) dX6_cheapest_12 (by decide) rfl ?_
  have L14 : ∀ (fu : Nat) (k : Nat) (r m : Int32), k ≤ 2 → chF n td kK ka ks s k = (r, m) → 2 - k < fu → AW G B l { frames := 5, cells := 0, slots := 0, locals := 27 * 5 } yX6_cheapest.cls cX6_cheapest 7 false (fun rv H' ce' sl' => (rv = some (.int (ruF n td kK ka ks s)) ∧ (H' = H)) ∧ ce' = 0 ∧ sl' = 0) 14 [(0, .ref b), (1, .ref d), (2, .int s), (3, .int r), (4, .int m), (5, .int (nI (k + 1)))] [] H 0 0 := by
    intro fu
    induction fu with
    | zero => intro k r m hk hg hm14; exact absurd hm14 (Nat.not_lt_zero _)
    | succ fu ih14 =>
      intro k r m hk hg hm14
      refine a_iload 5 dX6_cheapest_14 rfl ?_
      refine a_iconst 2 dX6_cheapest_16 (by decide) ?_
      refine a_icmpgtN (a := k + 1) (b := 2) 50 dX6_cheapest_17 (by decide) (by omega) (by omega) (fun c17 => ?_) (fun c17 => ?_)
      · skip
        refine a_iload_n 3 dX6_cheapest_50 rfl rfl ?_
        refine a_ret dX6_cheapest_51 ⟨⟨ri ?_, ?_⟩, rfl, rfl⟩
        · unfold ruF
          rw [show 2 = k by omega, hg]
        · rfl
      · skip
        refine a_aload_n 0 dX6_cheapest_20 rfl rfl ?_
        refine a_aload_n 1 dX6_cheapest_21 rfl rfl ?_
        refine a_iload_n 2 dX6_cheapest_22 rfl rfl ?_
        refine a_iload 5 dX6_cheapest_23 rfl ?_
        refine a_callVp (As := [.ref d, .int s, .int (nI (k + 1))]) (rest := []) (d := 4) (mc := 0) (ms := 0) (x := coF n td kK ka ks s (nI (k + 1))) (ci := 6) l_X6_203 im_X6_cost se_X6_cost ⟨_, rfl, rfl⟩ dX6_cheapest_25 ⟨Nat.le_of_ble_eq_true rfl, Nat.le_of_ble_eq_true rfl⟩ rfl (Nat.le_of_ble_eq_true rfl) ⟨Nat.le_of_ble_eq_true rfl, Nat.le_of_ble_eq_true rfl⟩ hb (c_X6_cost hT0 hC0) ?_
        refine a_istore (lv' := [(6, .int (coF n td kK ka ks s (nI (k + 1)))), (0, .ref b), (1, .ref d), (2, .int s), (3, .int r), (4, .int m), (5, .int (nI (k + 1)))]) dX6_cheapest_28 (by decide) rfl ?_
        refine a_iload 0 dX6_cheapest_30 rfl ?_
        refine a_iload 5 dX6_cheapest_32 rfl ?_
        refine a_icmpge 44 dX6_cheapest_34 (by decide) (fun c34 => ?_) (fun c34 => ?_)
        · skip
          have c34 := Int32.not_lt.mpr c34
          refine a_iincN (q := 6) (lv' := [(5, .int (nI (k + 1 + 1))), (6, .int (coF n td kK ka ks s (nI (k + 1)))), (0, .ref b), (1, .ref d), (2, .int s), (3, .int r), (4, .int m)]) dX6_cheapest_44 rfl (by decide) rfl ?_
          refine a_goto 14 dX6_cheapest_47 (by decide) ?_
          refine a_sub [2, 3, 4, 5, 6, 0] rfl ?_
          exact ih14 _ _ _ (by omega) (by simp only [chF]; rw [hg]; first | rw [if_pos c34] | rw [if_neg c34]) (by omega)
        · skip
          have c34 := Int32.not_le.mp c34
          refine a_iload 6 dX6_cheapest_37 rfl ?_
          refine a_istore_n (lv' := [(3, .int (nI (k + 1))), (6, .int (coF n td kK ka ks s (nI (k + 1)))), (0, .ref b), (1, .ref d), (2, .int s), (4, .int m), (5, .int (nI (k + 1)))]) dX6_cheapest_39 rfl (by decide) rfl ?_
          refine a_iload 1 dX6_cheapest_40 rfl ?_
          refine a_istore (lv' := [(4, .int (coF n td kK ka ks s (nI (k + 1)))), (3, .int (nI (k + 1))), (6, .int (coF n td kK ka ks s (nI (k + 1)))), (0, .ref b), (1, .ref d), (2, .int s), (5, .int (nI (k + 1)))]) dX6_cheapest_42 (by decide) rfl ?_
          refine a_iincN (q := 6) (lv' := [(5, .int (nI (k + 1 + 1))), (4, .int (coF n td kK ka ks s (nI (k + 1)))), (3, .int (nI (k + 1))), (6, .int (coF n td kK ka ks s (nI (k + 1)))), (0, .ref b), (1, .ref d), (2, .int s)]) dX6_cheapest_44 rfl (by decide) rfl ?_
          refine a_goto 14 dX6_cheapest_47 (by decide) ?_
          refine a_sub [4, 5, 6, 2, 1, 0] rfl ?_
          exact ih14 _ _ _ (by omega) (by simp only [chF]; rw [hg]; first | rw [if_pos c34] | rw [if_neg c34]) (by omega)
  refine a_sub [3, 4, 5, 2, 1, 0] rfl ?_
  exact L14 _ 0 _ _ (Nat.zero_le _) rfl (Nat.lt_succ_self _)
set_option maxHeartbeats 4000000 in
set_option maxRecDepth 100000 in
theorem c_X6_takeIn {G : GT} {B : Nat} {l : Launch} {H : Heap} {b kr sp : Nat} {fp dr : Int32} {kb : Bool} {ka ks kw : Int32} {n nv : Nat} {kS kU kK kV dd : DD} {s : Int32} {g : Nat} (hC : Bc G H b kr sp fp dr kb ka ks kw n nv kS kU kK kV dd) (hg : guF n dd s = nI g) (hgn : g < n) (hB : B ≤ b) : AM G B l yX6_takeIn cX6_takeIn 3 (some .int) 6 0 0 [.ref b, .int s] H (fun rv H' => rv = some (.int (ruF n dd kK ka ks s)) ∧ (Dd G H' (b + 13) n (hrF dd g (ruF n dd kK ka ks s)) ∧ ∀ q : Nat, ¬ (b + 13 ≤ q ∧ q < b + 17) → H'[q]? = H[q]?)) := by
  have hC0 := hC
  obtain ⟨hb, hK, hD, hkr⟩ := hC
  have hK0 := hK
  have hN := hD
  unfold bxL at hb
  obtain ⟨fS3, fU3, fK3, fV3, hk3, ha3, hb3, hc3, he3, eS3, eU3, eK3, eV3, hn3, hnv3⟩ := hK
  obtain ⟨fS, fU, fO, hd, hs, hu, ho, eS, eU, eO, hn⟩ := hD
  have hF : ∀ q : Nat, ¬ (b + 13 ≤ q ∧ q < b + 17) → H[q]? = H[q]? := fun _ _ => rfl
  refine AM.ofI (lv := [(0, .ref b), (1, .int s)]) (by decide +kernel) (Nat.le_of_ble_eq_true rfl) rfl ?_ (fun _ h => by cases h.1)
  refine a_aload_n 0 dX6_takeIn_0 rfl rfl ?_
  refine a_aload_n 0 dX6_takeIn_1 rfl rfl ?_
  refine a_get f_X6_33 dX6_takeIn_2 hb rfl ?_
  refine a_iload_n 1 dX6_takeIn_5 rfl rfl ?_
  refine a_callVp (As := [.ref (b + 13), .int s]) (rest := []) (d := 5) (mc := 0) (ms := 0) (x := ruF n dd kK ka ks s) (ci := 6) l_X6_199 im_X6_cheapest se_X6_cheapest ⟨_, rfl, rfl⟩ dX6_takeIn_6 ⟨Nat.le_of_ble_eq_true rfl, Nat.le_of_ble_eq_true rfl⟩ rfl (Nat.le_of_ble_eq_true rfl) ⟨Nat.le_of_ble_eq_true rfl, Nat.le_of_ble_eq_true rfl⟩ hb (c_X6_cheapest hN hC0) ?_
  refine a_istore_n (lv' := [(2, .int (ruF n dd kK ka ks s)), (0, .ref b), (1, .int s)]) dX6_takeIn_9 rfl (by decide) rfl ?_
  refine a_aload_n 1 dX6_takeIn_10 rfl rfl ?_
  refine a_get f_X6_33 dX6_takeIn_11 hb rfl ?_
  refine a_aload_n 1 dX6_takeIn_14 rfl rfl ?_
  refine a_get f_X6_33 dX6_takeIn_15 hb rfl ?_
  refine a_iload_n 2 dX6_takeIn_18 rfl rfl ?_
  refine a_callVp (As := [.int s]) (rest := [.ref (b + 13)]) (d := 3) (mc := 0) (ms := 0) (x := guF n dd s) (ci := 0) l_X6_193 im_X0_strongest se_X0_strongest ⟨_, rfl, rfl⟩ dX6_takeIn_19 ⟨Nat.le_of_ble_eq_true rfl, Nat.le_of_ble_eq_true rfl⟩ rfl (Nat.le_of_ble_eq_true rfl) ⟨Nat.le_of_ble_eq_true rfl, Nat.le_of_ble_eq_true rfl⟩ hd (c_X0_strongest hN) ?_
  rw [hg]
  refine a_iload_n 0 dX6_takeIn_22 rfl rfl ?_
  refine a_callVv (As := [.int (nI g), .int (ruF n dd kK ka ks s)]) (rest := []) (d := 2) (mc := 0) (ms := 0) (ci := 0) l_X6_269 im_X0_react se_X0_react ⟨_, rfl, rfl⟩ dX6_takeIn_23 ⟨Nat.le_of_ble_eq_true rfl, Nat.le_of_ble_eq_true rfl⟩ rfl (Nat.le_of_ble_eq_true rfl) ⟨Nat.le_of_ble_eq_true rfl, Nat.le_of_ble_eq_true rfl⟩ hd (c_X0_react hN hgn (by omega)) (fun H3 hp3 => ?_)
  obtain ⟨hD3, hfr⟩ := hp3
  have hF : ∀ q : Nat, ¬ (b + 13 ≤ q ∧ q < b + 17) → H3[q]? = H[q]? := fun q hq => (hfr q (by omega)).trans (hF q hq)
  refine a_iload_n 0 dX6_takeIn_26 rfl rfl ?_
  refine a_ret dX6_takeIn_27 ⟨⟨ri ?_, ?_⟩, rfl, rfl⟩
  · rfl
  · exact ⟨hD3, hF⟩
set_option maxHeartbeats 4000000 in
set_option maxRecDepth 100000 in
theorem c_X6_draw {G : GT} {B : Nat} {l : Launch} {H : Heap} {b kr sp : Nat} {fp : Int32} {sd k : Nat} (hb : Ob G H b 6 (bxL b kr sp fp (nI sd))) (hs : sd < 2 ^ 31) (hk : 0 < k) (hk2 : k < 100) (hB : B ≤ b) : AM G B l yX6_draw cX6_draw 2 (some .int) 0 0 0 [.ref b, .int (nI k)] H (fun rv H' => rv = some (.int (nI (drF sd k))) ∧ (Ob G H' b 6 (bxL b kr sp fp (nI (sdF sd))) ∧ ∀ q : Nat, q ≠ b → H'[q]? = H[q]?)) := by
  unfold bxL at hb
  have hsl : sdF sd < 2147483648 := Nat.mod_lt _ (by decide)
  have hF : ∀ q : Nat, q ≠ b → H[q]? = H[q]? := fun _ _ => rfl
  refine AM.ofI (lv := [(0, .ref b), (1, .int (nI k))]) (by decide +kernel) (Nat.le_of_ble_eq_true rfl) rfl ?_ (fun _ h => by cases h.1)
  refine a_iload_n 1 dX6_draw_0 rfl rfl ?_
  refine a_ifgtN (a := k) 6 dX6_draw_1 (by decide) (by omega) (fun c1 => ?_) (fun c1 => ?_)
  · skip
    refine a_aload_n 0 dX6_draw_6 rfl rfl ?_
    refine a_aload_n 0 dX6_draw_7 rfl rfl ?_
    refine a_get f_X6_53 dX6_draw_8 hb rfl ?_
    refine a_i2l dX6_draw_11 ?_
    rw [nI_l hs]
    refine a_ldc2 1103515245 k_X6_273 dX6_draw_12 ?_
    refine a_lmul dX6_draw_15 ?_
    refine a_ldc2 12345 k_X6_275 dX6_draw_16 ?_
    refine a_ladd dX6_draw_19 ?_
    refine a_ldc2 2147483648 k_X6_277 dX6_draw_20 ?_
    refine a_lrem dX6_draw_23 (by decide +kernel) ?_
    refine a_l2i dX6_draw_24 ?_
    rw [sd_eq hs]
    refine a_put f_X6_53 p_X6_53 dX6_draw_25 hb (Nat.le_of_ble_eq_true rfl) rfl rfl (by omega) (fun H1 hb hz1 hq1 => ?_)
    have hb : Ob G H1 b 6 [.ref (b + 1), .int fp, .ref kr, .ref sp, .ref (b + 13), .ref (b + 17), .ref (b + 21), .ref (b + 103), .int (nI (sdF sd)), .ref (b + 104), .ref (b + 107)] := hb
    have hF : ∀ q : Nat, q ≠ b → H1[q]? = H[q]? := fun q hq => (hq1 q (by omega)).trans (hF q hq)
    refine a_aload_n 0 dX6_draw_28 rfl rfl ?_
    refine a_get f_X6_53 dX6_draw_29 hb rfl ?_
    refine a_ldcw 65536 k_X6_279 dX6_draw_32 ?_
    refine a_idivN (a := sdF sd) (b := 65536) dX6_draw_35 (by omega) (by omega) (by omega) ?_
    refine a_iload_n 1 dX6_draw_36 rfl rfl ?_
    refine a_iremN (a := (sdF sd) / 65536) (b := k) dX6_draw_37 (by omega) (by omega) (by omega) ?_
    refine a_ret dX6_draw_38 ⟨⟨ri ?_, ?_⟩, rfl, rfl⟩
    · rfl
    · exact ⟨hb, hF⟩
  · skip
    omega
set_option maxHeartbeats 4000000 in
set_option maxRecDepth 100000 in
theorem c_X6_couldHaveSpoken {G : GT} {B : Nat} {l : Launch} {H : Heap} {b kr sp : Nat} {fp dr : Int32} {kb : Bool} {ka ks kw : Int32} {n nv : Nat} {kS kU kK kV dd : DD} {sn : Nat} {sw sg : Nat → Nat} (hS : Pr G H (b + 104) 6 sn (fun i => nI (sw i)) (fun i => nI (sg i))) (hsw : ∀ i, i < sn → sw i < n) {v : Nat} (hv : v < nv) (hC : Bc G H b kr sp fp dr kb ka ks kw n nv kS kU kK kV dd) : AM G B l yX6_couldHaveSpoken cX6_couldHaveSpoken 4 (some .boolean) 5 0 0 [.ref b, .int (nI v)] H (fun rv H' => rv = some (.int (bI (csF n dd kV sw sg v sn))) ∧ (H' = H)) := by
  have hC0 := hC
  obtain ⟨hb, hK, hD, hkr⟩ := hC
  have hK0 := hK
  have hN := hD
  unfold bxL at hb
  obtain ⟨fS3, fU3, fK3, fV3, hk3, ha3, hb3, hc3, he3, eS3, eU3, eK3, eV3, hn3, hnv3⟩ := hK
  obtain ⟨fS, fU, fO, hd, hs, hu, ho, eS, eU, eO, hn⟩ := hD
  have hS0 := hS
  obtain ⟨fA, fB, hp, hpa, hpb, eA, eB, hct, hcap⟩ := hS
  refine AM.ofZ (lv := [(0, .ref b), (1, .int (nI v))]) (by decide +kernel) (Nat.le_of_ble_eq_true rfl) rfl ?_ (fun _ _ h => ⟨_, h.1⟩)
  refine a_iconst 0 dX6_couldHaveSpoken_0 (by decide) ?_
  refine a_istore_n (lv' := [(2, .int 0), (0, .ref b), (1, .int (nI v))]) dX6_couldHaveSpoken_1 rfl (by decide) rfl ?_
  have L2 : ∀ (fu : Nat) (k : Nat), k ≤ sn → csF n dd kV sw sg v k = true → sn - k < fu → AW G B l { frames := 5, cells := 0, slots := 0, locals := 27 * 5 } yX6_couldHaveSpoken.cls cX6_couldHaveSpoken 4 false (fun rv H' ce' sl' => (rv = some (.int (bI (csF n dd kV sw sg v sn))) ∧ (H' = H)) ∧ ce' = 0 ∧ sl' = 0) 2 [(0, .ref b), (1, .int (nI v)), (2, .int (nI k))] [] H 0 0 := by
    intro fu
    induction fu with
    | zero => intro k hk hg hm2; exact absurd hm2 (Nat.not_lt_zero _)
    | succ fu ih2 =>
      intro k hk hg hm2
      refine a_iload_n 2 dX6_couldHaveSpoken_2 rfl rfl ?_
      refine a_aload_n 0 dX6_couldHaveSpoken_3 rfl rfl ?_
      refine a_get f_X6_61 dX6_couldHaveSpoken_4 hb rfl ?_
      refine a_get f_X6_127 dX6_couldHaveSpoken_7 hp rfl ?_
      refine a_icmpgeN (a := k) (b := sn) 57 dX6_couldHaveSpoken_10 (by decide) (by omega) (by omega) (fun c10 => ?_) (fun c10 => ?_)
      · skip
        refine a_iconst 1 dX6_couldHaveSpoken_57 (by decide) ?_
        refine a_ret dX6_couldHaveSpoken_58 ⟨⟨ri ?_, ?_⟩, rfl, rfl⟩
        · rw [show sn = k by omega, hg]; rfl
        · rfl
      · skip
        refine a_aload_n 0 dX6_couldHaveSpoken_13 rfl rfl ?_
        refine a_get f_X6_61 dX6_couldHaveSpoken_14 hb rfl ?_
        refine a_get f_X6_247 dX6_couldHaveSpoken_17 hp rfl ?_
        refine a_iload_n 2 dX6_couldHaveSpoken_20 rfl rfl ?_
        refine a_ialdN (j := k) dX6_couldHaveSpoken_21 hpa (by omega) (by decide) ?_
        refine a_toeq (nI (sw k)) (eA _ (by omega)) ?_
        refine a_istore_n (lv' := [(3, .int (nI (sw k))), (0, .ref b), (1, .int (nI v)), (2, .int (nI k))]) dX6_couldHaveSpoken_22 rfl (by decide) rfl ?_
        refine a_aload_n 1 dX6_couldHaveSpoken_23 rfl rfl ?_
        refine a_iload_n 0 dX6_couldHaveSpoken_24 rfl rfl ?_
        refine a_callVp (As := [.int (nI (sw k))]) (rest := []) (d := 0) (mc := 0) (ms := 0) (x := bI (wIx n (nI (sw k)))) (ci := 6) l_X6_131 im_X6_isWord se_X6_isWord ⟨_, rfl, rfl⟩ dX6_couldHaveSpoken_25 ⟨Nat.le_of_ble_eq_true rfl, Nat.le_of_ble_eq_true rfl⟩ rfl (Nat.le_of_ble_eq_true rfl) ⟨Nat.le_of_ble_eq_true rfl, Nat.le_of_ble_eq_true rfl⟩ hb (c_X6_isWord hC0) ?_
        refine a_ifeqB 51 dX6_couldHaveSpoken_28 (by decide) (fun c28 => ?_) (fun c28 => ?_)
        · skip
          exact absurd c28 (by rw [wIx_nI (hsw k (by omega)) (by omega)]; decide)
        · skip
          refine a_aload_n 1 dX6_couldHaveSpoken_31 rfl rfl ?_
          refine a_iload_n 0 dX6_couldHaveSpoken_32 rfl rfl ?_
          refine a_iload_n 2 dX6_couldHaveSpoken_33 rfl rfl ?_
          refine a_callVp (As := [.int (nI (sw k)), .int (nI v)]) (rest := []) (d := 4) (mc := 0) (ms := 0) (x := unF n dd kV (sw k) v) (ci := 6) l_X6_207 im_X6_understood se_X6_understood ⟨_, rfl, rfl⟩ dX6_couldHaveSpoken_34 ⟨Nat.le_of_ble_eq_true rfl, Nat.le_of_ble_eq_true rfl⟩ rfl (Nat.le_of_ble_eq_true rfl) ⟨Nat.le_of_ble_eq_true rfl, Nat.le_of_ble_eq_true rfl⟩ hb (c_X6_understood (hsw k (by omega)) hv hC0) ?_
          refine a_aload_n 1 dX6_couldHaveSpoken_37 rfl rfl ?_
          refine a_get f_X6_61 dX6_couldHaveSpoken_38 hb rfl ?_
          refine a_get f_X6_250 dX6_couldHaveSpoken_41 hp rfl ?_
          refine a_iload_n 3 dX6_couldHaveSpoken_44 rfl rfl ?_
          refine a_ialdN (j := k) dX6_couldHaveSpoken_45 hpb (by omega) (by decide) ?_
          refine a_toeq (nI (sg k)) (eB _ (by omega)) ?_
          refine a_icmpeq 51 dX6_couldHaveSpoken_46 (by decide) (fun c46 => ?_) (fun c46 => ?_)
          · skip
            refine a_iincN (q := 3) (lv' := [(2, .int (nI (k + 1))), (3, .int (nI (sw k))), (0, .ref b), (1, .int (nI v))]) dX6_couldHaveSpoken_51 rfl (by decide) rfl ?_
            refine a_goto 2 dX6_couldHaveSpoken_54 (by decide) ?_
            refine a_sub [2, 3, 0] rfl ?_
            exact ih2 _ (by omega) (by simp only [csF]; rw [hg, c46, decide_eq_true rfl]; rfl) (by omega)
          · skip
            refine a_iconst 0 dX6_couldHaveSpoken_49 (by decide) ?_
            refine a_ret dX6_couldHaveSpoken_50 ⟨⟨ri ?_, ?_⟩, rfl, rfl⟩
            · rw [csF_false (k := k + 1) (by omega) (by simp only [csF]; rw [decide_eq_false c46, Bool.and_false])]; rfl
            · rfl
  refine a_sub [1, 2, 0] rfl ?_
  exact L2 _ 0 (Nat.zero_le _) rfl (Nat.lt_succ_self _)
set_option maxHeartbeats 4000000 in
set_option maxRecDepth 100000 in
theorem c_X6_greatestPart {G : GT} {B : Nat} {l : Launch} {H : Heap} {b kr sp : Nat} {fp dr : Int32} {kb : Bool} {ka ks kw : Int32} {n nv : Nat} {kS kU kK kV dd : DD} {w : Nat} {set : Int32} (hw : w < n) (hC : Bc G H b kr sp fp dr kb ka ks kw n nv kS kU kK kV dd) : AM G B l yX6_greatestPart cX6_greatestPart 7 (some .int) 5 0 0 [.ref b, .int (nI w), .int set] H (fun rv H' => rv = some (.int (nI (gpO n nv dd kV w set n))) ∧ (H' = H)) := by
  have hC0 := hC
  obtain ⟨hb, hK, hD, hkr⟩ := hC
  have hK0 := hK
  have hN := hD
  unfold bxL at hb
  obtain ⟨fS3, fU3, fK3, fV3, hk3, ha3, hb3, hc3, he3, eS3, eU3, eK3, eV3, hn3, hnv3⟩ := hK
  obtain ⟨fS, fU, fO, hd, hs, hu, ho, eS, eU, eO, hn⟩ := hD
  refine AM.ofI (lv := [(0, .ref b), (1, .int (nI w)), (2, .int set)]) (by decide +kernel) (Nat.le_of_ble_eq_true rfl) rfl ?_ (fun _ h => by cases h.1)
  refine a_iconst 0 dX6_greatestPart_0 (by decide) ?_
  refine a_istore_n (lv' := [(3, .int 0), (0, .ref b), (1, .int (nI w)), (2, .int set)]) dX6_greatestPart_1 rfl (by decide) rfl ?_
  refine a_iconst 0 dX6_greatestPart_2 (by decide) ?_
  refine a_istore (lv' := [(4, .int 0), (3, .int 0), (0, .ref b), (1, .int (nI w)), (2, .int set)]) dX6_greatestPart_3 (by decide) rfl ?_
  have L5 : ∀ (fu : Nat) (g r : Nat), g ≤ n → r = gpO n nv dd kV w set g → n - g < fu → AW G B l { frames := 5, cells := 0, slots := 0, locals := 27 * 5 } yX6_greatestPart.cls cX6_greatestPart 7 false (fun rv H' ce' sl' => (rv = some (.int (nI (gpO n nv dd kV w set n))) ∧ (H' = H)) ∧ ce' = 0 ∧ sl' = 0) 5 [(0, .ref b), (1, .int (nI w)), (2, .int set), (3, .int (nI r)), (4, .int (nI g))] [] H 0 0 := by
    intro fu
    induction fu with
    | zero => intro g r hk hg hm5; exact absurd hm5 (Nat.not_lt_zero _)
    | succ fu ih5 =>
      intro g r hk hg hm5
      have hle := gpO_le (n := n) (nv := nv) (dd := dd) (kV := kV) (w := w) (set := set) (g := g)
      refine a_iload 4 dX6_greatestPart_5 rfl ?_
      refine a_aload_n 0 dX6_greatestPart_7 rfl rfl ?_
      refine a_get f_X6_23 dX6_greatestPart_8 hb rfl ?_
      refine a_get f_X6_100 dX6_greatestPart_11 hk3 rfl ?_
      refine a_icmpgeN (a := g) (b := n) 79 dX6_greatestPart_14 (by decide) (by omega) (by omega) (fun c14 => ?_) (fun c14 => ?_)
      · skip
        refine a_iload_n 3 dX6_greatestPart_79 rfl rfl ?_
        refine a_ret dX6_greatestPart_80 ⟨⟨ri ?_, ?_⟩, rfl, rfl⟩
        · rw [hg, show n = g by omega]
        · rfl
      · skip
        refine a_iconst 0 dX6_greatestPart_17 (by decide) ?_
        refine a_istore (lv' := [(5, .int 0), (0, .ref b), (1, .int (nI w)), (2, .int set), (3, .int (nI r)), (4, .int (nI g))]) dX6_greatestPart_18 (by decide) rfl ?_
        refine a_iconst 0 dX6_greatestPart_20 (by decide) ?_
        refine a_istore (lv' := [(6, .int 0), (5, .int 0), (0, .ref b), (1, .int (nI w)), (2, .int set), (3, .int (nI r)), (4, .int (nI g))]) dX6_greatestPart_21 (by decide) rfl ?_
        have L23 : ∀ (fu : Nat) (v c : Nat), v ≤ nv → c = gpI n dd kV w set g v → nv - v < fu → AW G B l { frames := 5, cells := 0, slots := 0, locals := 27 * 5 } yX6_greatestPart.cls cX6_greatestPart 7 false (fun rv H' ce' sl' => (rv = some (.int (nI (gpO n nv dd kV w set n))) ∧ (H' = H)) ∧ ce' = 0 ∧ sl' = 0) 23 [(0, .ref b), (1, .int (nI w)), (2, .int set), (3, .int (nI r)), (4, .int (nI g)), (5, .int (nI c)), (6, .int (nI v))] [] H 0 0 := by
          intro fu
          induction fu with
          | zero => intro v c hk2 hh hm23; exact absurd hm23 (Nat.not_lt_zero _)
          | succ fu ih23 =>
            intro v c hk2 hh hm23
            have hlc := gpI_le (n := n) (dd := dd) (kV := kV) (w := w) (set := set) (g := g) (v := v)
            refine a_iload 6 dX6_greatestPart_23 rfl ?_
            refine a_aload_n 0 dX6_greatestPart_25 rfl rfl ?_
            refine a_get f_X6_23 dX6_greatestPart_26 hb rfl ?_
            refine a_get f_X6_112 dX6_greatestPart_29 hk3 rfl ?_
            refine a_icmpgeN (a := v) (b := nv) 66 dX6_greatestPart_32 (by decide) (by omega) (by omega) (fun c32 => ?_) (fun c32 => ?_)
            · skip
              refine a_iload_n 3 dX6_greatestPart_66 rfl rfl ?_
              refine a_iload 5 dX6_greatestPart_67 rfl ?_
              refine a_max ml_X6_280 dX6_greatestPart_69 (Nat.le_of_ble_eq_true rfl) (Nat.le_of_ble_eq_true rfl) ⟨Nat.le_of_ble_eq_true rfl, Nat.le_of_ble_eq_true rfl⟩ ?_
              refine a_toeq (nI (max r c)) (mxN (by omega) (by omega)) ?_
              refine a_istore_n (lv' := [(3, .int (nI (max r c))), (0, .ref b), (1, .int (nI w)), (2, .int set), (4, .int (nI g)), (5, .int (nI c)), (6, .int (nI v))]) dX6_greatestPart_72 rfl (by decide) rfl ?_
              refine a_iincN (q := 4) (lv' := [(4, .int (nI (g + 1))), (3, .int (nI (max r c))), (0, .ref b), (1, .int (nI w)), (2, .int set), (5, .int (nI c)), (6, .int (nI v))]) dX6_greatestPart_73 rfl (by decide) rfl ?_
              refine a_goto 5 dX6_greatestPart_76 (by decide) ?_
              refine a_sub [2, 3, 4, 1, 0] rfl ?_
              exact ih5 _ _ (by omega) (by simp only [gpO]; rw [hg, hh, show nv = v by omega]) (by omega)
            · skip
              refine a_iload_n 2 dX6_greatestPart_35 rfl rfl ?_
              refine a_iload 6 dX6_greatestPart_36 rfl ?_
              refine a_ishr dX6_greatestPart_38 ?_
              refine a_iconst 1 dX6_greatestPart_39 (by decide) ?_
              refine a_iand dX6_greatestPart_40 ?_
              refine a_iconst 1 dX6_greatestPart_41 (by decide) ?_
              refine a_icmpne 60 dX6_greatestPart_42 (by decide) (fun c42 => ?_) (fun c42 => ?_)
              · skip
                refine a_iincN (q := 6) (lv' := [(6, .int (nI (v + 1))), (0, .ref b), (1, .int (nI w)), (2, .int set), (3, .int (nI r)), (4, .int (nI g)), (5, .int (nI c))]) dX6_greatestPart_60 rfl (by decide) rfl ?_
                refine a_goto 23 dX6_greatestPart_63 (by decide) ?_
                refine a_sub [1, 2, 3, 4, 5, 6, 0] rfl ?_
                exact ih23 _ _ (by omega) (by simp only [gpI]; rw [if_neg (fun h => c42 h.1), hh]) (by omega)
              · skip
                refine a_aload_n 0 dX6_greatestPart_45 rfl rfl ?_
                refine a_iload_n 1 dX6_greatestPart_46 rfl rfl ?_
                refine a_iload 6 dX6_greatestPart_47 rfl ?_
                refine a_callVp (As := [.int (nI w), .int (nI v)]) (rest := []) (d := 4) (mc := 0) (ms := 0) (x := unF n dd kV w v) (ci := 6) l_X6_207 im_X6_understood se_X6_understood ⟨_, rfl, rfl⟩ dX6_greatestPart_49 ⟨Nat.le_of_ble_eq_true rfl, Nat.le_of_ble_eq_true rfl⟩ rfl (Nat.le_of_ble_eq_true rfl) ⟨Nat.le_of_ble_eq_true rfl, Nat.le_of_ble_eq_true rfl⟩ hb (c_X6_understood hw (by omega) hC0) ?_
                refine a_iload 4 dX6_greatestPart_52 rfl ?_
                refine a_icmpne 60 dX6_greatestPart_54 (by decide) (fun c54 => ?_) (fun c54 => ?_)
                · skip
                  refine a_iincN (q := 6) (lv' := [(6, .int (nI (v + 1))), (0, .ref b), (1, .int (nI w)), (2, .int set), (3, .int (nI r)), (4, .int (nI g)), (5, .int (nI c))]) dX6_greatestPart_60 rfl (by decide) rfl ?_
                  refine a_goto 23 dX6_greatestPart_63 (by decide) ?_
                  refine a_sub [1, 2, 3, 4, 5, 6, 0] rfl ?_
                  exact ih23 _ _ (by omega) (by simp only [gpI]; rw [if_neg (fun h => c54 h.2), hh]) (by omega)
                · skip
                  refine a_iincN (q := 5) (lv' := [(5, .int (nI (c + 1))), (0, .ref b), (1, .int (nI w)), (2, .int set), (3, .int (nI r)), (4, .int (nI g)), (6, .int (nI v))]) dX6_greatestPart_57 rfl (by decide) rfl ?_
                  refine a_iincN (q := 6) (lv' := [(6, .int (nI (v + 1))), (5, .int (nI (c + 1))), (0, .ref b), (1, .int (nI w)), (2, .int set), (3, .int (nI r)), (4, .int (nI g))]) dX6_greatestPart_60 rfl (by decide) rfl ?_
                  refine a_goto 23 dX6_greatestPart_63 (by decide) ?_
                  refine a_sub [2, 3, 4, 5, 6, 1, 0] rfl ?_
                  exact ih23 _ _ (by omega) (by simp only [gpI]; rw [if_pos ⟨c42, c54⟩, hh]) (by omega)
        refine a_sub [2, 3, 4, 5, 6, 1, 0] rfl ?_
        exact L23 _ 0 0 (Nat.zero_le _) rfl (Nat.lt_succ_self _)
  refine a_sub [2, 3, 4, 1, 0] rfl ?_
  exact L5 _ 0 0 (Nat.zero_le _) rfl (Nat.lt_succ_self _)
set_option maxHeartbeats 4000000 in
set_option maxRecDepth 100000 in
theorem c_X6_voicesHeardRight {G : GT} {B : Nat} {l : Launch} {H : Heap} {b kr sp : Nat} {fp dr : Int32} {kb : Bool} {ka ks kw : Int32} {n nv : Nat} {kS kU kK kV dd : DD} {td : DD} (hT : Dd G H (b + 17) n td) {w nd : Nat} {s : Int32} (hw : w < n) (hnd : nd ≤ 5) (hC : Bc G H b kr sp fp dr kb ka ks kw n nv kS kU kK kV dd) (hB : B ≤ b) : AM G B l yX6_voicesHeardRight cX6_voicesHeardRight 6 (some .int) 4 0 0 [.ref b, .int (nI w), .int s, .int (nI nd)] H (fun rv H' => rv = some (.int (nI (vhF n nv (upd td w s) kV w s nd nv 0 0))) ∧ (Dd G H' (b + 17) n (upd td w s) ∧ ∀ q : Nat, ¬ (b + 17 ≤ q ∧ q < b + 21) → H'[q]? = H[q]?)) := by
  obtain ⟨fS4, fU4, fO4, hd4, hs4, hu4, ho4, eS4, eU4, eO4, -⟩ := hT
  have hC0 := hC
  obtain ⟨hb, hK, hD, hkr⟩ := hC
  have hK0 := hK
  have hN := hD
  unfold bxL at hb
  obtain ⟨fS3, fU3, fK3, fV3, hk3, ha3, hb3, hc3, he3, eS3, eU3, eK3, eV3, hn3, hnv3⟩ := hK
  obtain ⟨fS, fU, fO, hd, hs, hu, ho, eS, eU, eO, hn⟩ := hD
  have hF : ∀ q : Nat, ¬ (b + 17 ≤ q ∧ q < b + 21) → H[q]? = H[q]? := fun _ _ => rfl
  refine AM.ofI (lv := [(0, .ref b), (1, .int (nI w)), (2, .int s), (3, .int (nI nd))]) (by decide +kernel) (Nat.le_of_ble_eq_true rfl) rfl ?_ (fun _ h => by cases h.1)
  refine a_aload_n 0 dX6_voicesHeardRight_0 rfl rfl ?_
  refine a_get f_X6_37 dX6_voicesHeardRight_1 hb rfl ?_
  refine a_get f_X6_135 dX6_voicesHeardRight_4 hd4 rfl ?_
  refine a_iload_n 1 dX6_voicesHeardRight_7 rfl rfl ?_
  refine a_iload_n 2 dX6_voicesHeardRight_8 rfl rfl ?_
  refine a_iastN (j := w) dX6_voicesHeardRight_9 hs4 (by omega) (by decide) (by omega) (fun H1 hs4 hz1 hq1 => ?_)
  have hs4 : Ai G H1 (b + 17 + 1) 8 (upd fS4 w s) := hs4
  have hb := hb.kept (hq1 _ (by omega))
  have hk3 := hk3.kept (hq1 _ (by omega))
  have ha3 := ha3.kept (hq1 _ (by omega))
  have hb3 := hb3.kept (hq1 _ (by omega))
  have hc3 := hc3.kept (hq1 _ (by omega))
  have he3 := he3.kept (hq1 _ (by omega))
  have hd := hd.kept (hq1 _ (by omega))
  have hs := hs.kept (hq1 _ (by omega))
  have hu := hu.kept (hq1 _ (by omega))
  have ho := ho.kept (hq1 _ (by omega))
  have hd4 := hd4.kept (hq1 _ (by omega))
  have hu4 := hu4.kept (hq1 _ (by omega))
  have ho4 := ho4.kept (hq1 _ (by omega))
  have hF : ∀ q : Nat, ¬ (b + 17 ≤ q ∧ q < b + 21) → H1[q]? = H[q]? := fun q hq => (hq1 q (by omega)).trans (hF q hq)
  have hD4 : Dd G H1 (b + 17) n (upd td w s) := by
    refine Dd.mk' hd4 hs4 hu4 ho4 hn ?_ ?_ ?_ ?_ ?_ ?_
    all_goals try intro i hi
    all_goals try dsimp only
    all_goals simp only [upd]
    all_goals repeat' split
    all_goals first | omega | rfl | contradiction | exact eS4 _ (by assumption) | exact eU4 _ (by assumption) | exact eO4 _ (by assumption)
  refine a_iconst 0 dX6_voicesHeardRight_10 (by decide) ?_
  refine a_istore (lv' := [(4, .int 0), (0, .ref b), (1, .int (nI w)), (2, .int s), (3, .int (nI nd))]) dX6_voicesHeardRight_11 (by decide) rfl ?_
  refine a_iconst 0 dX6_voicesHeardRight_13 (by decide) ?_
  refine a_istore (lv' := [(5, .int 0), (4, .int 0), (0, .ref b), (1, .int (nI w)), (2, .int s), (3, .int (nI nd))]) dX6_voicesHeardRight_14 (by decide) rfl ?_
  have L16 : ∀ (fu : Nat) (v c : Nat), v ≤ nv → c ≤ v → vhF n nv (upd td w s) kV w s nd nv 0 0 = vhF n nv (upd td w s) kV w s nd (nv - v) v c → nv - v < fu → AW G B l { frames := 4, cells := 0, slots := 0, locals := 27 * 4 } yX6_voicesHeardRight.cls cX6_voicesHeardRight 6 false (fun rv H' ce' sl' => (rv = some (.int (nI (vhF n nv (upd td w s) kV w s nd nv 0 0))) ∧ (Dd G H' (b + 17) n (upd td w s) ∧ ∀ q : Nat, ¬ (b + 17 ≤ q ∧ q < b + 21) → H'[q]? = H[q]?)) ∧ ce' = 0 ∧ sl' = 0) 16 [(0, .ref b), (1, .int (nI w)), (2, .int s), (3, .int (nI nd)), (4, .int (nI c)), (5, .int (nI v))] [] H1 0 0 := by
    intro fu
    induction fu with
    | zero => intro v c hk hc hg hm16; exact absurd hm16 (Nat.not_lt_zero _)
    | succ fu ih16 =>
      intro v c hk hc hg hm16
      refine a_iload 5 dX6_voicesHeardRight_16 rfl ?_
      refine a_aload_n 0 dX6_voicesHeardRight_18 rfl rfl ?_
      refine a_get f_X6_23 dX6_voicesHeardRight_19 hb rfl ?_
      refine a_get f_X6_112 dX6_voicesHeardRight_22 hk3 rfl ?_
      refine a_icmpgeN (a := v) (b := nv) 79 dX6_voicesHeardRight_25 (by decide) (by omega) (by omega) (fun c25 => ?_) (fun c25 => ?_)
      · skip
        refine a_iload 4 dX6_voicesHeardRight_79 rfl ?_
        refine a_ret dX6_voicesHeardRight_81 ⟨⟨ri ?_, ?_⟩, rfl, rfl⟩
        · congr 1
          rw [hg]
          by_cases e : v < nv
          · rw [show nv - v = (nv - (v + 1)) + 1 by omega]; unfold vhF; rw [if_pos e, if_pos (by omega)]
          · rw [show nv - v = 0 by omega]; rfl
        · exact ⟨hD4, hF⟩
      · skip
        refine a_iload 4 dX6_voicesHeardRight_28 rfl ?_
        refine a_aload_n 0 dX6_voicesHeardRight_30 rfl rfl ?_
        refine a_get f_X6_23 dX6_voicesHeardRight_31 hb rfl ?_
        refine a_get f_X6_112 dX6_voicesHeardRight_34 hk3 rfl ?_
        refine a_iaddN (a := c) (b := nv) dX6_voicesHeardRight_37 ?_
        refine a_iload 5 dX6_voicesHeardRight_38 rfl ?_
        refine a_isubN (a := c + nv) (b := v) dX6_voicesHeardRight_40 (by omega) ?_
        refine a_iload_n 3 dX6_voicesHeardRight_41 rfl rfl ?_
        refine a_icmpltN (a := (c + nv) - v) (b := nd) 79 dX6_voicesHeardRight_42 (by decide) (by omega) (by omega) (fun c42 => ?_) (fun c42 => ?_)
        · skip
          refine a_iload 4 dX6_voicesHeardRight_79 rfl ?_
          refine a_ret dX6_voicesHeardRight_81 ⟨⟨ri ?_, ?_⟩, rfl, rfl⟩
          · congr 1
            rw [hg]
            by_cases e : v < nv
            · rw [show nv - v = (nv - (v + 1)) + 1 by omega]; unfold vhF; rw [if_pos e, if_pos (by omega)]
            · rw [show nv - v = 0 by omega]; rfl
          · exact ⟨hD4, hF⟩
        · skip
          refine a_aload_n 0 dX6_voicesHeardRight_45 rfl rfl ?_
          refine a_get f_X6_37 dX6_voicesHeardRight_46 hb rfl ?_
          refine a_iload_n 2 dX6_voicesHeardRight_49 rfl rfl ?_
          refine a_aload_n 0 dX6_voicesHeardRight_50 rfl rfl ?_
          refine a_get f_X6_23 dX6_voicesHeardRight_51 hb rfl ?_
          refine a_get f_X6_151 dX6_voicesHeardRight_54 hk3 rfl ?_
          refine a_iload 5 dX6_voicesHeardRight_57 rfl ?_
          refine a_ialdN (j := v) dX6_voicesHeardRight_59 he3 (by omega) (by decide) ?_
          refine a_toeq (kV v) (eV3 _ (by omega)) ?_
          refine a_callSp (As := [.int s, .int (kV v)]) (rest := [.ref (b + 17)]) (d := 0) (mc := 0) (ms := 0) (x := shF s (kV v)) l_X6_265 st_X6_shifted dX6_voicesHeardRight_60 ⟨Nat.le_of_ble_eq_true rfl, Nat.le_of_ble_eq_true rfl⟩ rfl (Nat.le_of_ble_eq_true rfl) ⟨Nat.le_of_ble_eq_true rfl, Nat.le_of_ble_eq_true rfl⟩ (c_X6_shifted) ?_
          refine a_callVp (As := [.int (shF s (kV v))]) (rest := []) (d := 3) (mc := 0) (ms := 0) (x := guF n (upd td w s) (shF s (kV v))) (ci := 0) l_X6_193 im_X0_strongest se_X0_strongest ⟨_, rfl, rfl⟩ dX6_voicesHeardRight_63 ⟨Nat.le_of_ble_eq_true rfl, Nat.le_of_ble_eq_true rfl⟩ rfl (Nat.le_of_ble_eq_true rfl) ⟨Nat.le_of_ble_eq_true rfl, Nat.le_of_ble_eq_true rfl⟩ hd4 (c_X0_strongest hD4) ?_
          refine a_iload_n 1 dX6_voicesHeardRight_66 rfl rfl ?_
          refine a_icmpne 73 dX6_voicesHeardRight_67 (by decide) (fun c67 => ?_) (fun c67 => ?_)
          · skip
            refine a_iincN (q := 5) (lv' := [(5, .int (nI (v + 1))), (0, .ref b), (1, .int (nI w)), (2, .int s), (3, .int (nI nd)), (4, .int (nI c))]) dX6_voicesHeardRight_73 rfl (by decide) rfl ?_
            refine a_goto 16 dX6_voicesHeardRight_76 (by decide) ?_
            refine a_sub [1, 2, 3, 4, 5, 0] rfl ?_
            exact ih16 _ _ (by omega) (by omega) (by rw [hg, show nv - v = (nv - (v + 1)) + 1 by omega]; conv => { lhs; unfold vhF }; rw [if_pos (by omega), if_neg (by omega)]; first | rw [if_pos c67] | rw [if_neg c67]) (by omega)
          · skip
            refine a_iincN (q := 4) (lv' := [(4, .int (nI (c + 1))), (0, .ref b), (1, .int (nI w)), (2, .int s), (3, .int (nI nd)), (5, .int (nI v))]) dX6_voicesHeardRight_70 rfl (by decide) rfl ?_
            refine a_iincN (q := 5) (lv' := [(5, .int (nI (v + 1))), (4, .int (nI (c + 1))), (0, .ref b), (1, .int (nI w)), (2, .int s), (3, .int (nI nd))]) dX6_voicesHeardRight_73 rfl (by decide) rfl ?_
            refine a_goto 16 dX6_voicesHeardRight_76 (by decide) ?_
            refine a_sub [2, 3, 4, 5, 1, 0] rfl ?_
            exact ih16 _ _ (by omega) (by omega) (by rw [hg, show nv - v = (nv - (v + 1)) + 1 by omega]; conv => { lhs; unfold vhF }; rw [if_pos (by omega), if_neg (by omega)]; first | rw [if_pos c67] | rw [if_neg c67]) (by omega)
  refine a_sub [2, 3, 4, 5, 1, 0] rfl ?_
  exact L16 _ 0 0 (Nat.zero_le _) (Nat.le_refl _) rfl (Nat.lt_succ_self _)
