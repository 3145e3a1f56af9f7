/-! ===== BEGIN lists of pairs, and what is asked of them ===== -/
def lkF (L : List Int32) (i : Int32) : Int32 := if 0 ≤ i then L.getD i.toNatClampNeg (-1) else -1
def lkv (L : List Int32) (i : Int32) : Int32 := if i = -1 then nI L.length else lkF L i
theorem lkF_nil (i : Int32) : lkF [] i = -1 := by unfold lkF; split <;> simp
theorem lkF_snoc {L : List Int32} {c i : Int32} (hL : L.length < 2 ^ 31) : lkF (L ++ [c]) i = if nI L.length = i then c else lkF L i := by
  unfold lkF
  by_cases h0 : 0 ≤ i
  · rw [if_pos h0, if_pos h0]
    obtain ⟨j, hj, rfl⟩ := nI_of (Int32.not_lt.mpr h0)
    rw [nI_clamp hj]
    by_cases e : L.length = j
    · rw [if_pos (by rw [e]), ← e]
      simp
    · rw [if_neg (fun h => e ((nI_eq hL hj).mp h))]
      rcases Nat.lt_or_ge j L.length with h | h
      · simp [List.getD_eq_getElem?_getD, List.getElem?_append_left h]
      · rw [List.getD_eq_getElem?_getD, List.getD_eq_getElem?_getD, List.getElem?_eq_none (by simp; omega), List.getElem?_eq_none (by omega)]
  · rw [if_neg h0, if_neg h0, if_neg]
    intro h
    exact h0 (by rw [← h]; exact nI_pos' hL)
theorem lkF_pre {L M : List Int32} {c i : Int32} (hL : L.length < 2 ^ 31) (h : nI L.length = i) (hp : (L ++ [c]) <+: M) : lkF M i = c := by
  obtain ⟨t, rfl⟩ := hp
  subst h
  unfold lkF
  rw [if_pos (nI_pos' hL), nI_clamp hL]
  simp
/-- MISHEARD: of the voice v the first k WORDS; of the first v VOICES all WORDS -/
def ml1 (n : Nat) (dd kV : DD) (v : Nat) : Nat → List Int32
  | 0 => []
  | k + 1 => ml1 n dd kV v k ++ (if unF n dd kV k v = nI k then [] else [nI (10 * v + k)])
def ml2 (n : Nat) (dd kV : DD) : Nat → List Int32
  | 0 => []
  | v + 1 => ml2 n dd kV v ++ ml1 n dd kV v n
theorem ml1_len {n : Nat} {dd kV : DD} {v k : Nat} : (ml1 n dd kV v k).length ≤ k := by
  induction k with
  | zero => exact Nat.le_refl 0
  | succ k ih =>
    simp only [ml1, List.length_append]
    split <;> simp <;> omega
theorem ml2_len {n : Nat} {dd kV : DD} {v : Nat} : (ml2 n dd kV v).length ≤ v * n := by
  induction v with
  | zero => simp [ml2]
  | succ v ih =>
    simp only [ml2, List.length_append]
    have := ml1_len (n := n) (dd := dd) (kV := kV) (v := v) (k := n)
    rw [Nat.succ_mul]; omega
theorem ml1_pre {n : Nat} {dd kV : DD} {v k m : Nat} (h : k ≤ m) : ml1 n dd kV v k <+: ml1 n dd kV v m := by
  induction m with
  | zero => rw [show k = 0 by omega]; exact List.prefix_refl _
  | succ m ih =>
    by_cases e : k = m + 1
    · rw [e]; exact List.prefix_refl _
    · exact (ih (by omega)).trans (List.prefix_append _ _)
theorem ml2_pre {n : Nat} {dd kV : DD} {k m : Nat} (h : k ≤ m) : ml2 n dd kV k <+: ml2 n dd kV m := by
  induction m with
  | zero => rw [show k = 0 by omega]; exact List.prefix_refl _
  | succ m ih =>
    by_cases e : k = m + 1
    · rw [e]; exact List.prefix_refl _
    · exact (ih (by omega)).trans (List.prefix_append _ _)
/-- ALIKE: with a the WORDS below k; all pairs whose lesser is below a -/
def al1 (dd : DD) (m : Int32) (a : Nat) : Nat → List Int32
  | 0 => []
  | k + 1 => al1 dd m a k ++ (if a < k ∧ apF (dd a) (dd k) ≤ m then [nI (10 * a + k)] else [])
def al2 (n : Nat) (dd : DD) (m : Int32) : Nat → List Int32
  | 0 => []
  | a + 1 => al2 n dd m a ++ al1 dd m a n
theorem al1_0 {dd : DD} {m : Int32} {a k : Nat} (h : k ≤ a + 1) : al1 dd m a k = [] := by
  induction k with
  | zero => rfl
  | succ k ih =>
    simp only [al1]
    rw [ih (by omega), if_neg (fun h => by omega)]; rfl
theorem al1_len {dd : DD} {m : Int32} {a k : Nat} : (al1 dd m a k).length ≤ k := by
  induction k with
  | zero => exact Nat.le_refl 0
  | succ k ih =>
    simp only [al1, List.length_append]
    split <;> simp <;> omega
theorem al2_len {n : Nat} {dd : DD} {m : Int32} {a : Nat} : (al2 n dd m a).length ≤ a * n := by
  induction a with
  | zero => simp [al2]
  | succ a ih =>
    simp only [al2, List.length_append]
    have := al1_len (dd := dd) (m := m) (a := a) (k := n)
    rw [Nat.succ_mul]; omega
theorem al1_pre {dd : DD} {m : Int32} {a k j : Nat} (h : k ≤ j) : al1 dd m a k <+: al1 dd m a j := by
  induction j with
  | zero => rw [show k = 0 by omega]; exact List.prefix_refl _
  | succ j ih =>
    by_cases e : k = j + 1
    · rw [e]; exact List.prefix_refl _
    · exact (ih (by omega)).trans (List.prefix_append _ _)
theorem al2_pre {n : Nat} {dd : DD} {m : Int32} {k j : Nat} (h : k ≤ j) : al2 n dd m k <+: al2 n dd m j := by
  induction j with
  | zero => rw [show k = 0 by omega]; exact List.prefix_refl _
  | succ j ih =>
    by_cases e : k = j + 1
    · rw [e]; exact List.prefix_refl _
    · exact (ih (by omega)).trans (List.prefix_append _ _)
/-- WHO -/
def whF (n : Nat) (dd kV : DD) (s : Int32) : Nat → Int32
  | 0 => 0
  | v + 1 => if wsF dd kV v s n = 0 then whF n dd kV s v else whF n dd kV s v ||| biF v
/-- WAKE: among the SOUNDS 0 .. k -/
def waF (n : Nat) (dd : DD) : Nat → Int32 × Int32
  | 0 => (0, neF dd 0 n)
  | k + 1 => if (waF n dd k).2 < neF dd (nI (k + 1)) n then (nI (k + 1), neF dd (nI (k + 1)) n) else waF n dd k
/-- FALSE -/
def faF (dd kV : DD) (v : Nat) (kw m : Int32) : Nat → Int32
  | 0 => 0
  | k + 1 => if apF (spF dd kV k v) kw ≤ m then faF dd kV v kw m k ||| biF k else faF dd kV v kw m k
/-- NEEDS, DOES: from u on, f more -/
def ndF (n : Nat) (dd kK kV : DD) (ka ks : Int32) (w v : Nat) (what : Int32) : Nat → Nat → Int32
  | 0, _ => -1
  | f + 1, u => if guF n (upd dd (8 + w) (nI u)) (spF dd kV w v) = nI w ∧ (what = 0 ∨ ruF n (upd dd (8 + w) (nI u)) kK ka ks (spF dd kV w v) = 0) then nI u else ndF n dd kK kV ka ks w v what f (u + 1)
/-- ASKS -/
def akS (ka cr : Int32) : Nat → Int32
  | 0 => 0
  | k + 1 => akS ka cr k + (ka + cr + nI k)
def akR (ka cr much : Int32) : Nat → Nat → Int32
  | 0, _ => 99
  | f + 1, k => if much < akS ka cr (k + 1) then nI k else akR ka cr much f (k + 1)
/-- WAKED -/
def wkF (q : Int32) : Nat → Int64
  | 0 => 1000000000
  | k + 1 => wkF q k * (100 - q).toInt64 / 100
/-- WRONG: from k on, f more -/
def jdF (dd : DD) (bw : Nat → Nat) (bt : DD) : Nat → Nat → Int32
  | 0, _ => -1
  | f + 1, k => if dd (16 + bw k) = bt k then jdF dd bw bt f (k + 1) else nI k
/-- best called, as BeansBox goes through the SOUNDS -/
def bcS (n nv : Nat) (dd kV : DD) (w : Nat) : Nat → Int32 × Int32 × Nat
  | 0 => (dd w, 0, vhF n nv (upd dd w (dd w)) kV w (dd w) 0 nv 0 0)
  | k + 1 =>
    let r := bcS n nv dd kV w k
    let far := apF (dd w) (nI k)
    let nd := if far < r.2.1 then r.2.2 else r.2.2 + 1
    let c := vhF n nv (upd dd w (nI k)) kV w (nI k) nd nv 0 0
    if nd ≤ c then (nI k, far, c) else r
theorem vhF_le {n nv : Nat} {td kV : DD} {w : Nat} {s : Int32} {nd f v c : Nat} (hc : c ≤ v) (hv : v ≤ nv) : vhF n nv td kV w s nd f v c ≤ nv := by
  induction f generalizing v c with
  | zero => exact Nat.le_trans hc hv
  | succ f ih =>
    unfold vhF
    split
    · split
      · omega
      · split
        · exact ih (by omega) (by omega)
        · exact ih (by omega) (by omega)
    · omega
theorem bcS_le {n nv : Nat} {dd kV : DD} {w k : Nat} : (bcS n nv dd kV w k).2.2 ≤ nv := by
  have key : ∀ (P : Prop) [Decidable P] (x y : Int32 × Int32 × Nat), x.2.2 ≤ nv → y.2.2 ≤ nv → (if P then x else y).2.2 ≤ nv := fun P _ x y hx hy => by split <;> assumption
  induction k with
  | zero => exact vhF_le (Nat.le_refl 0) (Nat.zero_le _)
  | succ k ih =>
    simp only [bcS]
    exact key _ _ _ (vhF_le (Nat.le_refl 0) (Nat.zero_le _)) ih
/-- how many of the first v VOICES -/
def cnF (n : Nat) (dd kV : DD) (sw sg : Nat → Nat) (sn : Nat) : Nat → Nat
  | 0 => 0
  | v + 1 => if csF n dd kV sw sg v sn = true then cnF n dd kV sw sg sn v + 1 else cnF n dd kV sw sg sn v
theorem cnF_le {n : Nat} {dd kV : DD} {sw sg : Nat → Nat} {sn v : Nat} : cnF n dd kV sw sg sn v ≤ v := by
  induction v with
  | zero => exact Nat.le_refl 0
  | succ v ih => unfold cnF; split <;> omega
/-- SAY NEXT -/
def snF (n nv : Nat) (dd kV : DD) (set : Int32) (c : Nat) : Nat → Int32 × Nat
  | 0 => (-1, c)
  | w + 1 => if gpO n nv dd kV w set n < (snF n nv dd kV set c w).2 then (nI w, gpO n nv dd kV w set n) else snF n nv dd kV set c w
theorem snF_le {n nv : Nat} {dd kV : DD} {set : Int32} {c w : Nat} : (snF n nv dd kV set c w).2 ≤ c := by
  induction w with
  | zero => exact Nat.le_refl _
  | succ w ih => unfold snF; split; { exact Nat.le_of_lt (Nat.lt_of_lt_of_le (by assumption) ih) }; { exact ih }
def bc1 (x : Int32) : Int32 := x - (usr x 1 &&& 1431655765)
def bc2 (x : Int32) : Int32 := (x &&& 858993459) + (usr x 2 &&& 858993459)
def bc3 (x : Int32) : Int32 := (x + usr x 4) &&& 252645135
def bc4 (x : Int32) : Int32 := x + usr x 8
def bc5 (x : Int32) : Int32 := x + usr x 16
def bcE (x : Int32) : Int32 := bc5 (bc4 (bc3 (bc2 (bc1 x)))) &&& 63
theorem spk_cn {n nv : Nat} {dd kV : DD} {sw sg : Nat → Nat} {sn : Nat} (h : nv ≤ 4) : bcE (spkF n dd kV sw sg sn nv) = nI (cnF n dd kV sw sg sn nv) ∧ ∃ x, x < 16 ∧ spkF n dd kV sw sg sn nv = nI x := by
  have key : ∀ b0 b1 b2 b3 : Bool, csF n dd kV sw sg 0 sn = b0 → csF n dd kV sw sg 1 sn = b1 → csF n dd kV sw sg 2 sn = b2 → csF n dd kV sw sg 3 sn = b3 → bcE (spkF n dd kV sw sg sn nv) = nI (cnF n dd kV sw sg sn nv) ∧ ∃ x, x < 16 ∧ spkF n dd kV sw sg sn nv = nI x := by
    intro b0 b1 b2 b3 e0 e1 e2 e3
    rcases (show nv = 0 ∨ nv = 1 ∨ nv = 2 ∨ nv = 3 ∨ nv = 4 by omega) with rfl | rfl | rfl | rfl | rfl <;> simp only [spkF, cnF, e0, e1, e2, e3] <;> cases b0 <;> cases b1 <;> cases b2 <;> cases b3 <;> exact ⟨by decide +kernel, by decide +kernel⟩
  exact key _ _ _ _ rfl rfl rfl rfl
/-! ===== END ===== -/

set_option maxHeartbeats 4000000 in
set_option maxRecDepth 100000 in
theorem c_J6_bitCount_0f7a4 {G : GT} {B : Nat} {l : Launch} {H : Heap} {x : Int32} : AM G B l yJ6_bitCount_0f7a4 cJ6_bitCount_0f7a4 1 (some .int) 0 0 0 [.int x] H (fun rv H' => rv = some (.int (bcE x)) ∧ (H' = H)) := by
  refine AM.ofI (lv := [(0, .int x)]) (by decide +kernel) (Nat.le_of_ble_eq_true rfl) rfl ?_ (fun _ h => by cases h.1)
  refine a_iload_n 0 dJ6_bitCount_0f7a4_0 rfl rfl ?_
  refine a_iload_n 0 dJ6_bitCount_0f7a4_1 rfl rfl ?_
  refine a_iconst 1 dJ6_bitCount_0f7a4_2 (by decide) ?_
  refine a_iushr dJ6_bitCount_0f7a4_3 ?_
  refine a_ldcw 1431655765 k_J6_265 dJ6_bitCount_0f7a4_4 ?_
  refine a_iand dJ6_bitCount_0f7a4_7 ?_
  refine a_isub dJ6_bitCount_0f7a4_8 ?_
  refine a_istore_n (lv' := [(0, .int (x - ((usr x 1) &&& 1431655765)))]) dJ6_bitCount_0f7a4_9 rfl (by decide) rfl ?_
  refine a_iload_n 0 dJ6_bitCount_0f7a4_10 rfl rfl ?_
  refine a_ldcw 858993459 k_J6_266 dJ6_bitCount_0f7a4_11 ?_
  refine a_iand dJ6_bitCount_0f7a4_14 ?_
  refine a_iload_n 0 dJ6_bitCount_0f7a4_15 rfl rfl ?_
  refine a_iconst 2 dJ6_bitCount_0f7a4_16 (by decide) ?_
  refine a_iushr dJ6_bitCount_0f7a4_17 ?_
  refine a_ldcw 858993459 k_J6_266 dJ6_bitCount_0f7a4_18 ?_
  refine a_iand dJ6_bitCount_0f7a4_21 ?_
  refine a_iadd dJ6_bitCount_0f7a4_22 ?_
  refine a_istore_n (lv' := [(0, .int (((x - ((usr x 1) &&& 1431655765)) &&& 858993459) + ((usr (x - ((usr x 1) &&& 1431655765)) 2) &&& 858993459)))]) dJ6_bitCount_0f7a4_23 rfl (by decide) rfl ?_
  refine a_iload_n 0 dJ6_bitCount_0f7a4_24 rfl rfl ?_
  refine a_iload_n 0 dJ6_bitCount_0f7a4_25 rfl rfl ?_
  refine a_iconst 4 dJ6_bitCount_0f7a4_26 (by decide) ?_
  refine a_iushr dJ6_bitCount_0f7a4_27 ?_
  refine a_iadd dJ6_bitCount_0f7a4_28 ?_
  refine a_ldcw 252645135 k_J6_267 dJ6_bitCount_0f7a4_29 ?_
  refine a_iand dJ6_bitCount_0f7a4_32 ?_
  refine a_istore_n (lv' := [(0, .int (((((x - ((usr x 1) &&& 1431655765)) &&& 858993459) + ((usr (x - ((usr x 1) &&& 1431655765)) 2) &&& 858993459)) + (usr (((x - ((usr x 1) &&& 1431655765)) &&& 858993459) + ((usr (x - ((usr x 1) &&& 1431655765)) 2) &&& 858993459)) 4)) &&& 252645135))]) dJ6_bitCount_0f7a4_33 rfl (by decide) rfl ?_
  refine a_iload_n 0 dJ6_bitCount_0f7a4_34 rfl rfl ?_
  refine a_iload_n 0 dJ6_bitCount_0f7a4_35 rfl rfl ?_
  refine a_bipush 8 dJ6_bitCount_0f7a4_36 (by decide) ?_
  refine a_iushr dJ6_bitCount_0f7a4_38 ?_
  refine a_iadd dJ6_bitCount_0f7a4_39 ?_
  refine a_istore_n (lv' := [(0, .int ((((((x - ((usr x 1) &&& 1431655765)) &&& 858993459) + ((usr (x - ((usr x 1) &&& 1431655765)) 2) &&& 858993459)) + (usr (((x - ((usr x 1) &&& 1431655765)) &&& 858993459) + ((usr (x - ((usr x 1) &&& 1431655765)) 2) &&& 858993459)) 4)) &&& 252645135) + (usr (((((x - ((usr x 1) &&& 1431655765)) &&& 858993459) + ((usr (x - ((usr x 1) &&& 1431655765)) 2) &&& 858993459)) + (usr (((x - ((usr x 1) &&& 1431655765)) &&& 858993459) + ((usr (x - ((usr x 1) &&& 1431655765)) 2) &&& 858993459)) 4)) &&& 252645135) 8)))]) dJ6_bitCount_0f7a4_40 rfl (by decide) rfl ?_
  refine a_iload_n 0 dJ6_bitCount_0f7a4_41 rfl rfl ?_
  refine a_iload_n 0 dJ6_bitCount_0f7a4_42 rfl rfl ?_
  refine a_bipush 16 dJ6_bitCount_0f7a4_43 (by decide) ?_
  refine a_iushr dJ6_bitCount_0f7a4_45 ?_
  refine a_iadd dJ6_bitCount_0f7a4_46 ?_
  refine a_istore_n (lv' := [(0, .int (((((((x - ((usr x 1) &&& 1431655765)) &&& 858993459) + ((usr (x - ((usr x 1) &&& 1431655765)) 2) &&& 858993459)) + (usr (((x - ((usr x 1) &&& 1431655765)) &&& 858993459) + ((usr (x - ((usr x 1) &&& 1431655765)) 2) &&& 858993459)) 4)) &&& 252645135) + (usr (((((x - ((usr x 1) &&& 1431655765)) &&& 858993459) + ((usr (x - ((usr x 1) &&& 1431655765)) 2) &&& 858993459)) + (usr (((x - ((usr x 1) &&& 1431655765)) &&& 858993459) + ((usr (x - ((usr x 1) &&& 1431655765)) 2) &&& 858993459)) 4)) &&& 252645135) 8)) + (usr ((((((x - ((usr x 1) &&& 1431655765)) &&& 858993459) + ((usr (x - ((usr x 1) &&& 1431655765)) 2) &&& 858993459)) + (usr (((x - ((usr x 1) &&& 1431655765)) &&& 858993459) + ((usr (x - ((usr x 1) &&& 1431655765)) 2) &&& 858993459)) 4)) &&& 252645135) + (usr (((((x - ((usr x 1) &&& 1431655765)) &&& 858993459) + ((usr (x - ((usr x 1) &&& 1431655765)) 2) &&& 858993459)) + (usr (((x - ((usr x 1) &&& 1431655765)) &&& 858993459) + ((usr (x - ((usr x 1) &&& 1431655765)) 2) &&& 858993459)) 4)) &&& 252645135) 8)) 16)))]) dJ6_bitCount_0f7a4_47 rfl (by decide) rfl ?_
  refine a_iload_n 0 dJ6_bitCount_0f7a4_48 rfl rfl ?_
  refine a_bipush 63 dJ6_bitCount_0f7a4_49 (by decide) ?_
  refine a_iand dJ6_bitCount_0f7a4_51 ?_
  refine a_ret dJ6_bitCount_0f7a4_52 ⟨⟨ri ?_, ?_⟩, rfl, rfl⟩
  · rfl
  · rfl
set_option maxHeartbeats 4000000 in
set_option maxRecDepth 100000 in
theorem c_X6_guess {G : GT} {B : Nat} {l : Launch} {H : Heap} {b kr sp : Nat} {fp dr : Int32} {kb : Bool} {ka ks kw : Int32} {n nv : Nat} {kS kU kK kV dd : DD} {s : Int32} (hsn : wIx 1000 s = true) (hC : Bc G H b kr sp fp dr kb ka ks kw n nv kS kU kK kV dd) : AM G B l yX6_guess cX6_guess 2 (some .int) 4 0 0 [.ref b, .int s] H (fun rv H' => rv = some (.int (guF n dd s)) ∧ (H' = H)) := by
  have hC0 := hC
  obtain ⟨hb, hK, hD, hkr⟩ := hC
  have hK0 := hK
  have hN := hD
  unfold bxL at hb
  obtain ⟨fS3, fU3, fK3, fV3, hk3, ha3, hb3, hc3, he3, eS3, eU3, eK3, eV3, hn3, hnv3⟩ := hK
  obtain ⟨fS, fU, fO, hd, hs, hu, ho, eS, eU, eO, hn⟩ := hD
  refine AM.ofI (lv := [(0, .ref b), (1, .int s)]) (by decide +kernel) (Nat.le_of_ble_eq_true rfl) rfl ?_ (fun _ h => by cases h.1)
  refine a_iload_n 1 dX6_guess_0 rfl rfl ?_
  refine a_callSp (As := [.int s]) (rest := []) (d := 0) (mc := 0) (ms := 0) (x := bI (wIx 1000 s)) l_X6_154 st_X6_isSound dX6_guess_1 ⟨Nat.le_of_ble_eq_true rfl, Nat.le_of_ble_eq_true rfl⟩ rfl (Nat.le_of_ble_eq_true rfl) ⟨Nat.le_of_ble_eq_true rfl, Nat.le_of_ble_eq_true rfl⟩ (c_X6_isSound) ?_
  refine a_ifeqB 18 dX6_guess_4 (by decide) (fun c4 => ?_) (fun c4 => ?_)
  · skip
    exact absurd c4 (by rw [hsn]; decide)
  · skip
    refine a_aload_n 0 dX6_guess_7 rfl rfl ?_
    refine a_get f_X6_33 dX6_guess_8 hb rfl ?_
    refine a_iload_n 1 dX6_guess_11 rfl rfl ?_
    refine a_callVp (As := [.int s]) (rest := []) (d := 3) (mc := 0) (ms := 0) (x := guF n dd s) (ci := 0) l_X6_193 im_X0_strongest se_X0_strongest ⟨_, rfl, rfl⟩ dX6_guess_12 ⟨Nat.le_of_ble_eq_true rfl, Nat.le_of_ble_eq_true rfl⟩ rfl (Nat.le_of_ble_eq_true rfl) ⟨Nat.le_of_ble_eq_true rfl, Nat.le_of_ble_eq_true rfl⟩ hd (c_X0_strongest hN) ?_
    refine a_goto 20 dX6_guess_15 (by decide) ?_
    refine a_ret dX6_guess_20 ⟨⟨ri ?_, ?_⟩, rfl, rfl⟩
    · rfl
    · rfl
set_option maxHeartbeats 4000000 in
set_option maxRecDepth 100000 in
theorem c_X6_guess_out {G : GT} {B : Nat} {l : Launch} {H : Heap} {b kr sp : Nat} {fp dr : Int32} {kb : Bool} {ka ks kw : Int32} {n nv : Nat} {kS kU kK kV dd : DD} {s : Int32} (hsn : wIx 1000 s = false) (hC : Bc G H b kr sp fp dr kb ka ks kw n nv kS kU kK kV dd) : AM G B l yX6_guess cX6_guess 2 (some .int) 4 0 0 [.ref b, .int s] H (fun rv H' => rv = some (.int (-1000000002)) ∧ (H' = H)) := by
  have hC0 := hC
  obtain ⟨hb, hK, hD, hkr⟩ := hC
  have hK0 := hK
  have hN := hD
  unfold bxL at hb
  obtain ⟨fS3, fU3, fK3, fV3, hk3, ha3, hb3, hc3, he3, eS3, eU3, eK3, eV3, hn3, hnv3⟩ := hK
  obtain ⟨fS, fU, fO, hd, hs, hu, ho, eS, eU, eO, hn⟩ := hD
  refine AM.ofI (lv := [(0, .ref b), (1, .int s)]) (by decide +kernel) (Nat.le_of_ble_eq_true rfl) rfl ?_ (fun _ h => by cases h.1)
  refine a_iload_n 1 dX6_guess_0 rfl rfl ?_
  refine a_callSp (As := [.int s]) (rest := []) (d := 0) (mc := 0) (ms := 0) (x := bI (wIx 1000 s)) l_X6_154 st_X6_isSound dX6_guess_1 ⟨Nat.le_of_ble_eq_true rfl, Nat.le_of_ble_eq_true rfl⟩ rfl (Nat.le_of_ble_eq_true rfl) ⟨Nat.le_of_ble_eq_true rfl, Nat.le_of_ble_eq_true rfl⟩ (c_X6_isSound) ?_
  refine a_ifeqB 18 dX6_guess_4 (by decide) (fun c4 => ?_) (fun c4 => ?_)
  · skip
    refine a_ldc (-1000000002) k_X6_69 dX6_guess_18 ?_
    refine a_ret dX6_guess_20 ⟨⟨ri ?_, ?_⟩, rfl, rfl⟩
    · rfl
    · rfl
  · skip
    exact absurd c4 (by rw [hsn]; decide)
set_option maxHeartbeats 4000000 in
set_option maxRecDepth 100000 in
theorem c_X6_sure {G : GT} {B : Nat} {l : Launch} {H : Heap} {b kr sp : Nat} {fp dr : Int32} {kb : Bool} {ka ks kw : Int32} {n nv : Nat} {kS kU kK kV dd : DD} {w : Nat} (hw : w < n) {s : Int32} (hsn : wIx 1000 s = true) (hC : Bc G H b kr sp fp dr kb ka ks kw n nv kS kU kK kV dd) : AM G B l yX6_sure cX6_sure 3 (some .int) 4 0 0 [.ref b, .int (nI w), .int s] H (fun rv H' => rv = some (.int (ceF n dd w s)) ∧ (H' = H)) := by
  have hC0 := hC
  obtain ⟨hb, hK, hD, hkr⟩ := hC
  have hK0 := hK
  have hN := hD
  unfold bxL at hb
  obtain ⟨fS3, fU3, fK3, fV3, hk3, ha3, hb3, hc3, he3, eS3, eU3, eK3, eV3, hn3, hnv3⟩ := hK
  obtain ⟨fS, fU, fO, hd, hs, hu, ho, eS, eU, eO, hn⟩ := hD
  refine AM.ofI (lv := [(0, .ref b), (1, .int (nI w)), (2, .int s)]) (by decide +kernel) (Nat.le_of_ble_eq_true rfl) rfl ?_ (fun _ h => by cases h.1)
  refine a_aload_n 0 dX6_sure_0 rfl rfl ?_
  refine a_iload_n 1 dX6_sure_1 rfl rfl ?_
  refine a_callVp (As := [.int (nI w)]) (rest := []) (d := 0) (mc := 0) (ms := 0) (x := bI (wIx n (nI w))) (ci := 6) l_X6_131 im_X6_isWord se_X6_isWord ⟨_, rfl, rfl⟩ dX6_sure_2 ⟨Nat.le_of_ble_eq_true rfl, Nat.le_of_ble_eq_true rfl⟩ rfl (Nat.le_of_ble_eq_true rfl) ⟨Nat.le_of_ble_eq_true rfl, Nat.le_of_ble_eq_true rfl⟩ hb (c_X6_isWord hC0) ?_
  refine a_ifneB 11 dX6_sure_5 (by decide) (fun c5 => ?_) (fun c5 => ?_)
  · skip
    refine a_iload_n 2 dX6_sure_11 rfl rfl ?_
    refine a_callSp (As := [.int s]) (rest := []) (d := 0) (mc := 0) (ms := 0) (x := bI (wIx 1000 s)) l_X6_154 st_X6_isSound dX6_sure_12 ⟨Nat.le_of_ble_eq_true rfl, Nat.le_of_ble_eq_true rfl⟩ rfl (Nat.le_of_ble_eq_true rfl) ⟨Nat.le_of_ble_eq_true rfl, Nat.le_of_ble_eq_true rfl⟩ (c_X6_isSound) ?_
    refine a_ifeqB 30 dX6_sure_15 (by decide) (fun c15 => ?_) (fun c15 => ?_)
    · skip
      exact absurd c15 (by rw [hsn]; decide)
    · skip
      refine a_aload_n 0 dX6_sure_18 rfl rfl ?_
      refine a_get f_X6_33 dX6_sure_19 hb rfl ?_
      refine a_iload_n 1 dX6_sure_22 rfl rfl ?_
      refine a_iload_n 2 dX6_sure_23 rfl rfl ?_
      refine a_callVp (As := [.int (nI w), .int s]) (rest := []) (d := 3) (mc := 0) (ms := 0) (x := ceF n dd w s) (ci := 0) l_X6_196 im_X0_certainty se_X0_certainty ⟨_, rfl, rfl⟩ dX6_sure_24 ⟨Nat.le_of_ble_eq_true rfl, Nat.le_of_ble_eq_true rfl⟩ rfl (Nat.le_of_ble_eq_true rfl) ⟨Nat.le_of_ble_eq_true rfl, Nat.le_of_ble_eq_true rfl⟩ hd (c_X0_certainty hN hw) ?_
      refine a_goto 32 dX6_sure_27 (by decide) ?_
      refine a_ret dX6_sure_32 ⟨⟨ri ?_, ?_⟩, rfl, rfl⟩
      · rfl
      · rfl
  · skip
    exact absurd c5 (by rw [wIx_nI hw (by omega)]; decide)
set_option maxHeartbeats 4000000 in
set_option maxRecDepth 100000 in
theorem c_X6_sure_unk {G : GT} {B : Nat} {l : Launch} {H : Heap} {b kr sp : Nat} {fp dr : Int32} {kb : Bool} {ka ks kw : Int32} {n nv : Nat} {kS kU kK kV dd : DD} {w : Int32} (hw : wIx n w = false) {s : Int32} (hC : Bc G H b kr sp fp dr kb ka ks kw n nv kS kU kK kV dd) : AM G B l yX6_sure cX6_sure 3 (some .int) 4 0 0 [.ref b, .int w, .int s] H (fun rv H' => rv = some (.int (-1000000001)) ∧ (H' = H)) := by
  have hC0 := hC
  obtain ⟨hb, hK, hD, hkr⟩ := hC
  have hK0 := hK
  have hN := hD
  unfold bxL at hb
  obtain ⟨fS3, fU3, fK3, fV3, hk3, ha3, hb3, hc3, he3, eS3, eU3, eK3, eV3, hn3, hnv3⟩ := hK
  obtain ⟨fS, fU, fO, hd, hs, hu, ho, eS, eU, eO, hn⟩ := hD
  refine AM.ofI (lv := [(0, .ref b), (1, .int w), (2, .int s)]) (by decide +kernel) (Nat.le_of_ble_eq_true rfl) rfl ?_ (fun _ h => by cases h.1)
  refine a_aload_n 0 dX6_sure_0 rfl rfl ?_
  refine a_iload_n 1 dX6_sure_1 rfl rfl ?_
  refine a_callVp (As := [.int w]) (rest := []) (d := 0) (mc := 0) (ms := 0) (x := bI (wIx n w)) (ci := 6) l_X6_131 im_X6_isWord se_X6_isWord ⟨_, rfl, rfl⟩ dX6_sure_2 ⟨Nat.le_of_ble_eq_true rfl, Nat.le_of_ble_eq_true rfl⟩ rfl (Nat.le_of_ble_eq_true rfl) ⟨Nat.le_of_ble_eq_true rfl, Nat.le_of_ble_eq_true rfl⟩ hb (c_X6_isWord hC0) ?_
  refine a_ifneB 11 dX6_sure_5 (by decide) (fun c5 => ?_) (fun c5 => ?_)
  · skip
    exact absurd c5 (by rw [hw]; decide)
  · skip
    refine a_ldc (-1000000001) k_X6_134 dX6_sure_8 ?_
    refine a_ret dX6_sure_10 ⟨⟨ri ?_, ?_⟩, rfl, rfl⟩
    · rfl
    · rfl
set_option maxHeartbeats 4000000 in
set_option maxRecDepth 100000 in
theorem c_X6_sure_out {G : GT} {B : Nat} {l : Launch} {H : Heap} {b kr sp : Nat} {fp dr : Int32} {kb : Bool} {ka ks kw : Int32} {n nv : Nat} {kS kU kK kV dd : DD} {w : Nat} (hw : w < n) {s : Int32} (hsn : wIx 1000 s = false) (hC : Bc G H b kr sp fp dr kb ka ks kw n nv kS kU kK kV dd) : AM G B l yX6_sure cX6_sure 3 (some .int) 4 0 0 [.ref b, .int (nI w), .int s] H (fun rv H' => rv = some (.int (-1000000002)) ∧ (H' = H)) := by
  have hC0 := hC
  obtain ⟨hb, hK, hD, hkr⟩ := hC
  have hK0 := hK
  have hN := hD
  unfold bxL at hb
  obtain ⟨fS3, fU3, fK3, fV3, hk3, ha3, hb3, hc3, he3, eS3, eU3, eK3, eV3, hn3, hnv3⟩ := hK
  obtain ⟨fS, fU, fO, hd, hs, hu, ho, eS, eU, eO, hn⟩ := hD
  refine AM.ofI (lv := [(0, .ref b), (1, .int (nI w)), (2, .int s)]) (by decide +kernel) (Nat.le_of_ble_eq_true rfl) rfl ?_ (fun _ h => by cases h.1)
  refine a_aload_n 0 dX6_sure_0 rfl rfl ?_
  refine a_iload_n 1 dX6_sure_1 rfl rfl ?_
  refine a_callVp (As := [.int (nI w)]) (rest := []) (d := 0) (mc := 0) (ms := 0) (x := bI (wIx n (nI w))) (ci := 6) l_X6_131 im_X6_isWord se_X6_isWord ⟨_, rfl, rfl⟩ dX6_sure_2 ⟨Nat.le_of_ble_eq_true rfl, Nat.le_of_ble_eq_true rfl⟩ rfl (Nat.le_of_ble_eq_true rfl) ⟨Nat.le_of_ble_eq_true rfl, Nat.le_of_ble_eq_true rfl⟩ hb (c_X6_isWord hC0) ?_
  refine a_ifneB 11 dX6_sure_5 (by decide) (fun c5 => ?_) (fun c5 => ?_)
  · skip
    refine a_iload_n 2 dX6_sure_11 rfl rfl ?_
    refine a_callSp (As := [.int s]) (rest := []) (d := 0) (mc := 0) (ms := 0) (x := bI (wIx 1000 s)) l_X6_154 st_X6_isSound dX6_sure_12 ⟨Nat.le_of_ble_eq_true rfl, Nat.le_of_ble_eq_true rfl⟩ rfl (Nat.le_of_ble_eq_true rfl) ⟨Nat.le_of_ble_eq_true rfl, Nat.le_of_ble_eq_true rfl⟩ (c_X6_isSound) ?_
    refine a_ifeqB 30 dX6_sure_15 (by decide) (fun c15 => ?_) (fun c15 => ?_)
    · skip
      refine a_ldc (-1000000002) k_X6_69 dX6_sure_30 ?_
      refine a_ret dX6_sure_32 ⟨⟨ri ?_, ?_⟩, rfl, rfl⟩
      · rfl
      · rfl
    · skip
      exact absurd c15 (by rw [hsn]; decide)
  · skip
    exact absurd c5 (by rw [wIx_nI hw (by omega)]; decide)
set_option maxHeartbeats 4000000 in
set_option maxRecDepth 100000 in
theorem c_X6_rule {G : GT} {B : Nat} {l : Launch} {H : Heap} {b kr sp : Nat} {fp dr : Int32} {kb : Bool} {ka ks kw : Int32} {n nv : Nat} {kS kU kK kV dd : DD} {s : Int32} (hsn : wIx 1000 s = true) (hn0 : 0 < n) (hC : Bc G H b kr sp fp dr kb ka ks kw n nv kS kU kK kV dd) : AM G B l yX6_rule cX6_rule 2 (some .int) 6 0 0 [.ref b, .int s] H (fun rv H' => rv = some (.int (ruF n dd kK ka ks s)) ∧ (H' = H)) := by
  have hC0 := hC
  obtain ⟨hb, hK, hD, hkr⟩ := hC
  have hK0 := hK
  have hN := hD
  unfold bxL at hb
  obtain ⟨fS3, fU3, fK3, fV3, hk3, ha3, hb3, hc3, he3, eS3, eU3, eK3, eV3, hn3, hnv3⟩ := hK
  obtain ⟨fS, fU, fO, hd, hs, hu, ho, eS, eU, eO, hn⟩ := hD
  refine AM.ofI (lv := [(0, .ref b), (1, .int s)]) (by decide +kernel) (Nat.le_of_ble_eq_true rfl) rfl ?_ (fun _ h => by cases h.1)
  refine a_iload_n 1 dX6_rule_0 rfl rfl ?_
  refine a_callSp (As := [.int s]) (rest := []) (d := 0) (mc := 0) (ms := 0) (x := bI (wIx 1000 s)) l_X6_154 st_X6_isSound dX6_rule_1 ⟨Nat.le_of_ble_eq_true rfl, Nat.le_of_ble_eq_true rfl⟩ rfl (Nat.le_of_ble_eq_true rfl) ⟨Nat.le_of_ble_eq_true rfl, Nat.le_of_ble_eq_true rfl⟩ (c_X6_isSound) ?_
  refine a_ifneB 10 dX6_rule_4 (by decide) (fun c4 => ?_) (fun c4 => ?_)
  · skip
    refine a_aload_n 0 dX6_rule_10 rfl rfl ?_
    refine a_get f_X6_23 dX6_rule_11 hb rfl ?_
    refine a_get f_X6_100 dX6_rule_14 hk3 rfl ?_
    refine a_ifneN (a := n) 25 dX6_rule_17 (by decide) (by omega) (fun c17 => ?_) (fun c17 => ?_)
    · skip
      refine a_aload_n 0 dX6_rule_25 rfl rfl ?_
      refine a_aload_n 0 dX6_rule_26 rfl rfl ?_
      refine a_get f_X6_33 dX6_rule_27 hb rfl ?_
      refine a_iload_n 1 dX6_rule_30 rfl rfl ?_
      refine a_callVp (As := [.ref (b + 13), .int s]) (rest := []) (d := 5) (mc := 0) (ms := 0) (x := ruF n dd kK ka ks s) (ci := 6) l_X6_199 im_X6_cheapest se_X6_cheapest ⟨_, rfl, rfl⟩ dX6_rule_31 ⟨Nat.le_of_ble_eq_true rfl, Nat.le_of_ble_eq_true rfl⟩ rfl (Nat.le_of_ble_eq_true rfl) ⟨Nat.le_of_ble_eq_true rfl, Nat.le_of_ble_eq_true rfl⟩ hb (c_X6_cheapest hN hC0) ?_
      refine a_ret dX6_rule_34 ⟨⟨ri ?_, ?_⟩, rfl, rfl⟩
      · rfl
      · rfl
    · skip
      omega
  · skip
    exact absurd c4 (by rw [hsn]; decide)
set_option maxHeartbeats 4000000 in
set_option maxRecDepth 100000 in
theorem c_X6_rule_out {G : GT} {B : Nat} {l : Launch} {H : Heap} {b kr sp : Nat} {fp dr : Int32} {kb : Bool} {ka ks kw : Int32} {n nv : Nat} {kS kU kK kV dd : DD} {s : Int32} (hsn : wIx 1000 s = false) (hC : Bc G H b kr sp fp dr kb ka ks kw n nv kS kU kK kV dd) : AM G B l yX6_rule cX6_rule 2 (some .int) 6 0 0 [.ref b, .int s] H (fun rv H' => rv = some (.int (-1000000002)) ∧ (H' = H)) := by
  have hC0 := hC
  obtain ⟨hb, hK, hD, hkr⟩ := hC
  have hK0 := hK
  have hN := hD
  unfold bxL at hb
  obtain ⟨fS3, fU3, fK3, fV3, hk3, ha3, hb3, hc3, he3, eS3, eU3, eK3, eV3, hn3, hnv3⟩ := hK
  obtain ⟨fS, fU, fO, hd, hs, hu, ho, eS, eU, eO, hn⟩ := hD
  refine AM.ofI (lv := [(0, .ref b), (1, .int s)]) (by decide +kernel) (Nat.le_of_ble_eq_true rfl) rfl ?_ (fun _ h => by cases h.1)
  refine a_iload_n 1 dX6_rule_0 rfl rfl ?_
  refine a_callSp (As := [.int s]) (rest := []) (d := 0) (mc := 0) (ms := 0) (x := bI (wIx 1000 s)) l_X6_154 st_X6_isSound dX6_rule_1 ⟨Nat.le_of_ble_eq_true rfl, Nat.le_of_ble_eq_true rfl⟩ rfl (Nat.le_of_ble_eq_true rfl) ⟨Nat.le_of_ble_eq_true rfl, Nat.le_of_ble_eq_true rfl⟩ (c_X6_isSound) ?_
  refine a_ifneB 10 dX6_rule_4 (by decide) (fun c4 => ?_) (fun c4 => ?_)
  · skip
    exact absurd c4 (by rw [hsn]; decide)
  · skip
    refine a_ldc (-1000000002) k_X6_69 dX6_rule_7 ?_
    refine a_ret dX6_rule_9 ⟨⟨ri ?_, ?_⟩, rfl, rfl⟩
    · rfl
    · rfl
set_option maxHeartbeats 4000000 in
set_option maxRecDepth 100000 in
theorem c_X6_rule_not {G : GT} {B : Nat} {l : Launch} {H : Heap} {b kr sp : Nat} {fp dr : Int32} {kb : Bool} {ka ks kw : Int32} {n nv : Nat} {kS kU kK kV dd : DD} {s : Int32} (hsn : wIx 1000 s = true) (hn0 : n = 0) (hC : Bc G H b kr sp fp dr kb ka ks kw n nv kS kU kK kV dd) : AM G B l yX6_rule cX6_rule 2 (some .int) 6 0 0 [.ref b, .int s] H (fun rv H' => rv = some (.int (-1000000003)) ∧ (H' = H)) := by
  have hC0 := hC
  obtain ⟨hb, hK, hD, hkr⟩ := hC
  have hK0 := hK
  have hN := hD
  unfold bxL at hb
  obtain ⟨fS3, fU3, fK3, fV3, hk3, ha3, hb3, hc3, he3, eS3, eU3, eK3, eV3, hn3, hnv3⟩ := hK
  obtain ⟨fS, fU, fO, hd, hs, hu, ho, eS, eU, eO, hn⟩ := hD
  refine AM.ofI (lv := [(0, .ref b), (1, .int s)]) (by decide +kernel) (Nat.le_of_ble_eq_true rfl) rfl ?_ (fun _ h => by cases h.1)
  refine a_iload_n 1 dX6_rule_0 rfl rfl ?_
  refine a_callSp (As := [.int s]) (rest := []) (d := 0) (mc := 0) (ms := 0) (x := bI (wIx 1000 s)) l_X6_154 st_X6_isSound dX6_rule_1 ⟨Nat.le_of_ble_eq_true rfl, Nat.le_of_ble_eq_true rfl⟩ rfl (Nat.le_of_ble_eq_true rfl) ⟨Nat.le_of_ble_eq_true rfl, Nat.le_of_ble_eq_true rfl⟩ (c_X6_isSound) ?_
  refine a_ifneB 10 dX6_rule_4 (by decide) (fun c4 => ?_) (fun c4 => ?_)
  · skip
    refine a_aload_n 0 dX6_rule_10 rfl rfl ?_
    refine a_get f_X6_23 dX6_rule_11 hb rfl ?_
    refine a_get f_X6_100 dX6_rule_14 hk3 rfl ?_
    refine a_ifneN (a := n) 25 dX6_rule_17 (by decide) (by omega) (fun c17 => ?_) (fun c17 => ?_)
    · skip
      omega
    · skip
      refine a_ldc (-1000000003) k_X6_157 dX6_rule_20 ?_
      refine a_goto 34 dX6_rule_22 (by decide) ?_
      refine a_ret dX6_rule_34 ⟨⟨ri ?_, ?_⟩, rfl, rfl⟩
      · rfl
      · rfl
  · skip
    exact absurd c4 (by rw [hsn]; decide)
set_option maxHeartbeats 4000000 in
set_option maxRecDepth 100000 in
theorem c_X6_worth {G : GT} {B : Nat} {l : Launch} {H : Heap} {b kr sp : Nat} {fp dr : Int32} {kb : Bool} {ka ks kw : Int32} {n nv : Nat} {kS kU kK kV dd : DD} {s : Int32} (hsn : wIx 1000 s = true) {what : Int32} (hq : ¬ what < 0) (hq2 : what ≤ 2) (hn0 : 0 < n) (hC : Bc G H b kr sp fp dr kb ka ks kw n nv kS kU kK kV dd) : AM G B l yX6_worth cX6_worth 3 (some .int) 5 0 0 [.ref b, .int s, .int what] H (fun rv H' => rv = some (.int (coF n dd kK ka ks s what)) ∧ (H' = H)) := by
  have hC0 := hC
  obtain ⟨hb, hK, hD, hkr⟩ := hC
  have hK0 := hK
  have hN := hD
  unfold bxL at hb
  obtain ⟨fS3, fU3, fK3, fV3, hk3, ha3, hb3, hc3, he3, eS3, eU3, eK3, eV3, hn3, hnv3⟩ := hK
  obtain ⟨fS, fU, fO, hd, hs, hu, ho, eS, eU, eO, hn⟩ := hD
  refine AM.ofI (lv := [(0, .ref b), (1, .int s), (2, .int what)]) (by decide +kernel) (Nat.le_of_ble_eq_true rfl) rfl ?_ (fun _ h => by cases h.1)
  refine a_iload_n 1 dX6_worth_0 rfl rfl ?_
  refine a_callSp (As := [.int s]) (rest := []) (d := 0) (mc := 0) (ms := 0) (x := bI (wIx 1000 s)) l_X6_154 st_X6_isSound dX6_worth_1 ⟨Nat.le_of_ble_eq_true rfl, Nat.le_of_ble_eq_true rfl⟩ rfl (Nat.le_of_ble_eq_true rfl) ⟨Nat.le_of_ble_eq_true rfl, Nat.le_of_ble_eq_true rfl⟩ (c_X6_isSound) ?_
  refine a_ifeqB 16 dX6_worth_4 (by decide) (fun c4 => ?_) (fun c4 => ?_)
  · skip
    exact absurd c4 (by rw [hsn]; decide)
  · skip
    refine a_iload_n 2 dX6_worth_7 rfl rfl ?_
    refine a_iflt 16 dX6_worth_8 (by decide) (fun c8 => ?_) (fun c8 => ?_)
    · skip
      exact absurd c8 (hq)
    · skip
      refine a_iload_n 2 dX6_worth_11 rfl rfl ?_
      refine a_iconst 2 dX6_worth_12 (by decide) ?_
      refine a_icmple 19 dX6_worth_13 (by decide) (fun c13 => ?_) (fun c13 => ?_)
      · skip
        refine a_aload_n 0 dX6_worth_19 rfl rfl ?_
        refine a_get f_X6_23 dX6_worth_20 hb rfl ?_
        refine a_get f_X6_100 dX6_worth_23 hk3 rfl ?_
        refine a_ifneN (a := n) 34 dX6_worth_26 (by decide) (by omega) (fun c26 => ?_) (fun c26 => ?_)
        · skip
          refine a_aload_n 0 dX6_worth_34 rfl rfl ?_
          refine a_aload_n 0 dX6_worth_35 rfl rfl ?_
          refine a_get f_X6_33 dX6_worth_36 hb rfl ?_
          refine a_iload_n 1 dX6_worth_39 rfl rfl ?_
          refine a_iload_n 2 dX6_worth_40 rfl rfl ?_
          refine a_callVp (As := [.ref (b + 13), .int s, .int what]) (rest := []) (d := 4) (mc := 0) (ms := 0) (x := coF n dd kK ka ks s what) (ci := 6) l_X6_203 im_X6_cost se_X6_cost ⟨_, rfl, rfl⟩ dX6_worth_41 ⟨Nat.le_of_ble_eq_true rfl, Nat.le_of_ble_eq_true rfl⟩ rfl (Nat.le_of_ble_eq_true rfl) ⟨Nat.le_of_ble_eq_true rfl, Nat.le_of_ble_eq_true rfl⟩ hb (c_X6_cost hN hC0) ?_
          refine a_ret dX6_worth_44 ⟨⟨ri ?_, ?_⟩, rfl, rfl⟩
          · rfl
          · rfl
        · skip
          omega
      · skip
        exact absurd hq2 c13
set_option maxHeartbeats 4000000 in
set_option maxRecDepth 100000 in
theorem c_X6_worth_out {G : GT} {B : Nat} {l : Launch} {H : Heap} {b kr sp : Nat} {fp dr : Int32} {kb : Bool} {ka ks kw : Int32} {n nv : Nat} {kS kU kK kV dd : DD} {s what : Int32} (hq : wIx 1000 s = false ∨ what < 0 ∨ ¬ what ≤ 2) (hC : Bc G H b kr sp fp dr kb ka ks kw n nv kS kU kK kV dd) : AM G B l yX6_worth cX6_worth 3 (some .int) 5 0 0 [.ref b, .int s, .int what] H (fun rv H' => rv = some (.int (-1000000002)) ∧ (H' = H)) := by
  have hC0 := hC
  obtain ⟨hb, hK, hD, hkr⟩ := hC
  have hK0 := hK
  have hN := hD
  unfold bxL at hb
  obtain ⟨fS3, fU3, fK3, fV3, hk3, ha3, hb3, hc3, he3, eS3, eU3, eK3, eV3, hn3, hnv3⟩ := hK
  obtain ⟨fS, fU, fO, hd, hs, hu, ho, eS, eU, eO, hn⟩ := hD
  refine AM.ofI (lv := [(0, .ref b), (1, .int s), (2, .int what)]) (by decide +kernel) (Nat.le_of_ble_eq_true rfl) rfl ?_ (fun _ h => by cases h.1)
  refine a_iload_n 1 dX6_worth_0 rfl rfl ?_
  refine a_callSp (As := [.int s]) (rest := []) (d := 0) (mc := 0) (ms := 0) (x := bI (wIx 1000 s)) l_X6_154 st_X6_isSound dX6_worth_1 ⟨Nat.le_of_ble_eq_true rfl, Nat.le_of_ble_eq_true rfl⟩ rfl (Nat.le_of_ble_eq_true rfl) ⟨Nat.le_of_ble_eq_true rfl, Nat.le_of_ble_eq_true rfl⟩ (c_X6_isSound) ?_
  refine a_ifeqB 16 dX6_worth_4 (by decide) (fun c4 => ?_) (fun c4 => ?_)
  · skip
    refine a_ldc (-1000000002) k_X6_69 dX6_worth_16 ?_
    refine a_ret dX6_worth_18 ⟨⟨ri ?_, ?_⟩, rfl, rfl⟩
    · rfl
    · rfl
  · skip
    refine a_iload_n 2 dX6_worth_7 rfl rfl ?_
    refine a_iflt 16 dX6_worth_8 (by decide) (fun c8 => ?_) (fun c8 => ?_)
    · skip
      refine a_ldc (-1000000002) k_X6_69 dX6_worth_16 ?_
      refine a_ret dX6_worth_18 ⟨⟨ri ?_, ?_⟩, rfl, rfl⟩
      · rfl
      · rfl
    · skip
      refine a_iload_n 2 dX6_worth_11 rfl rfl ?_
      refine a_iconst 2 dX6_worth_12 (by decide) ?_
      refine a_icmple 19 dX6_worth_13 (by decide) (fun c13 => ?_) (fun c13 => ?_)
      · skip
        rcases hq with h | h | h
        · exact absurd c4 (by rw [h]; decide)
        · exact absurd h c8
        · exact absurd c13 h
      · skip
        refine a_ldc (-1000000002) k_X6_69 dX6_worth_16 ?_
        refine a_ret dX6_worth_18 ⟨⟨ri ?_, ?_⟩, rfl, rfl⟩
        · rfl
        · rfl
set_option maxHeartbeats 4000000 in
set_option maxRecDepth 100000 in
theorem c_X6_worth_not {G : GT} {B : Nat} {l : Launch} {H : Heap} {b kr sp : Nat} {fp dr : Int32} {kb : Bool} {ka ks kw : Int32} {n nv : Nat} {kS kU kK kV dd : DD} {s : Int32} (hsn : wIx 1000 s = true) {what : Int32} (hq : ¬ what < 0) (hq2 : what ≤ 2) (hn0 : n = 0) (hC : Bc G H b kr sp fp dr kb ka ks kw n nv kS kU kK kV dd) : AM G B l yX6_worth cX6_worth 3 (some .int) 5 0 0 [.ref b, .int s, .int what] H (fun rv H' => rv = some (.int (-1000000003)) ∧ (H' = H)) := by
  have hC0 := hC
  obtain ⟨hb, hK, hD, hkr⟩ := hC
  have hK0 := hK
  have hN := hD
  unfold bxL at hb
  obtain ⟨fS3, fU3, fK3, fV3, hk3, ha3, hb3, hc3, he3, eS3, eU3, eK3, eV3, hn3, hnv3⟩ := hK
  obtain ⟨fS, fU, fO, hd, hs, hu, ho, eS, eU, eO, hn⟩ := hD
  refine AM.ofI (lv := [(0, .ref b), (1, .int s), (2, .int what)]) (by decide +kernel) (Nat.le_of_ble_eq_true rfl) rfl ?_ (fun _ h => by cases h.1)
  refine a_iload_n 1 dX6_worth_0 rfl rfl ?_
  refine a_callSp (As := [.int s]) (rest := []) (d := 0) (mc := 0) (ms := 0) (x := bI (wIx 1000 s)) l_X6_154 st_X6_isSound dX6_worth_1 ⟨Nat.le_of_ble_eq_true rfl, Nat.le_of_ble_eq_true rfl⟩ rfl (Nat.le_of_ble_eq_true rfl) ⟨Nat.le_of_ble_eq_true rfl, Nat.le_of_ble_eq_true rfl⟩ (c_X6_isSound) ?_
  refine a_ifeqB 16 dX6_worth_4 (by decide) (fun c4 => ?_) (fun c4 => ?_)
  · skip
    exact absurd c4 (by rw [hsn]; decide)
  · skip
    refine a_iload_n 2 dX6_worth_7 rfl rfl ?_
    refine a_iflt 16 dX6_worth_8 (by decide) (fun c8 => ?_) (fun c8 => ?_)
    · skip
      exact absurd c8 (hq)
    · skip
      refine a_iload_n 2 dX6_worth_11 rfl rfl ?_
      refine a_iconst 2 dX6_worth_12 (by decide) ?_
      refine a_icmple 19 dX6_worth_13 (by decide) (fun c13 => ?_) (fun c13 => ?_)
      · skip
        refine a_aload_n 0 dX6_worth_19 rfl rfl ?_
        refine a_get f_X6_23 dX6_worth_20 hb rfl ?_
        refine a_get f_X6_100 dX6_worth_23 hk3 rfl ?_
        refine a_ifneN (a := n) 34 dX6_worth_26 (by decide) (by omega) (fun c26 => ?_) (fun c26 => ?_)
        · skip
          omega
        · skip
          refine a_ldc (-1000000003) k_X6_157 dX6_worth_29 ?_
          refine a_goto 44 dX6_worth_31 (by decide) ?_
          refine a_ret dX6_worth_44 ⟨⟨ri ?_, ?_⟩, rfl, rfl⟩
          · rfl
          · rfl
      · skip
        exact absurd hq2 c13
set_option maxHeartbeats 4000000 in
set_option maxRecDepth 100000 in
theorem c_X6_said {G : GT} {B : Nat} {l : Launch} {H : Heap} {b kr sp : Nat} {fp dr : Int32} {kb : Bool} {ka ks kw : Int32} {n nv : Nat} {kS kU kK kV dd : DD} {w : Nat} (hw : w < n) {v : Nat} (hv : v < nv) (hC : Bc G H b kr sp fp dr kb ka ks kw n nv kS kU kK kV dd) : AM G B l yX6_said cX6_said 3 (some .int) 2 0 0 [.ref b, .int (nI w), .int (nI v)] H (fun rv H' => rv = some (.int (spF dd kV w v)) ∧ (H' = H)) := by
  have hC0 := hC
  obtain ⟨hb, hK, hD, hkr⟩ := hC
  have hK0 := hK
  have hN := hD
  unfold bxL at hb
  obtain ⟨fS3, fU3, fK3, fV3, hk3, ha3, hb3, hc3, he3, eS3, eU3, eK3, eV3, hn3, hnv3⟩ := hK
  obtain ⟨fS, fU, fO, hd, hs, hu, ho, eS, eU, eO, hn⟩ := hD
  refine AM.ofI (lv := [(0, .ref b), (1, .int (nI w)), (2, .int (nI v))]) (by decide +kernel) (Nat.le_of_ble_eq_true rfl) rfl ?_ (fun _ h => by cases h.1)
  refine a_aload_n 0 dX6_said_0 rfl rfl ?_
  refine a_iload_n 1 dX6_said_1 rfl rfl ?_
  refine a_callVp (As := [.int (nI w)]) (rest := []) (d := 0) (mc := 0) (ms := 0) (x := bI (wIx n (nI w))) (ci := 6) l_X6_131 im_X6_isWord se_X6_isWord ⟨_, rfl, rfl⟩ dX6_said_2 ⟨Nat.le_of_ble_eq_true rfl, Nat.le_of_ble_eq_true rfl⟩ rfl (Nat.le_of_ble_eq_true rfl) ⟨Nat.le_of_ble_eq_true rfl, Nat.le_of_ble_eq_true rfl⟩ hb (c_X6_isWord hC0) ?_
  refine a_ifeqB 25 dX6_said_5 (by decide) (fun c5 => ?_) (fun c5 => ?_)
  · skip
    exact absurd c5 (by rw [wIx_nI hw (by omega)]; decide)
  · skip
    refine a_aload_n 0 dX6_said_8 rfl rfl ?_
    refine a_iload_n 2 dX6_said_9 rfl rfl ?_
    refine a_callVp (As := [.int (nI v)]) (rest := []) (d := 0) (mc := 0) (ms := 0) (x := bI (wIx nv (nI v))) (ci := 6) l_X6_148 im_X6_isVoice se_X6_isVoice ⟨_, rfl, rfl⟩ dX6_said_10 ⟨Nat.le_of_ble_eq_true rfl, Nat.le_of_ble_eq_true rfl⟩ rfl (Nat.le_of_ble_eq_true rfl) ⟨Nat.le_of_ble_eq_true rfl, Nat.le_of_ble_eq_true rfl⟩ hb (c_X6_isVoice hC0) ?_
    refine a_ifeqB 25 dX6_said_13 (by decide) (fun c13 => ?_) (fun c13 => ?_)
    · skip
      exact absurd c13 (by rw [wIx_nI hv (by omega)]; decide)
    · skip
      refine a_aload_n 0 dX6_said_16 rfl rfl ?_
      refine a_iload_n 1 dX6_said_17 rfl rfl ?_
      refine a_iload_n 2 dX6_said_18 rfl rfl ?_
      refine a_callVp (As := [.int (nI w), .int (nI v)]) (rest := []) (d := 1) (mc := 0) (ms := 0) (x := spF dd kV w v) (ci := 6) l_X6_182 im_X6_spoken se_X6_spoken ⟨_, rfl, rfl⟩ dX6_said_19 ⟨Nat.le_of_ble_eq_true rfl, Nat.le_of_ble_eq_true rfl⟩ rfl (Nat.le_of_ble_eq_true rfl) ⟨Nat.le_of_ble_eq_true rfl, Nat.le_of_ble_eq_true rfl⟩ hb (c_X6_spoken hw hv hC0) ?_
      refine a_goto 27 dX6_said_22 (by decide) ?_
      refine a_ret dX6_said_27 ⟨⟨ri ?_, ?_⟩, rfl, rfl⟩
      · rfl
      · rfl
set_option maxHeartbeats 4000000 in
set_option maxRecDepth 100000 in
theorem c_X6_said_unk {G : GT} {B : Nat} {l : Launch} {H : Heap} {b kr sp : Nat} {fp dr : Int32} {kb : Bool} {ka ks kw : Int32} {n nv : Nat} {kS kU kK kV dd : DD} {w v : Int32} (hq : wIx n w = false ∨ wIx nv v = false) (hC : Bc G H b kr sp fp dr kb ka ks kw n nv kS kU kK kV dd) : AM G B l yX6_said cX6_said 3 (some .int) 2 0 0 [.ref b, .int w, .int v] H (fun rv H' => rv = some (.int (-1000000001)) ∧ (H' = H)) := by
  have hC0 := hC
  obtain ⟨hb, hK, hD, hkr⟩ := hC
  have hK0 := hK
  have hN := hD
  unfold bxL at hb
  obtain ⟨fS3, fU3, fK3, fV3, hk3, ha3, hb3, hc3, he3, eS3, eU3, eK3, eV3, hn3, hnv3⟩ := hK
  obtain ⟨fS, fU, fO, hd, hs, hu, ho, eS, eU, eO, hn⟩ := hD
  refine AM.ofI (lv := [(0, .ref b), (1, .int w), (2, .int v)]) (by decide +kernel) (Nat.le_of_ble_eq_true rfl) rfl ?_ (fun _ h => by cases h.1)
  refine a_aload_n 0 dX6_said_0 rfl rfl ?_
  refine a_iload_n 1 dX6_said_1 rfl rfl ?_
  refine a_callVp (As := [.int w]) (rest := []) (d := 0) (mc := 0) (ms := 0) (x := bI (wIx n w)) (ci := 6) l_X6_131 im_X6_isWord se_X6_isWord ⟨_, rfl, rfl⟩ dX6_said_2 ⟨Nat.le_of_ble_eq_true rfl, Nat.le_of_ble_eq_true rfl⟩ rfl (Nat.le_of_ble_eq_true rfl) ⟨Nat.le_of_ble_eq_true rfl, Nat.le_of_ble_eq_true rfl⟩ hb (c_X6_isWord hC0) ?_
  refine a_ifeqB 25 dX6_said_5 (by decide) (fun c5 => ?_) (fun c5 => ?_)
  · skip
    refine a_ldc (-1000000001) k_X6_134 dX6_said_25 ?_
    refine a_ret dX6_said_27 ⟨⟨ri ?_, ?_⟩, rfl, rfl⟩
    · rfl
    · rfl
  · skip
    refine a_aload_n 0 dX6_said_8 rfl rfl ?_
    refine a_iload_n 2 dX6_said_9 rfl rfl ?_
    refine a_callVp (As := [.int v]) (rest := []) (d := 0) (mc := 0) (ms := 0) (x := bI (wIx nv v)) (ci := 6) l_X6_148 im_X6_isVoice se_X6_isVoice ⟨_, rfl, rfl⟩ dX6_said_10 ⟨Nat.le_of_ble_eq_true rfl, Nat.le_of_ble_eq_true rfl⟩ rfl (Nat.le_of_ble_eq_true rfl) ⟨Nat.le_of_ble_eq_true rfl, Nat.le_of_ble_eq_true rfl⟩ hb (c_X6_isVoice hC0) ?_
    refine a_ifeqB 25 dX6_said_13 (by decide) (fun c13 => ?_) (fun c13 => ?_)
    · skip
      refine a_ldc (-1000000001) k_X6_134 dX6_said_25 ?_
      refine a_ret dX6_said_27 ⟨⟨ri ?_, ?_⟩, rfl, rfl⟩
      · rfl
      · rfl
    · skip
      rcases hq with h | h
      · exact absurd c5 (by rw [h]; decide)
      · exact absurd c13 (by rw [h]; decide)
set_option maxHeartbeats 4000000 in
set_option maxRecDepth 100000 in
theorem c_X6_misheard {G : GT} {B : Nat} {l : Launch} {H : Heap} {b kr sp : Nat} {fp dr : Int32} {kb : Bool} {ka ks kw : Int32} {n nv : Nat} {kS kU kK kV dd : DD} {i : Int32} (hC : Bc G H b kr sp fp dr kb ka ks kw n nv kS kU kK kV dd) : AM G B l yX6_misheard cX6_misheard 5 (some .int) 5 0 0 [.ref b, .int i] H (fun rv H' => rv = some (.int (lkv (ml2 n dd kV nv) i)) ∧ (H' = H)) := by
  have hC0 := hC
  obtain ⟨hb, hK, hD, hkr⟩ := hC
  have hK0 := hK
  have hN := hD
  unfold bxL at hb
  obtain ⟨fS3, fU3, fK3, fV3, hk3, ha3, hb3, hc3, he3, eS3, eU3, eK3, eV3, hn3, hnv3⟩ := hK
  obtain ⟨fS, fU, fO, hd, hs, hu, ho, eS, eU, eO, hn⟩ := hD
  refine AM.ofI (lv := [(0, .ref b), (1, .int i)]) (by decide +kernel) (Nat.le_of_ble_eq_true rfl) rfl ?_ (fun _ h => by cases h.1)
  refine a_iconst 0 dX6_misheard_0 (by decide) ?_
  refine a_istore_n (lv' := [(2, .int 0), (0, .ref b), (1, .int i)]) dX6_misheard_1 rfl (by decide) rfl ?_
  refine a_iconst 0 dX6_misheard_2 (by decide) ?_
  refine a_istore_n (lv' := [(3, .int 0), (2, .int 0), (0, .ref b), (1, .int i)]) dX6_misheard_3 rfl (by decide) rfl ?_
  have L4 : ∀ (fu : Nat) (v c : Nat), v ≤ nv → c = (ml2 n dd kV v).length → lkF (ml2 n dd kV v) i = -1 → nv - v < fu → AW G B l { frames := 5, cells := 0, slots := 0, locals := 27 * 5 } yX6_misheard.cls cX6_misheard 5 false (fun rv H' ce' sl' => (rv = some (.int (lkv (ml2 n dd kV nv) i)) ∧ (H' = H)) ∧ ce' = 0 ∧ sl' = 0) 4 [(0, .ref b), (1, .int i), (2, .int (nI c)), (3, .int (nI v))] [] H 0 0 := by
    intro fu
    induction fu with
    | zero => intro v c hv hc hf hm4; exact absurd hm4 (Nat.not_lt_zero _)
    | succ fu ih4 =>
      intro v c hv hc hf hm4
      have hl1 := ml2_len (n := n) (dd := dd) (kV := kV) (v := v)
      have hl2 : v * n ≤ 4 * 8 := Nat.mul_le_mul (by omega) hn
      refine a_iload_n 3 dX6_misheard_4 rfl rfl ?_
      refine a_aload_n 0 dX6_misheard_5 rfl rfl ?_
      refine a_get f_X6_23 dX6_misheard_6 hb rfl ?_
      refine a_get f_X6_112 dX6_misheard_9 hk3 rfl ?_
      refine a_icmpgeN (a := v) (b := nv) 70 dX6_misheard_12 (by decide) (by omega) (by omega) (fun c12 => ?_) (fun c12 => ?_)
      · skip
        refine a_iload_n 1 dX6_misheard_70 rfl rfl ?_
        refine a_iconst (-1) dX6_misheard_71 (by decide) ?_
        refine a_icmpne 79 dX6_misheard_72 (by decide) (fun c72 => ?_) (fun c72 => ?_)
        · skip
          refine a_iconst (-1) dX6_misheard_79 (by decide) ?_
          refine a_ret dX6_misheard_80 ⟨⟨ri ?_, ?_⟩, rfl, rfl⟩
          · unfold lkv
            rw [if_neg c72, show nv = v by omega, hf]
          · rfl
        · skip
          refine a_iload_n 2 dX6_misheard_75 rfl rfl ?_
          refine a_goto 80 dX6_misheard_76 (by decide) ?_
          refine a_ret dX6_misheard_80 ⟨⟨ri ?_, ?_⟩, rfl, rfl⟩
          · unfold lkv
            rw [if_pos c72, hc, show nv = v by omega]
          · rfl
      · skip
        refine a_iconst 0 dX6_misheard_15 (by decide) ?_
        refine a_istore (lv' := [(4, .int 0), (0, .ref b), (1, .int i), (2, .int (nI c)), (3, .int (nI v))]) dX6_misheard_16 (by decide) rfl ?_
        have L18 : ∀ (fu : Nat) (k c : Nat), k ≤ n → c = (ml2 n dd kV v ++ ml1 n dd kV v k).length → lkF (ml2 n dd kV v ++ ml1 n dd kV v k) i = -1 → n - k < fu → AW G B l { frames := 5, cells := 0, slots := 0, locals := 27 * 5 } yX6_misheard.cls cX6_misheard 5 false (fun rv H' ce' sl' => (rv = some (.int (lkv (ml2 n dd kV nv) i)) ∧ (H' = H)) ∧ ce' = 0 ∧ sl' = 0) 18 [(0, .ref b), (1, .int i), (2, .int (nI c)), (3, .int (nI v)), (4, .int (nI k))] [] H 0 0 := by
          intro fu
          induction fu with
          | zero => intro k c hk hc hf hm18; exact absurd hm18 (Nat.not_lt_zero _)
          | succ fu ih18 =>
            intro k c hk hc hf hm18
            have hl3 := ml1_len (n := n) (dd := dd) (kV := kV) (v := v) (k := k)
            have hl4 : c ≤ 40 := by rw [hc, List.length_append]; omega
            refine a_iload 4 dX6_misheard_18 rfl ?_
            refine a_aload_n 0 dX6_misheard_20 rfl rfl ?_
            refine a_get f_X6_23 dX6_misheard_21 hb rfl ?_
            refine a_get f_X6_100 dX6_misheard_24 hk3 rfl ?_
            refine a_icmpgeN (a := k) (b := n) 64 dX6_misheard_27 (by decide) (by omega) (by omega) (fun c27 => ?_) (fun c27 => ?_)
            · skip
              have hkn : k = n := by omega
              subst hkn
              refine a_iincN (q := 3) (lv' := [(3, .int (nI (v + 1))), (0, .ref b), (1, .int i), (2, .int (nI c)), (4, .int (nI k))]) dX6_misheard_64 rfl (by decide) rfl ?_
              refine a_goto 4 dX6_misheard_67 (by decide) ?_
              refine a_sub [1, 2, 3, 0] rfl ?_
              exact ih4 _ _ (by omega) (by simp only [ml2]; exact hc) (by simp only [ml2]; exact hf) (by omega)
            · skip
              refine a_aload_n 0 dX6_misheard_30 rfl rfl ?_
              refine a_iload 4 dX6_misheard_31 rfl ?_
              refine a_iload_n 3 dX6_misheard_33 rfl rfl ?_
              refine a_callVp (As := [.int (nI k), .int (nI v)]) (rest := []) (d := 4) (mc := 0) (ms := 0) (x := unF n dd kV k v) (ci := 6) l_X6_207 im_X6_understood se_X6_understood ⟨_, rfl, rfl⟩ dX6_misheard_34 ⟨Nat.le_of_ble_eq_true rfl, Nat.le_of_ble_eq_true rfl⟩ rfl (Nat.le_of_ble_eq_true rfl) ⟨Nat.le_of_ble_eq_true rfl, Nat.le_of_ble_eq_true rfl⟩ hb (c_X6_understood (by omega) (by omega) hC0) ?_
              refine a_iload 4 dX6_misheard_37 rfl ?_
              refine a_icmpeq 58 dX6_misheard_39 (by decide) (fun c39 => ?_) (fun c39 => ?_)
              · skip
                refine a_iincN (q := 4) (lv' := [(4, .int (nI (k + 1))), (0, .ref b), (1, .int i), (2, .int (nI c)), (3, .int (nI v))]) dX6_misheard_58 rfl (by decide) rfl ?_
                refine a_goto 18 dX6_misheard_61 (by decide) ?_
                refine a_sub [1, 2, 3, 4, 0] rfl ?_
                exact ih18 _ _ (by omega) (by simp only [ml1]; rw [if_pos c39, List.append_nil, hc]) (by simp only [ml1]; rw [if_pos c39, List.append_nil]; exact hf) (by omega)
              · skip
                refine a_iload_n 2 dX6_misheard_42 rfl rfl ?_
                refine a_iload_n 1 dX6_misheard_43 rfl rfl ?_
                refine a_icmpne 55 dX6_misheard_44 (by decide) (fun c44 => ?_) (fun c44 => ?_)
                · skip
                  refine a_iincN (q := 2) (lv' := [(2, .int (nI (c + 1))), (0, .ref b), (1, .int i), (3, .int (nI v)), (4, .int (nI k))]) dX6_misheard_55 rfl (by decide) rfl ?_
                  refine a_iincN (q := 4) (lv' := [(4, .int (nI (k + 1))), (2, .int (nI (c + 1))), (0, .ref b), (1, .int i), (3, .int (nI v))]) dX6_misheard_58 rfl (by decide) rfl ?_
                  refine a_goto 18 dX6_misheard_61 (by decide) ?_
                  refine a_sub [2, 3, 1, 4, 0] rfl ?_
                  exact ih18 _ _ (by omega) (by simp only [ml1]; rw [if_neg c39, ← List.append_assoc, List.length_append, hc]; rfl) (by simp only [ml1]; rw [if_neg c39, ← List.append_assoc, lkF_snoc (by rw [← hc]; omega), if_neg (by rw [← hc]; exact c44)]; exact hf) (by omega)
                · skip
                  refine a_bipush 10 dX6_misheard_47 (by decide) ?_
                  refine a_iload_n 3 dX6_misheard_49 rfl rfl ?_
                  refine a_imulN (a := 10) (b := v) dX6_misheard_50 ?_
                  refine a_iload 4 dX6_misheard_51 rfl ?_
                  refine a_iaddN (a := 10 * v) (b := k) dX6_misheard_53 ?_
                  refine a_ret dX6_misheard_54 ⟨⟨ri ?_, ?_⟩, rfl, rfl⟩
                  · have hp1 : ((ml2 n dd kV v ++ ml1 n dd kV v k) ++ [nI (10 * v + k)]) <+: ml2 n dd kV nv := by
                      refine List.IsPrefix.trans ?_ (ml2_pre (k := v + 1) (by omega))
                      simp only [ml2]
                      rw [List.append_assoc]
                      refine (List.prefix_append_right_inj _).mpr ?_
                      have h := ml1_pre (n := n) (dd := dd) (kV := kV) (v := v) (k := k + 1) (m := n) (by omega)
                      simp only [ml1] at h
                      rw [if_neg c39] at h
                      exact h
                    unfold lkv
                    rw [if_neg (by rw [← c44]; exact nI_nm1 _ (by omega)), lkF_pre (by rw [← hc]; omega) (by rw [← hc]; exact c44) hp1]
                  · rfl
        refine a_sub [1, 2, 3, 4, 0] rfl ?_
        exact L18 _ 0 c (Nat.zero_le _) (by simp only [ml1, List.append_nil]; exact hc) (by simp only [ml1, List.append_nil]; exact hf) (Nat.lt_succ_self _)
  refine a_sub [2, 3, 1, 0] rfl ?_
  exact L4 _ 0 0 (Nat.zero_le _) rfl (lkF_nil _) (Nat.lt_succ_self _)
set_option maxHeartbeats 4000000 in
set_option maxRecDepth 100000 in
theorem c_X6_who {G : GT} {B : Nat} {l : Launch} {H : Heap} {b kr sp : Nat} {fp dr : Int32} {kb : Bool} {ka ks kw : Int32} {n nv : Nat} {kS kU kK kV dd : DD} {s : Int32} (hsn : wIx 1000 s = true) (hC : Bc G H b kr sp fp dr kb ka ks kw n nv kS kU kK kV dd) : AM G B l yX6_who cX6_who 4 (some .int) 3 0 0 [.ref b, .int s] H (fun rv H' => rv = some (.int (whF n dd kV s nv)) ∧ (H' = H)) := by
  have hC0 := hC
  obtain ⟨hb, hK, hD, hkr⟩ := hC
  have hK0 := hK
  have hN := hD
  unfold bxL at hb
  obtain ⟨fS3, fU3, fK3, fV3, hk3, ha3, hb3, hc3, he3, eS3, eU3, eK3, eV3, hn3, hnv3⟩ := hK
  obtain ⟨fS, fU, fO, hd, hs, hu, ho, eS, eU, eO, hn⟩ := hD
  refine AM.ofI (lv := [(0, .ref b), (1, .int s)]) (by decide +kernel) (Nat.le_of_ble_eq_true rfl) rfl ?_ (fun _ h => by cases h.1)
  refine a_iload_n 1 dX6_who_0 rfl rfl ?_
  refine a_callSp (As := [.int s]) (rest := []) (d := 0) (mc := 0) (ms := 0) (x := bI (wIx 1000 s)) l_X6_154 st_X6_isSound dX6_who_1 ⟨Nat.le_of_ble_eq_true rfl, Nat.le_of_ble_eq_true rfl⟩ rfl (Nat.le_of_ble_eq_true rfl) ⟨Nat.le_of_ble_eq_true rfl, Nat.le_of_ble_eq_true rfl⟩ (c_X6_isSound) ?_
  refine a_ifneB 10 dX6_who_4 (by decide) (fun c4 => ?_) (fun c4 => ?_)
  · skip
    refine a_iconst 0 dX6_who_10 (by decide) ?_
    refine a_istore_n (lv' := [(2, .int 0), (0, .ref b), (1, .int s)]) dX6_who_11 rfl (by decide) rfl ?_
    refine a_iconst 0 dX6_who_12 (by decide) ?_
    refine a_istore_n (lv' := [(3, .int 0), (2, .int 0), (0, .ref b), (1, .int s)]) dX6_who_13 rfl (by decide) rfl ?_
    have L14 : ∀ (fu : Nat) (k : Nat) (r : Int32), k ≤ nv → r = whF n dd kV s k → nv - k < fu → AW G B l { frames := 3, cells := 0, slots := 0, locals := 27 * 3 } yX6_who.cls cX6_who 4 false (fun rv H' ce' sl' => (rv = some (.int (whF n dd kV s nv)) ∧ (H' = H)) ∧ ce' = 0 ∧ sl' = 0) 14 [(0, .ref b), (1, .int s), (2, .int r), (3, .int (nI k))] [] H 0 0 := by
      intro fu
      induction fu with
      | zero => intro k r hk hg hm14; exact absurd hm14 (Nat.not_lt_zero _)
      | succ fu ih14 =>
        intro k r hk hg hm14
        refine a_iload_n 3 dX6_who_14 rfl rfl ?_
        refine a_aload_n 0 dX6_who_15 rfl rfl ?_
        refine a_get f_X6_23 dX6_who_16 hb rfl ?_
        refine a_get f_X6_112 dX6_who_19 hk3 rfl ?_
        refine a_icmpgeN (a := k) (b := nv) 46 dX6_who_22 (by decide) (by omega) (by omega) (fun c22 => ?_) (fun c22 => ?_)
        · skip
          refine a_iload_n 2 dX6_who_46 rfl rfl ?_
          refine a_ret dX6_who_47 ⟨⟨ri ?_, ?_⟩, rfl, rfl⟩
          · rw [hg, show nv = k by omega]
          · rfl
        · skip
          refine a_aload_n 0 dX6_who_25 rfl rfl ?_
          refine a_iload_n 3 dX6_who_26 rfl rfl ?_
          refine a_iload_n 1 dX6_who_27 rfl rfl ?_
          refine a_callVp (As := [.int (nI k), .int s]) (rest := []) (d := 2) (mc := 0) (ms := 0) (x := wsF dd kV k s n) (ci := 6) l_X6_210 im_X6_wordsSpokenAs se_X6_wordsSpokenAs ⟨_, rfl, rfl⟩ dX6_who_28 ⟨Nat.le_of_ble_eq_true rfl, Nat.le_of_ble_eq_true rfl⟩ rfl (Nat.le_of_ble_eq_true rfl) ⟨Nat.le_of_ble_eq_true rfl, Nat.le_of_ble_eq_true rfl⟩ hb (c_X6_wordsSpokenAs (by omega) hC0) ?_
          refine a_ifeq 40 dX6_who_31 (by decide) (fun c31 => ?_) (fun c31 => ?_)
          · skip
            refine a_iincN (q := 3) (lv' := [(3, .int (nI (k + 1))), (0, .ref b), (1, .int s), (2, .int r)]) dX6_who_40 rfl (by decide) rfl ?_
            refine a_goto 14 dX6_who_43 (by decide) ?_
            refine a_sub [1, 2, 3, 0] rfl ?_
            exact ih14 _ _ (by omega) (by rw [hg]; simp only [whF]; first | rw [if_pos c31] | (rw [if_neg c31]; rfl)) (by omega)
          · skip
            refine a_iload_n 2 dX6_who_34 rfl rfl ?_
            refine a_iconst 1 dX6_who_35 (by decide) ?_
            refine a_iload_n 3 dX6_who_36 rfl rfl ?_
            refine a_ishl dX6_who_37 ?_
            refine a_ior dX6_who_38 ?_
            refine a_istore_n (lv' := [(2, .int (r ||| (1 <<< ((nI k) &&& 31)))), (0, .ref b), (1, .int s), (3, .int (nI k))]) dX6_who_39 rfl (by decide) rfl ?_
            refine a_iincN (q := 3) (lv' := [(3, .int (nI (k + 1))), (2, .int (r ||| (1 <<< ((nI k) &&& 31)))), (0, .ref b), (1, .int s)]) dX6_who_40 rfl (by decide) rfl ?_
            refine a_goto 14 dX6_who_43 (by decide) ?_
            refine a_sub [2, 3, 1, 0] rfl ?_
            exact ih14 _ _ (by omega) (by rw [hg]; simp only [whF]; first | rw [if_pos c31] | (rw [if_neg c31]; rfl)) (by omega)
    refine a_sub [2, 3, 1, 0] rfl ?_
    exact L14 _ 0 0 (Nat.zero_le _) rfl (Nat.lt_succ_self _)
  · skip
    exact absurd c4 (by rw [hsn]; decide)
set_option maxHeartbeats 4000000 in
set_option maxRecDepth 100000 in
theorem c_X6_who_out {G : GT} {B : Nat} {l : Launch} {H : Heap} {b kr sp : Nat} {fp dr : Int32} {kb : Bool} {ka ks kw : Int32} {n nv : Nat} {kS kU kK kV dd : DD} {s : Int32} (hsn : wIx 1000 s = false) (hC : Bc G H b kr sp fp dr kb ka ks kw n nv kS kU kK kV dd) : AM G B l yX6_who cX6_who 4 (some .int) 3 0 0 [.ref b, .int s] H (fun rv H' => rv = some (.int (-1000000002)) ∧ (H' = H)) := by
  have hC0 := hC
  obtain ⟨hb, hK, hD, hkr⟩ := hC
  have hK0 := hK
  have hN := hD
  unfold bxL at hb
  obtain ⟨fS3, fU3, fK3, fV3, hk3, ha3, hb3, hc3, he3, eS3, eU3, eK3, eV3, hn3, hnv3⟩ := hK
  obtain ⟨fS, fU, fO, hd, hs, hu, ho, eS, eU, eO, hn⟩ := hD
  refine AM.ofI (lv := [(0, .ref b), (1, .int s)]) (by decide +kernel) (Nat.le_of_ble_eq_true rfl) rfl ?_ (fun _ h => by cases h.1)
  refine a_iload_n 1 dX6_who_0 rfl rfl ?_
  refine a_callSp (As := [.int s]) (rest := []) (d := 0) (mc := 0) (ms := 0) (x := bI (wIx 1000 s)) l_X6_154 st_X6_isSound dX6_who_1 ⟨Nat.le_of_ble_eq_true rfl, Nat.le_of_ble_eq_true rfl⟩ rfl (Nat.le_of_ble_eq_true rfl) ⟨Nat.le_of_ble_eq_true rfl, Nat.le_of_ble_eq_true rfl⟩ (c_X6_isSound) ?_
  refine a_ifneB 10 dX6_who_4 (by decide) (fun c4 => ?_) (fun c4 => ?_)
  · skip
    exact absurd c4 (by rw [hsn]; decide)
  · skip
    refine a_ldc (-1000000002) k_X6_69 dX6_who_7 ?_
    refine a_ret dX6_who_9 ⟨⟨ri ?_, ?_⟩, rfl, rfl⟩
    · rfl
    · rfl
set_option maxHeartbeats 4000000 in
set_option maxRecDepth 100000 in
theorem c_X6_meant {G : GT} {B : Nat} {l : Launch} {H : Heap} {b kr sp : Nat} {fp dr : Int32} {kb : Bool} {ka ks kw : Int32} {n nv : Nat} {kS kU kK kV dd : DD} {v : Nat} (hv : v < nv) {s : Int32} (hsn : wIx 1000 s = true) (hC : Bc G H b kr sp fp dr kb ka ks kw n nv kS kU kK kV dd) : AM G B l yX6_meant cX6_meant 3 (some .int) 3 0 0 [.ref b, .int (nI v), .int s] H (fun rv H' => rv = some (.int (wsF dd kV v s n)) ∧ (H' = H)) := by
  have hC0 := hC
  obtain ⟨hb, hK, hD, hkr⟩ := hC
  have hK0 := hK
  have hN := hD
  unfold bxL at hb
  obtain ⟨fS3, fU3, fK3, fV3, hk3, ha3, hb3, hc3, he3, eS3, eU3, eK3, eV3, hn3, hnv3⟩ := hK
  obtain ⟨fS, fU, fO, hd, hs, hu, ho, eS, eU, eO, hn⟩ := hD
  refine AM.ofI (lv := [(0, .ref b), (1, .int (nI v)), (2, .int s)]) (by decide +kernel) (Nat.le_of_ble_eq_true rfl) rfl ?_ (fun _ h => by cases h.1)
  refine a_aload_n 0 dX6_meant_0 rfl rfl ?_
  refine a_iload_n 1 dX6_meant_1 rfl rfl ?_
  refine a_callVp (As := [.int (nI v)]) (rest := []) (d := 0) (mc := 0) (ms := 0) (x := bI (wIx nv (nI v))) (ci := 6) l_X6_148 im_X6_isVoice se_X6_isVoice ⟨_, rfl, rfl⟩ dX6_meant_2 ⟨Nat.le_of_ble_eq_true rfl, Nat.le_of_ble_eq_true rfl⟩ rfl (Nat.le_of_ble_eq_true rfl) ⟨Nat.le_of_ble_eq_true rfl, Nat.le_of_ble_eq_true rfl⟩ hb (c_X6_isVoice hC0) ?_
  refine a_ifneB 11 dX6_meant_5 (by decide) (fun c5 => ?_) (fun c5 => ?_)
  · skip
    refine a_iload_n 2 dX6_meant_11 rfl rfl ?_
    refine a_callSp (As := [.int s]) (rest := []) (d := 0) (mc := 0) (ms := 0) (x := bI (wIx 1000 s)) l_X6_154 st_X6_isSound dX6_meant_12 ⟨Nat.le_of_ble_eq_true rfl, Nat.le_of_ble_eq_true rfl⟩ rfl (Nat.le_of_ble_eq_true rfl) ⟨Nat.le_of_ble_eq_true rfl, Nat.le_of_ble_eq_true rfl⟩ (c_X6_isSound) ?_
    refine a_ifeqB 27 dX6_meant_15 (by decide) (fun c15 => ?_) (fun c15 => ?_)
    · skip
      exact absurd c15 (by rw [hsn]; decide)
    · skip
      refine a_aload_n 0 dX6_meant_18 rfl rfl ?_
      refine a_iload_n 1 dX6_meant_19 rfl rfl ?_
      refine a_iload_n 2 dX6_meant_20 rfl rfl ?_
      refine a_callVp (As := [.int (nI v), .int s]) (rest := []) (d := 2) (mc := 0) (ms := 0) (x := wsF dd kV v s n) (ci := 6) l_X6_210 im_X6_wordsSpokenAs se_X6_wordsSpokenAs ⟨_, rfl, rfl⟩ dX6_meant_21 ⟨Nat.le_of_ble_eq_true rfl, Nat.le_of_ble_eq_true rfl⟩ rfl (Nat.le_of_ble_eq_true rfl) ⟨Nat.le_of_ble_eq_true rfl, Nat.le_of_ble_eq_true rfl⟩ hb (c_X6_wordsSpokenAs hv hC0) ?_
      refine a_goto 29 dX6_meant_24 (by decide) ?_
      refine a_ret dX6_meant_29 ⟨⟨ri ?_, ?_⟩, rfl, rfl⟩
      · rfl
      · rfl
  · skip
    exact absurd c5 (by rw [wIx_nI hv (by omega)]; decide)
set_option maxHeartbeats 4000000 in
set_option maxRecDepth 100000 in
theorem c_X6_meant_unk {G : GT} {B : Nat} {l : Launch} {H : Heap} {b kr sp : Nat} {fp dr : Int32} {kb : Bool} {ka ks kw : Int32} {n nv : Nat} {kS kU kK kV dd : DD} {v : Int32} (hv : wIx nv v = false) {s : Int32} (hC : Bc G H b kr sp fp dr kb ka ks kw n nv kS kU kK kV dd) : AM G B l yX6_meant cX6_meant 3 (some .int) 3 0 0 [.ref b, .int v, .int s] H (fun rv H' => rv = some (.int (-1000000001)) ∧ (H' = H)) := by
  have hC0 := hC
  obtain ⟨hb, hK, hD, hkr⟩ := hC
  have hK0 := hK
  have hN := hD
  unfold bxL at hb
  obtain ⟨fS3, fU3, fK3, fV3, hk3, ha3, hb3, hc3, he3, eS3, eU3, eK3, eV3, hn3, hnv3⟩ := hK
  obtain ⟨fS, fU, fO, hd, hs, hu, ho, eS, eU, eO, hn⟩ := hD
  refine AM.ofI (lv := [(0, .ref b), (1, .int v), (2, .int s)]) (by decide +kernel) (Nat.le_of_ble_eq_true rfl) rfl ?_ (fun _ h => by cases h.1)
  refine a_aload_n 0 dX6_meant_0 rfl rfl ?_
  refine a_iload_n 1 dX6_meant_1 rfl rfl ?_
  refine a_callVp (As := [.int v]) (rest := []) (d := 0) (mc := 0) (ms := 0) (x := bI (wIx nv v)) (ci := 6) l_X6_148 im_X6_isVoice se_X6_isVoice ⟨_, rfl, rfl⟩ dX6_meant_2 ⟨Nat.le_of_ble_eq_true rfl, Nat.le_of_ble_eq_true rfl⟩ rfl (Nat.le_of_ble_eq_true rfl) ⟨Nat.le_of_ble_eq_true rfl, Nat.le_of_ble_eq_true rfl⟩ hb (c_X6_isVoice hC0) ?_
  refine a_ifneB 11 dX6_meant_5 (by decide) (fun c5 => ?_) (fun c5 => ?_)
  · skip
    exact absurd c5 (by rw [hv]; decide)
  · skip
    refine a_ldc (-1000000001) k_X6_134 dX6_meant_8 ?_
    refine a_ret dX6_meant_10 ⟨⟨ri ?_, ?_⟩, rfl, rfl⟩
    · rfl
    · rfl
set_option maxHeartbeats 4000000 in
set_option maxRecDepth 100000 in
theorem c_X6_meant_out {G : GT} {B : Nat} {l : Launch} {H : Heap} {b kr sp : Nat} {fp dr : Int32} {kb : Bool} {ka ks kw : Int32} {n nv : Nat} {kS kU kK kV dd : DD} {v : Nat} (hv : v < nv) {s : Int32} (hsn : wIx 1000 s = false) (hC : Bc G H b kr sp fp dr kb ka ks kw n nv kS kU kK kV dd) : AM G B l yX6_meant cX6_meant 3 (some .int) 3 0 0 [.ref b, .int (nI v), .int s] H (fun rv H' => rv = some (.int (-1000000002)) ∧ (H' = H)) := by
  have hC0 := hC
  obtain ⟨hb, hK, hD, hkr⟩ := hC
  have hK0 := hK
  have hN := hD
  unfold bxL at hb
  obtain ⟨fS3, fU3, fK3, fV3, hk3, ha3, hb3, hc3, he3, eS3, eU3, eK3, eV3, hn3, hnv3⟩ := hK
  obtain ⟨fS, fU, fO, hd, hs, hu, ho, eS, eU, eO, hn⟩ := hD
  refine AM.ofI (lv := [(0, .ref b), (1, .int (nI v)), (2, .int s)]) (by decide +kernel) (Nat.le_of_ble_eq_true rfl) rfl ?_ (fun _ h => by cases h.1)
  refine a_aload_n 0 dX6_meant_0 rfl rfl ?_
  refine a_iload_n 1 dX6_meant_1 rfl rfl ?_
  refine a_callVp (As := [.int (nI v)]) (rest := []) (d := 0) (mc := 0) (ms := 0) (x := bI (wIx nv (nI v))) (ci := 6) l_X6_148 im_X6_isVoice se_X6_isVoice ⟨_, rfl, rfl⟩ dX6_meant_2 ⟨Nat.le_of_ble_eq_true rfl, Nat.le_of_ble_eq_true rfl⟩ rfl (Nat.le_of_ble_eq_true rfl) ⟨Nat.le_of_ble_eq_true rfl, Nat.le_of_ble_eq_true rfl⟩ hb (c_X6_isVoice hC0) ?_
  refine a_ifneB 11 dX6_meant_5 (by decide) (fun c5 => ?_) (fun c5 => ?_)
  · skip
    refine a_iload_n 2 dX6_meant_11 rfl rfl ?_
    refine a_callSp (As := [.int s]) (rest := []) (d := 0) (mc := 0) (ms := 0) (x := bI (wIx 1000 s)) l_X6_154 st_X6_isSound dX6_meant_12 ⟨Nat.le_of_ble_eq_true rfl, Nat.le_of_ble_eq_true rfl⟩ rfl (Nat.le_of_ble_eq_true rfl) ⟨Nat.le_of_ble_eq_true rfl, Nat.le_of_ble_eq_true rfl⟩ (c_X6_isSound) ?_
    refine a_ifeqB 27 dX6_meant_15 (by decide) (fun c15 => ?_) (fun c15 => ?_)
    · skip
      refine a_ldc (-1000000002) k_X6_69 dX6_meant_27 ?_
      refine a_ret dX6_meant_29 ⟨⟨ri ?_, ?_⟩, rfl, rfl⟩
      · rfl
      · rfl
    · skip
      exact absurd c15 (by rw [hsn]; decide)
  · skip
    exact absurd c5 (by rw [wIx_nI hv (by omega)]; decide)
set_option maxHeartbeats 4000000 in
set_option maxRecDepth 100000 in
theorem c_X6_alike {G : GT} {B : Nat} {l : Launch} {H : Heap} {b kr sp : Nat} {fp dr : Int32} {kb : Bool} {ka ks kw : Int32} {n nv : Nat} {kS kU kK kV dd : DD} {m i : Int32} (hm : wIx 28 m = true) (hC : Bc G H b kr sp fp dr kb ka ks kw n nv kS kU kK kV dd) : AM G B l yX6_alike cX6_alike 6 (some .int) 2 0 0 [.ref b, .int m, .int i] H (fun rv H' => rv = some (.int (lkv (al2 n dd m n) i)) ∧ (H' = H)) := by
  have hC0 := hC
  obtain ⟨hb, hK, hD, hkr⟩ := hC
  have hK0 := hK
  have hN := hD
  unfold bxL at hb
  obtain ⟨fS3, fU3, fK3, fV3, hk3, ha3, hb3, hc3, he3, eS3, eU3, eK3, eV3, hn3, hnv3⟩ := hK
  obtain ⟨fS, fU, fO, hd, hs, hu, ho, eS, eU, eO, hn⟩ := hD
  refine AM.ofI (lv := [(0, .ref b), (1, .int m), (2, .int i)]) (by decide +kernel) (Nat.le_of_ble_eq_true rfl) rfl ?_ (fun _ h => by cases h.1)
  refine a_iload_n 1 dX6_alike_0 rfl rfl ?_
  refine a_callSp (As := [.int m]) (rest := []) (d := 0) (mc := 0) (ms := 0) (x := bI (wIx 28 m)) l_X6_213 st_X6_isDistance dX6_alike_1 ⟨Nat.le_of_ble_eq_true rfl, Nat.le_of_ble_eq_true rfl⟩ rfl (Nat.le_of_ble_eq_true rfl) ⟨Nat.le_of_ble_eq_true rfl, Nat.le_of_ble_eq_true rfl⟩ (c_X6_isDistance) ?_
  refine a_ifneB 10 dX6_alike_4 (by decide) (fun c4 => ?_) (fun c4 => ?_)
  · skip
    refine a_iconst 0 dX6_alike_10 (by decide) ?_
    refine a_istore_n (lv' := [(3, .int 0), (0, .ref b), (1, .int m), (2, .int i)]) dX6_alike_11 rfl (by decide) rfl ?_
    refine a_iconst 0 dX6_alike_12 (by decide) ?_
    refine a_istore (lv' := [(4, .int 0), (3, .int 0), (0, .ref b), (1, .int m), (2, .int i)]) dX6_alike_13 (by decide) rfl ?_
    have L15 : ∀ (fu : Nat) (a c : Nat), a ≤ n → c = (al2 n dd m a).length → lkF (al2 n dd m a) i = -1 → n - a < fu → AW G B l { frames := 2, cells := 0, slots := 0, locals := 27 * 2 } yX6_alike.cls cX6_alike 6 false (fun rv H' ce' sl' => (rv = some (.int (lkv (al2 n dd m n) i)) ∧ (H' = H)) ∧ ce' = 0 ∧ sl' = 0) 15 [(0, .ref b), (1, .int m), (2, .int i), (3, .int (nI c)), (4, .int (nI a))] [] H 0 0 := by
      intro fu
      induction fu with
      | zero => intro a c ha hc hf hm15; exact absurd hm15 (Nat.not_lt_zero _)
      | succ fu ih15 =>
        intro a c ha hc hf hm15
        have hl1 := al2_len (n := n) (dd := dd) (m := m) (a := a)
        have hl2 : a * n ≤ 8 * 8 := Nat.mul_le_mul (by omega) hn
        refine a_iload 4 dX6_alike_15 rfl ?_
        refine a_aload_n 0 dX6_alike_17 rfl rfl ?_
        refine a_get f_X6_23 dX6_alike_18 hb rfl ?_
        refine a_get f_X6_100 dX6_alike_21 hk3 rfl ?_
        refine a_icmpgeN (a := a) (b := n) 101 dX6_alike_24 (by decide) (by omega) (by omega) (fun c24 => ?_) (fun c24 => ?_)
        · skip
          refine a_iload_n 2 dX6_alike_101 rfl rfl ?_
          refine a_iconst (-1) dX6_alike_102 (by decide) ?_
          refine a_icmpne 110 dX6_alike_103 (by decide) (fun c103 => ?_) (fun c103 => ?_)
          · skip
            refine a_iconst (-1) dX6_alike_110 (by decide) ?_
            refine a_ret dX6_alike_111 ⟨⟨ri ?_, ?_⟩, rfl, rfl⟩
            · unfold lkv
              rw [if_neg c103]
              have e : n = a := by omega
              subst e
              rw [hf]
            · rfl
          · skip
            refine a_iload_n 3 dX6_alike_106 rfl rfl ?_
            refine a_goto 111 dX6_alike_107 (by decide) ?_
            refine a_ret dX6_alike_111 ⟨⟨ri ?_, ?_⟩, rfl, rfl⟩
            · unfold lkv
              rw [if_pos c103, hc, show n = a by omega]
            · rfl
        · skip
          refine a_iload 4 dX6_alike_27 rfl ?_
          refine a_iconst 1 dX6_alike_29 (by decide) ?_
          refine a_iaddN (a := a) (b := 1) dX6_alike_30 ?_
          refine a_istore (lv' := [(5, .int (nI (a + 1))), (0, .ref b), (1, .int m), (2, .int i), (3, .int (nI c)), (4, .int (nI a))]) dX6_alike_31 (by decide) rfl ?_
          have L33 : ∀ (fu : Nat) (k c : Nat), k ≤ n → a < k → c = (al2 n dd m a ++ al1 dd m a k).length → lkF (al2 n dd m a ++ al1 dd m a k) i = -1 → n - k < fu → AW G B l { frames := 2, cells := 0, slots := 0, locals := 27 * 2 } yX6_alike.cls cX6_alike 6 false (fun rv H' ce' sl' => (rv = some (.int (lkv (al2 n dd m n) i)) ∧ (H' = H)) ∧ ce' = 0 ∧ sl' = 0) 33 [(0, .ref b), (1, .int m), (2, .int i), (3, .int (nI c)), (4, .int (nI a)), (5, .int (nI k))] [] H 0 0 := by
            intro fu
            induction fu with
            | zero => intro k c hk hak hc hf hm33; exact absurd hm33 (Nat.not_lt_zero _)
            | succ fu ih33 =>
              intro k c hk hak hc hf hm33
              have hl3 := al1_len (dd := dd) (m := m) (a := a) (k := k)
              have hl4 : c ≤ 80 := by rw [hc, List.length_append]; omega
              refine a_iload 5 dX6_alike_33 rfl ?_
              refine a_aload_n 0 dX6_alike_35 rfl rfl ?_
              refine a_get f_X6_23 dX6_alike_36 hb rfl ?_
              refine a_get f_X6_100 dX6_alike_39 hk3 rfl ?_
              refine a_icmpgeN (a := k) (b := n) 95 dX6_alike_42 (by decide) (by omega) (by omega) (fun c42 => ?_) (fun c42 => ?_)
              · skip
                have hkn : k = n := by omega
                subst hkn
                refine a_iincN (q := 4) (lv' := [(4, .int (nI (a + 1))), (0, .ref b), (1, .int m), (2, .int i), (3, .int (nI c)), (5, .int (nI k))]) dX6_alike_95 rfl (by decide) rfl ?_
                refine a_goto 15 dX6_alike_98 (by decide) ?_
                refine a_sub [1, 2, 3, 4, 0] rfl ?_
                exact ih15 _ _ (by omega) (by simp only [al2]; exact hc) (by simp only [al2]; exact hf) (by omega)
              · skip
                refine a_aload_n 0 dX6_alike_45 rfl rfl ?_
                refine a_get f_X6_33 dX6_alike_46 hb rfl ?_
                refine a_get f_X6_135 dX6_alike_49 hd rfl ?_
                refine a_iload 4 dX6_alike_52 rfl ?_
                refine a_ialdN (j := a) dX6_alike_54 hs (by omega) (by decide) ?_
                refine a_toeq (dd a) (eS _ (by omega)) ?_
                refine a_aload_n 0 dX6_alike_55 rfl rfl ?_
                refine a_get f_X6_33 dX6_alike_56 hb rfl ?_
                refine a_get f_X6_135 dX6_alike_59 hd rfl ?_
                refine a_iload 5 dX6_alike_62 rfl ?_
                refine a_ialdN (j := k) dX6_alike_64 hs (by omega) (by decide) ?_
                refine a_toeq (dd k) (eS _ (by omega)) ?_
                refine a_callSp (As := [.int (dd a), .int (dd k)]) (rest := []) (d := 1) (mc := 0) (ms := 0) (x := apF (dd a) (dd k)) l_X6_172 st_X6_apart dX6_alike_65 ⟨Nat.le_of_ble_eq_true rfl, Nat.le_of_ble_eq_true rfl⟩ rfl (Nat.le_of_ble_eq_true rfl) ⟨Nat.le_of_ble_eq_true rfl, Nat.le_of_ble_eq_true rfl⟩ (c_X6_apart) ?_
                refine a_iload_n 1 dX6_alike_68 rfl rfl ?_
                refine a_icmpgt 89 dX6_alike_69 (by decide) (fun c69 => ?_) (fun c69 => ?_)
                · skip
                  refine a_iincN (q := 5) (lv' := [(5, .int (nI (k + 1))), (0, .ref b), (1, .int m), (2, .int i), (3, .int (nI c)), (4, .int (nI a))]) dX6_alike_89 rfl (by decide) rfl ?_
                  refine a_goto 33 dX6_alike_92 (by decide) ?_
                  refine a_sub [1, 2, 3, 4, 5, 0] rfl ?_
                  exact ih33 _ _ (by omega) (by omega) (by simp only [al1]; rw [if_neg (fun h => absurd c69 (Int32.not_lt.mpr h.2)), List.append_nil, hc]) (by simp only [al1]; rw [if_neg (fun h => absurd c69 (Int32.not_lt.mpr h.2)), List.append_nil]; exact hf) (by omega)
                · skip
                  refine a_iload_n 3 dX6_alike_72 rfl rfl ?_
                  refine a_iload_n 2 dX6_alike_73 rfl rfl ?_
                  refine a_icmpne 86 dX6_alike_74 (by decide) (fun c74 => ?_) (fun c74 => ?_)
                  · skip
                    refine a_iincN (q := 3) (lv' := [(3, .int (nI (c + 1))), (0, .ref b), (1, .int m), (2, .int i), (4, .int (nI a)), (5, .int (nI k))]) dX6_alike_86 rfl (by decide) rfl ?_
                    refine a_iincN (q := 5) (lv' := [(5, .int (nI (k + 1))), (3, .int (nI (c + 1))), (0, .ref b), (1, .int m), (2, .int i), (4, .int (nI a))]) dX6_alike_89 rfl (by decide) rfl ?_
                    refine a_goto 33 dX6_alike_92 (by decide) ?_
                    refine a_sub [2, 3, 4, 1, 5, 0] rfl ?_
                    exact ih33 _ _ (by omega) (by omega) (by simp only [al1]; rw [if_pos (And.intro (by omega) (Int32.not_lt.mp c69)), ← List.append_assoc, List.length_append, hc]; rfl) (by simp only [al1]; rw [if_pos (And.intro (by omega) (Int32.not_lt.mp c69)), ← List.append_assoc, lkF_snoc (by rw [← hc]; omega), if_neg (by rw [← hc]; exact c74)]; exact hf) (by omega)
                  · skip
                    refine a_bipush 10 dX6_alike_77 (by decide) ?_
                    refine a_iload 4 dX6_alike_79 rfl ?_
                    refine a_imulN (a := 10) (b := a) dX6_alike_81 ?_
                    refine a_iload 5 dX6_alike_82 rfl ?_
                    refine a_iaddN (a := 10 * a) (b := k) dX6_alike_84 ?_
                    refine a_ret dX6_alike_85 ⟨⟨ri ?_, ?_⟩, rfl, rfl⟩
                    · have hp1 : ((al2 n dd m a ++ al1 dd m a k) ++ [nI (10 * a + k)]) <+: al2 n dd m n := by
                        refine List.IsPrefix.trans ?_ (al2_pre (k := a + 1) (by omega))
                        simp only [al2]
                        rw [List.append_assoc]
                        refine (List.prefix_append_right_inj _).mpr ?_
                        have h := al1_pre (dd := dd) (m := m) (a := a) (k := k + 1) (j := n) (by omega)
                        simp only [al1] at h
                        rw [if_pos (And.intro (by omega) (Int32.not_lt.mp c69))] at h
                        exact h
                      unfold lkv
                      rw [if_neg (by rw [← c74]; exact nI_nm1 _ (by omega)), lkF_pre (by rw [← hc]; omega) (by rw [← hc]; exact c74) hp1]
                    · rfl
          refine a_sub [1, 2, 3, 4, 5, 0] rfl ?_
          exact L33 _ (a + 1) c (by omega) (by omega) (by rw [al1_0 (Nat.le_refl _), List.append_nil]; exact hc) (by rw [al1_0 (Nat.le_refl _), List.append_nil]; exact hf) (Nat.lt_succ_self _)
    refine a_sub [2, 3, 4, 1, 0] rfl ?_
    exact L15 _ 0 0 (Nat.zero_le _) rfl (lkF_nil _) (Nat.lt_succ_self _)
  · skip
    exact absurd c4 (by rw [hm]; decide)
set_option maxHeartbeats 4000000 in
set_option maxRecDepth 100000 in
theorem c_X6_alike_out {G : GT} {B : Nat} {l : Launch} {H : Heap} {b kr sp : Nat} {fp dr : Int32} {kb : Bool} {ka ks kw : Int32} {n nv : Nat} {kS kU kK kV dd : DD} {m i : Int32} (hm : wIx 28 m = false) (hC : Bc G H b kr sp fp dr kb ka ks kw n nv kS kU kK kV dd) : AM G B l yX6_alike cX6_alike 6 (some .int) 2 0 0 [.ref b, .int m, .int i] H (fun rv H' => rv = some (.int (-1000000002)) ∧ (H' = H)) := by
  have hC0 := hC
  obtain ⟨hb, hK, hD, hkr⟩ := hC
  have hK0 := hK
  have hN := hD
  unfold bxL at hb
  obtain ⟨fS3, fU3, fK3, fV3, hk3, ha3, hb3, hc3, he3, eS3, eU3, eK3, eV3, hn3, hnv3⟩ := hK
  obtain ⟨fS, fU, fO, hd, hs, hu, ho, eS, eU, eO, hn⟩ := hD
  refine AM.ofI (lv := [(0, .ref b), (1, .int m), (2, .int i)]) (by decide +kernel) (Nat.le_of_ble_eq_true rfl) rfl ?_ (fun _ h => by cases h.1)
  refine a_iload_n 1 dX6_alike_0 rfl rfl ?_
  refine a_callSp (As := [.int m]) (rest := []) (d := 0) (mc := 0) (ms := 0) (x := bI (wIx 28 m)) l_X6_213 st_X6_isDistance dX6_alike_1 ⟨Nat.le_of_ble_eq_true rfl, Nat.le_of_ble_eq_true rfl⟩ rfl (Nat.le_of_ble_eq_true rfl) ⟨Nat.le_of_ble_eq_true rfl, Nat.le_of_ble_eq_true rfl⟩ (c_X6_isDistance) ?_
  refine a_ifneB 10 dX6_alike_4 (by decide) (fun c4 => ?_) (fun c4 => ?_)
  · skip
    exact absurd c4 (by rw [hm]; decide)
  · skip
    refine a_ldc (-1000000002) k_X6_69 dX6_alike_7 ?_
    refine a_ret dX6_alike_9 ⟨⟨ri ?_, ?_⟩, rfl, rfl⟩
    · rfl
    · rfl
set_option maxHeartbeats 4000000 in
set_option maxRecDepth 100000 in
theorem c_X6_wake {G : GT} {B : Nat} {l : Launch} {H : Heap} {b kr sp : Nat} {fp dr : Int32} {kb : Bool} {ka ks kw : Int32} {n nv : Nat} {kS kU kK kV dd : DD} {what : Int32} (hq : what = 0 ∨ what = 1) (hC : Bc G H b kr sp fp dr kb ka ks kw n nv kS kU kK kV dd) : AM G B l yX6_wake cX6_wake 6 (some .int) 3 0 0 [.ref b, .int what] H (fun rv H' => rv = some (.int (if what = 0 then (waF n dd 999).1 else (waF n dd 999).2)) ∧ (H' = H)) := by
  have hC0 := hC
  obtain ⟨hb, hK, hD, hkr⟩ := hC
  have hK0 := hK
  have hN := hD
  unfold bxL at hb
  obtain ⟨fS3, fU3, fK3, fV3, hk3, ha3, hb3, hc3, he3, eS3, eU3, eK3, eV3, hn3, hnv3⟩ := hK
  obtain ⟨fS, fU, fO, hd, hs, hu, ho, eS, eU, eO, hn⟩ := hD
  refine AM.ofI (lv := [(0, .ref b), (1, .int what)]) (by decide +kernel) (Nat.le_of_ble_eq_true rfl) rfl ?_ (fun _ h => by cases h.1)
  refine a_iload_n 1 dX6_wake_0 rfl rfl ?_
  refine a_ifeq 12 dX6_wake_1 (by decide) (fun c1 => ?_) (fun c1 => ?_)
  · skip
    refine a_iconst 0 dX6_wake_12 (by decide) ?_
    refine a_istore_n (lv' := [(2, .int 0), (0, .ref b), (1, .int what)]) dX6_wake_13 rfl (by decide) rfl ?_
    refine a_aload_n 1 dX6_wake_14 rfl rfl ?_
    refine a_get f_X6_33 dX6_wake_15 hb rfl ?_
    refine a_iconst 0 dX6_wake_18 (by decide) ?_
    refine a_callVp (As := [.int 0]) (rest := []) (d := 2) (mc := 0) (ms := 0) (x := neF dd 0 n) (ci := 0) l_X6_216 im_X0_nearest se_X0_nearest ⟨_, rfl, rfl⟩ dX6_wake_19 ⟨Nat.le_of_ble_eq_true rfl, Nat.le_of_ble_eq_true rfl⟩ rfl (Nat.le_of_ble_eq_true rfl) ⟨Nat.le_of_ble_eq_true rfl, Nat.le_of_ble_eq_true rfl⟩ hd (c_X0_nearest hN) ?_
    refine a_istore_n (lv' := [(3, .int (neF dd 0 n)), (2, .int 0), (0, .ref b), (1, .int what)]) dX6_wake_22 rfl (by decide) rfl ?_
    refine a_iconst 1 dX6_wake_23 (by decide) ?_
    refine a_istore (lv' := [(4, .int 1), (3, .int (neF dd 0 n)), (2, .int 0), (0, .ref b), (1, .int what)]) dX6_wake_24 (by decide) rfl ?_
    have L26 : ∀ (fu : Nat) (k : Nat) (r m : Int32), k ≤ 999 → waF n dd k = (r, m) → 999 - k < fu → AW G B l { frames := 3, cells := 0, slots := 0, locals := 27 * 3 } yX6_wake.cls cX6_wake 6 false (fun rv H' ce' sl' => (rv = some (.int (if what = 0 then (waF n dd 999).1 else (waF n dd 999).2)) ∧ (H' = H)) ∧ ce' = 0 ∧ sl' = 0) 26 [(0, .ref b), (1, .int what), (2, .int r), (3, .int m), (4, .int (nI (k + 1)))] [] H 0 0 := by
      intro fu
      induction fu with
      | zero => intro k r m hk hg hm26; exact absurd hm26 (Nat.not_lt_zero _)
      | succ fu ih26 =>
        intro k r m hk hg hm26
        refine a_iload 4 dX6_wake_26 rfl ?_
        refine a_sipush 1000 dX6_wake_28 (by decide) ?_
        refine a_icmpgeN (a := k + 1) (b := 1000) 63 dX6_wake_31 (by decide) (by omega) (by omega) (fun c31 => ?_) (fun c31 => ?_)
        · skip
          refine a_iload_n 1 dX6_wake_63 rfl rfl ?_
          refine a_ifne 71 dX6_wake_64 (by decide) (fun c64 => ?_) (fun c64 => ?_)
          · skip
            refine a_iload_n 3 dX6_wake_71 rfl rfl ?_
            refine a_ret dX6_wake_72 ⟨⟨ri ?_, ?_⟩, rfl, rfl⟩
            · have e : 999 = k := by omega
              rw [e, hg]
              rw [if_neg c64]
            · rfl
          · skip
            refine a_iload_n 2 dX6_wake_67 rfl rfl ?_
            refine a_goto 72 dX6_wake_68 (by decide) ?_
            refine a_ret dX6_wake_72 ⟨⟨ri ?_, ?_⟩, rfl, rfl⟩
            · have e : 999 = k := by omega
              rw [e, hg]
              rw [if_pos c64]
            · rfl
        · skip
          refine a_aload_n 0 dX6_wake_34 rfl rfl ?_
          refine a_get f_X6_33 dX6_wake_35 hb rfl ?_
          refine a_iload 4 dX6_wake_38 rfl ?_
          refine a_callVp (As := [.int (nI (k + 1))]) (rest := []) (d := 2) (mc := 0) (ms := 0) (x := neF dd (nI (k + 1)) n) (ci := 0) l_X6_216 im_X0_nearest se_X0_nearest ⟨_, rfl, rfl⟩ dX6_wake_40 ⟨Nat.le_of_ble_eq_true rfl, Nat.le_of_ble_eq_true rfl⟩ rfl (Nat.le_of_ble_eq_true rfl) ⟨Nat.le_of_ble_eq_true rfl, Nat.le_of_ble_eq_true rfl⟩ hd (c_X0_nearest hN) ?_
          refine a_istore (lv' := [(5, .int (neF dd (nI (k + 1)) n)), (0, .ref b), (1, .int what), (2, .int r), (3, .int m), (4, .int (nI (k + 1)))]) dX6_wake_43 (by decide) rfl ?_
          refine a_iload 0 dX6_wake_45 rfl ?_
          refine a_iload_n 4 dX6_wake_47 rfl rfl ?_
          refine a_icmple 57 dX6_wake_48 (by decide) (fun c48 => ?_) (fun c48 => ?_)
          · skip
            have c48 := Int32.not_lt.mpr c48
            refine a_iincN (q := 5) (lv' := [(4, .int (nI (k + 1 + 1))), (5, .int (neF dd (nI (k + 1)) n)), (0, .ref b), (1, .int what), (2, .int r), (3, .int m)]) dX6_wake_57 rfl (by decide) rfl ?_
            refine a_goto 26 dX6_wake_60 (by decide) ?_
            refine a_sub [2, 3, 4, 5, 0] rfl ?_
            exact ih26 _ _ _ (by omega) (by simp only [waF]; rw [hg]; first | rw [if_pos c48] | rw [if_neg c48]) (by omega)
          · skip
            have c48 := Int32.not_le.mp c48
            refine a_iload 5 dX6_wake_51 rfl ?_
            refine a_istore_n (lv' := [(2, .int (nI (k + 1))), (5, .int (neF dd (nI (k + 1)) n)), (0, .ref b), (1, .int what), (3, .int m), (4, .int (nI (k + 1)))]) dX6_wake_53 rfl (by decide) rfl ?_
            refine a_iload 1 dX6_wake_54 rfl ?_
            refine a_istore_n (lv' := [(3, .int (neF dd (nI (k + 1)) n)), (2, .int (nI (k + 1))), (5, .int (neF dd (nI (k + 1)) n)), (0, .ref b), (1, .int what), (4, .int (nI (k + 1)))]) dX6_wake_56 rfl (by decide) rfl ?_
            refine a_iincN (q := 5) (lv' := [(4, .int (nI (k + 1 + 1))), (3, .int (neF dd (nI (k + 1)) n)), (2, .int (nI (k + 1))), (5, .int (neF dd (nI (k + 1)) n)), (0, .ref b), (1, .int what)]) dX6_wake_57 rfl (by decide) rfl ?_
            refine a_goto 26 dX6_wake_60 (by decide) ?_
            refine a_sub [4, 5, 2, 1, 0] rfl ?_
            exact ih26 _ _ _ (by omega) (by simp only [waF]; rw [hg]; first | rw [if_pos c48] | rw [if_neg c48]) (by omega)
    refine a_sub [3, 4, 2, 1, 0] rfl ?_
    exact L26 _ 0 0 _ (Nat.zero_le _) rfl (Nat.lt_succ_self _)
  · skip
    refine a_iload_n 1 dX6_wake_4 rfl rfl ?_
    refine a_iconst 1 dX6_wake_5 (by decide) ?_
    refine a_icmpeq 12 dX6_wake_6 (by decide) (fun c6 => ?_) (fun c6 => ?_)
    · skip
      refine a_iconst 0 dX6_wake_12 (by decide) ?_
      refine a_istore_n (lv' := [(2, .int 0), (0, .ref b), (1, .int what)]) dX6_wake_13 rfl (by decide) rfl ?_
      refine a_aload_n 1 dX6_wake_14 rfl rfl ?_
      refine a_get f_X6_33 dX6_wake_15 hb rfl ?_
      refine a_iconst 0 dX6_wake_18 (by decide) ?_
      refine a_callVp (As := [.int 0]) (rest := []) (d := 2) (mc := 0) (ms := 0) (x := neF dd 0 n) (ci := 0) l_X6_216 im_X0_nearest se_X0_nearest ⟨_, rfl, rfl⟩ dX6_wake_19 ⟨Nat.le_of_ble_eq_true rfl, Nat.le_of_ble_eq_true rfl⟩ rfl (Nat.le_of_ble_eq_true rfl) ⟨Nat.le_of_ble_eq_true rfl, Nat.le_of_ble_eq_true rfl⟩ hd (c_X0_nearest hN) ?_
      refine a_istore_n (lv' := [(3, .int (neF dd 0 n)), (2, .int 0), (0, .ref b), (1, .int what)]) dX6_wake_22 rfl (by decide) rfl ?_
      refine a_iconst 1 dX6_wake_23 (by decide) ?_
      refine a_istore (lv' := [(4, .int 1), (3, .int (neF dd 0 n)), (2, .int 0), (0, .ref b), (1, .int what)]) dX6_wake_24 (by decide) rfl ?_
      have L26 : ∀ (fu : Nat) (k : Nat) (r m : Int32), k ≤ 999 → waF n dd k = (r, m) → 999 - k < fu → AW G B l { frames := 3, cells := 0, slots := 0, locals := 27 * 3 } yX6_wake.cls cX6_wake 6 false (fun rv H' ce' sl' => (rv = some (.int (if what = 0 then (waF n dd 999).1 else (waF n dd 999).2)) ∧ (H' = H)) ∧ ce' = 0 ∧ sl' = 0) 26 [(0, .ref b), (1, .int what), (2, .int r), (3, .int m), (4, .int (nI (k + 1)))] [] H 0 0 := by
        intro fu
        induction fu with
        | zero => intro k r m hk hg hm26; exact absurd hm26 (Nat.not_lt_zero _)
        | succ fu ih26 =>
          intro k r m hk hg hm26
          refine a_iload 4 dX6_wake_26 rfl ?_
          refine a_sipush 1000 dX6_wake_28 (by decide) ?_
          refine a_icmpgeN (a := k + 1) (b := 1000) 63 dX6_wake_31 (by decide) (by omega) (by omega) (fun c31 => ?_) (fun c31 => ?_)
          · skip
            refine a_iload_n 1 dX6_wake_63 rfl rfl ?_
            refine a_ifne 71 dX6_wake_64 (by decide) (fun c64 => ?_) (fun c64 => ?_)
            · skip
              refine a_iload_n 3 dX6_wake_71 rfl rfl ?_
              refine a_ret dX6_wake_72 ⟨⟨ri ?_, ?_⟩, rfl, rfl⟩
              · have e : 999 = k := by omega
                rw [e, hg]
                rw [if_neg c64]
              · rfl
            · skip
              refine a_iload_n 2 dX6_wake_67 rfl rfl ?_
              refine a_goto 72 dX6_wake_68 (by decide) ?_
              refine a_ret dX6_wake_72 ⟨⟨ri ?_, ?_⟩, rfl, rfl⟩
              · have e : 999 = k := by omega
                rw [e, hg]
                rw [if_pos c64]
              · rfl
          · skip
            refine a_aload_n 0 dX6_wake_34 rfl rfl ?_
            refine a_get f_X6_33 dX6_wake_35 hb rfl ?_
            refine a_iload 4 dX6_wake_38 rfl ?_
            refine a_callVp (As := [.int (nI (k + 1))]) (rest := []) (d := 2) (mc := 0) (ms := 0) (x := neF dd (nI (k + 1)) n) (ci := 0) l_X6_216 im_X0_nearest se_X0_nearest ⟨_, rfl, rfl⟩ dX6_wake_40 ⟨Nat.le_of_ble_eq_true rfl, Nat.le_of_ble_eq_true rfl⟩ rfl (Nat.le_of_ble_eq_true rfl) ⟨Nat.le_of_ble_eq_true rfl, Nat.le_of_ble_eq_true rfl⟩ hd (c_X0_nearest hN) ?_
            refine a_istore (lv' := [(5, .int (neF dd (nI (k + 1)) n)), (0, .ref b), (1, .int what), (2, .int r), (3, .int m), (4, .int (nI (k + 1)))]) dX6_wake_43 (by decide) rfl ?_
            refine a_iload 0 dX6_wake_45 rfl ?_
            refine a_iload_n 4 dX6_wake_47 rfl rfl ?_
            refine a_icmple 57 dX6_wake_48 (by decide) (fun c48 => ?_) (fun c48 => ?_)
            · skip
              have c48 := Int32.not_lt.mpr c48
              refine a_iincN (q := 5) (lv' := [(4, .int (nI (k + 1 + 1))), (5, .int (neF dd (nI (k + 1)) n)), (0, .ref b), (1, .int what), (2, .int r), (3, .int m)]) dX6_wake_57 rfl (by decide) rfl ?_
              refine a_goto 26 dX6_wake_60 (by decide) ?_
              refine a_sub [2, 3, 4, 5, 0] rfl ?_
              exact ih26 _ _ _ (by omega) (by simp only [waF]; rw [hg]; first | rw [if_pos c48] | rw [if_neg c48]) (by omega)
            · skip
              have c48 := Int32.not_le.mp c48
              refine a_iload 5 dX6_wake_51 rfl ?_
              refine a_istore_n (lv' := [(2, .int (nI (k + 1))), (5, .int (neF dd (nI (k + 1)) n)), (0, .ref b), (1, .int what), (3, .int m), (4, .int (nI (k + 1)))]) dX6_wake_53 rfl (by decide) rfl ?_
              refine a_iload 1 dX6_wake_54 rfl ?_
              refine a_istore_n (lv' := [(3, .int (neF dd (nI (k + 1)) n)), (2, .int (nI (k + 1))), (5, .int (neF dd (nI (k + 1)) n)), (0, .ref b), (1, .int what), (4, .int (nI (k + 1)))]) dX6_wake_56 rfl (by decide) rfl ?_
              refine a_iincN (q := 5) (lv' := [(4, .int (nI (k + 1 + 1))), (3, .int (neF dd (nI (k + 1)) n)), (2, .int (nI (k + 1))), (5, .int (neF dd (nI (k + 1)) n)), (0, .ref b), (1, .int what)]) dX6_wake_57 rfl (by decide) rfl ?_
              refine a_goto 26 dX6_wake_60 (by decide) ?_
              refine a_sub [4, 5, 2, 1, 0] rfl ?_
              exact ih26 _ _ _ (by omega) (by simp only [waF]; rw [hg]; first | rw [if_pos c48] | rw [if_neg c48]) (by omega)
      refine a_sub [3, 4, 2, 1, 0] rfl ?_
      exact L26 _ 0 0 _ (Nat.zero_le _) rfl (Nat.lt_succ_self _)
    · skip
      exact (hq.elim c1 c6).elim
set_option maxHeartbeats 4000000 in
set_option maxRecDepth 100000 in
theorem c_X6_wake_out {G : GT} {B : Nat} {l : Launch} {H : Heap} {b kr sp : Nat} {fp dr : Int32} {kb : Bool} {ka ks kw : Int32} {n nv : Nat} {kS kU kK kV dd : DD} {what : Int32} (hq : ¬ what = 0) (hq1 : ¬ what = 1) (hC : Bc G H b kr sp fp dr kb ka ks kw n nv kS kU kK kV dd) : AM G B l yX6_wake cX6_wake 6 (some .int) 3 0 0 [.ref b, .int what] H (fun rv H' => rv = some (.int (-1000000002)) ∧ (H' = H)) := by
  have hC0 := hC
  obtain ⟨hb, hK, hD, hkr⟩ := hC
  have hK0 := hK
  have hN := hD
  unfold bxL at hb
  obtain ⟨fS3, fU3, fK3, fV3, hk3, ha3, hb3, hc3, he3, eS3, eU3, eK3, eV3, hn3, hnv3⟩ := hK
  obtain ⟨fS, fU, fO, hd, hs, hu, ho, eS, eU, eO, hn⟩ := hD
  refine AM.ofI (lv := [(0, .ref b), (1, .int what)]) (by decide +kernel) (Nat.le_of_ble_eq_true rfl) rfl ?_ (fun _ h => by cases h.1)
  refine a_iload_n 1 dX6_wake_0 rfl rfl ?_
  refine a_ifeq 12 dX6_wake_1 (by decide) (fun c1 => ?_) (fun c1 => ?_)
  · skip
    exact absurd c1 (hq)
  · skip
    refine a_iload_n 1 dX6_wake_4 rfl rfl ?_
    refine a_iconst 1 dX6_wake_5 (by decide) ?_
    refine a_icmpeq 12 dX6_wake_6 (by decide) (fun c6 => ?_) (fun c6 => ?_)
    · skip
      exact absurd c6 (hq1)
    · skip
      refine a_ldc (-1000000002) k_X6_69 dX6_wake_9 ?_
      refine a_ret dX6_wake_11 ⟨⟨ri ?_, ?_⟩, rfl, rfl⟩
      · rfl
      · rfl
set_option maxHeartbeats 4000000 in
set_option maxRecDepth 100000 in
theorem c_X6_falsely {G : GT} {B : Nat} {l : Launch} {H : Heap} {b kr sp : Nat} {fp dr : Int32} {kb : Bool} {ka ks kw : Int32} {n nv : Nat} {kS kU kK kV dd : DD} {v : Nat} (hv : v < nv) {m : Int32} (hm : wIx 28 m = true) (hC : Bc G H b kr sp fp dr kb ka ks kw n nv kS kU kK kV dd) : AM G B l yX6_falsely cX6_falsely 5 (some .int) 2 0 0 [.ref b, .int (nI v), .int m] H (fun rv H' => rv = some (.int (faF dd kV v kw m n)) ∧ (H' = H)) := by
  have hC0 := hC
  obtain ⟨hb, hK, hD, hkr⟩ := hC
  have hK0 := hK
  have hN := hD
  unfold bxL at hb
  obtain ⟨fS3, fU3, fK3, fV3, hk3, ha3, hb3, hc3, he3, eS3, eU3, eK3, eV3, hn3, hnv3⟩ := hK
  obtain ⟨fS, fU, fO, hd, hs, hu, ho, eS, eU, eO, hn⟩ := hD
  refine AM.ofI (lv := [(0, .ref b), (1, .int (nI v)), (2, .int m)]) (by decide +kernel) (Nat.le_of_ble_eq_true rfl) rfl ?_ (fun _ h => by cases h.1)
  refine a_aload_n 0 dX6_falsely_0 rfl rfl ?_
  refine a_iload_n 1 dX6_falsely_1 rfl rfl ?_
  refine a_callVp (As := [.int (nI v)]) (rest := []) (d := 0) (mc := 0) (ms := 0) (x := bI (wIx nv (nI v))) (ci := 6) l_X6_148 im_X6_isVoice se_X6_isVoice ⟨_, rfl, rfl⟩ dX6_falsely_2 ⟨Nat.le_of_ble_eq_true rfl, Nat.le_of_ble_eq_true rfl⟩ rfl (Nat.le_of_ble_eq_true rfl) ⟨Nat.le_of_ble_eq_true rfl, Nat.le_of_ble_eq_true rfl⟩ hb (c_X6_isVoice hC0) ?_
  refine a_ifneB 11 dX6_falsely_5 (by decide) (fun c5 => ?_) (fun c5 => ?_)
  · skip
    refine a_iload_n 2 dX6_falsely_11 rfl rfl ?_
    refine a_callSp (As := [.int m]) (rest := []) (d := 0) (mc := 0) (ms := 0) (x := bI (wIx 28 m)) l_X6_213 st_X6_isDistance dX6_falsely_12 ⟨Nat.le_of_ble_eq_true rfl, Nat.le_of_ble_eq_true rfl⟩ rfl (Nat.le_of_ble_eq_true rfl) ⟨Nat.le_of_ble_eq_true rfl, Nat.le_of_ble_eq_true rfl⟩ (c_X6_isDistance) ?_
    refine a_ifneB 21 dX6_falsely_15 (by decide) (fun c15 => ?_) (fun c15 => ?_)
    · skip
      refine a_iconst 0 dX6_falsely_21 (by decide) ?_
      refine a_istore_n (lv' := [(3, .int 0), (0, .ref b), (1, .int (nI v)), (2, .int m)]) dX6_falsely_22 rfl (by decide) rfl ?_
      refine a_iconst 0 dX6_falsely_23 (by decide) ?_
      refine a_istore (lv' := [(4, .int 0), (3, .int 0), (0, .ref b), (1, .int (nI v)), (2, .int m)]) dX6_falsely_24 (by decide) rfl ?_
      have L26 : ∀ (fu : Nat) (k : Nat) (r : Int32), k ≤ n → r = faF dd kV v kw m k → n - k < fu → AW G B l { frames := 2, cells := 0, slots := 0, locals := 27 * 2 } yX6_falsely.cls cX6_falsely 5 false (fun rv H' ce' sl' => (rv = some (.int (faF dd kV v kw m n)) ∧ (H' = H)) ∧ ce' = 0 ∧ sl' = 0) 26 [(0, .ref b), (1, .int (nI v)), (2, .int m), (3, .int r), (4, .int (nI k))] [] H 0 0 := by
        intro fu
        induction fu with
        | zero => intro k r hk hg hm26; exact absurd hm26 (Nat.not_lt_zero _)
        | succ fu ih26 =>
          intro k r hk hg hm26
          refine a_iload 4 dX6_falsely_26 rfl ?_
          refine a_aload_n 0 dX6_falsely_28 rfl rfl ?_
          refine a_get f_X6_23 dX6_falsely_29 hb rfl ?_
          refine a_get f_X6_100 dX6_falsely_32 hk3 rfl ?_
          refine a_icmpgeN (a := k) (b := n) 72 dX6_falsely_35 (by decide) (by omega) (by omega) (fun c35 => ?_) (fun c35 => ?_)
          · skip
            refine a_iload_n 3 dX6_falsely_72 rfl rfl ?_
            refine a_ret dX6_falsely_73 ⟨⟨ri ?_, ?_⟩, rfl, rfl⟩
            · rw [hg, show n = k by omega]
            · rfl
          · skip
            refine a_aload_n 0 dX6_falsely_38 rfl rfl ?_
            refine a_iload 4 dX6_falsely_39 rfl ?_
            refine a_iload_n 1 dX6_falsely_41 rfl rfl ?_
            refine a_callVp (As := [.int (nI k), .int (nI v)]) (rest := []) (d := 1) (mc := 0) (ms := 0) (x := spF dd kV k v) (ci := 6) l_X6_182 im_X6_spoken se_X6_spoken ⟨_, rfl, rfl⟩ dX6_falsely_42 ⟨Nat.le_of_ble_eq_true rfl, Nat.le_of_ble_eq_true rfl⟩ rfl (Nat.le_of_ble_eq_true rfl) ⟨Nat.le_of_ble_eq_true rfl, Nat.le_of_ble_eq_true rfl⟩ hb (c_X6_spoken (by omega) hv hC0) ?_
            refine a_aload_n 0 dX6_falsely_45 rfl rfl ?_
            refine a_get f_X6_23 dX6_falsely_46 hb rfl ?_
            refine a_get f_X6_109 dX6_falsely_49 hk3 rfl ?_
            refine a_callSp (As := [.int (spF dd kV k v), .int kw]) (rest := []) (d := 1) (mc := 0) (ms := 0) (x := apF (spF dd kV k v) kw) l_X6_172 st_X6_apart dX6_falsely_52 ⟨Nat.le_of_ble_eq_true rfl, Nat.le_of_ble_eq_true rfl⟩ rfl (Nat.le_of_ble_eq_true rfl) ⟨Nat.le_of_ble_eq_true rfl, Nat.le_of_ble_eq_true rfl⟩ (c_X6_apart) ?_
            refine a_iload_n 2 dX6_falsely_55 rfl rfl ?_
            refine a_icmpgt 66 dX6_falsely_56 (by decide) (fun c56 => ?_) (fun c56 => ?_)
            · skip
              have c56 := Int32.not_le.mpr c56
              refine a_iincN (q := 4) (lv' := [(4, .int (nI (k + 1))), (0, .ref b), (1, .int (nI v)), (2, .int m), (3, .int r)]) dX6_falsely_66 rfl (by decide) rfl ?_
              refine a_goto 26 dX6_falsely_69 (by decide) ?_
              refine a_sub [1, 2, 3, 4, 0] rfl ?_
              exact ih26 _ _ (by omega) (by rw [hg]; simp only [faF]; first | (rw [if_pos c56]; rfl) | rw [if_neg c56]) (by omega)
            · skip
              have c56 := Int32.not_lt.mp c56
              refine a_iload_n 3 dX6_falsely_59 rfl rfl ?_
              refine a_iconst 1 dX6_falsely_60 (by decide) ?_
              refine a_iload 4 dX6_falsely_61 rfl ?_
              refine a_ishl dX6_falsely_63 ?_
              refine a_ior dX6_falsely_64 ?_
              refine a_istore_n (lv' := [(3, .int (r ||| (1 <<< ((nI k) &&& 31)))), (0, .ref b), (1, .int (nI v)), (2, .int m), (4, .int (nI k))]) dX6_falsely_65 rfl (by decide) rfl ?_
              refine a_iincN (q := 4) (lv' := [(4, .int (nI (k + 1))), (3, .int (r ||| (1 <<< ((nI k) &&& 31)))), (0, .ref b), (1, .int (nI v)), (2, .int m)]) dX6_falsely_66 rfl (by decide) rfl ?_
              refine a_goto 26 dX6_falsely_69 (by decide) ?_
              refine a_sub [2, 3, 4, 1, 0] rfl ?_
              exact ih26 _ _ (by omega) (by rw [hg]; simp only [faF]; first | (rw [if_pos c56]; rfl) | rw [if_neg c56]) (by omega)
      refine a_sub [2, 3, 4, 1, 0] rfl ?_
      exact L26 _ 0 0 (Nat.zero_le _) rfl (Nat.lt_succ_self _)
    · skip
      exact absurd c15 (by rw [hm]; decide)
  · skip
    exact absurd c5 (by rw [wIx_nI hv (by omega)]; decide)
set_option maxHeartbeats 4000000 in
set_option maxRecDepth 100000 in
theorem c_X6_falsely_unk {G : GT} {B : Nat} {l : Launch} {H : Heap} {b kr sp : Nat} {fp dr : Int32} {kb : Bool} {ka ks kw : Int32} {n nv : Nat} {kS kU kK kV dd : DD} {v : Int32} (hv : wIx nv v = false) {m : Int32} (hC : Bc G H b kr sp fp dr kb ka ks kw n nv kS kU kK kV dd) : AM G B l yX6_falsely cX6_falsely 5 (some .int) 2 0 0 [.ref b, .int v, .int m] H (fun rv H' => rv = some (.int (-1000000001)) ∧ (H' = H)) := by
  have hC0 := hC
  obtain ⟨hb, hK, hD, hkr⟩ := hC
  have hK0 := hK
  have hN := hD
  unfold bxL at hb
  obtain ⟨fS3, fU3, fK3, fV3, hk3, ha3, hb3, hc3, he3, eS3, eU3, eK3, eV3, hn3, hnv3⟩ := hK
  obtain ⟨fS, fU, fO, hd, hs, hu, ho, eS, eU, eO, hn⟩ := hD
  refine AM.ofI (lv := [(0, .ref b), (1, .int v), (2, .int m)]) (by decide +kernel) (Nat.le_of_ble_eq_true rfl) rfl ?_ (fun _ h => by cases h.1)
  refine a_aload_n 0 dX6_falsely_0 rfl rfl ?_
  refine a_iload_n 1 dX6_falsely_1 rfl rfl ?_
  refine a_callVp (As := [.int v]) (rest := []) (d := 0) (mc := 0) (ms := 0) (x := bI (wIx nv v)) (ci := 6) l_X6_148 im_X6_isVoice se_X6_isVoice ⟨_, rfl, rfl⟩ dX6_falsely_2 ⟨Nat.le_of_ble_eq_true rfl, Nat.le_of_ble_eq_true rfl⟩ rfl (Nat.le_of_ble_eq_true rfl) ⟨Nat.le_of_ble_eq_true rfl, Nat.le_of_ble_eq_true rfl⟩ hb (c_X6_isVoice hC0) ?_
  refine a_ifneB 11 dX6_falsely_5 (by decide) (fun c5 => ?_) (fun c5 => ?_)
  · skip
    exact absurd c5 (by rw [hv]; decide)
  · skip
    refine a_ldc (-1000000001) k_X6_134 dX6_falsely_8 ?_
    refine a_ret dX6_falsely_10 ⟨⟨ri ?_, ?_⟩, rfl, rfl⟩
    · rfl
    · rfl
set_option maxHeartbeats 4000000 in
set_option maxRecDepth 100000 in
theorem c_X6_falsely_out {G : GT} {B : Nat} {l : Launch} {H : Heap} {b kr sp : Nat} {fp dr : Int32} {kb : Bool} {ka ks kw : Int32} {n nv : Nat} {kS kU kK kV dd : DD} {v : Nat} (hv : v < nv) {m : Int32} (hm : wIx 28 m = false) (hC : Bc G H b kr sp fp dr kb ka ks kw n nv kS kU kK kV dd) : AM G B l yX6_falsely cX6_falsely 5 (some .int) 2 0 0 [.ref b, .int (nI v), .int m] H (fun rv H' => rv = some (.int (-1000000002)) ∧ (H' = H)) := by
  have hC0 := hC
  obtain ⟨hb, hK, hD, hkr⟩ := hC
  have hK0 := hK
  have hN := hD
  unfold bxL at hb
  obtain ⟨fS3, fU3, fK3, fV3, hk3, ha3, hb3, hc3, he3, eS3, eU3, eK3, eV3, hn3, hnv3⟩ := hK
  obtain ⟨fS, fU, fO, hd, hs, hu, ho, eS, eU, eO, hn⟩ := hD
  refine AM.ofI (lv := [(0, .ref b), (1, .int (nI v)), (2, .int m)]) (by decide +kernel) (Nat.le_of_ble_eq_true rfl) rfl ?_ (fun _ h => by cases h.1)
  refine a_aload_n 0 dX6_falsely_0 rfl rfl ?_
  refine a_iload_n 1 dX6_falsely_1 rfl rfl ?_
  refine a_callVp (As := [.int (nI v)]) (rest := []) (d := 0) (mc := 0) (ms := 0) (x := bI (wIx nv (nI v))) (ci := 6) l_X6_148 im_X6_isVoice se_X6_isVoice ⟨_, rfl, rfl⟩ dX6_falsely_2 ⟨Nat.le_of_ble_eq_true rfl, Nat.le_of_ble_eq_true rfl⟩ rfl (Nat.le_of_ble_eq_true rfl) ⟨Nat.le_of_ble_eq_true rfl, Nat.le_of_ble_eq_true rfl⟩ hb (c_X6_isVoice hC0) ?_
  refine a_ifneB 11 dX6_falsely_5 (by decide) (fun c5 => ?_) (fun c5 => ?_)
  · skip
    refine a_iload_n 2 dX6_falsely_11 rfl rfl ?_
    refine a_callSp (As := [.int m]) (rest := []) (d := 0) (mc := 0) (ms := 0) (x := bI (wIx 28 m)) l_X6_213 st_X6_isDistance dX6_falsely_12 ⟨Nat.le_of_ble_eq_true rfl, Nat.le_of_ble_eq_true rfl⟩ rfl (Nat.le_of_ble_eq_true rfl) ⟨Nat.le_of_ble_eq_true rfl, Nat.le_of_ble_eq_true rfl⟩ (c_X6_isDistance) ?_
    refine a_ifneB 21 dX6_falsely_15 (by decide) (fun c15 => ?_) (fun c15 => ?_)
    · skip
      exact absurd c15 (by rw [hm]; decide)
    · skip
      refine a_ldc (-1000000002) k_X6_69 dX6_falsely_18 ?_
      refine a_ret dX6_falsely_20 ⟨⟨ri ?_, ?_⟩, rfl, rfl⟩
      · rfl
      · rfl
  · skip
    exact absurd c5 (by rw [wIx_nI hv (by omega)]; decide)
set_option maxHeartbeats 4000000 in
set_option maxRecDepth 100000 in
theorem c_X6_asks {G : GT} {B : Nat} {l : Launch} {H : Heap} {b kr sp : Nat} {fp dr : Int32} {kb : Bool} {ka ks kw : Int32} {n nv : Nat} {kS kU kK kV dd : DD} {much : Int32} (hm : ¬ much < 0) (hm2 : much ≤ 9999) (hC : Bc G H b kr sp fp dr kb ka ks kw n nv kS kU kK kV dd) : AM G B l yX6_asks cX6_asks 4 (some .int) 0 0 0 [.ref b, .int much] H (fun rv H' => rv = some (.int (akR ka (dd 25) much 99 0)) ∧ (H' = H)) := by
  have hC0 := hC
  obtain ⟨hb, hK, hD, hkr⟩ := hC
  have hK0 := hK
  have hN := hD
  unfold bxL at hb
  obtain ⟨fS3, fU3, fK3, fV3, hk3, ha3, hb3, hc3, he3, eS3, eU3, eK3, eV3, hn3, hnv3⟩ := hK
  obtain ⟨fS, fU, fO, hd, hs, hu, ho, eS, eU, eO, hn⟩ := hD
  refine AM.ofI (lv := [(0, .ref b), (1, .int much)]) (by decide +kernel) (Nat.le_of_ble_eq_true rfl) rfl ?_ (fun _ h => by cases h.1)
  refine a_iload_n 1 dX6_asks_0 rfl rfl ?_
  refine a_iflt 11 dX6_asks_1 (by decide) (fun c1 => ?_) (fun c1 => ?_)
  · skip
    exact absurd c1 (hm)
  · skip
    refine a_iload_n 1 dX6_asks_4 rfl rfl ?_
    refine a_sipush 9999 dX6_asks_5 (by decide) ?_
    refine a_icmple 14 dX6_asks_8 (by decide) (fun c8 => ?_) (fun c8 => ?_)
    · skip
      refine a_iconst 0 dX6_asks_14 (by decide) ?_
      refine a_istore_n (lv' := [(2, .int 0), (0, .ref b), (1, .int much)]) dX6_asks_15 rfl (by decide) rfl ?_
      refine a_iconst 0 dX6_asks_16 (by decide) ?_
      refine a_istore_n (lv' := [(3, .int 0), (2, .int 0), (0, .ref b), (1, .int much)]) dX6_asks_17 rfl (by decide) rfl ?_
      have L18 : ∀ (fu : Nat) (k : Nat) (a : Int32), k ≤ 99 → a = akS ka (dd 25) k → akR ka (dd 25) much 99 0 = akR ka (dd 25) much (99 - k) k → 99 - k < fu → AW G B l { frames := 0, cells := 0, slots := 0, locals := 27 * 0 } yX6_asks.cls cX6_asks 4 false (fun rv H' ce' sl' => (rv = some (.int (akR ka (dd 25) much 99 0)) ∧ (H' = H)) ∧ ce' = 0 ∧ sl' = 0) 18 [(0, .ref b), (1, .int much), (2, .int a), (3, .int (nI k))] [] H 0 0 := by
        intro fu
        induction fu with
        | zero => intro k a hk hg hh hm18; exact absurd hm18 (Nat.not_lt_zero _)
        | succ fu ih18 =>
          intro k a hk hg hh hm18
          refine a_iload_n 3 dX6_asks_18 rfl rfl ?_
          refine a_bipush 99 dX6_asks_19 (by decide) ?_
          refine a_icmpgeN (a := k) (b := 99) 57 dX6_asks_21 (by decide) (by omega) (by omega) (fun c21 => ?_) (fun c21 => ?_)
          · skip
            refine a_bipush 99 dX6_asks_57 (by decide) ?_
            refine a_ret dX6_asks_59 ⟨⟨ri ?_, ?_⟩, rfl, rfl⟩
            · rw [hh, show 99 - k = 0 by omega]
              rfl
            · rfl
          · skip
            refine a_iload_n 2 dX6_asks_24 rfl rfl ?_
            refine a_aload_n 0 dX6_asks_25 rfl rfl ?_
            refine a_get f_X6_23 dX6_asks_26 hb rfl ?_
            refine a_get f_X6_103 dX6_asks_29 hk3 rfl ?_
            refine a_aload_n 0 dX6_asks_32 rfl rfl ?_
            refine a_get f_X6_33 dX6_asks_33 hb rfl ?_
            refine a_get f_X6_118 dX6_asks_36 hd rfl ?_
            refine a_iadd dX6_asks_39 ?_
            refine a_iload_n 3 dX6_asks_40 rfl rfl ?_
            refine a_iadd dX6_asks_41 ?_
            refine a_iadd dX6_asks_42 ?_
            refine a_istore_n (lv' := [(2, .int (a + ((ka + (dd 25)) + (nI k)))), (0, .ref b), (1, .int much), (3, .int (nI k))]) dX6_asks_43 rfl (by decide) rfl ?_
            refine a_iload_n 0 dX6_asks_44 rfl rfl ?_
            refine a_iload_n 2 dX6_asks_45 rfl rfl ?_
            refine a_icmple 51 dX6_asks_46 (by decide) (fun c46 => ?_) (fun c46 => ?_)
            · skip
              have c46 := Int32.not_lt.mpr c46
              refine a_iincN (q := 3) (lv' := [(3, .int (nI (k + 1))), (2, .int (a + ((ka + (dd 25)) + (nI k)))), (0, .ref b), (1, .int much)]) dX6_asks_51 rfl (by decide) rfl ?_
              refine a_goto 18 dX6_asks_54 (by decide) ?_
              refine a_sub [2, 3, 1, 0] rfl ?_
              exact ih18 _ _ (by omega) (by rw [hg]; rfl) (by rw [hh, show 99 - k = (99 - (k + 1)) + 1 by omega]; simp only [akR]; exact if_neg (by rw [hg] at c46; exact c46)) (by omega)
            · skip
              have c46 := Int32.not_le.mp c46
              refine a_iload_n 3 dX6_asks_49 rfl rfl ?_
              refine a_ret dX6_asks_50 ⟨⟨ri ?_, ?_⟩, rfl, rfl⟩
              · rw [hh, show 99 - k = (99 - (k + 1)) + 1 by omega]
                simp only [akR]
                exact (if_pos (by rw [hg] at c46; exact c46)).symm
              · rfl
      refine a_sub [2, 3, 1, 0] rfl ?_
      exact L18 _ 0 0 (Nat.zero_le _) rfl rfl (Nat.lt_succ_self _)
    · skip
      exact absurd hm2 c8
set_option maxHeartbeats 4000000 in
set_option maxRecDepth 100000 in
theorem c_X6_asks_out {G : GT} {B : Nat} {l : Launch} {H : Heap} {b kr sp : Nat} {fp dr : Int32} {kb : Bool} {ka ks kw : Int32} {n nv : Nat} {kS kU kK kV dd : DD} {much : Int32} (hm : much < 0 ∨ ¬ much ≤ 9999) (hC : Bc G H b kr sp fp dr kb ka ks kw n nv kS kU kK kV dd) : AM G B l yX6_asks cX6_asks 4 (some .int) 0 0 0 [.ref b, .int much] H (fun rv H' => rv = some (.int (-1000000002)) ∧ (H' = H)) := by
  have hC0 := hC
  obtain ⟨hb, hK, hD, hkr⟩ := hC
  have hK0 := hK
  have hN := hD
  unfold bxL at hb
  obtain ⟨fS3, fU3, fK3, fV3, hk3, ha3, hb3, hc3, he3, eS3, eU3, eK3, eV3, hn3, hnv3⟩ := hK
  obtain ⟨fS, fU, fO, hd, hs, hu, ho, eS, eU, eO, hn⟩ := hD
  refine AM.ofI (lv := [(0, .ref b), (1, .int much)]) (by decide +kernel) (Nat.le_of_ble_eq_true rfl) rfl ?_ (fun _ h => by cases h.1)
  refine a_iload_n 1 dX6_asks_0 rfl rfl ?_
  refine a_iflt 11 dX6_asks_1 (by decide) (fun c1 => ?_) (fun c1 => ?_)
  · skip
    refine a_ldc (-1000000002) k_X6_69 dX6_asks_11 ?_
    refine a_ret dX6_asks_13 ⟨⟨ri ?_, ?_⟩, rfl, rfl⟩
    · rfl
    · rfl
  · skip
    refine a_iload_n 1 dX6_asks_4 rfl rfl ?_
    refine a_sipush 9999 dX6_asks_5 (by decide) ?_
    refine a_icmple 14 dX6_asks_8 (by decide) (fun c8 => ?_) (fun c8 => ?_)
    · skip
      exact (hm.elim c1 (fun h => h c8)).elim
    · skip
      refine a_ldc (-1000000002) k_X6_69 dX6_asks_11 ?_
      refine a_ret dX6_asks_13 ⟨⟨ri ?_, ?_⟩, rfl, rfl⟩
      · rfl
      · rfl
set_option maxHeartbeats 4000000 in
set_option maxRecDepth 100000 in
theorem c_X6_waked {G : GT} {B : Nat} {l : Launch} {H : Heap} {b j : Nat} {q : Int32} (hj : j ≤ 60) (hq : ¬ q < 0) (hq2 : q ≤ 100) : AM G B l yX6_waked cX6_waked 6 (some .int) 0 0 0 [.ref b, .int (nI j), .int q] H (fun rv H' => rv = some (.int ((wkF q j).toInt32)) ∧ (H' = H)) := by
  refine AM.ofI (lv := [(0, .ref b), (1, .int (nI j)), (2, .int q)]) (by decide +kernel) (Nat.le_of_ble_eq_true rfl) rfl ?_ (fun _ h => by cases h.1)
  refine a_iload_n 1 dX6_waked_0 rfl rfl ?_
  refine a_ifltN (a := j) 20 dX6_waked_1 (by decide) (by omega) (fun c1 => ?_) (fun c1 => ?_)
  · skip
    exact c1.elim
  · skip
    refine a_iload_n 1 dX6_waked_4 rfl rfl ?_
    refine a_bipush 60 dX6_waked_5 (by decide) ?_
    refine a_icmpgtN (a := j) (b := 60) 20 dX6_waked_7 (by decide) (by omega) (by omega) (fun c7 => ?_) (fun c7 => ?_)
    · skip
      omega
    · skip
      refine a_iload_n 2 dX6_waked_10 rfl rfl ?_
      refine a_iflt 20 dX6_waked_11 (by decide) (fun c11 => ?_) (fun c11 => ?_)
      · skip
        exact absurd c11 (hq)
      · skip
        refine a_iload_n 2 dX6_waked_14 rfl rfl ?_
        refine a_bipush 100 dX6_waked_15 (by decide) ?_
        refine a_icmple 23 dX6_waked_17 (by decide) (fun c17 => ?_) (fun c17 => ?_)
        · skip
          refine a_ldc2 1000000000 k_X6_226 dX6_waked_23 ?_
          refine a_lstore_n (lv' := [(3, .long 1000000000), (0, .ref b), (1, .int (nI j)), (2, .int q)]) dX6_waked_26 rfl (by decide) rfl ?_
          refine a_iconst 0 dX6_waked_27 (by decide) ?_
          refine a_istore (lv' := [(5, .int 0), (3, .long 1000000000), (0, .ref b), (1, .int (nI j)), (2, .int q)]) dX6_waked_28 (by decide) rfl ?_
          have L30 : ∀ (fu : Nat) (k : Nat) (a : Int64), k ≤ j → a = wkF q k → j - k < fu → AW G B l { frames := 0, cells := 0, slots := 0, locals := 27 * 0 } yX6_waked.cls cX6_waked 6 false (fun rv H' ce' sl' => (rv = some (.int ((wkF q j).toInt32)) ∧ (H' = H)) ∧ ce' = 0 ∧ sl' = 0) 30 [(0, .ref b), (1, .int (nI j)), (2, .int q), (3, .long a), (5, .int (nI k))] [] H 0 0 := by
            intro fu
            induction fu with
            | zero => intro k a hk hg hm30; exact absurd hm30 (Nat.not_lt_zero _)
            | succ fu ih30 =>
              intro k a hk hg hm30
              refine a_iload 4 dX6_waked_30 rfl ?_
              refine a_iload_n 1 dX6_waked_32 rfl rfl ?_
              refine a_icmpgeN (a := k) (b := j) 54 dX6_waked_33 (by decide) (by omega) (by omega) (fun c33 => ?_) (fun c33 => ?_)
              · skip
                refine a_lload_n 3 dX6_waked_54 rfl rfl ?_
                refine a_l2i dX6_waked_55 ?_
                refine a_ret dX6_waked_56 ⟨⟨ri ?_, ?_⟩, rfl, rfl⟩
                · rw [hg, show j = k by omega]
                · rfl
              · skip
                refine a_lload_n 3 dX6_waked_36 rfl rfl ?_
                refine a_bipush 100 dX6_waked_37 (by decide) ?_
                refine a_iload_n 2 dX6_waked_39 rfl rfl ?_
                refine a_isub dX6_waked_40 ?_
                refine a_i2l dX6_waked_41 ?_
                refine a_lmul dX6_waked_42 ?_
                refine a_ldc2 100 k_X6_228 dX6_waked_43 ?_
                refine a_ldiv dX6_waked_46 (by decide +kernel) ?_
                refine a_lstore_n (lv' := [(3, .long ((a * ((100 - q).toInt64)) / 100)), (0, .ref b), (1, .int (nI j)), (2, .int q), (5, .int (nI k))]) dX6_waked_47 rfl (by decide) rfl ?_
                refine a_iincN (q := 4) (lv' := [(5, .int (nI (k + 1))), (3, .long ((a * ((100 - q).toInt64)) / 100)), (0, .ref b), (1, .int (nI j)), (2, .int q)]) dX6_waked_48 rfl (by decide) rfl ?_
                refine a_goto 30 dX6_waked_51 (by decide) ?_
                refine a_sub [2, 3, 4, 1, 0] rfl ?_
                exact ih30 _ _ (by omega) (by rw [hg]; rfl) (by omega)
          refine a_sub [2, 3, 4, 1, 0] rfl ?_
          exact L30 _ 0 _ (Nat.zero_le _) rfl (Nat.lt_succ_self _)
        · skip
          exact absurd hq2 c17
set_option maxHeartbeats 4000000 in
set_option maxRecDepth 100000 in
theorem c_X6_waked_out {G : GT} {B : Nat} {l : Launch} {H : Heap} {b : Nat} {j q : Int32} (hq : j < 0 ∨ ¬ j ≤ 60 ∨ q < 0 ∨ ¬ q ≤ 100) : AM G B l yX6_waked cX6_waked 6 (some .int) 0 0 0 [.ref b, .int j, .int q] H (fun rv H' => rv = some (.int (-1000000002)) ∧ (H' = H)) := by
  refine AM.ofI (lv := [(0, .ref b), (1, .int j), (2, .int q)]) (by decide +kernel) (Nat.le_of_ble_eq_true rfl) rfl ?_ (fun _ h => by cases h.1)
  refine a_iload_n 1 dX6_waked_0 rfl rfl ?_
  refine a_iflt 20 dX6_waked_1 (by decide) (fun c1 => ?_) (fun c1 => ?_)
  · skip
    refine a_ldc (-1000000002) k_X6_69 dX6_waked_20 ?_
    refine a_ret dX6_waked_22 ⟨⟨ri ?_, ?_⟩, rfl, rfl⟩
    · rfl
    · rfl
  · skip
    refine a_iload_n 1 dX6_waked_4 rfl rfl ?_
    refine a_bipush 60 dX6_waked_5 (by decide) ?_
    refine a_icmpgt 20 dX6_waked_7 (by decide) (fun c7 => ?_) (fun c7 => ?_)
    · skip
      refine a_ldc (-1000000002) k_X6_69 dX6_waked_20 ?_
      refine a_ret dX6_waked_22 ⟨⟨ri ?_, ?_⟩, rfl, rfl⟩
      · rfl
      · rfl
    · skip
      refine a_iload_n 2 dX6_waked_10 rfl rfl ?_
      refine a_iflt 20 dX6_waked_11 (by decide) (fun c11 => ?_) (fun c11 => ?_)
      · skip
        refine a_ldc (-1000000002) k_X6_69 dX6_waked_20 ?_
        refine a_ret dX6_waked_22 ⟨⟨ri ?_, ?_⟩, rfl, rfl⟩
        · rfl
        · rfl
      · skip
        refine a_iload_n 2 dX6_waked_14 rfl rfl ?_
        refine a_bipush 100 dX6_waked_15 (by decide) ?_
        refine a_icmple 23 dX6_waked_17 (by decide) (fun c17 => ?_) (fun c17 => ?_)
        · skip
          rcases hq with h | h | h | h
          · exact absurd h c1
          · exact absurd (Int32.not_lt.mp c7) h
          · exact absurd h c11
          · exact absurd c17 h
        · skip
          refine a_ldc (-1000000002) k_X6_69 dX6_waked_20 ?_
          refine a_ret dX6_waked_22 ⟨⟨ri ?_, ?_⟩, rfl, rfl⟩
          · rfl
          · rfl
set_option maxHeartbeats 4000000 in
set_option maxRecDepth 100000 in
theorem c_X6_speaker {G : GT} {B : Nat} {l : Launch} {H : Heap} {b kr sp : Nat} {fp dr : Int32} {kb : Bool} {ka ks kw : Int32} {n nv : Nat} {kS kU kK kV dd : DD} {sn : Nat} {sw sg : Nat → Nat} (hS : Pr G H (b + 104) 6 sn (fun i => nI (sw i)) (fun i => nI (sg i))) (hsw : ∀ i, i < sn → sw i < n) (hC : Bc G H b kr sp fp dr kb ka ks kw n nv kS kU kK kV dd) : AM G B l yX6_speaker cX6_speaker 3 (some .int) 6 0 0 [.ref b] H (fun rv H' => rv = some (.int (spkF n dd kV sw sg sn nv)) ∧ (H' = H)) := by
  have hC0 := hC
  obtain ⟨hb, hK, hD, hkr⟩ := hC
  have hK0 := hK
  have hN := hD
  unfold bxL at hb
  obtain ⟨fS3, fU3, fK3, fV3, hk3, ha3, hb3, hc3, he3, eS3, eU3, eK3, eV3, hn3, hnv3⟩ := hK
  obtain ⟨fS, fU, fO, hd, hs, hu, ho, eS, eU, eO, hn⟩ := hD
  have hS0 := hS
  obtain ⟨fA, fB, hp, hpa, hpb, eA, eB, hct, hcap⟩ := hS
  refine AM.ofI (lv := [(0, .ref b)]) (by decide +kernel) (Nat.le_of_ble_eq_true rfl) rfl ?_ (fun _ h => by cases h.1)
  refine a_iconst 0 dX6_speaker_0 (by decide) ?_
  refine a_istore_n (lv' := [(1, .int 0), (0, .ref b)]) dX6_speaker_1 rfl (by decide) rfl ?_
  refine a_iconst 0 dX6_speaker_2 (by decide) ?_
  refine a_istore_n (lv' := [(2, .int 0), (1, .int 0), (0, .ref b)]) dX6_speaker_3 rfl (by decide) rfl ?_
  have L4 : ∀ (fu : Nat) (k : Nat) (r : Int32), k ≤ nv → r = spkF n dd kV sw sg sn k → nv - k < fu → AW G B l { frames := 6, cells := 0, slots := 0, locals := 27 * 6 } yX6_speaker.cls cX6_speaker 3 false (fun rv H' ce' sl' => (rv = some (.int (spkF n dd kV sw sg sn nv)) ∧ (H' = H)) ∧ ce' = 0 ∧ sl' = 0) 4 [(0, .ref b), (1, .int r), (2, .int (nI k))] [] H 0 0 := by
    intro fu
    induction fu with
    | zero => intro k r hk hg hm4; exact absurd hm4 (Nat.not_lt_zero _)
    | succ fu ih4 =>
      intro k r hk hg hm4
      refine a_iload_n 2 dX6_speaker_4 rfl rfl ?_
      refine a_aload_n 0 dX6_speaker_5 rfl rfl ?_
      refine a_get f_X6_23 dX6_speaker_6 hb rfl ?_
      refine a_get f_X6_112 dX6_speaker_9 hk3 rfl ?_
      refine a_icmpgeN (a := k) (b := nv) 35 dX6_speaker_12 (by decide) (by omega) (by omega) (fun c12 => ?_) (fun c12 => ?_)
      · skip
        refine a_iload_n 1 dX6_speaker_35 rfl rfl ?_
        refine a_ret dX6_speaker_36 ⟨⟨ri ?_, ?_⟩, rfl, rfl⟩
        · rw [hg, show nv = k by omega]
        · rfl
      · skip
        refine a_aload_n 0 dX6_speaker_15 rfl rfl ?_
        refine a_iload_n 2 dX6_speaker_16 rfl rfl ?_
        refine a_callVp (As := [.int (nI k)]) (rest := []) (d := 5) (mc := 0) (ms := 0) (x := bI (csF n dd kV sw sg k sn)) (ci := 6) l_X6_233 im_X6_couldHaveSpoken se_X6_couldHaveSpoken ⟨_, rfl, rfl⟩ dX6_speaker_17 ⟨Nat.le_of_ble_eq_true rfl, Nat.le_of_ble_eq_true rfl⟩ rfl (Nat.le_of_ble_eq_true rfl) ⟨Nat.le_of_ble_eq_true rfl, Nat.le_of_ble_eq_true rfl⟩ hb (c_X6_couldHaveSpoken hS0 hsw (by omega) hC0) ?_
        refine a_ifeqB 29 dX6_speaker_20 (by decide) (fun c20 => ?_) (fun c20 => ?_)
        · skip
          have c20 : ¬ csF n dd kV sw sg k sn = true := by rw [c20]; decide
          refine a_iincN (q := 2) (lv' := [(2, .int (nI (k + 1))), (0, .ref b), (1, .int r)]) dX6_speaker_29 rfl (by decide) rfl ?_
          refine a_goto 4 dX6_speaker_32 (by decide) ?_
          refine a_sub [1, 2, 0] rfl ?_
          exact ih4 _ _ (by omega) (by rw [hg]; simp only [spkF]; first | (rw [if_pos c20]; rfl) | rw [if_neg c20]) (by omega)
        · skip
          refine a_iload_n 1 dX6_speaker_23 rfl rfl ?_
          refine a_iconst 1 dX6_speaker_24 (by decide) ?_
          refine a_iload_n 2 dX6_speaker_25 rfl rfl ?_
          refine a_ishl dX6_speaker_26 ?_
          refine a_ior dX6_speaker_27 ?_
          refine a_istore_n (lv' := [(1, .int (r ||| (1 <<< ((nI k) &&& 31)))), (0, .ref b), (2, .int (nI k))]) dX6_speaker_28 rfl (by decide) rfl ?_
          refine a_iincN (q := 2) (lv' := [(2, .int (nI (k + 1))), (1, .int (r ||| (1 <<< ((nI k) &&& 31)))), (0, .ref b)]) dX6_speaker_29 rfl (by decide) rfl ?_
          refine a_goto 4 dX6_speaker_32 (by decide) ?_
          refine a_sub [2, 1, 0] rfl ?_
          exact ih4 _ _ (by omega) (by rw [hg]; simp only [spkF]; first | (rw [if_pos c20]; rfl) | rw [if_neg c20]) (by omega)
  refine a_sub [2, 1, 0] rfl ?_
  exact L4 _ 0 0 (Nat.zero_le _) rfl (Nat.lt_succ_self _)
set_option maxHeartbeats 4000000 in
set_option maxRecDepth 100000 in
theorem c_X6_sayNext {G : GT} {B : Nat} {l : Launch} {H : Heap} {b kr sp : Nat} {fp dr : Int32} {kb : Bool} {ka ks kw : Int32} {n nv : Nat} {kS kU kK kV dd : DD} {sn : Nat} {sw sg : Nat → Nat} (hS : Pr G H (b + 104) 6 sn (fun i => nI (sw i)) (fun i => nI (sg i))) (hsw : ∀ i, i < sn → sw i < n) (hC : Bc G H b kr sp fp dr kb ka ks kw n nv kS kU kK kV dd) : AM G B l yX6_sayNext cX6_sayNext 6 (some .int) 7 0 0 [.ref b] H (fun rv H' => rv = some (.int ((snF n nv dd kV (spkF n dd kV sw sg sn nv) (cnF n dd kV sw sg sn nv) n).1)) ∧ (H' = H)) := by
  have hC0 := hC
  obtain ⟨hb, hK, hD, hkr⟩ := hC
  have hK0 := hK
  have hN := hD
  unfold bxL at hb
  obtain ⟨fS3, fU3, fK3, fV3, hk3, ha3, hb3, hc3, he3, eS3, eU3, eK3, eV3, hn3, hnv3⟩ := hK
  obtain ⟨fS, fU, fO, hd, hs, hu, ho, eS, eU, eO, hn⟩ := hD
  have hS0 := hS
  obtain ⟨fA, fB, hp, hpa, hpb, eA, eB, hct, hcap⟩ := hS
  refine AM.ofI (lv := [(0, .ref b)]) (by decide +kernel) (Nat.le_of_ble_eq_true rfl) rfl ?_ (fun _ h => by cases h.1)
  refine a_aload_n 0 dX6_sayNext_0 rfl rfl ?_
  refine a_callVp (As := []) (rest := []) (d := 6) (mc := 0) (ms := 0) (x := spkF n dd kV sw sg sn nv) (ci := 6) l_X6_236 im_X6_speaker se_X6_speaker ⟨_, rfl, rfl⟩ dX6_sayNext_1 ⟨Nat.le_of_ble_eq_true rfl, Nat.le_of_ble_eq_true rfl⟩ rfl (Nat.le_of_ble_eq_true rfl) ⟨Nat.le_of_ble_eq_true rfl, Nat.le_of_ble_eq_true rfl⟩ hb (c_X6_speaker hS0 hsw hC0) ?_
  refine a_istore_n (lv' := [(1, .int (spkF n dd kV sw sg sn nv)), (0, .ref b)]) dX6_sayNext_4 rfl (by decide) rfl ?_
  refine a_iconst (-1) dX6_sayNext_5 (by decide) ?_
  refine a_istore_n (lv' := [(2, .int (-1)), (1, .int (spkF n dd kV sw sg sn nv)), (0, .ref b)]) dX6_sayNext_6 rfl (by decide) rfl ?_
  refine a_iload_n 1 dX6_sayNext_7 rfl rfl ?_
  refine a_callSp (As := [.int (spkF n dd kV sw sg sn nv)]) (rest := []) (d := 0) (mc := 0) (ms := 0) (x := bcE (spkF n dd kV sw sg sn nv)) l_X6_239 st_J6_bitCount_0f7a4 dX6_sayNext_8 ⟨Nat.le_of_ble_eq_true rfl, Nat.le_of_ble_eq_true rfl⟩ rfl (Nat.le_of_ble_eq_true rfl) ⟨Nat.le_of_ble_eq_true rfl, Nat.le_of_ble_eq_true rfl⟩ (c_J6_bitCount_0f7a4) ?_
  rw [(spk_cn hnv3).1]
  have hcn := cnF_le (n := n) (dd := dd) (kV := kV) (sw := sw) (sg := sg) (sn := sn) (v := nv)
  refine a_istore_n (lv' := [(3, .int (nI (cnF n dd kV sw sg sn nv))), (2, .int (-1)), (1, .int (spkF n dd kV sw sg sn nv)), (0, .ref b)]) dX6_sayNext_11 rfl (by decide) rfl ?_
  refine a_iconst 0 dX6_sayNext_12 (by decide) ?_
  refine a_istore (lv' := [(4, .int 0), (3, .int (nI (cnF n dd kV sw sg sn nv))), (2, .int (-1)), (1, .int (spkF n dd kV sw sg sn nv)), (0, .ref b)]) dX6_sayNext_13 (by decide) rfl ?_
  have L15 : ∀ (fu : Nat) (k : Nat) (r : Int32) (m : Nat), k ≤ n → snF n nv dd kV (spkF n dd kV sw sg sn nv) (cnF n dd kV sw sg sn nv) k = (r, m) → n - k < fu → AW G B l { frames := 7, cells := 0, slots := 0, locals := 27 * 7 } yX6_sayNext.cls cX6_sayNext 6 false (fun rv H' ce' sl' => (rv = some (.int ((snF n nv dd kV (spkF n dd kV sw sg sn nv) (cnF n dd kV sw sg sn nv) n).1)) ∧ (H' = H)) ∧ ce' = 0 ∧ sl' = 0) 15 [(0, .ref b), (1, .int (spkF n dd kV sw sg sn nv)), (2, .int r), (3, .int (nI m)), (4, .int (nI k))] [] H 0 0 := by
    intro fu
    induction fu with
    | zero => intro k r m hk hg hm15; exact absurd hm15 (Nat.not_lt_zero _)
    | succ fu ih15 =>
      intro k r m hk hg hm15
      have hsl := snF_le (n := n) (nv := nv) (dd := dd) (kV := kV) (set := spkF n dd kV sw sg sn nv) (c := cnF n dd kV sw sg sn nv) (w := k)
      rw [hg] at hsl
      refine a_iload 4 dX6_sayNext_15 rfl ?_
      refine a_aload_n 0 dX6_sayNext_17 rfl rfl ?_
      refine a_get f_X6_23 dX6_sayNext_18 hb rfl ?_
      refine a_get f_X6_100 dX6_sayNext_21 hk3 rfl ?_
      refine a_icmpgeN (a := k) (b := n) 54 dX6_sayNext_24 (by decide) (by omega) (by omega) (fun c24 => ?_) (fun c24 => ?_)
      · skip
        refine a_iload_n 2 dX6_sayNext_54 rfl rfl ?_
        refine a_ret dX6_sayNext_55 ⟨⟨ri ?_, ?_⟩, rfl, rfl⟩
        · have e : n = k := by omega
          have hg2 := congrArg Prod.fst hg
          rw [← e] at hg2
          exact hg2.symm
        · rfl
      · skip
        refine a_aload_n 0 dX6_sayNext_27 rfl rfl ?_
        refine a_iload 4 dX6_sayNext_28 rfl ?_
        refine a_iload_n 1 dX6_sayNext_30 rfl rfl ?_
        refine a_callVp (As := [.int (nI k), .int (spkF n dd kV sw sg sn nv)]) (rest := []) (d := 5) (mc := 0) (ms := 0) (x := nI (gpO n nv dd kV k (spkF n dd kV sw sg sn nv) n)) (ci := 6) l_X6_244 im_X6_greatestPart se_X6_greatestPart ⟨_, rfl, rfl⟩ dX6_sayNext_31 ⟨Nat.le_of_ble_eq_true rfl, Nat.le_of_ble_eq_true rfl⟩ rfl (Nat.le_of_ble_eq_true rfl) ⟨Nat.le_of_ble_eq_true rfl, Nat.le_of_ble_eq_true rfl⟩ hb (c_X6_greatestPart (by omega) hC0) ?_
        have hgp := gpO_le (n := n) (nv := nv) (dd := dd) (kV := kV) (w := k) (set := spkF n dd kV sw sg sn nv) (g := n)
        refine a_istore (lv' := [(5, .int (nI (gpO n nv dd kV k (spkF n dd kV sw sg sn nv) n))), (0, .ref b), (1, .int (spkF n dd kV sw sg sn nv)), (2, .int r), (3, .int (nI m)), (4, .int (nI k))]) dX6_sayNext_34 (by decide) rfl ?_
        refine a_iload 0 dX6_sayNext_36 rfl ?_
        refine a_iload_n 4 dX6_sayNext_38 rfl rfl ?_
        refine a_icmpgeN (a := gpO n nv dd kV k (spkF n dd kV sw sg sn nv) n) (b := m) 48 dX6_sayNext_39 (by decide) (by omega) (by omega) (fun c39 => ?_) (fun c39 => ?_)
        · skip
          have c39 := Nat.not_lt.mpr c39
          refine a_iincN (q := 5) (lv' := [(4, .int (nI (k + 1))), (5, .int (nI (gpO n nv dd kV k (spkF n dd kV sw sg sn nv) n))), (0, .ref b), (1, .int (spkF n dd kV sw sg sn nv)), (2, .int r), (3, .int (nI m))]) dX6_sayNext_48 rfl (by decide) rfl ?_
          refine a_goto 15 dX6_sayNext_51 (by decide) ?_
          refine a_sub [2, 3, 4, 5, 0] rfl ?_
          exact ih15 _ _ _ (by omega) (by simp only [snF]; rw [hg]; first | rw [if_pos c39] | rw [if_neg c39]) (by omega)
        · skip
          refine a_iload 5 dX6_sayNext_42 rfl ?_
          refine a_istore_n (lv' := [(2, .int (nI k)), (5, .int (nI (gpO n nv dd kV k (spkF n dd kV sw sg sn nv) n))), (0, .ref b), (1, .int (spkF n dd kV sw sg sn nv)), (3, .int (nI m)), (4, .int (nI k))]) dX6_sayNext_44 rfl (by decide) rfl ?_
          refine a_iload 1 dX6_sayNext_45 rfl ?_
          refine a_istore_n (lv' := [(3, .int (nI (gpO n nv dd kV k (spkF n dd kV sw sg sn nv) n))), (2, .int (nI k)), (5, .int (nI (gpO n nv dd kV k (spkF n dd kV sw sg sn nv) n))), (0, .ref b), (1, .int (spkF n dd kV sw sg sn nv)), (4, .int (nI k))]) dX6_sayNext_47 rfl (by decide) rfl ?_
          refine a_iincN (q := 5) (lv' := [(4, .int (nI (k + 1))), (3, .int (nI (gpO n nv dd kV k (spkF n dd kV sw sg sn nv) n))), (2, .int (nI k)), (5, .int (nI (gpO n nv dd kV k (spkF n dd kV sw sg sn nv) n))), (0, .ref b), (1, .int (spkF n dd kV sw sg sn nv))]) dX6_sayNext_48 rfl (by decide) rfl ?_
          refine a_goto 15 dX6_sayNext_51 (by decide) ?_
          refine a_sub [4, 5, 2, 1, 0] rfl ?_
          exact ih15 _ _ _ (by omega) (by simp only [snF]; rw [hg]; first | rw [if_pos c39] | rw [if_neg c39]) (by omega)
  refine a_sub [4, 3, 2, 1, 0] rfl ?_
  exact L15 _ 0 _ _ (Nat.zero_le _) rfl (Nat.lt_succ_self _)
set_option maxHeartbeats 4000000 in
set_option maxRecDepth 100000 in
theorem c_X6_judge {G : GT} {B : Nat} {l : Launch} {H : Heap} {b kr sp : Nat} {fp dr : Int32} {kb : Bool} {ka ks kw : Int32} {n nv : Nat} {kS kU kK kV dd : DD} {bn : Nat} {bw : Nat → Nat} {bt : DD} (hS : Pr G H (b + 107) 15 bn (fun i => nI (bw i)) bt) (hsw : ∀ i, i < bn → bw i < n) (hC : Bc G H b kr sp fp dr kb ka ks kw n nv kS kU kK kV dd) : AM G B l yX6_judge cX6_judge 3 (some .int) 1 0 0 [.ref b] H (fun rv H' => rv = some (.int (jdF dd bw bt bn 0)) ∧ (H' = H)) := by
  have hC0 := hC
  obtain ⟨hb, hK, hD, hkr⟩ := hC
  have hK0 := hK
  have hN := hD
  unfold bxL at hb
  obtain ⟨fS3, fU3, fK3, fV3, hk3, ha3, hb3, hc3, he3, eS3, eU3, eK3, eV3, hn3, hnv3⟩ := hK
  obtain ⟨fS, fU, fO, hd, hs, hu, ho, eS, eU, eO, hn⟩ := hD
  have hS0 := hS
  obtain ⟨fA, fB, hp, hpa, hpb, eA, eB, hct, hcap⟩ := hS
  refine AM.ofI (lv := [(0, .ref b)]) (by decide +kernel) (Nat.le_of_ble_eq_true rfl) rfl ?_ (fun _ h => by cases h.1)
  refine a_iconst 0 dX6_judge_0 (by decide) ?_
  refine a_istore_n (lv' := [(1, .int 0), (0, .ref b)]) dX6_judge_1 rfl (by decide) rfl ?_
  have L2 : ∀ (fu : Nat) (k : Nat), k ≤ bn → jdF dd bw bt bn 0 = jdF dd bw bt (bn - k) k → bn - k < fu → AW G B l { frames := 1, cells := 0, slots := 0, locals := 27 * 1 } yX6_judge.cls cX6_judge 3 false (fun rv H' ce' sl' => (rv = some (.int (jdF dd bw bt bn 0)) ∧ (H' = H)) ∧ ce' = 0 ∧ sl' = 0) 2 [(0, .ref b), (1, .int (nI k))] [] H 0 0 := by
    intro fu
    induction fu with
    | zero => intro k hk hh hm2; exact absurd hm2 (Nat.not_lt_zero _)
    | succ fu ih2 =>
      intro k hk hh hm2
      refine a_iload_n 1 dX6_judge_2 rfl rfl ?_
      refine a_aload_n 0 dX6_judge_3 rfl rfl ?_
      refine a_get f_X6_65 dX6_judge_4 hb rfl ?_
      refine a_get f_X6_127 dX6_judge_7 hp rfl ?_
      refine a_icmpgeN (a := k) (b := bn) 60 dX6_judge_10 (by decide) (by omega) (by omega) (fun c10 => ?_) (fun c10 => ?_)
      · skip
        refine a_iconst (-1) dX6_judge_60 (by decide) ?_
        refine a_ret dX6_judge_61 ⟨⟨ri ?_, ?_⟩, rfl, rfl⟩
        · rw [hh, show bn - k = 0 by omega]
          rfl
        · rfl
      · skip
        refine a_aload_n 0 dX6_judge_13 rfl rfl ?_
        refine a_get f_X6_65 dX6_judge_14 hb rfl ?_
        refine a_get f_X6_247 dX6_judge_17 hp rfl ?_
        refine a_iload_n 1 dX6_judge_20 rfl rfl ?_
        refine a_ialdN (j := k) dX6_judge_21 hpa (by omega) (by decide) ?_
        refine a_toeq (nI (bw k)) (eA _ (by omega)) ?_
        refine a_istore_n (lv' := [(2, .int (nI (bw k))), (0, .ref b), (1, .int (nI k))]) dX6_judge_22 rfl (by decide) rfl ?_
        refine a_aload_n 1 dX6_judge_23 rfl rfl ?_
        refine a_iload_n 0 dX6_judge_24 rfl rfl ?_
        refine a_callVp (As := [.int (nI (bw k))]) (rest := []) (d := 0) (mc := 0) (ms := 0) (x := bI (wIx n (nI (bw k)))) (ci := 6) l_X6_131 im_X6_isWord se_X6_isWord ⟨_, rfl, rfl⟩ dX6_judge_25 ⟨Nat.le_of_ble_eq_true rfl, Nat.le_of_ble_eq_true rfl⟩ rfl (Nat.le_of_ble_eq_true rfl) ⟨Nat.le_of_ble_eq_true rfl, Nat.le_of_ble_eq_true rfl⟩ hb (c_X6_isWord hC0) ?_
        refine a_ifeqB 54 dX6_judge_28 (by decide) (fun c28 => ?_) (fun c28 => ?_)
        · skip
          exact absurd c28 (by rw [wIx_nI (hsw k (by omega)) (by omega)]; decide)
        · skip
          have hbk := hsw k (by omega)
          refine a_aload_n 1 dX6_judge_31 rfl rfl ?_
          refine a_get f_X6_33 dX6_judge_32 hb rfl ?_
          refine a_get f_X6_145 dX6_judge_35 hd rfl ?_
          refine a_iload_n 0 dX6_judge_38 rfl rfl ?_
          refine a_ialdN (j := bw k) dX6_judge_39 ho (by omega) (by decide) ?_
          refine a_toeq (dd (16 + bw k)) (eO _ (by omega)) ?_
          refine a_aload_n 1 dX6_judge_40 rfl rfl ?_
          refine a_get f_X6_65 dX6_judge_41 hb rfl ?_
          refine a_get f_X6_250 dX6_judge_44 hp rfl ?_
          refine a_iload_n 2 dX6_judge_47 rfl rfl ?_
          refine a_ialdN (j := k) dX6_judge_48 hpb (by omega) (by decide) ?_
          refine a_toeq (bt k) (eB _ (by omega)) ?_
          refine a_icmpeq 54 dX6_judge_49 (by decide) (fun c49 => ?_) (fun c49 => ?_)
          · skip
            refine a_iincN (q := 2) (lv' := [(1, .int (nI (k + 1))), (2, .int (nI (bw k))), (0, .ref b)]) dX6_judge_54 rfl (by decide) rfl ?_
            refine a_goto 2 dX6_judge_57 (by decide) ?_
            refine a_sub [2, 0] rfl ?_
            exact ih2 _ (by omega) (by rw [hh, show bn - k = (bn - (k + 1)) + 1 by omega]; simp only [jdF]; rw [if_pos c49]) (by omega)
          · skip
            refine a_iload_n 2 dX6_judge_52 rfl rfl ?_
            refine a_ret dX6_judge_53 ⟨⟨ri ?_, ?_⟩, rfl, rfl⟩
            · rw [hh, show bn - k = (bn - (k + 1)) + 1 by omega]
              simp only [jdF]
              rw [if_neg c49]
            · rfl
  refine a_sub [1, 0] rfl ?_
  exact L2 _ 0 (Nat.zero_le _) rfl (Nat.lt_succ_self _)
set_option maxHeartbeats 4000000 in
set_option maxRecDepth 100000 in
theorem c_X6_voice {G : GT} {B : Nat} {l : Launch} {H : Heap} {b kr sp : Nat} {fp dr : Int32} {kb : Bool} {ka ks kw : Int32} {n nv : Nat} {kS kU kK kV dd : DD} {v : Nat} (hv : v < nv) (hC : Bc G H b kr sp fp dr kb ka ks kw n nv kS kU kK kV dd) : AM G B l yX6_voice cX6_voice 2 (some .int) 1 0 0 [.ref b, .int (nI v)] H (fun rv H' => rv = some (.int (kV v)) ∧ (H' = H)) := by
  have hC0 := hC
  obtain ⟨hb, hK, hD, hkr⟩ := hC
  have hK0 := hK
  have hN := hD
  unfold bxL at hb
  obtain ⟨fS3, fU3, fK3, fV3, hk3, ha3, hb3, hc3, he3, eS3, eU3, eK3, eV3, hn3, hnv3⟩ := hK
  obtain ⟨fS, fU, fO, hd, hs, hu, ho, eS, eU, eO, hn⟩ := hD
  refine AM.ofI (lv := [(0, .ref b), (1, .int (nI v))]) (by decide +kernel) (Nat.le_of_ble_eq_true rfl) rfl ?_ (fun _ h => by cases h.1)
  refine a_aload_n 0 dX6_voice_0 rfl rfl ?_
  refine a_iload_n 1 dX6_voice_1 rfl rfl ?_
  refine a_callVp (As := [.int (nI v)]) (rest := []) (d := 0) (mc := 0) (ms := 0) (x := bI (wIx nv (nI v))) (ci := 6) l_X6_148 im_X6_isVoice se_X6_isVoice ⟨_, rfl, rfl⟩ dX6_voice_2 ⟨Nat.le_of_ble_eq_true rfl, Nat.le_of_ble_eq_true rfl⟩ rfl (Nat.le_of_ble_eq_true rfl) ⟨Nat.le_of_ble_eq_true rfl, Nat.le_of_ble_eq_true rfl⟩ hb (c_X6_isVoice hC0) ?_
  refine a_ifeqB 20 dX6_voice_5 (by decide) (fun c5 => ?_) (fun c5 => ?_)
  · skip
    exact absurd c5 (by rw [wIx_nI hv (by omega)]; decide)
  · skip
    refine a_aload_n 0 dX6_voice_8 rfl rfl ?_
    refine a_get f_X6_23 dX6_voice_9 hb rfl ?_
    refine a_get f_X6_151 dX6_voice_12 hk3 rfl ?_
    refine a_iload_n 1 dX6_voice_15 rfl rfl ?_
    refine a_ialdN (j := v) dX6_voice_16 he3 (by omega) (by decide) ?_
    refine a_toeq (kV v) (eV3 _ (by omega)) ?_
    refine a_goto 22 dX6_voice_17 (by decide) ?_
    refine a_ret dX6_voice_22 ⟨⟨ri ?_, ?_⟩, rfl, rfl⟩
    · rfl
    · rfl
set_option maxHeartbeats 4000000 in
set_option maxRecDepth 100000 in
theorem c_X6_voice_unk {G : GT} {B : Nat} {l : Launch} {H : Heap} {b kr sp : Nat} {fp dr : Int32} {kb : Bool} {ka ks kw : Int32} {n nv : Nat} {kS kU kK kV dd : DD} {v : Int32} (hv : wIx nv v = false) (hC : Bc G H b kr sp fp dr kb ka ks kw n nv kS kU kK kV dd) : AM G B l yX6_voice cX6_voice 2 (some .int) 1 0 0 [.ref b, .int v] H (fun rv H' => rv = some (.int (-1000000001)) ∧ (H' = H)) := by
  have hC0 := hC
  obtain ⟨hb, hK, hD, hkr⟩ := hC
  have hK0 := hK
  have hN := hD
  unfold bxL at hb
  obtain ⟨fS3, fU3, fK3, fV3, hk3, ha3, hb3, hc3, he3, eS3, eU3, eK3, eV3, hn3, hnv3⟩ := hK
  obtain ⟨fS, fU, fO, hd, hs, hu, ho, eS, eU, eO, hn⟩ := hD
  refine AM.ofI (lv := [(0, .ref b), (1, .int v)]) (by decide +kernel) (Nat.le_of_ble_eq_true rfl) rfl ?_ (fun _ h => by cases h.1)
  refine a_aload_n 0 dX6_voice_0 rfl rfl ?_
  refine a_iload_n 1 dX6_voice_1 rfl rfl ?_
  refine a_callVp (As := [.int v]) (rest := []) (d := 0) (mc := 0) (ms := 0) (x := bI (wIx nv v)) (ci := 6) l_X6_148 im_X6_isVoice se_X6_isVoice ⟨_, rfl, rfl⟩ dX6_voice_2 ⟨Nat.le_of_ble_eq_true rfl, Nat.le_of_ble_eq_true rfl⟩ rfl (Nat.le_of_ble_eq_true rfl) ⟨Nat.le_of_ble_eq_true rfl, Nat.le_of_ble_eq_true rfl⟩ hb (c_X6_isVoice hC0) ?_
  refine a_ifeqB 20 dX6_voice_5 (by decide) (fun c5 => ?_) (fun c5 => ?_)
  · skip
    refine a_ldc (-1000000001) k_X6_134 dX6_voice_20 ?_
    refine a_ret dX6_voice_22 ⟨⟨ri ?_, ?_⟩, rfl, rfl⟩
    · rfl
    · rfl
  · skip
    exact absurd c5 (by rw [hv]; decide)
set_option maxHeartbeats 4000000 in
set_option maxRecDepth 100000 in
theorem c_X6_fault {G : GT} {B : Nat} {l : Launch} {H : Heap} {b kr sp : Nat} {fp dr : Int32} {kb : Bool} {ka ks kw : Int32} {n nv : Nat} {kS kU kK kV dd : DD} (hC : Bc G H b kr sp fp dr kb ka ks kw n nv kS kU kK kV dd) : AM G B l yX6_fault cX6_fault 1 (some .int) 0 0 0 [.ref b] H (fun rv H' => rv = some (.int fp) ∧ (H' = H)) := by
  have hC0 := hC
  obtain ⟨hb, hK, hD, hkr⟩ := hC
  have hK0 := hK
  have hN := hD
  unfold bxL at hb
  obtain ⟨fS3, fU3, fK3, fV3, hk3, ha3, hb3, hc3, he3, eS3, eU3, eK3, eV3, hn3, hnv3⟩ := hK
  obtain ⟨fS, fU, fO, hd, hs, hu, ho, eS, eU, eO, hn⟩ := hD
  refine AM.ofI (lv := [(0, .ref b)]) (by decide +kernel) (Nat.le_of_ble_eq_true rfl) rfl ?_ (fun _ h => by cases h.1)
  refine a_aload_n 0 dX6_fault_0 rfl rfl ?_
  refine a_get f_X6_16 dX6_fault_1 hb rfl ?_
  refine a_ret dX6_fault_4 ⟨⟨ri ?_, ?_⟩, rfl, rfl⟩
  · rfl
  · rfl
set_option maxHeartbeats 4000000 in
set_option maxRecDepth 100000 in
theorem c_X6_word {G : GT} {B : Nat} {l : Launch} {H : Heap} {b kr sp : Nat} {fp dr : Int32} {kb : Bool} {ka ks kw : Int32} {n nv : Nat} {kS kU kK kV dd : DD} {w : Nat} (hw : w < n) {what : Int32} (hC : Bc G H b kr sp fp dr kb ka ks kw n nv kS kU kK kV dd) : AM G B l yX6_word cX6_word 3 (some .int) 1 0 0 [.ref b, .int (nI w), .int what] H (fun rv H' => rv = some (.int (if what = 0 then dd w else if what = 1 then dd (8 + w) else if what = 2 then kK w else if what = 3 then dd (16 + w) else -1000000002)) ∧ (H' = H)) := by
  have hC0 := hC
  obtain ⟨hb, hK, hD, hkr⟩ := hC
  have hK0 := hK
  have hN := hD
  unfold bxL at hb
  obtain ⟨fS3, fU3, fK3, fV3, hk3, ha3, hb3, hc3, he3, eS3, eU3, eK3, eV3, hn3, hnv3⟩ := hK
  obtain ⟨fS, fU, fO, hd, hs, hu, ho, eS, eU, eO, hn⟩ := hD
  refine AM.ofI (lv := [(0, .ref b), (1, .int (nI w)), (2, .int what)]) (by decide +kernel) (Nat.le_of_ble_eq_true rfl) rfl ?_ (fun _ h => by cases h.1)
  refine a_aload_n 0 dX6_word_0 rfl rfl ?_
  refine a_iload_n 1 dX6_word_1 rfl rfl ?_
  refine a_callVp (As := [.int (nI w)]) (rest := []) (d := 0) (mc := 0) (ms := 0) (x := bI (wIx n (nI w))) (ci := 6) l_X6_131 im_X6_isWord se_X6_isWord ⟨_, rfl, rfl⟩ dX6_word_2 ⟨Nat.le_of_ble_eq_true rfl, Nat.le_of_ble_eq_true rfl⟩ rfl (Nat.le_of_ble_eq_true rfl) ⟨Nat.le_of_ble_eq_true rfl, Nat.le_of_ble_eq_true rfl⟩ hb (c_X6_isWord hC0) ?_
  refine a_ifneB 11 dX6_word_5 (by decide) (fun c5 => ?_) (fun c5 => ?_)
  · skip
    refine a_iload_n 2 dX6_word_11 rfl rfl ?_
    by_cases e0 : what = 0
    · skip
      refine a_toeq 0 e0 ?_
      refine a_tabIn 44 dX6_word_12 (by decide) (by decide) (off := 32) (by rfl) (by decide) ?_
      refine a_aload_n 0 dX6_word_44 rfl rfl ?_
      refine a_get f_X6_33 dX6_word_45 hb rfl ?_
      refine a_get f_X6_135 dX6_word_48 hd rfl ?_
      refine a_iload_n 1 dX6_word_51 rfl rfl ?_
      refine a_ialdN (j := w) dX6_word_52 hs (by omega) (by decide) ?_
      refine a_toeq (dd w) (eS _ (by omega)) ?_
      refine a_ret dX6_word_53 ⟨⟨ri ?_, ?_⟩, rfl, rfl⟩
      · rw [if_pos e0]
      · rfl
    by_cases e1 : what = 1
    · skip
      refine a_toeq 1 e1 ?_
      refine a_tabIn 54 dX6_word_12 (by decide) (by decide) (off := 42) (by rfl) (by decide) ?_
      refine a_aload_n 0 dX6_word_54 rfl rfl ?_
      refine a_get f_X6_33 dX6_word_55 hb rfl ?_
      refine a_get f_X6_139 dX6_word_58 hd rfl ?_
      refine a_iload_n 1 dX6_word_61 rfl rfl ?_
      refine a_ialdN (j := w) dX6_word_62 hu (by omega) (by decide) ?_
      refine a_toeq (dd (8 + w)) (eU _ (by omega)) ?_
      refine a_ret dX6_word_63 ⟨⟨ri ?_, ?_⟩, rfl, rfl⟩
      · rw [if_neg e0, if_pos e1]
      · rfl
    by_cases e2 : what = 2
    · skip
      refine a_toeq 2 e2 ?_
      refine a_tabIn 64 dX6_word_12 (by decide) (by decide) (off := 52) (by rfl) (by decide) ?_
      refine a_aload_n 0 dX6_word_64 rfl rfl ?_
      refine a_get f_X6_23 dX6_word_65 hb rfl ?_
      refine a_get f_X6_142 dX6_word_68 hk3 rfl ?_
      refine a_iload_n 1 dX6_word_71 rfl rfl ?_
      refine a_ialdN (j := w) dX6_word_72 hc3 (by omega) (by decide) ?_
      refine a_toeq (kK w) (eK3 _ (by omega)) ?_
      refine a_ret dX6_word_73 ⟨⟨ri ?_, ?_⟩, rfl, rfl⟩
      · rw [if_neg e0, if_neg e1, if_pos e2]
      · rfl
    by_cases e3 : what = 3
    · skip
      refine a_toeq 3 e3 ?_
      refine a_tabIn 74 dX6_word_12 (by decide) (by decide) (off := 62) (by rfl) (by decide) ?_
      refine a_aload_n 0 dX6_word_74 rfl rfl ?_
      refine a_get f_X6_33 dX6_word_75 hb rfl ?_
      refine a_get f_X6_145 dX6_word_78 hd rfl ?_
      refine a_iload_n 1 dX6_word_81 rfl rfl ?_
      refine a_ialdN (j := w) dX6_word_82 ho (by omega) (by decide) ?_
      refine a_toeq (dd (16 + w)) (eO _ (by omega)) ?_
      refine a_ret dX6_word_83 ⟨⟨ri ?_, ?_⟩, rfl, rfl⟩
      · rw [if_neg e0, if_neg e1, if_neg e2, if_pos e3]
      · rfl
    · skip
      refine a_tabOut 84 dX6_word_12 (by have h0 := lv_neT e0 (a := 0) rfl; have h1 := lv_neT e1 (a := 1) rfl; have h2 := lv_neT e2 (a := 2) rfl; have h3 := lv_neT e3 (a := 3) rfl; omega) (by decide) ?_
      refine a_ldc (-1000000002) k_X6_69 dX6_word_84 ?_
      refine a_ret dX6_word_86 ⟨⟨ri ?_, ?_⟩, rfl, rfl⟩
      · rw [if_neg e0, if_neg e1, if_neg e2, if_neg e3]
      · rfl
  · skip
    exact absurd c5 (by rw [wIx_nI hw (by omega)]; decide)
set_option maxHeartbeats 4000000 in
set_option maxRecDepth 100000 in
theorem c_X6_word_unk {G : GT} {B : Nat} {l : Launch} {H : Heap} {b kr sp : Nat} {fp dr : Int32} {kb : Bool} {ka ks kw : Int32} {n nv : Nat} {kS kU kK kV dd : DD} {w : Int32} (hw : wIx n w = false) {what : Int32} (hC : Bc G H b kr sp fp dr kb ka ks kw n nv kS kU kK kV dd) : AM G B l yX6_word cX6_word 3 (some .int) 1 0 0 [.ref b, .int w, .int what] H (fun rv H' => rv = some (.int (-1000000001)) ∧ (H' = H)) := by
  have hC0 := hC
  obtain ⟨hb, hK, hD, hkr⟩ := hC
  have hK0 := hK
  have hN := hD
  unfold bxL at hb
  obtain ⟨fS3, fU3, fK3, fV3, hk3, ha3, hb3, hc3, he3, eS3, eU3, eK3, eV3, hn3, hnv3⟩ := hK
  obtain ⟨fS, fU, fO, hd, hs, hu, ho, eS, eU, eO, hn⟩ := hD
  refine AM.ofI (lv := [(0, .ref b), (1, .int w), (2, .int what)]) (by decide +kernel) (Nat.le_of_ble_eq_true rfl) rfl ?_ (fun _ h => by cases h.1)
  refine a_aload_n 0 dX6_word_0 rfl rfl ?_
  refine a_iload_n 1 dX6_word_1 rfl rfl ?_
  refine a_callVp (As := [.int w]) (rest := []) (d := 0) (mc := 0) (ms := 0) (x := bI (wIx n w)) (ci := 6) l_X6_131 im_X6_isWord se_X6_isWord ⟨_, rfl, rfl⟩ dX6_word_2 ⟨Nat.le_of_ble_eq_true rfl, Nat.le_of_ble_eq_true rfl⟩ rfl (Nat.le_of_ble_eq_true rfl) ⟨Nat.le_of_ble_eq_true rfl, Nat.le_of_ble_eq_true rfl⟩ hb (c_X6_isWord hC0) ?_
  refine a_ifneB 11 dX6_word_5 (by decide) (fun c5 => ?_) (fun c5 => ?_)
  · skip
    exact absurd c5 (by rw [hw]; decide)
  · skip
    refine a_ldc (-1000000001) k_X6_134 dX6_word_8 ?_
    refine a_ret dX6_word_10 ⟨⟨ri ?_, ?_⟩, rfl, rfl⟩
    · rfl
    · rfl
