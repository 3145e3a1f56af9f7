/-! ===== BEGIN ranges, weeks by draws ===== -/
theorem Pr.to {G : GT} {H : Heap} {p cap ct : Nat} {P Q P' Q' : DD} (h : Pr G H p cap ct P Q) (hP : ∀ i, i < ct → P i = P' i) (hQ : ∀ i, i < ct → Q i = Q' i) : Pr G H p cap ct P' Q' := by
  obtain ⟨fA, fB, h1, h2, h3, h4, h5, h6⟩ := h
  exact ⟨fA, fB, h1, h2, h3, fun i hi => (h4 i hi).trans (hP i hi), fun i hi => (h5 i hi).trans (hQ i hi), h6⟩
theorem nI_rem {a d : Nat} (ha : a < 2 ^ 31) (h0 : 0 < d) (hd : d < 2 ^ 31) : nI a % nI d = nI (a % d) := by
  rw [← irem_eq_mod]; exact pk_rem ha h0 hd
def abN (x y : Nat) : Nat := if y ≤ x then x - y else y - x
theorem abI_nI {x y : Nat} (hx : x < 2 ^ 30) (hy : y < 2 ^ 30) : abI (nI x - nI y) = nI (abN x y) := by
  unfold abI abN
  by_cases h : y ≤ x
  · rw [pk_sub h, if_pos (nI_pos' (by omega)), if_pos h]
  · rw [if_neg (Int32.not_le.mpr (pk_sneg hy (by omega))), if_neg h]
    rw [← pk_sub (by omega : x ≤ y)]
    rw [Int32.zero_sub, Int32.neg_sub]
def apN (a b : Nat) : Nat := abN (a / 100) (b / 100) + abN (a / 10 % 10) (b / 10 % 10) + abN (a % 10) (b % 10)
theorem abN_le {x y m : Nat} (hx : x ≤ m) (hy : y ≤ m) : abN x y ≤ m := by unfold abN; split <;> omega
theorem apN_le {a b : Nat} (ha : a < 1000) (hb : b < 1000) : apN a b ≤ 27 := by
  unfold apN
  have h1 := abN_le (x := a / 100) (y := b / 100) (m := 9) (by omega) (by omega)
  have h2 := abN_le (x := a / 10 % 10) (y := b / 10 % 10) (m := 9) (by omega) (by omega)
  have h3 := abN_le (x := a % 10) (y := b % 10) (m := 9) (by omega) (by omega)
  omega
theorem apF_nI {a b : Nat} (ha : a < 1000) (hb : b < 1000) : apF (nI a) (nI b) = nI (apN a b) := by
  have e1 : (100 : Int32) = nI 100 := rfl
  have e2 : (10 : Int32) = nI 10 := rfl
  unfold apF
  rw [e1, e2, pk_div (by omega) (by decide) (by decide), pk_div (by omega) (by decide) (by decide), pk_div (by omega) (by decide) (by decide), pk_div (by omega) (by decide) (by decide), nI_rem (by omega) (by decide) (by decide), nI_rem (by omega) (by decide) (by decide), nI_rem (by omega) (by decide) (by decide), nI_rem (by omega) (by decide) (by decide)]
  rw [abI_nI (by omega) (by omega), abI_nI (by omega) (by omega), abI_nI (by omega) (by omega), nI_add, nI_add]
  rfl
def shN (a b : Nat) : Nat := (a / 100 + b / 100) % 10 * 100 + (a / 10 + b / 10) % 10 * 10 + (a + b) % 10
theorem shN_lt {a b : Nat} : shN a b < 1000 := by unfold shN; omega
theorem shF_nI {a b : Nat} (ha : a < 1000) (hb : b < 1000) : shF (nI a) (nI b) = nI (shN a b) := by
  have e1 : (100 : Int32) = nI 100 := rfl
  have e2 : (10 : Int32) = nI 10 := rfl
  unfold shF
  rw [e1, e2, pk_div (by omega) (by decide) (by decide), pk_div (by omega) (by decide) (by decide), pk_div (by omega) (by decide) (by decide), pk_div (by omega) (by decide) (by decide), nI_add, nI_add, nI_add, nI_rem (by omega) (by decide) (by decide), nI_rem (by omega) (by decide) (by decide), nI_rem (by omega) (by decide) (by decide), pk_mul, pk_mul, nI_add, nI_add]
  rfl
/-- every number within its bounds -/
def RG (n : Nat) (dd : DD) : Prop := ∀ w, w < n → (∃ a, a < 1000 ∧ dd w = nI a) ∧ (∃ u, u ≤ 99 ∧ dd (8 + w) = nI u) ∧ (∃ t, t ≤ 99 ∧ dd (16 + w) = nI t)
def RV (nv : Nat) (kV : DD) : Prop := ∀ v, v < nv → ∃ a, a < 1000 ∧ kV v = nI a
theorem wt_ok {n : Nat} {dd : DD} {w c : Nat} (hR : RG n dd) (hw : w < n) (hc : c < 1000) : ∃ m, 0 < m ∧ m ≤ 2800 ∧ wtF dd w (nI c) = nI m := by
  obtain ⟨⟨a, ha, ea⟩, ⟨u, hu, eu⟩, -⟩ := hR w hw
  have h1 := apN_le ha hc
  refine ⟨(u + 1) * (28 - apN a c), Nat.mul_pos (by omega) (by omega), Nat.le_trans (Nat.mul_le_mul (show u + 1 ≤ 100 by omega) (show 28 - apN a c ≤ 28 by omega)) (by decide), ?_⟩
  unfold wtF
  rw [ea, eu, apF_nI ha hc, nI_1, show (28 : Int32) = nI 28 from rfl, pk_sub (by omega), pk_mul]
theorem gs_ok {n : Nat} {dd : DD} {c : Nat} (hR : RG n dd) (hc : c < 1000) (k : Nat) (hk : k ≤ n) : (k = 0 ∧ gsF dd (nI c) k = (-1, 0)) ∨ ∃ g m, g < k ∧ 0 < m ∧ m ≤ 2800 ∧ gsF dd (nI c) k = (nI g, nI m) := by
  induction k with
  | zero => exact Or.inl ⟨rfl, rfl⟩
  | succ k ih =>
    obtain ⟨m, h0, hm, em⟩ := wt_ok hR (show k < n by omega) hc
    refine Or.inr ?_
    simp only [gsF]
    rcases ih (by omega) with ⟨rfl, e⟩ | ⟨g, m2, h1, h2, h3, e⟩
    · rw [e, em]
      refine ⟨0, m, by omega, h0, hm, if_pos ?_⟩
      show (0 : Int32) < nI m
      rw [← nI_0]; exact nI_lt h0 (by omega)
    · rw [e, em]
      by_cases h : nI m2 < nI m
      · exact ⟨k, m, by omega, h0, hm, if_pos h⟩
      · exact ⟨g, m2, by omega, h2, h3, if_neg h⟩
theorem gu_ok {n : Nat} {dd : DD} {c : Nat} (hR : RG n dd) (hc : c < 1000) (hn : 0 < n) : ∃ g, g < n ∧ guF n dd (nI c) = nI g := by
  rcases gs_ok hR hc n (Nat.le_refl _) with ⟨rfl, -⟩ | ⟨g, m, h1, -, -, e⟩
  · omega
  · exact ⟨g, h1, by unfold guF; rw [e]⟩
theorem sp_ok {n nv : Nat} {dd kV : DD} {w v : Nat} (hR : RG n dd) (hV : RV nv kV) (hw : w < n) (hv : v < nv) : ∃ c, c < 1000 ∧ spF dd kV w v = nI c := by
  obtain ⟨⟨a, ha, ea⟩, -⟩ := hR w hw
  obtain ⟨b, hb, eb⟩ := hV v hv
  exact ⟨shN a b, shN_lt, by unfold spF; rw [ea, eb, shF_nI ha hb]⟩
theorem mn_ok {u k : Nat} (hu : u ≤ 99) (hk : k ≤ 2) : ∃ m, m ≤ 99 ∧ mnF (nI u + nI k) = nI m := by
  refine ⟨min (u + k) 99, Nat.min_le_right _ _, ?_⟩
  unfold mnF
  rw [nI_add]
  exact mnN (b := 99) (by omega) (by decide)
theorem ls_ok {u : Nat} (hu : u ≤ 99) : ∃ m, m ≤ 99 ∧ lsF (nI u) = nI m := by
  unfold lsF
  cases u with
  | zero => exact ⟨0, by decide, by decide⟩
  | succ u =>
    refine ⟨u, by omega, ?_⟩
    rw [nI_pred, if_neg (nI_pos (by omega))]
theorem hr_ok {n : Nat} {dd : DD} {g : Nat} {what : Int32} (hn : n ≤ 8) (hR : RG n dd) (hg : g < n) : RG n (hrF dd g what) := by
  intro w hw
  obtain ⟨⟨a, ha, ea⟩, ⟨u, hu, eu⟩, ⟨t, ht, et⟩⟩ := hR w hw
  refine ⟨⟨a, ha, ?_⟩, ⟨u, hu, ?_⟩, ?_⟩
  · unfold hrF; rw [if_neg (by omega), if_neg (by omega), if_neg (by omega), if_neg (by omega)]; exact ea
  · unfold hrF; rw [if_neg (by omega), if_neg (by omega), if_neg (by omega), if_neg (by omega)]; exact eu
  · unfold hrF
    rw [if_neg (by omega), if_neg (by omega), if_neg (by omega)]
    by_cases e : w = g
    · subst e
      rw [if_pos rfl]
      by_cases h : what = 0
      · rw [if_pos h, et]; exact mn_ok ht (k := 1) (by decide)
      · rw [if_neg h]; exact ⟨t, ht, et⟩
    · rw [if_neg (by omega)]; exact ⟨t, ht, et⟩
theorem cf_ok {n : Nat} {dd : DD} {g : Nat} (hn : n ≤ 8) (hR : RG n dd) (hg : g < n) : RG n (cfF dd g) := by
  intro w hw
  obtain ⟨⟨a, ha, ea⟩, ⟨u, hu, eu⟩, ⟨t, ht, et⟩⟩ := hR w hw
  refine ⟨⟨a, ha, ?_⟩, ?_, ⟨t, ht, ?_⟩⟩
  · unfold cfF; rw [if_neg (by omega), if_neg (by omega)]; exact ea
  · unfold cfF
    rw [if_neg (by omega)]
    by_cases e : w = g
    · subst e; rw [if_pos rfl, eu]; exact mn_ok hu (k := 1) (by decide)
    · rw [if_neg (by omega)]; exact ⟨u, hu, eu⟩
  · unfold cfF; rw [if_neg (by omega), if_neg (by omega)]; exact et
theorem cr_ok {n : Nat} {dd : DD} {g w : Nat} (hn : n ≤ 8) (hR : RG n dd) (hg : g < n) (hw : w < n) : RG n (crF dd g w) := by
  intro x hx
  obtain ⟨⟨a, ha, ea⟩, ⟨u, hu, eu⟩, ⟨t, ht, et⟩⟩ := hR x hx
  refine ⟨⟨a, ha, ?_⟩, ?_, ?_⟩
  · unfold crF; rw [if_neg (by omega), if_neg (by omega), if_neg (by omega), if_neg (by omega), if_neg (by omega)]; exact ea
  · unfold crF
    rw [if_neg (by omega), if_neg (by omega)]
    by_cases e : x = g
    · subst e; rw [if_pos rfl, eu]; exact ls_ok hu
    · rw [if_neg (by omega)]
      by_cases e2 : x = w
      · subst e2; rw [if_pos rfl, eu]; exact mn_ok hu (k := 2) (by decide)
      · rw [if_neg (by omega), if_neg (by omega)]; exact ⟨u, hu, eu⟩
  · unfold crF
    rw [if_neg (by omega)]
    by_cases e : x = g
    · subst e; rw [if_pos rfl, et]; exact ls_ok ht
    · rw [if_neg (by omega), if_neg (by omega), if_neg (by omega)]
      by_cases e2 : x = w
      · subst e2; rw [if_pos rfl, et]; exact mn_ok ht (k := 1) (by decide)
      · rw [if_neg (by omega)]; exact ⟨t, ht, et⟩
/-- one word by draws -/
def dfX (n nv : Nat) (kK kV : DD) (ka ks : Int32) (r : DD × Nat) : DD × Nat :=
  let v := drF r.2 nv
  let w := drF (sdF r.2) n
  let s := spF r.1 kV w v
  let g := (guF n r.1 s).toNatClampNeg
  let d1 := hrF r.1 g (ruF n r.1 kK ka ks s)
  (if drF (sdF (sdF r.2)) 3 = 0 ∧ g ≠ w then crF d1 g w else cfF d1 g, sdF (sdF (sdF r.2)))
def dfS (n nv : Nat) (kK kV : DD) (ka ks : Int32) (dd : DD) (sd : Nat) : Nat → DD × Nat
  | 0 => (dd, sd)
  | k + 1 => dfX n nv kK kV ka ks (dfS n nv kK kV ka ks dd sd k)
theorem sdF_lt {sd : Nat} : sdF sd < 2 ^ 31 := Nat.mod_lt _ (by decide)
theorem drF_lt {sd k : Nat} (h : 0 < k) : drF sd k < k := Nat.mod_lt _ h
/-! ===== END ===== -/

set_option maxHeartbeats 4000000 in
set_option maxRecDepth 100000 in
theorem c_X6_see {G : GT} {B : Nat} {l : Launch} {H : Heap} {b : Nat} {tx : Nat → Nat} {L : Nat} {fp : Int32} {kb : Bool} {ka ks kw : Int32} {n nv : Nat} {kK kV dd : DD} {sd nx ct : Nat} {pu : Nat → DD} {sn : Nat} {sw sg : Nat → Nat} {bn : Nat} {bw : Nat → Nat} {bt : DD} {ik : Nat → Bool} {iD : Nat → DD} {iS : Nat → Nat} {w g : Nat} (hw : w < n) (hg : g < n) (hlt : sn < 6) (hX : Bx G H b tx L fp kb ka ks kw n nv kK kV dd sd nx ct pu sn sw sg bn bw bt ik iD iS) (hB : B ≤ b) : AM G B l yX6_see cX6_see 3 (some .int) 1 0 0 [.ref b, .int (nI w), .int (nI g)] H (fun rv H' => rv = some (.int (nI (sn + 1))) ∧ (Bx G H' b tx L fp kb ka ks kw n nv kK kV dd sd nx ct pu (sn + 1) (fun i => if i = sn then w else sw i) (fun i => if i = sn then g else sg i) bn bw bt ik iD iS ∧ ∀ q : Nat, ¬ (b ≤ q ∧ q < b + 120) → H'[q]? = H[q]?)) := by
  have hX0 := hX
  obtain ⟨kr, sp, kS, kU, hC, hR2, hK2, hT2, hPs, hSe, hBo, hIm⟩ := hX
  have hC0 := hC
  obtain ⟨hb, hK, hD, hkr⟩ := hC
  have hK0 := hK
  have hN := hD
  unfold bxL at hb
  obtain ⟨fS3, fU3, fK3, fV3, hk3, ha3, hb3, hc3, he3, eS3, eU3, eK3, eV3, hn3, hnv3⟩ := hK
  obtain ⟨fS, fU, fO, hd, hs, hu, ho, eS, eU, eO, hn⟩ := hD
  have hpo := hPs.1
  have hse := hSe
  have hbo := hBo
  obtain ⟨fA, fB, hsp, hsa, hsb, eA, eB, hsN, -⟩ := hse
  obtain ⟨fA2, fB2, hbp, hba, hbb, eA2, eB2, hbN, -⟩ := hbo
  have hF : ∀ q : Nat, ¬ (b + 104 ≤ q ∧ q < b + 107) → H[q]? = H[q]? := fun _ _ => rfl
  refine AM.ofI (lv := [(0, .ref b), (1, .int (nI w)), (2, .int (nI g))]) (by decide +kernel) (Nat.le_of_ble_eq_true rfl) rfl ?_ (fun _ h => by cases h.1)
  refine a_aload_n 0 dX6_see_0 rfl rfl ?_
  refine a_iload_n 1 dX6_see_1 rfl rfl ?_
  refine a_callVp (As := [.int (nI w)]) (rest := []) (d := 0) (mc := 0) (ms := 0) (x := bI (wIx n (nI w))) (ci := 6) l_X6_131 im_X6_isWord se_X6_isWord ⟨_, rfl, rfl⟩ dX6_see_2 ⟨Nat.le_of_ble_eq_true rfl, Nat.le_of_ble_eq_true rfl⟩ rfl (Nat.le_of_ble_eq_true rfl) ⟨Nat.le_of_ble_eq_true rfl, Nat.le_of_ble_eq_true rfl⟩ hb (c_X6_isWord hC0) ?_
  refine a_ifeqB 16 dX6_see_5 (by decide) (fun c5 => ?_) (fun c5 => ?_)
  · skip
    exact absurd c5 (by rw [wIx_nI hw (by omega)]; decide)
  · skip
    refine a_aload_n 0 dX6_see_8 rfl rfl ?_
    refine a_iload_n 2 dX6_see_9 rfl rfl ?_
    refine a_callVp (As := [.int (nI g)]) (rest := []) (d := 0) (mc := 0) (ms := 0) (x := bI (wIx n (nI g))) (ci := 6) l_X6_131 im_X6_isWord se_X6_isWord ⟨_, rfl, rfl⟩ dX6_see_10 ⟨Nat.le_of_ble_eq_true rfl, Nat.le_of_ble_eq_true rfl⟩ rfl (Nat.le_of_ble_eq_true rfl) ⟨Nat.le_of_ble_eq_true rfl, Nat.le_of_ble_eq_true rfl⟩ hb (c_X6_isWord hC0) ?_
    refine a_ifneB 19 dX6_see_13 (by decide) (fun c13 => ?_) (fun c13 => ?_)
    · skip
      refine a_aload_n 0 dX6_see_19 rfl rfl ?_
      refine a_get f_X6_61 dX6_see_20 hb rfl ?_
      refine a_iload_n 1 dX6_see_23 rfl rfl ?_
      refine a_iload_n 2 dX6_see_24 rfl rfl ?_
      refine a_callVi (As := [.int (nI w), .int (nI g)]) (rest := []) (d := 0) (mc := 0) (ms := 0) (x := bI (decide (sn < 6))) (ci := 3) l_X6_230 im_X3_append se_X3_append ⟨_, rfl, rfl⟩ dX6_see_25 ⟨Nat.le_of_ble_eq_true rfl, Nat.le_of_ble_eq_true rfl⟩ rfl (Nat.le_of_ble_eq_true rfl) ⟨Nat.le_of_ble_eq_true rfl, Nat.le_of_ble_eq_true rfl⟩ hsp (c_X3_append hSe (by omega)) (fun H3 hp3 => ?_)
      obtain ⟨hSe1, hfr⟩ := hp3
      rw [if_pos hlt, if_pos hlt, if_pos hlt] at hSe1
      have hSe2 := hSe1.to (P' := fun i => nI ((fun i => if i = sn then w else sw i) i)) (Q' := fun i => nI ((fun i => if i = sn then g else sg i) i)) (fun i hi => by simp only [upd]; split <;> rfl) (fun i hi => by simp only [upd]; split <;> rfl)
      obtain ⟨fA9, fB9, hsp, -⟩ := hSe1
      have hb := hb.kept (hfr _ (by omega))
      have hk3 := hk3.kept (hfr _ (by omega))
      have ha3 := ha3.kept (hfr _ (by omega))
      have hb3 := hb3.kept (hfr _ (by omega))
      have hc3 := hc3.kept (hfr _ (by omega))
      have he3 := he3.kept (hfr _ (by omega))
      have hd := hd.kept (hfr _ (by omega))
      have hs := hs.kept (hfr _ (by omega))
      have hu := hu.kept (hfr _ (by omega))
      have ho := ho.kept (hfr _ (by omega))
      have hpo := hpo.kept (hfr _ (by omega))
      have hbp := hbp.kept (hfr _ (by omega))
      have hF : ∀ q : Nat, ¬ (b + 104 ≤ q ∧ q < b + 107) → H3[q]? = H[q]? := fun q hq => (hfr q (by omega)).trans (hF q hq)
      refine a_ifeqB 41 dX6_see_28 (by decide) (fun c28 => ?_) (fun c28 => ?_)
      · skip
        exact absurd c28 (by rw [decide_eq_true hlt]; decide)
      · skip
        refine a_aload_n 0 dX6_see_31 rfl rfl ?_
        refine a_get f_X6_61 dX6_see_32 hb rfl ?_
        refine a_get f_X6_127 dX6_see_35 hsp rfl ?_
        refine a_goto 43 dX6_see_38 (by decide) ?_
        refine a_ret dX6_see_43 ⟨⟨ri ?_, ?_⟩, rfl, rfl⟩
        · rfl
        · exact ⟨⟨kr, sp, kS, kU, hC0.kept (fun q a c => hF q (by omega)), hR2.kept (fun q a c => hF q (by omega)), hK2.kept (fun q a c => hF q (by omega)), hT2.kept (fun q a c => hF q (by omega)), hPs.kept (fun q a c => hF q (by omega)), hSe2, hBo.kept (fun q a c => hF q (by omega)), hIm.kept (fun q a => hF q (by omega))⟩, fun q hq => hF q (by omega)⟩
    · skip
      exact absurd c13 (by rw [wIx_nI hg (by omega)]; decide)
set_option maxHeartbeats 4000000 in
set_option maxRecDepth 100000 in
theorem c_X6_see_unk {G : GT} {B : Nat} {l : Launch} {H : Heap} {b : Nat} {tx : Nat → Nat} {L : Nat} {fp : Int32} {kb : Bool} {ka ks kw : Int32} {n nv : Nat} {kK kV dd : DD} {sd nx ct : Nat} {pu : Nat → DD} {sn : Nat} {sw sg : Nat → Nat} {bn : Nat} {bw : Nat → Nat} {bt : DD} {ik : Nat → Bool} {iD : Nat → DD} {iS : Nat → Nat} {w g : Int32} (hq : wIx n w = false ∨ wIx n g = false) (hX : Bx G H b tx L fp kb ka ks kw n nv kK kV dd sd nx ct pu sn sw sg bn bw bt ik iD iS) (hB : B ≤ b) : AM G B l yX6_see cX6_see 3 (some .int) 1 0 0 [.ref b, .int w, .int g] H (fun rv H' => rv = some (.int (-1000000001)) ∧ (H' = H)) := by
  have hX0 := hX
  obtain ⟨kr, sp, kS, kU, hC, hR2, hK2, hT2, hPs, hSe, hBo, hIm⟩ := hX
  have hC0 := hC
  obtain ⟨hb, hK, hD, hkr⟩ := hC
  have hK0 := hK
  have hN := hD
  unfold bxL at hb
  obtain ⟨fS3, fU3, fK3, fV3, hk3, ha3, hb3, hc3, he3, eS3, eU3, eK3, eV3, hn3, hnv3⟩ := hK
  obtain ⟨fS, fU, fO, hd, hs, hu, ho, eS, eU, eO, hn⟩ := hD
  have hpo := hPs.1
  have hse := hSe
  have hbo := hBo
  obtain ⟨fA, fB, hsp, hsa, hsb, eA, eB, hsN, -⟩ := hse
  obtain ⟨fA2, fB2, hbp, hba, hbb, eA2, eB2, hbN, -⟩ := hbo
  refine AM.ofI (lv := [(0, .ref b), (1, .int w), (2, .int g)]) (by decide +kernel) (Nat.le_of_ble_eq_true rfl) rfl ?_ (fun _ h => by cases h.1)
  refine a_aload_n 0 dX6_see_0 rfl rfl ?_
  refine a_iload_n 1 dX6_see_1 rfl rfl ?_
  refine a_callVp (As := [.int w]) (rest := []) (d := 0) (mc := 0) (ms := 0) (x := bI (wIx n w)) (ci := 6) l_X6_131 im_X6_isWord se_X6_isWord ⟨_, rfl, rfl⟩ dX6_see_2 ⟨Nat.le_of_ble_eq_true rfl, Nat.le_of_ble_eq_true rfl⟩ rfl (Nat.le_of_ble_eq_true rfl) ⟨Nat.le_of_ble_eq_true rfl, Nat.le_of_ble_eq_true rfl⟩ hb (c_X6_isWord hC0) ?_
  refine a_ifeqB 16 dX6_see_5 (by decide) (fun c5 => ?_) (fun c5 => ?_)
  · skip
    refine a_ldc (-1000000001) k_X6_134 dX6_see_16 ?_
    refine a_ret dX6_see_18 ⟨⟨ri ?_, ?_⟩, rfl, rfl⟩
    · rfl
    · rfl
  · skip
    refine a_aload_n 0 dX6_see_8 rfl rfl ?_
    refine a_iload_n 2 dX6_see_9 rfl rfl ?_
    refine a_callVp (As := [.int g]) (rest := []) (d := 0) (mc := 0) (ms := 0) (x := bI (wIx n g)) (ci := 6) l_X6_131 im_X6_isWord se_X6_isWord ⟨_, rfl, rfl⟩ dX6_see_10 ⟨Nat.le_of_ble_eq_true rfl, Nat.le_of_ble_eq_true rfl⟩ rfl (Nat.le_of_ble_eq_true rfl) ⟨Nat.le_of_ble_eq_true rfl, Nat.le_of_ble_eq_true rfl⟩ hb (c_X6_isWord hC0) ?_
    refine a_ifneB 19 dX6_see_13 (by decide) (fun c13 => ?_) (fun c13 => ?_)
    · skip
      rcases hq with h | h
      · exact absurd c5 (by rw [h]; decide)
      · exact absurd c13 (by rw [h]; decide)
    · skip
      refine a_ldc (-1000000001) k_X6_134 dX6_see_16 ?_
      refine a_ret dX6_see_18 ⟨⟨ri ?_, ?_⟩, rfl, rfl⟩
      · rfl
      · rfl
set_option maxHeartbeats 4000000 in
set_option maxRecDepth 100000 in
theorem c_X6_see_full {G : GT} {B : Nat} {l : Launch} {H : Heap} {b : Nat} {tx : Nat → Nat} {L : Nat} {fp : Int32} {kb : Bool} {ka ks kw : Int32} {n nv : Nat} {kK kV dd : DD} {sd nx ct : Nat} {pu : Nat → DD} {sn : Nat} {sw sg : Nat → Nat} {bn : Nat} {bw : Nat → Nat} {bt : DD} {ik : Nat → Bool} {iD : Nat → DD} {iS : Nat → Nat} {w g : Nat} (hw : w < n) (hg : g < n) (hlt : sn = 6) (hX : Bx G H b tx L fp kb ka ks kw n nv kK kV dd sd nx ct pu sn sw sg bn bw bt ik iD iS) (hB : B ≤ b) : AM G B l yX6_see cX6_see 3 (some .int) 1 0 0 [.ref b, .int (nI w), .int (nI g)] H (fun rv H' => rv = some (.int (-1000000004)) ∧ (Bx G H' b tx L fp kb ka ks kw n nv kK kV dd sd nx ct pu sn sw sg bn bw bt ik iD iS ∧ ∀ q : Nat, ¬ (b ≤ q ∧ q < b + 120) → H'[q]? = H[q]?)) := by
  have hX0 := hX
  obtain ⟨kr, sp, kS, kU, hC, hR2, hK2, hT2, hPs, hSe, hBo, hIm⟩ := hX
  have hC0 := hC
  obtain ⟨hb, hK, hD, hkr⟩ := hC
  have hK0 := hK
  have hN := hD
  unfold bxL at hb
  obtain ⟨fS3, fU3, fK3, fV3, hk3, ha3, hb3, hc3, he3, eS3, eU3, eK3, eV3, hn3, hnv3⟩ := hK
  obtain ⟨fS, fU, fO, hd, hs, hu, ho, eS, eU, eO, hn⟩ := hD
  have hpo := hPs.1
  have hse := hSe
  have hbo := hBo
  obtain ⟨fA, fB, hsp, hsa, hsb, eA, eB, hsN, -⟩ := hse
  obtain ⟨fA2, fB2, hbp, hba, hbb, eA2, eB2, hbN, -⟩ := hbo
  have hF : ∀ q : Nat, ¬ (b + 104 ≤ q ∧ q < b + 107) → H[q]? = H[q]? := fun _ _ => rfl
  refine AM.ofI (lv := [(0, .ref b), (1, .int (nI w)), (2, .int (nI g))]) (by decide +kernel) (Nat.le_of_ble_eq_true rfl) rfl ?_ (fun _ h => by cases h.1)
  refine a_aload_n 0 dX6_see_0 rfl rfl ?_
  refine a_iload_n 1 dX6_see_1 rfl rfl ?_
  refine a_callVp (As := [.int (nI w)]) (rest := []) (d := 0) (mc := 0) (ms := 0) (x := bI (wIx n (nI w))) (ci := 6) l_X6_131 im_X6_isWord se_X6_isWord ⟨_, rfl, rfl⟩ dX6_see_2 ⟨Nat.le_of_ble_eq_true rfl, Nat.le_of_ble_eq_true rfl⟩ rfl (Nat.le_of_ble_eq_true rfl) ⟨Nat.le_of_ble_eq_true rfl, Nat.le_of_ble_eq_true rfl⟩ hb (c_X6_isWord hC0) ?_
  refine a_ifeqB 16 dX6_see_5 (by decide) (fun c5 => ?_) (fun c5 => ?_)
  · skip
    exact absurd c5 (by rw [wIx_nI hw (by omega)]; decide)
  · skip
    refine a_aload_n 0 dX6_see_8 rfl rfl ?_
    refine a_iload_n 2 dX6_see_9 rfl rfl ?_
    refine a_callVp (As := [.int (nI g)]) (rest := []) (d := 0) (mc := 0) (ms := 0) (x := bI (wIx n (nI g))) (ci := 6) l_X6_131 im_X6_isWord se_X6_isWord ⟨_, rfl, rfl⟩ dX6_see_10 ⟨Nat.le_of_ble_eq_true rfl, Nat.le_of_ble_eq_true rfl⟩ rfl (Nat.le_of_ble_eq_true rfl) ⟨Nat.le_of_ble_eq_true rfl, Nat.le_of_ble_eq_true rfl⟩ hb (c_X6_isWord hC0) ?_
    refine a_ifneB 19 dX6_see_13 (by decide) (fun c13 => ?_) (fun c13 => ?_)
    · skip
      refine a_aload_n 0 dX6_see_19 rfl rfl ?_
      refine a_get f_X6_61 dX6_see_20 hb rfl ?_
      refine a_iload_n 1 dX6_see_23 rfl rfl ?_
      refine a_iload_n 2 dX6_see_24 rfl rfl ?_
      refine a_callVi (As := [.int (nI w), .int (nI g)]) (rest := []) (d := 0) (mc := 0) (ms := 0) (x := bI (decide (sn < 6))) (ci := 3) l_X6_230 im_X3_append se_X3_append ⟨_, rfl, rfl⟩ dX6_see_25 ⟨Nat.le_of_ble_eq_true rfl, Nat.le_of_ble_eq_true rfl⟩ rfl (Nat.le_of_ble_eq_true rfl) ⟨Nat.le_of_ble_eq_true rfl, Nat.le_of_ble_eq_true rfl⟩ hsp (c_X3_append hSe (by omega)) (fun H3 hp3 => ?_)
      obtain ⟨hSe1, hfr⟩ := hp3
      rw [if_neg (by omega), if_neg (by omega), if_neg (by omega)] at hSe1
      obtain ⟨fA9, fB9, hsp, -⟩ := id hSe1
      have hb := hb.kept (hfr _ (by omega))
      have hk3 := hk3.kept (hfr _ (by omega))
      have ha3 := ha3.kept (hfr _ (by omega))
      have hb3 := hb3.kept (hfr _ (by omega))
      have hc3 := hc3.kept (hfr _ (by omega))
      have he3 := he3.kept (hfr _ (by omega))
      have hd := hd.kept (hfr _ (by omega))
      have hs := hs.kept (hfr _ (by omega))
      have hu := hu.kept (hfr _ (by omega))
      have ho := ho.kept (hfr _ (by omega))
      have hpo := hpo.kept (hfr _ (by omega))
      have hbp := hbp.kept (hfr _ (by omega))
      have hF : ∀ q : Nat, ¬ (b + 104 ≤ q ∧ q < b + 107) → H3[q]? = H[q]? := fun q hq => (hfr q (by omega)).trans (hF q hq)
      refine a_ifeqB 41 dX6_see_28 (by decide) (fun c28 => ?_) (fun c28 => ?_)
      · skip
        refine a_ldc (-1000000004) k_X6_77 dX6_see_41 ?_
        refine a_ret dX6_see_43 ⟨⟨ri ?_, ?_⟩, rfl, rfl⟩
        · rfl
        · exact ⟨⟨kr, sp, kS, kU, hC0.kept (fun q a c => hF q (by omega)), hR2.kept (fun q a c => hF q (by omega)), hK2.kept (fun q a c => hF q (by omega)), hT2.kept (fun q a c => hF q (by omega)), hPs.kept (fun q a c => hF q (by omega)), hSe1, hBo.kept (fun q a c => hF q (by omega)), hIm.kept (fun q a => hF q (by omega))⟩, fun q hq => hF q (by omega)⟩
      · skip
        exact absurd c28 (by rw [decide_eq_false (by omega)]; decide)
    · skip
      exact absurd c13 (by rw [wIx_nI hg (by omega)]; decide)
set_option maxHeartbeats 4000000 in
set_option maxRecDepth 100000 in
theorem c_X6_write {G : GT} {B : Nat} {l : Launch} {H : Heap} {b : Nat} {tx : Nat → Nat} {L : Nat} {fp : Int32} {kb : Bool} {ka ks kw : Int32} {n nv : Nat} {kK kV dd : DD} {sd nx ct : Nat} {pu : Nat → DD} {sn : Nat} {sw sg : Nat → Nat} {bn : Nat} {bw : Nat → Nat} {bt : DD} {ik : Nat → Bool} {iD : Nat → DD} {iS : Nat → Nat} {w : Nat} {t : Int32} (hw : w < n) (ht : ¬ t < 0) (ht2 : t ≤ 99) (hlt : bn < 15) (hX : Bx G H b tx L fp kb ka ks kw n nv kK kV dd sd nx ct pu sn sw sg bn bw bt ik iD iS) (hB : B ≤ b) : AM G B l yX6_write cX6_write 3 (some .int) 1 0 0 [.ref b, .int (nI w), .int t] H (fun rv H' => rv = some (.int (nI (bn + 1))) ∧ (Bx G H' b tx L fp kb ka ks kw n nv kK kV dd sd nx ct pu sn sw sg (bn + 1) (fun i => if i = bn then w else bw i) (upd bt bn t) ik iD iS ∧ ∀ q : Nat, ¬ (b ≤ q ∧ q < b + 120) → H'[q]? = H[q]?)) := by
  have hX0 := hX
  obtain ⟨kr, sp, kS, kU, hC, hR2, hK2, hT2, hPs, hSe, hBo, hIm⟩ := hX
  have hC0 := hC
  obtain ⟨hb, hK, hD, hkr⟩ := hC
  have hK0 := hK
  have hN := hD
  unfold bxL at hb
  obtain ⟨fS3, fU3, fK3, fV3, hk3, ha3, hb3, hc3, he3, eS3, eU3, eK3, eV3, hn3, hnv3⟩ := hK
  obtain ⟨fS, fU, fO, hd, hs, hu, ho, eS, eU, eO, hn⟩ := hD
  have hpo := hPs.1
  have hse := hSe
  have hbo := hBo
  obtain ⟨fA, fB, hsp, hsa, hsb, eA, eB, hsN, -⟩ := hse
  obtain ⟨fA2, fB2, hbp, hba, hbb, eA2, eB2, hbN, -⟩ := hbo
  have hF : ∀ q : Nat, ¬ (b + 107 ≤ q ∧ q < b + 110) → H[q]? = H[q]? := fun _ _ => rfl
  refine AM.ofI (lv := [(0, .ref b), (1, .int (nI w)), (2, .int t)]) (by decide +kernel) (Nat.le_of_ble_eq_true rfl) rfl ?_ (fun _ h => by cases h.1)
  refine a_aload_n 0 dX6_write_0 rfl rfl ?_
  refine a_iload_n 1 dX6_write_1 rfl rfl ?_
  refine a_callVp (As := [.int (nI w)]) (rest := []) (d := 0) (mc := 0) (ms := 0) (x := bI (wIx n (nI w))) (ci := 6) l_X6_131 im_X6_isWord se_X6_isWord ⟨_, rfl, rfl⟩ dX6_write_2 ⟨Nat.le_of_ble_eq_true rfl, Nat.le_of_ble_eq_true rfl⟩ rfl (Nat.le_of_ble_eq_true rfl) ⟨Nat.le_of_ble_eq_true rfl, Nat.le_of_ble_eq_true rfl⟩ hb (c_X6_isWord hC0) ?_
  refine a_ifneB 11 dX6_write_5 (by decide) (fun c5 => ?_) (fun c5 => ?_)
  · skip
    refine a_iload_n 2 dX6_write_11 rfl rfl ?_
    refine a_iflt 21 dX6_write_12 (by decide) (fun c12 => ?_) (fun c12 => ?_)
    · skip
      exact absurd c12 (ht)
    · skip
      refine a_iload_n 2 dX6_write_15 rfl rfl ?_
      refine a_bipush 99 dX6_write_16 (by decide) ?_
      refine a_icmple 24 dX6_write_18 (by decide) (fun c18 => ?_) (fun c18 => ?_)
      · skip
        refine a_aload_n 0 dX6_write_24 rfl rfl ?_
        refine a_get f_X6_65 dX6_write_25 hb rfl ?_
        refine a_iload_n 1 dX6_write_28 rfl rfl ?_
        refine a_iload_n 2 dX6_write_29 rfl rfl ?_
        refine a_callVi (As := [.int (nI w), .int t]) (rest := []) (d := 0) (mc := 0) (ms := 0) (x := bI (decide (bn < 15))) (ci := 3) l_X6_230 im_X3_append se_X3_append ⟨_, rfl, rfl⟩ dX6_write_30 ⟨Nat.le_of_ble_eq_true rfl, Nat.le_of_ble_eq_true rfl⟩ rfl (Nat.le_of_ble_eq_true rfl) ⟨Nat.le_of_ble_eq_true rfl, Nat.le_of_ble_eq_true rfl⟩ hbp (c_X3_append hBo (by omega)) (fun H2 hp2 => ?_)
        obtain ⟨hBo1, hfr⟩ := hp2
        rw [if_pos hlt, if_pos hlt, if_pos hlt] at hBo1
        have hBo2 := hBo1.to (P' := fun i => nI ((fun i => if i = bn then w else bw i) i)) (Q' := upd bt bn t) (fun i hi => by simp only [upd]; split <;> rfl) (fun i hi => rfl)
        obtain ⟨fA9, fB9, hbp, -⟩ := hBo1
        have hb := hb.kept (hfr _ (by omega))
        have hk3 := hk3.kept (hfr _ (by omega))
        have ha3 := ha3.kept (hfr _ (by omega))
        have hb3 := hb3.kept (hfr _ (by omega))
        have hc3 := hc3.kept (hfr _ (by omega))
        have he3 := he3.kept (hfr _ (by omega))
        have hd := hd.kept (hfr _ (by omega))
        have hs := hs.kept (hfr _ (by omega))
        have hu := hu.kept (hfr _ (by omega))
        have ho := ho.kept (hfr _ (by omega))
        have hpo := hpo.kept (hfr _ (by omega))
        have hsp := hsp.kept (hfr _ (by omega))
        have hF : ∀ q : Nat, ¬ (b + 107 ≤ q ∧ q < b + 110) → H2[q]? = H[q]? := fun q hq => (hfr q (by omega)).trans (hF q hq)
        refine a_ifeqB 46 dX6_write_33 (by decide) (fun c33 => ?_) (fun c33 => ?_)
        · skip
          exact absurd c33 (by rw [decide_eq_true hlt]; decide)
        · skip
          refine a_aload_n 0 dX6_write_36 rfl rfl ?_
          refine a_get f_X6_65 dX6_write_37 hb rfl ?_
          refine a_get f_X6_127 dX6_write_40 hbp rfl ?_
          refine a_goto 48 dX6_write_43 (by decide) ?_
          refine a_ret dX6_write_48 ⟨⟨ri ?_, ?_⟩, rfl, rfl⟩
          · rfl
          · exact ⟨⟨kr, sp, kS, kU, hC0.kept (fun q a c => hF q (by omega)), hR2.kept (fun q a c => hF q (by omega)), hK2.kept (fun q a c => hF q (by omega)), hT2.kept (fun q a c => hF q (by omega)), hPs.kept (fun q a c => hF q (by omega)), hSe.kept (fun q a c => hF q (by omega)), hBo2, hIm.kept (fun q a => hF q (by omega))⟩, fun q hq => hF q (by omega)⟩
      · skip
        exact absurd ht2 c18
  · skip
    exact absurd c5 (by rw [wIx_nI hw (by omega)]; decide)
set_option maxHeartbeats 4000000 in
set_option maxRecDepth 100000 in
theorem c_X6_write_unk {G : GT} {B : Nat} {l : Launch} {H : Heap} {b : Nat} {tx : Nat → Nat} {L : Nat} {fp : Int32} {kb : Bool} {ka ks kw : Int32} {n nv : Nat} {kK kV dd : DD} {sd nx ct : Nat} {pu : Nat → DD} {sn : Nat} {sw sg : Nat → Nat} {bn : Nat} {bw : Nat → Nat} {bt : DD} {ik : Nat → Bool} {iD : Nat → DD} {iS : Nat → Nat} {w : Int32} (hw : wIx n w = false) {t : Int32} (hX : Bx G H b tx L fp kb ka ks kw n nv kK kV dd sd nx ct pu sn sw sg bn bw bt ik iD iS) (hB : B ≤ b) : AM G B l yX6_write cX6_write 3 (some .int) 1 0 0 [.ref b, .int w, .int t] H (fun rv H' => rv = some (.int (-1000000001)) ∧ (H' = H)) := by
  have hX0 := hX
  obtain ⟨kr, sp, kS, kU, hC, hR2, hK2, hT2, hPs, hSe, hBo, hIm⟩ := hX
  have hC0 := hC
  obtain ⟨hb, hK, hD, hkr⟩ := hC
  have hK0 := hK
  have hN := hD
  unfold bxL at hb
  obtain ⟨fS3, fU3, fK3, fV3, hk3, ha3, hb3, hc3, he3, eS3, eU3, eK3, eV3, hn3, hnv3⟩ := hK
  obtain ⟨fS, fU, fO, hd, hs, hu, ho, eS, eU, eO, hn⟩ := hD
  have hpo := hPs.1
  have hse := hSe
  have hbo := hBo
  obtain ⟨fA, fB, hsp, hsa, hsb, eA, eB, hsN, -⟩ := hse
  obtain ⟨fA2, fB2, hbp, hba, hbb, eA2, eB2, hbN, -⟩ := hbo
  refine AM.ofI (lv := [(0, .ref b), (1, .int w), (2, .int t)]) (by decide +kernel) (Nat.le_of_ble_eq_true rfl) rfl ?_ (fun _ h => by cases h.1)
  refine a_aload_n 0 dX6_write_0 rfl rfl ?_
  refine a_iload_n 1 dX6_write_1 rfl rfl ?_
  refine a_callVp (As := [.int w]) (rest := []) (d := 0) (mc := 0) (ms := 0) (x := bI (wIx n w)) (ci := 6) l_X6_131 im_X6_isWord se_X6_isWord ⟨_, rfl, rfl⟩ dX6_write_2 ⟨Nat.le_of_ble_eq_true rfl, Nat.le_of_ble_eq_true rfl⟩ rfl (Nat.le_of_ble_eq_true rfl) ⟨Nat.le_of_ble_eq_true rfl, Nat.le_of_ble_eq_true rfl⟩ hb (c_X6_isWord hC0) ?_
  refine a_ifneB 11 dX6_write_5 (by decide) (fun c5 => ?_) (fun c5 => ?_)
  · skip
    exact absurd c5 (by rw [hw]; decide)
  · skip
    refine a_ldc (-1000000001) k_X6_134 dX6_write_8 ?_
    refine a_ret dX6_write_10 ⟨⟨ri ?_, ?_⟩, rfl, rfl⟩
    · rfl
    · rfl
set_option maxHeartbeats 4000000 in
set_option maxRecDepth 100000 in
theorem c_X6_write_out {G : GT} {B : Nat} {l : Launch} {H : Heap} {b : Nat} {tx : Nat → Nat} {L : Nat} {fp : Int32} {kb : Bool} {ka ks kw : Int32} {n nv : Nat} {kK kV dd : DD} {sd nx ct : Nat} {pu : Nat → DD} {sn : Nat} {sw sg : Nat → Nat} {bn : Nat} {bw : Nat → Nat} {bt : DD} {ik : Nat → Bool} {iD : Nat → DD} {iS : Nat → Nat} {w : Nat} (hw : w < n) {t : Int32} (hq : t < 0 ∨ ¬ t ≤ 99) (hX : Bx G H b tx L fp kb ka ks kw n nv kK kV dd sd nx ct pu sn sw sg bn bw bt ik iD iS) (hB : B ≤ b) : AM G B l yX6_write cX6_write 3 (some .int) 1 0 0 [.ref b, .int (nI w), .int t] H (fun rv H' => rv = some (.int (-1000000002)) ∧ (H' = H)) := by
  have hX0 := hX
  obtain ⟨kr, sp, kS, kU, hC, hR2, hK2, hT2, hPs, hSe, hBo, hIm⟩ := hX
  have hC0 := hC
  obtain ⟨hb, hK, hD, hkr⟩ := hC
  have hK0 := hK
  have hN := hD
  unfold bxL at hb
  obtain ⟨fS3, fU3, fK3, fV3, hk3, ha3, hb3, hc3, he3, eS3, eU3, eK3, eV3, hn3, hnv3⟩ := hK
  obtain ⟨fS, fU, fO, hd, hs, hu, ho, eS, eU, eO, hn⟩ := hD
  have hpo := hPs.1
  have hse := hSe
  have hbo := hBo
  obtain ⟨fA, fB, hsp, hsa, hsb, eA, eB, hsN, -⟩ := hse
  obtain ⟨fA2, fB2, hbp, hba, hbb, eA2, eB2, hbN, -⟩ := hbo
  refine AM.ofI (lv := [(0, .ref b), (1, .int (nI w)), (2, .int t)]) (by decide +kernel) (Nat.le_of_ble_eq_true rfl) rfl ?_ (fun _ h => by cases h.1)
  refine a_aload_n 0 dX6_write_0 rfl rfl ?_
  refine a_iload_n 1 dX6_write_1 rfl rfl ?_
  refine a_callVp (As := [.int (nI w)]) (rest := []) (d := 0) (mc := 0) (ms := 0) (x := bI (wIx n (nI w))) (ci := 6) l_X6_131 im_X6_isWord se_X6_isWord ⟨_, rfl, rfl⟩ dX6_write_2 ⟨Nat.le_of_ble_eq_true rfl, Nat.le_of_ble_eq_true rfl⟩ rfl (Nat.le_of_ble_eq_true rfl) ⟨Nat.le_of_ble_eq_true rfl, Nat.le_of_ble_eq_true rfl⟩ hb (c_X6_isWord hC0) ?_
  refine a_ifneB 11 dX6_write_5 (by decide) (fun c5 => ?_) (fun c5 => ?_)
  · skip
    refine a_iload_n 2 dX6_write_11 rfl rfl ?_
    refine a_iflt 21 dX6_write_12 (by decide) (fun c12 => ?_) (fun c12 => ?_)
    · skip
      refine a_ldc (-1000000002) k_X6_69 dX6_write_21 ?_
      refine a_ret dX6_write_23 ⟨⟨ri ?_, ?_⟩, rfl, rfl⟩
      · rfl
      · rfl
    · skip
      refine a_iload_n 2 dX6_write_15 rfl rfl ?_
      refine a_bipush 99 dX6_write_16 (by decide) ?_
      refine a_icmple 24 dX6_write_18 (by decide) (fun c18 => ?_) (fun c18 => ?_)
      · skip
        exact (hq.elim c12 (fun h => h c18)).elim
      · skip
        refine a_ldc (-1000000002) k_X6_69 dX6_write_21 ?_
        refine a_ret dX6_write_23 ⟨⟨ri ?_, ?_⟩, rfl, rfl⟩
        · rfl
        · rfl
  · skip
    exact absurd c5 (by rw [wIx_nI hw (by omega)]; decide)
set_option maxHeartbeats 4000000 in
set_option maxRecDepth 100000 in
theorem c_X6_write_full {G : GT} {B : Nat} {l : Launch} {H : Heap} {b : Nat} {tx : Nat → Nat} {L : Nat} {fp : Int32} {kb : Bool} {ka ks kw : Int32} {n nv : Nat} {kK kV dd : DD} {sd nx ct : Nat} {pu : Nat → DD} {sn : Nat} {sw sg : Nat → Nat} {bn : Nat} {bw : Nat → Nat} {bt : DD} {ik : Nat → Bool} {iD : Nat → DD} {iS : Nat → Nat} {w : Nat} {t : Int32} (hw : w < n) (ht : ¬ t < 0) (ht2 : t ≤ 99) (hlt : bn = 15) (hX : Bx G H b tx L fp kb ka ks kw n nv kK kV dd sd nx ct pu sn sw sg bn bw bt ik iD iS) (hB : B ≤ b) : AM G B l yX6_write cX6_write 3 (some .int) 1 0 0 [.ref b, .int (nI w), .int t] H (fun rv H' => rv = some (.int (-1000000004)) ∧ (Bx G H' b tx L fp kb ka ks kw n nv kK kV dd sd nx ct pu sn sw sg bn bw bt ik iD iS ∧ ∀ q : Nat, ¬ (b ≤ q ∧ q < b + 120) → H'[q]? = H[q]?)) := by
  have hX0 := hX
  obtain ⟨kr, sp, kS, kU, hC, hR2, hK2, hT2, hPs, hSe, hBo, hIm⟩ := hX
  have hC0 := hC
  obtain ⟨hb, hK, hD, hkr⟩ := hC
  have hK0 := hK
  have hN := hD
  unfold bxL at hb
  obtain ⟨fS3, fU3, fK3, fV3, hk3, ha3, hb3, hc3, he3, eS3, eU3, eK3, eV3, hn3, hnv3⟩ := hK
  obtain ⟨fS, fU, fO, hd, hs, hu, ho, eS, eU, eO, hn⟩ := hD
  have hpo := hPs.1
  have hse := hSe
  have hbo := hBo
  obtain ⟨fA, fB, hsp, hsa, hsb, eA, eB, hsN, -⟩ := hse
  obtain ⟨fA2, fB2, hbp, hba, hbb, eA2, eB2, hbN, -⟩ := hbo
  have hF : ∀ q : Nat, ¬ (b + 107 ≤ q ∧ q < b + 110) → H[q]? = H[q]? := fun _ _ => rfl
  refine AM.ofI (lv := [(0, .ref b), (1, .int (nI w)), (2, .int t)]) (by decide +kernel) (Nat.le_of_ble_eq_true rfl) rfl ?_ (fun _ h => by cases h.1)
  refine a_aload_n 0 dX6_write_0 rfl rfl ?_
  refine a_iload_n 1 dX6_write_1 rfl rfl ?_
  refine a_callVp (As := [.int (nI w)]) (rest := []) (d := 0) (mc := 0) (ms := 0) (x := bI (wIx n (nI w))) (ci := 6) l_X6_131 im_X6_isWord se_X6_isWord ⟨_, rfl, rfl⟩ dX6_write_2 ⟨Nat.le_of_ble_eq_true rfl, Nat.le_of_ble_eq_true rfl⟩ rfl (Nat.le_of_ble_eq_true rfl) ⟨Nat.le_of_ble_eq_true rfl, Nat.le_of_ble_eq_true rfl⟩ hb (c_X6_isWord hC0) ?_
  refine a_ifneB 11 dX6_write_5 (by decide) (fun c5 => ?_) (fun c5 => ?_)
  · skip
    refine a_iload_n 2 dX6_write_11 rfl rfl ?_
    refine a_iflt 21 dX6_write_12 (by decide) (fun c12 => ?_) (fun c12 => ?_)
    · skip
      exact absurd c12 (ht)
    · skip
      refine a_iload_n 2 dX6_write_15 rfl rfl ?_
      refine a_bipush 99 dX6_write_16 (by decide) ?_
      refine a_icmple 24 dX6_write_18 (by decide) (fun c18 => ?_) (fun c18 => ?_)
      · skip
        refine a_aload_n 0 dX6_write_24 rfl rfl ?_
        refine a_get f_X6_65 dX6_write_25 hb rfl ?_
        refine a_iload_n 1 dX6_write_28 rfl rfl ?_
        refine a_iload_n 2 dX6_write_29 rfl rfl ?_
        refine a_callVi (As := [.int (nI w), .int t]) (rest := []) (d := 0) (mc := 0) (ms := 0) (x := bI (decide (bn < 15))) (ci := 3) l_X6_230 im_X3_append se_X3_append ⟨_, rfl, rfl⟩ dX6_write_30 ⟨Nat.le_of_ble_eq_true rfl, Nat.le_of_ble_eq_true rfl⟩ rfl (Nat.le_of_ble_eq_true rfl) ⟨Nat.le_of_ble_eq_true rfl, Nat.le_of_ble_eq_true rfl⟩ hbp (c_X3_append hBo (by omega)) (fun H2 hp2 => ?_)
        obtain ⟨hBo1, hfr⟩ := hp2
        rw [if_neg (by omega), if_neg (by omega), if_neg (by omega)] at hBo1
        obtain ⟨fA9, fB9, hbp, -⟩ := id hBo1
        have hb := hb.kept (hfr _ (by omega))
        have hk3 := hk3.kept (hfr _ (by omega))
        have ha3 := ha3.kept (hfr _ (by omega))
        have hb3 := hb3.kept (hfr _ (by omega))
        have hc3 := hc3.kept (hfr _ (by omega))
        have he3 := he3.kept (hfr _ (by omega))
        have hd := hd.kept (hfr _ (by omega))
        have hs := hs.kept (hfr _ (by omega))
        have hu := hu.kept (hfr _ (by omega))
        have ho := ho.kept (hfr _ (by omega))
        have hpo := hpo.kept (hfr _ (by omega))
        have hsp := hsp.kept (hfr _ (by omega))
        have hF : ∀ q : Nat, ¬ (b + 107 ≤ q ∧ q < b + 110) → H2[q]? = H[q]? := fun q hq => (hfr q (by omega)).trans (hF q hq)
        refine a_ifeqB 46 dX6_write_33 (by decide) (fun c33 => ?_) (fun c33 => ?_)
        · skip
          refine a_ldc (-1000000004) k_X6_77 dX6_write_46 ?_
          refine a_ret dX6_write_48 ⟨⟨ri ?_, ?_⟩, rfl, rfl⟩
          · rfl
          · exact ⟨⟨kr, sp, kS, kU, hC0.kept (fun q a c => hF q (by omega)), hR2.kept (fun q a c => hF q (by omega)), hK2.kept (fun q a c => hF q (by omega)), hT2.kept (fun q a c => hF q (by omega)), hPs.kept (fun q a c => hF q (by omega)), hSe.kept (fun q a c => hF q (by omega)), hBo1, hIm.kept (fun q a => hF q (by omega))⟩, fun q hq => hF q (by omega)⟩
        · skip
          exact absurd c33 (by rw [decide_eq_false (by omega)]; decide)
      · skip
        exact absurd ht2 c18
  · skip
    exact absurd c5 (by rw [wIx_nI hw (by omega)]; decide)
set_option maxHeartbeats 4000000 in
set_option maxRecDepth 100000 in
theorem c_X6_tear {G : GT} {B : Nat} {l : Launch} {H : Heap} {b : Nat} {tx : Nat → Nat} {L : Nat} {fp : Int32} {kb : Bool} {ka ks kw : Int32} {n nv : Nat} {kK kV dd : DD} {sd nx ct : Nat} {pu : Nat → DD} {sn : Nat} {sw sg : Nat → Nat} {bn : Nat} {bw : Nat → Nat} {bt : DD} {ik : Nat → Bool} {iD : Nat → DD} {iS : Nat → Nat} (hX : Bx G H b tx L fp kb ka ks kw n nv kK kV dd sd nx ct pu sn sw sg bn bw bt ik iD iS) (hB : B ≤ b) : AM G B l yX6_tear cX6_tear 2 (some .int) 1 0 0 [.ref b] H (fun rv H' => rv = some (.int (nI (sn + bn))) ∧ (Bx G H' b tx L fp kb ka ks kw n nv kK kV dd sd nx ct pu 0 sw sg 0 bw bt ik iD iS ∧ ∀ q : Nat, ¬ (b ≤ q ∧ q < b + 120) → H'[q]? = H[q]?)) := by
  have hX0 := hX
  obtain ⟨kr, sp, kS, kU, hC, hR2, hK2, hT2, hPs, hSe, hBo, hIm⟩ := hX
  have hC0 := hC
  obtain ⟨hb, hK, hD, hkr⟩ := hC
  have hK0 := hK
  have hN := hD
  unfold bxL at hb
  obtain ⟨fS3, fU3, fK3, fV3, hk3, ha3, hb3, hc3, he3, eS3, eU3, eK3, eV3, hn3, hnv3⟩ := hK
  obtain ⟨fS, fU, fO, hd, hs, hu, ho, eS, eU, eO, hn⟩ := hD
  have hpo := hPs.1
  have hse := hSe
  have hbo := hBo
  obtain ⟨fA, fB, hsp, hsa, hsb, eA, eB, hsN, -⟩ := hse
  obtain ⟨fA2, fB2, hbp, hba, hbb, eA2, eB2, hbN, -⟩ := hbo
  have hF : ∀ q : Nat, ¬ (b + 104 ≤ q ∧ q < b + 110) → H[q]? = H[q]? := fun _ _ => rfl
  refine AM.ofI (lv := [(0, .ref b)]) (by decide +kernel) (Nat.le_of_ble_eq_true rfl) rfl ?_ (fun _ h => by cases h.1)
  refine a_aload_n 0 dX6_tear_0 rfl rfl ?_
  refine a_get f_X6_61 dX6_tear_1 hb rfl ?_
  refine a_get f_X6_127 dX6_tear_4 hsp rfl ?_
  refine a_aload_n 0 dX6_tear_7 rfl rfl ?_
  refine a_get f_X6_65 dX6_tear_8 hb rfl ?_
  refine a_get f_X6_127 dX6_tear_11 hbp rfl ?_
  refine a_iaddN (a := sn) (b := bn) dX6_tear_14 ?_
  refine a_istore_n (lv' := [(1, .int (nI (sn + bn))), (0, .ref b)]) dX6_tear_15 rfl (by decide) rfl ?_
  refine a_aload_n 1 dX6_tear_16 rfl rfl ?_
  refine a_get f_X6_61 dX6_tear_17 hb rfl ?_
  refine a_callVv (As := []) (rest := []) (d := 0) (mc := 0) (ms := 0) (ci := 3) l_X6_99 im_X3_clear se_X3_clear ⟨_, rfl, rfl⟩ dX6_tear_20 ⟨Nat.le_of_ble_eq_true rfl, Nat.le_of_ble_eq_true rfl⟩ rfl (Nat.le_of_ble_eq_true rfl) ⟨Nat.le_of_ble_eq_true rfl, Nat.le_of_ble_eq_true rfl⟩ hsp (c_X3_clear hSe (by omega)) (fun H1 hp1 => ?_)
  obtain ⟨hSe1, hfr⟩ := hp1
  have hb := hb.kept (hfr _ (by omega))
  have hk3 := hk3.kept (hfr _ (by omega))
  have ha3 := ha3.kept (hfr _ (by omega))
  have hb3 := hb3.kept (hfr _ (by omega))
  have hc3 := hc3.kept (hfr _ (by omega))
  have he3 := he3.kept (hfr _ (by omega))
  have hd := hd.kept (hfr _ (by omega))
  have hs := hs.kept (hfr _ (by omega))
  have hu := hu.kept (hfr _ (by omega))
  have ho := ho.kept (hfr _ (by omega))
  have hpo := hpo.kept (hfr _ (by omega))
  have hbp := hbp.kept (hfr _ (by omega))
  have hF : ∀ q : Nat, ¬ (b + 104 ≤ q ∧ q < b + 110) → H1[q]? = H[q]? := fun q hq => (hfr q (by omega)).trans (hF q hq)
  have hBo1 := hBo.kept (fun q a c => hfr q (by omega))
  refine a_aload_n 1 dX6_tear_23 rfl rfl ?_
  refine a_get f_X6_65 dX6_tear_24 hb rfl ?_
  refine a_callVv (As := []) (rest := []) (d := 0) (mc := 0) (ms := 0) (ci := 3) l_X6_99 im_X3_clear se_X3_clear ⟨_, rfl, rfl⟩ dX6_tear_27 ⟨Nat.le_of_ble_eq_true rfl, Nat.le_of_ble_eq_true rfl⟩ rfl (Nat.le_of_ble_eq_true rfl) ⟨Nat.le_of_ble_eq_true rfl, Nat.le_of_ble_eq_true rfl⟩ hbp (c_X3_clear hBo1 (by omega)) (fun H2 hp2 => ?_)
  obtain ⟨hBo2, hfr2⟩ := hp2
  have hF : ∀ q : Nat, ¬ (b + 104 ≤ q ∧ q < b + 110) → H2[q]? = H[q]? := fun q hq => (hfr2 q (by omega)).trans (hF q hq)
  refine a_iload_n 0 dX6_tear_30 rfl rfl ?_
  refine a_ret dX6_tear_31 ⟨⟨ri ?_, ?_⟩, rfl, rfl⟩
  · rfl
  · exact ⟨⟨kr, sp, kS, kU, hC0.kept (fun q a c => hF q (by omega)), hR2.kept (fun q a c => hF q (by omega)), hK2.kept (fun q a c => hF q (by omega)), hT2.kept (fun q a c => hF q (by omega)), hPs.kept (fun q a c => hF q (by omega)), (hSe1 _ _).kept (fun q a c => hfr2 q (by omega)), hBo2 _ _, hIm.kept (fun q a => hF q (by omega))⟩, fun q hq => hF q (by omega)⟩
set_option maxHeartbeats 4000000 in
set_option maxRecDepth 100000 in
theorem c_X6_seed {G : GT} {B : Nat} {l : Launch} {H : Heap} {b : Nat} {tx : Nat → Nat} {L : Nat} {fp : Int32} {kb : Bool} {ka ks kw : Int32} {n nv : Nat} {kK kV dd : DD} {sd nx ct : Nat} {pu : Nat → DD} {sn : Nat} {sw sg : Nat → Nat} {bn : Nat} {bw : Nat → Nat} {bt : DD} {ik : Nat → Bool} {iD : Nat → DD} {iS : Nat → Nat} {v : Nat} (hv : v < 2 ^ 31) (hX : Bx G H b tx L fp kb ka ks kw n nv kK kV dd sd nx ct pu sn sw sg bn bw bt ik iD iS) (hB : B ≤ b) : AM G B l yX6_seed cX6_seed 3 (some .int) 0 0 0 [.ref b, .int (nI v)] H (fun rv H' => rv = some (.int (nI sd)) ∧ (Bx G H' b tx L fp kb ka ks kw n nv kK kV dd v nx ct pu sn sw sg bn bw bt ik iD iS ∧ ∀ q : Nat, ¬ (b ≤ q ∧ q < b + 120) → H'[q]? = H[q]?)) := by
  have hX0 := hX
  obtain ⟨kr, sp, kS, kU, hC, hR2, hK2, hT2, hPs, hSe, hBo, hIm⟩ := hX
  have hC0 := hC
  obtain ⟨hb, hK, hD, hkr⟩ := hC
  have hK0 := hK
  have hN := hD
  unfold bxL at hb
  obtain ⟨fS3, fU3, fK3, fV3, hk3, ha3, hb3, hc3, he3, eS3, eU3, eK3, eV3, hn3, hnv3⟩ := hK
  obtain ⟨fS, fU, fO, hd, hs, hu, ho, eS, eU, eO, hn⟩ := hD
  have hpo := hPs.1
  have hse := hSe
  have hbo := hBo
  obtain ⟨fA, fB, hsp, hsa, hsb, eA, eB, hsN, -⟩ := hse
  obtain ⟨fA2, fB2, hbp, hba, hbb, eA2, eB2, hbN, -⟩ := hbo
  have hF : ∀ q : Nat, q ≠ b → H[q]? = H[q]? := fun _ _ => rfl
  refine AM.ofI (lv := [(0, .ref b), (1, .int (nI v))]) (by decide +kernel) (Nat.le_of_ble_eq_true rfl) rfl ?_ (fun _ h => by cases h.1)
  refine a_iload_n 1 dX6_seed_0 rfl rfl ?_
  refine a_ifgeN (a := v) 7 dX6_seed_1 (by decide) (by omega) (fun c1 => ?_) (fun c1 => ?_)
  · skip
    refine a_aload_n 0 dX6_seed_7 rfl rfl ?_
    refine a_get f_X6_53 dX6_seed_8 hb rfl ?_
    refine a_istore_n (lv' := [(2, .int (nI sd)), (0, .ref b), (1, .int (nI v))]) dX6_seed_11 rfl (by decide) rfl ?_
    refine a_aload_n 1 dX6_seed_12 rfl rfl ?_
    refine a_iload_n 2 dX6_seed_13 rfl rfl ?_
    refine a_put f_X6_53 p_X6_53 dX6_seed_14 hb (Nat.le_of_ble_eq_true rfl) rfl rfl (by omega) (fun H1 hb hz1 hq1 => ?_)
    have hb : Ob G H1 b 6 [.ref (b + 1), .int fp, .ref kr, .ref sp, .ref (b + 13), .ref (b + 17), .ref (b + 21), .ref (b + 103), .int (nI v), .ref (b + 104), .ref (b + 107)] := hb
    have hk3 := hk3.kept (hq1 _ (by omega))
    have ha3 := ha3.kept (hq1 _ (by omega))
    have hb3 := hb3.kept (hq1 _ (by omega))
    have hc3 := hc3.kept (hq1 _ (by omega))
    have he3 := he3.kept (hq1 _ (by omega))
    have hd := hd.kept (hq1 _ (by omega))
    have hs := hs.kept (hq1 _ (by omega))
    have hu := hu.kept (hq1 _ (by omega))
    have ho := ho.kept (hq1 _ (by omega))
    have hpo := hpo.kept (hq1 _ (by omega))
    have hsp := hsp.kept (hq1 _ (by omega))
    have hbp := hbp.kept (hq1 _ (by omega))
    have hF : ∀ q : Nat, q ≠ b → H1[q]? = H[q]? := fun q hq => (hq1 q (by omega)).trans (hF q hq)
    refine a_iload_n 0 dX6_seed_17 rfl rfl ?_
    refine a_ret dX6_seed_18 ⟨⟨ri ?_, ?_⟩, rfl, rfl⟩
    · rfl
    · exact ⟨⟨kr, sp, kS, kU, hC0.box hb hq1, hR2.kept (fun q a c => hF q (by omega)), hK2.kept (fun q a c => hF q (by omega)), hT2.kept (fun q a c => hF q (by omega)), hPs.kept (fun q a c => hF q (by omega)), hSe.kept (fun q a c => hF q (by omega)), hBo.kept (fun q a c => hF q (by omega)), hIm.kept (fun q a => hF q (by omega))⟩, fun q hq => hF q (by omega)⟩
  · skip
    exact c1.elim
set_option maxHeartbeats 4000000 in
set_option maxRecDepth 100000 in
theorem c_X6_seed_out {G : GT} {B : Nat} {l : Launch} {H : Heap} {b : Nat} {tx : Nat → Nat} {L : Nat} {fp : Int32} {kb : Bool} {ka ks kw : Int32} {n nv : Nat} {kK kV dd : DD} {sd nx ct : Nat} {pu : Nat → DD} {sn : Nat} {sw sg : Nat → Nat} {bn : Nat} {bw : Nat → Nat} {bt : DD} {ik : Nat → Bool} {iD : Nat → DD} {iS : Nat → Nat} {v : Int32} (hv : v < 0) (hX : Bx G H b tx L fp kb ka ks kw n nv kK kV dd sd nx ct pu sn sw sg bn bw bt ik iD iS) (hB : B ≤ b) : AM G B l yX6_seed cX6_seed 3 (some .int) 0 0 0 [.ref b, .int v] H (fun rv H' => rv = some (.int (-1000000002)) ∧ (H' = H)) := by
  have hX0 := hX
  obtain ⟨kr, sp, kS, kU, hC, hR2, hK2, hT2, hPs, hSe, hBo, hIm⟩ := hX
  have hC0 := hC
  obtain ⟨hb, hK, hD, hkr⟩ := hC
  have hK0 := hK
  have hN := hD
  unfold bxL at hb
  obtain ⟨fS3, fU3, fK3, fV3, hk3, ha3, hb3, hc3, he3, eS3, eU3, eK3, eV3, hn3, hnv3⟩ := hK
  obtain ⟨fS, fU, fO, hd, hs, hu, ho, eS, eU, eO, hn⟩ := hD
  have hpo := hPs.1
  have hse := hSe
  have hbo := hBo
  obtain ⟨fA, fB, hsp, hsa, hsb, eA, eB, hsN, -⟩ := hse
  obtain ⟨fA2, fB2, hbp, hba, hbb, eA2, eB2, hbN, -⟩ := hbo
  refine AM.ofI (lv := [(0, .ref b), (1, .int v)]) (by decide +kernel) (Nat.le_of_ble_eq_true rfl) rfl ?_ (fun _ h => by cases h.1)
  refine a_iload_n 1 dX6_seed_0 rfl rfl ?_
  refine a_ifge 7 dX6_seed_1 (by decide) (fun c1 => ?_) (fun c1 => ?_)
  · skip
    exact absurd c1 (fun h => absurd hv (Int32.not_lt.mpr h))
  · skip
    refine a_ldc (-1000000002) k_X6_69 dX6_seed_4 ?_
    refine a_ret dX6_seed_6 ⟨⟨ri ?_, ?_⟩, rfl, rfl⟩
    · rfl
    · rfl
set_option maxHeartbeats 4000000 in
set_option maxRecDepth 100000 in
theorem c_X6_undo {G : GT} {B : Nat} {l : Launch} {H : Heap} {b : Nat} {tx : Nat → Nat} {L : Nat} {fp : Int32} {kb : Bool} {ka ks kw : Int32} {n nv : Nat} {kK kV dd : DD} {sd nx ct : Nat} {pu : Nat → DD} {sn : Nat} {sw sg : Nat → Nat} {bn : Nat} {bw : Nat → Nat} {bt : DD} {ik : Nat → Bool} {iD : Nat → DD} {iS : Nat → Nat} (hct : 0 < ct) (hX : Bx G H b tx L fp kb ka ks kw n nv kK kV dd sd nx ct pu sn sw sg bn bw bt ik iD iS) (hB : B ≤ b) : AM G B l yX6_undo cX6_undo 1 (some .int) 3 0 0 [.ref b] H (fun rv H' => rv = some (.int (nI (ct - 1))) ∧ (Bx G H' b tx L fp kb ka ks kw n nv kK kV (pu ((nx + 19) % 20)) sd ((nx + 19) % 20) (ct - 1) pu sn sw sg bn bw bt ik iD iS ∧ ∀ q : Nat, ¬ (b ≤ q ∧ q < b + 120) → H'[q]? = H[q]?)) := by
  have hX0 := hX
  obtain ⟨kr, sp, kS, kU, hC, hR2, hK2, hT2, hPs, hSe, hBo, hIm⟩ := hX
  have hC0 := hC
  obtain ⟨hb, hK, hD, hkr⟩ := hC
  have hK0 := hK
  have hN := hD
  unfold bxL at hb
  obtain ⟨fS3, fU3, fK3, fV3, hk3, ha3, hb3, hc3, he3, eS3, eU3, eK3, eV3, hn3, hnv3⟩ := hK
  obtain ⟨fS, fU, fO, hd, hs, hu, ho, eS, eU, eO, hn⟩ := hD
  have hpo := hPs.1
  have hse := hSe
  have hbo := hBo
  obtain ⟨fA, fB, hsp, hsa, hsb, eA, eB, hsN, -⟩ := hse
  obtain ⟨fA2, fB2, hbp, hba, hbb, eA2, eB2, hbN, -⟩ := hbo
  have hF : ∀ q : Nat, ¬ (b + 13 ≤ q ∧ q < b + 17) ∧ ¬ (b + 21 ≤ q ∧ q < b + 103) → H[q]? = H[q]? := fun _ _ => rfl
  refine AM.ofI (lv := [(0, .ref b)]) (by decide +kernel) (Nat.le_of_ble_eq_true rfl) rfl ?_ (fun _ h => by cases h.1)
  refine a_aload_n 0 dX6_undo_0 rfl rfl ?_
  refine a_get f_X6_43 dX6_undo_1 hb rfl ?_
  refine a_aload_n 0 dX6_undo_4 rfl rfl ?_
  refine a_get f_X6_33 dX6_undo_5 hb rfl ?_
  refine a_callVi (As := [.ref (b + 13)]) (rest := []) (d := 2) (mc := 0) (ms := 0) (x := bI (decide (0 < ct))) (ci := 4) l_X6_189 im_X4_pop se_X4_pop ⟨_, rfl, rfl⟩ dX6_undo_8 ⟨Nat.le_of_ble_eq_true rfl, Nat.le_of_ble_eq_true rfl⟩ rfl (Nat.le_of_ble_eq_true rfl) ⟨Nat.le_of_ble_eq_true rfl, Nat.le_of_ble_eq_true rfl⟩ hpo (c_X4_pop hN (by omega) hPs (by omega) (by omega)) (fun H1 hp1 => ?_)
  obtain ⟨⟨hp1, -⟩, hfr⟩ := hp1
  obtain ⟨hPs1, hD1⟩ := hp1 hct
  have hpo := hPs1.1
  skip
  have hb := hb.kept (hfr _ (by omega))
  have hk3 := hk3.kept (hfr _ (by omega))
  have ha3 := ha3.kept (hfr _ (by omega))
  have hb3 := hb3.kept (hfr _ (by omega))
  have hc3 := hc3.kept (hfr _ (by omega))
  have he3 := he3.kept (hfr _ (by omega))
  have hsp := hsp.kept (hfr _ (by omega))
  have hbp := hbp.kept (hfr _ (by omega))
  have hF : ∀ q : Nat, ¬ (b + 13 ≤ q ∧ q < b + 17) ∧ ¬ (b + 21 ≤ q ∧ q < b + 103) → H1[q]? = H[q]? := fun q hq => (hfr q (by omega)).trans (hF q hq)
  refine a_ifeqB 24 dX6_undo_11 (by decide) (fun c11 => ?_) (fun c11 => ?_)
  · skip
    exact absurd c11 (by rw [decide_eq_true hct]; decide)
  · skip
    refine a_aload_n 0 dX6_undo_14 rfl rfl ?_
    refine a_get f_X6_43 dX6_undo_15 hb rfl ?_
    refine a_get f_X6_130 dX6_undo_18 hpo rfl ?_
    refine a_goto 26 dX6_undo_21 (by decide) ?_
    refine a_ret dX6_undo_26 ⟨⟨ri ?_, ?_⟩, rfl, rfl⟩
    · rfl
    · exact ⟨⟨kr, sp, kS, kU, hC0.now hD1 (fun q a c => hF q (by omega)), hR2.kept (fun q a c => hF q (by omega)), hK2.kept (fun q a c => hF q (by omega)), hT2.kept (fun q a c => hF q (by omega)), hPs1, hSe.kept (fun q a c => hF q (by omega)), hBo.kept (fun q a c => hF q (by omega)), hIm.kept (fun q a => hF q (by omega))⟩, fun q hq => hF q (by omega)⟩
set_option maxHeartbeats 4000000 in
set_option maxRecDepth 100000 in
theorem c_X6_undo_not {G : GT} {B : Nat} {l : Launch} {H : Heap} {b : Nat} {tx : Nat → Nat} {L : Nat} {fp : Int32} {kb : Bool} {ka ks kw : Int32} {n nv : Nat} {kK kV dd : DD} {sd nx ct : Nat} {pu : Nat → DD} {sn : Nat} {sw sg : Nat → Nat} {bn : Nat} {bw : Nat → Nat} {bt : DD} {ik : Nat → Bool} {iD : Nat → DD} {iS : Nat → Nat} (hct : ct = 0) (hX : Bx G H b tx L fp kb ka ks kw n nv kK kV dd sd nx ct pu sn sw sg bn bw bt ik iD iS) (hB : B ≤ b) : AM G B l yX6_undo cX6_undo 1 (some .int) 3 0 0 [.ref b] H (fun rv H' => rv = some (.int (-1000000003)) ∧ (H' = H)) := by
  have hX0 := hX
  obtain ⟨kr, sp, kS, kU, hC, hR2, hK2, hT2, hPs, hSe, hBo, hIm⟩ := hX
  have hC0 := hC
  obtain ⟨hb, hK, hD, hkr⟩ := hC
  have hK0 := hK
  have hN := hD
  unfold bxL at hb
  obtain ⟨fS3, fU3, fK3, fV3, hk3, ha3, hb3, hc3, he3, eS3, eU3, eK3, eV3, hn3, hnv3⟩ := hK
  obtain ⟨fS, fU, fO, hd, hs, hu, ho, eS, eU, eO, hn⟩ := hD
  have hpo := hPs.1
  have hse := hSe
  have hbo := hBo
  obtain ⟨fA, fB, hsp, hsa, hsb, eA, eB, hsN, -⟩ := hse
  obtain ⟨fA2, fB2, hbp, hba, hbb, eA2, eB2, hbN, -⟩ := hbo
  refine AM.ofI (lv := [(0, .ref b)]) (by decide +kernel) (Nat.le_of_ble_eq_true rfl) rfl ?_ (fun _ h => by cases h.1)
  refine a_aload_n 0 dX6_undo_0 rfl rfl ?_
  refine a_get f_X6_43 dX6_undo_1 hb rfl ?_
  refine a_aload_n 0 dX6_undo_4 rfl rfl ?_
  refine a_get f_X6_33 dX6_undo_5 hb rfl ?_
  refine a_callVi (As := [.ref (b + 13)]) (rest := []) (d := 2) (mc := 0) (ms := 0) (x := bI (decide (0 < ct))) (ci := 4) l_X6_189 im_X4_pop se_X4_pop ⟨_, rfl, rfl⟩ dX6_undo_8 ⟨Nat.le_of_ble_eq_true rfl, Nat.le_of_ble_eq_true rfl⟩ rfl (Nat.le_of_ble_eq_true rfl) ⟨Nat.le_of_ble_eq_true rfl, Nat.le_of_ble_eq_true rfl⟩ hpo (c_X4_pop hN (by omega) hPs (by omega) (by omega)) (fun H1 hp1 => ?_)
  obtain ⟨⟨-, hp1⟩, -⟩ := hp1
  have hH1 := hp1 hct
  have hfr : ∀ q : Nat, True → H1[q]? = H[q]? := fun q _ => by rw [hH1]
  refine a_ifeqB 24 dX6_undo_11 (by decide) (fun c11 => ?_) (fun c11 => ?_)
  · skip
    refine a_ldc (-1000000003) k_X6_157 dX6_undo_24 ?_
    refine a_ret dX6_undo_26 ⟨⟨ri ?_, ?_⟩, rfl, rfl⟩
    · rfl
    · exact hp1 hct
  · skip
    exact absurd c11 (by rw [decide_eq_false (by omega)]; decide)
set_option maxHeartbeats 4000000 in
set_option maxRecDepth 100000 in
theorem c_X6_keep {G : GT} {B : Nat} {l : Launch} {H : Heap} {b : Nat} {tx : Nat → Nat} {L : Nat} {fp : Int32} {kb : Bool} {ka ks kw : Int32} {n nv : Nat} {kK kV dd : DD} {sd nx ct : Nat} {pu : Nat → DD} {sn : Nat} {sw sg : Nat → Nat} {bn : Nat} {bw : Nat → Nat} {bt : DD} {ik : Nat → Bool} {iD : Nat → DD} {iS : Nat → Nat} {i : Nat} (hi : i < 2) (hX : Bx G H b tx L fp kb ka ks kw n nv kK kV dd sd nx ct pu sn sw sg bn bw bt ik iD iS) (hB : B ≤ b) : AM G B l yX6_keep cX6_keep 2 (some .int) 2 0 0 [.ref b, .int (nI i)] H (fun rv H' => rv = some (.int 1) ∧ (Bx G H' b tx L fp kb ka ks kw n nv kK kV dd sd nx 0 pu sn sw sg bn bw bt (fun j => if j = i then true else ik j) (fun j => if j = i then dd else iD j) (fun j => if j = i then sd else iS j) ∧ ∀ q : Nat, ¬ (b ≤ q ∧ q < b + 120) → H'[q]? = H[q]?)) := by
  have hX0 := hX
  obtain ⟨kr, sp, kS, kU, hC, hR2, hK2, hT2, hPs, hSe, hBo, hIm⟩ := hX
  have hC0 := hC
  obtain ⟨hb, hK, hD, hkr⟩ := hC
  have hK0 := hK
  have hN := hD
  unfold bxL at hb
  obtain ⟨fS3, fU3, fK3, fV3, hk3, ha3, hb3, hc3, he3, eS3, eU3, eK3, eV3, hn3, hnv3⟩ := hK
  obtain ⟨fS, fU, fO, hd, hs, hu, ho, eS, eU, eO, hn⟩ := hD
  have hpo := hPs.1
  have hse := hSe
  have hbo := hBo
  obtain ⟨fA, fB, hsp, hsa, hsb, eA, eB, hsN, -⟩ := hse
  obtain ⟨fA2, fB2, hbp, hba, hbb, eA2, eB2, hbN, -⟩ := hbo
  obtain ⟨⟨fI, hia, eI⟩, hIi⟩ := id hIm
  obtain ⟨n9, dd9, dr, ⟨hio, hiD⟩, hiv⟩ := hIi i hi
  have hid := hiD.choose_spec.choose_spec.choose_spec.1
  have hF : ∀ q : Nat, ¬ (b + 21 ≤ q ∧ q < b + 103) ∧ ¬ (b + 110 + 5 * i ≤ q ∧ q < b + 110 + 5 * i + 5) → H[q]? = H[q]? := fun _ _ => rfl
  have hP : ∀ q : Nat, ¬ (b + 110 + 5 * i ≤ q ∧ q < b + 110 + 5 * i + 5) → H[q]? = H[q]? := fun _ _ => rfl
  refine AM.ofI (lv := [(0, .ref b), (1, .int (nI i))]) (by decide +kernel) (Nat.le_of_ble_eq_true rfl) rfl ?_ (fun _ h => by cases h.1)
  refine a_iload_n 1 dX6_keep_0 rfl rfl ?_
  refine a_callSp (As := [.int (nI i)]) (rest := []) (d := 0) (mc := 0) (ms := 0) (x := bI (wIx 2 (nI i))) l_X6_253 st_X6_isImage dX6_keep_1 ⟨Nat.le_of_ble_eq_true rfl, Nat.le_of_ble_eq_true rfl⟩ rfl (Nat.le_of_ble_eq_true rfl) ⟨Nat.le_of_ble_eq_true rfl, Nat.le_of_ble_eq_true rfl⟩ (c_X6_isImage) ?_
  refine a_ifneB 10 dX6_keep_4 (by decide) (fun c4 => ?_) (fun c4 => ?_)
  · skip
    refine a_aload_n 0 dX6_keep_10 rfl rfl ?_
    refine a_get f_X6_49 dX6_keep_11 hb rfl ?_
    refine a_iload_n 1 dX6_keep_14 rfl rfl ?_
    refine a_aald (t := 4) (C0 := RX1) (x := b + 110 + 5 * i) (fun _ => rfl) dX6_keep_15 hia (by omega) (by decide) (eI _ hi) ?_
    refine a_get f_X6_256 dX6_keep_16 hio rfl ?_
    refine a_aload_n 0 dX6_keep_19 rfl rfl ?_
    refine a_get f_X6_33 dX6_keep_20 hb rfl ?_
    refine a_callVv (As := [.ref (b + 13)]) (rest := []) (d := 1) (mc := 0) (ms := 0) (ci := 0) l_X6_219 im_X0_copy se_X0_copy ⟨_, rfl, rfl⟩ dX6_keep_23 ⟨Nat.le_of_ble_eq_true rfl, Nat.le_of_ble_eq_true rfl⟩ rfl (Nat.le_of_ble_eq_true rfl) ⟨Nat.le_of_ble_eq_true rfl, Nat.le_of_ble_eq_true rfl⟩ hid (c_X0_copy hN (by omega) hiD (by omega)) (fun H2 hp2 => ?_)
    obtain ⟨hiD2, hfr⟩ := hp2
    have hb := hb.kept (hfr _ (by omega))
    have hk3 := hk3.kept (hfr _ (by omega))
    have ha3 := ha3.kept (hfr _ (by omega))
    have hb3 := hb3.kept (hfr _ (by omega))
    have hc3 := hc3.kept (hfr _ (by omega))
    have he3 := he3.kept (hfr _ (by omega))
    have hd := hd.kept (hfr _ (by omega))
    have hs := hs.kept (hfr _ (by omega))
    have hu := hu.kept (hfr _ (by omega))
    have ho := ho.kept (hfr _ (by omega))
    have hpo := hpo.kept (hfr _ (by omega))
    have hsp := hsp.kept (hfr _ (by omega))
    have hbp := hbp.kept (hfr _ (by omega))
    have hia := hia.kept (hfr _ (by omega))
    have hio := hio.kept (hfr _ (by omega))
    have hF : ∀ q : Nat, ¬ (b + 21 ≤ q ∧ q < b + 103) ∧ ¬ (b + 110 + 5 * i ≤ q ∧ q < b + 110 + 5 * i + 5) → H2[q]? = H[q]? := fun q hq => (hfr q (by omega)).trans (hF q hq)
    have hP : ∀ q : Nat, ¬ (b + 110 + 5 * i ≤ q ∧ q < b + 110 + 5 * i + 5) → H2[q]? = H[q]? := fun q hq => (hfr q (by omega)).trans (hP q hq)
    refine a_aload_n 0 dX6_keep_26 rfl rfl ?_
    refine a_get f_X6_49 dX6_keep_27 hb rfl ?_
    refine a_iload_n 1 dX6_keep_30 rfl rfl ?_
    refine a_aald (t := 4) (C0 := RX1) (x := b + 110 + 5 * i) (fun _ => rfl) dX6_keep_31 hia (by omega) (by decide) (eI _ hi) ?_
    refine a_aload_n 0 dX6_keep_32 rfl rfl ?_
    refine a_get f_X6_53 dX6_keep_33 hb rfl ?_
    refine a_put f_X6_259 p_X6_259 dX6_keep_36 hio (Nat.le_of_ble_eq_true rfl) rfl rfl (by omega) (fun H3 hio hz3 hq3 => ?_)
    have hio : Ob G H3 (b + 110 + 5 * i) 1 [.int (bI (ik i)), .ref (b + 110 + 5 * i + 1), .int (nI sd)] := hio
    have hb := hb.kept (hq3 _ (by omega))
    have hk3 := hk3.kept (hq3 _ (by omega))
    have ha3 := ha3.kept (hq3 _ (by omega))
    have hb3 := hb3.kept (hq3 _ (by omega))
    have hc3 := hc3.kept (hq3 _ (by omega))
    have he3 := he3.kept (hq3 _ (by omega))
    have hd := hd.kept (hq3 _ (by omega))
    have hs := hs.kept (hq3 _ (by omega))
    have hu := hu.kept (hq3 _ (by omega))
    have ho := ho.kept (hq3 _ (by omega))
    have hpo := hpo.kept (hq3 _ (by omega))
    have hsp := hsp.kept (hq3 _ (by omega))
    have hbp := hbp.kept (hq3 _ (by omega))
    have hia := hia.kept (hq3 _ (by omega))
    have hF : ∀ q : Nat, ¬ (b + 21 ≤ q ∧ q < b + 103) ∧ ¬ (b + 110 + 5 * i ≤ q ∧ q < b + 110 + 5 * i + 5) → H3[q]? = H[q]? := fun q hq => (hq3 q (by omega)).trans (hF q hq)
    have hP : ∀ q : Nat, ¬ (b + 110 + 5 * i ≤ q ∧ q < b + 110 + 5 * i + 5) → H3[q]? = H[q]? := fun q hq => (hq3 q (by omega)).trans (hP q hq)
    refine a_aload_n 0 dX6_keep_39 rfl rfl ?_
    refine a_get f_X6_49 dX6_keep_40 hb rfl ?_
    refine a_iload_n 1 dX6_keep_43 rfl rfl ?_
    refine a_aald (t := 4) (C0 := RX1) (x := b + 110 + 5 * i) (fun _ => rfl) dX6_keep_44 hia (by omega) (by decide) (eI _ hi) ?_
    refine a_iconst 1 dX6_keep_45 (by decide) ?_
    refine a_put f_X6_95 p_X6_95 dX6_keep_46 hio (Nat.le_of_ble_eq_true rfl) rfl rfl (by omega) (fun H4 hio hz4 hq4 => ?_)
    have hio : Ob G H4 (b + 110 + 5 * i) 1 [.int 1, .ref (b + 110 + 5 * i + 1), .int (nI sd)] := hio
    have hb := hb.kept (hq4 _ (by omega))
    have hk3 := hk3.kept (hq4 _ (by omega))
    have ha3 := ha3.kept (hq4 _ (by omega))
    have hb3 := hb3.kept (hq4 _ (by omega))
    have hc3 := hc3.kept (hq4 _ (by omega))
    have he3 := he3.kept (hq4 _ (by omega))
    have hd := hd.kept (hq4 _ (by omega))
    have hs := hs.kept (hq4 _ (by omega))
    have hu := hu.kept (hq4 _ (by omega))
    have ho := ho.kept (hq4 _ (by omega))
    have hpo := hpo.kept (hq4 _ (by omega))
    have hsp := hsp.kept (hq4 _ (by omega))
    have hbp := hbp.kept (hq4 _ (by omega))
    have hia := hia.kept (hq4 _ (by omega))
    have hF : ∀ q : Nat, ¬ (b + 21 ≤ q ∧ q < b + 103) ∧ ¬ (b + 110 + 5 * i ≤ q ∧ q < b + 110 + 5 * i + 5) → H4[q]? = H[q]? := fun q hq => (hq4 q (by omega)).trans (hF q hq)
    have hP : ∀ q : Nat, ¬ (b + 110 + 5 * i ≤ q ∧ q < b + 110 + 5 * i + 5) → H4[q]? = H[q]? := fun q hq => (hq4 q (by omega)).trans (hP q hq)
    have hPs0 := hPs.kept (H1 := H4) (fun q a c => hP q (by omega))
    refine a_aload_n 0 dX6_keep_49 rfl rfl ?_
    refine a_get f_X6_43 dX6_keep_50 hb rfl ?_
    refine a_callVv (As := []) (rest := []) (d := 0) (mc := 0) (ms := 0) (ci := 4) l_X6_92 im_X4_clear se_X4_clear ⟨_, rfl, rfl⟩ dX6_keep_53 ⟨Nat.le_of_ble_eq_true rfl, Nat.le_of_ble_eq_true rfl⟩ rfl (Nat.le_of_ble_eq_true rfl) ⟨Nat.le_of_ble_eq_true rfl, Nat.le_of_ble_eq_true rfl⟩ hpo (c_X4_clear hPs0 (by omega)) (fun H5 hp5 => ?_)
    obtain ⟨hPs1, hfr3⟩ := hp5
    have hb := hb.kept (hfr3 _ (by omega))
    have hk3 := hk3.kept (hfr3 _ (by omega))
    have ha3 := ha3.kept (hfr3 _ (by omega))
    have hb3 := hb3.kept (hfr3 _ (by omega))
    have hc3 := hc3.kept (hfr3 _ (by omega))
    have he3 := he3.kept (hfr3 _ (by omega))
    have hd := hd.kept (hfr3 _ (by omega))
    have hs := hs.kept (hfr3 _ (by omega))
    have hu := hu.kept (hfr3 _ (by omega))
    have ho := ho.kept (hfr3 _ (by omega))
    have hsp := hsp.kept (hfr3 _ (by omega))
    have hbp := hbp.kept (hfr3 _ (by omega))
    have hia := hia.kept (hfr3 _ (by omega))
    have hio := hio.kept (hfr3 _ (by omega))
    have hF : ∀ q : Nat, ¬ (b + 21 ≤ q ∧ q < b + 103) ∧ ¬ (b + 110 + 5 * i ≤ q ∧ q < b + 110 + 5 * i + 5) → H5[q]? = H[q]? := fun q hq => (hfr3 q (by omega)).trans (hF q hq)
    refine a_iconst 1 dX6_keep_56 (by decide) ?_
    have hfq : ∀ q : Nat, q ≠ b + 110 + 5 * i ∧ ¬ (b + 21 ≤ q ∧ q < b + 103) → H5[q]? = _ := fun q hq => (hfr3 q (by omega)).trans ((hq4 q (by omega)).trans (hq3 q (by omega)))
    have hIm2 : Im2 G H5 b n (fun j => if j = i then true else ik j) (fun j => if j = i then dd else iD j) (fun j => if j = i then sd else iS j) := by
      refine ⟨⟨fI, hia, eI⟩, fun j hj => ?_⟩
      by_cases e : j = i
      · subst e
        refine ⟨n, dd, nI sd, ⟨by show Ob G _ _ 1 [.int (bI (if j = j then true else ik j)), _, _]; rw [if_pos rfl]; exact hio, hiD2.kept (fun q a c => hfq q (by omega))⟩, fun _ => ⟨rfl, by simp, by simp⟩⟩
      · obtain ⟨n8, dd8, dr8, h8, h9⟩ := hIi j hj
        refine ⟨n8, dd8, dr8, by simpa [e] using h8.kept (fun q a c => hF q (by omega)), fun h => by simpa [e] using h9 (by simpa [e] using h)⟩
    refine a_ret dX6_keep_57 ⟨⟨ri ?_, ?_⟩, rfl, rfl⟩
    · rfl
    · exact ⟨⟨kr, sp, kS, kU, hC0.kept (fun q a c => hF q (by omega)), hR2.kept (fun q a c => hF q (by omega)), hK2.kept (fun q a c => hF q (by omega)), hT2.kept (fun q a c => hF q (by omega)), hPs1 _ _, hSe.kept (fun q a c => hF q (by omega)), hBo.kept (fun q a c => hF q (by omega)), hIm2⟩, fun q hq => hF q (by omega)⟩
  · skip
    exact absurd c4 (by rw [wIx_nI hi (by decide)]; decide)
set_option maxHeartbeats 4000000 in
set_option maxRecDepth 100000 in
theorem c_X6_keep_unk {G : GT} {B : Nat} {l : Launch} {H : Heap} {b : Nat} {tx : Nat → Nat} {L : Nat} {fp : Int32} {kb : Bool} {ka ks kw : Int32} {n nv : Nat} {kK kV dd : DD} {sd nx ct : Nat} {pu : Nat → DD} {sn : Nat} {sw sg : Nat → Nat} {bn : Nat} {bw : Nat → Nat} {bt : DD} {ik : Nat → Bool} {iD : Nat → DD} {iS : Nat → Nat} {i : Int32} (hi : wIx 2 i = false) (hX : Bx G H b tx L fp kb ka ks kw n nv kK kV dd sd nx ct pu sn sw sg bn bw bt ik iD iS) (hB : B ≤ b) : AM G B l yX6_keep cX6_keep 2 (some .int) 2 0 0 [.ref b, .int i] H (fun rv H' => rv = some (.int (-1000000001)) ∧ (H' = H)) := by
  have hX0 := hX
  obtain ⟨kr, sp, kS, kU, hC, hR2, hK2, hT2, hPs, hSe, hBo, hIm⟩ := hX
  have hC0 := hC
  obtain ⟨hb, hK, hD, hkr⟩ := hC
  have hK0 := hK
  have hN := hD
  unfold bxL at hb
  obtain ⟨fS3, fU3, fK3, fV3, hk3, ha3, hb3, hc3, he3, eS3, eU3, eK3, eV3, hn3, hnv3⟩ := hK
  obtain ⟨fS, fU, fO, hd, hs, hu, ho, eS, eU, eO, hn⟩ := hD
  have hpo := hPs.1
  have hse := hSe
  have hbo := hBo
  obtain ⟨fA, fB, hsp, hsa, hsb, eA, eB, hsN, -⟩ := hse
  obtain ⟨fA2, fB2, hbp, hba, hbb, eA2, eB2, hbN, -⟩ := hbo
  refine AM.ofI (lv := [(0, .ref b), (1, .int i)]) (by decide +kernel) (Nat.le_of_ble_eq_true rfl) rfl ?_ (fun _ h => by cases h.1)
  refine a_iload_n 1 dX6_keep_0 rfl rfl ?_
  refine a_callSp (As := [.int i]) (rest := []) (d := 0) (mc := 0) (ms := 0) (x := bI (wIx 2 i)) l_X6_253 st_X6_isImage dX6_keep_1 ⟨Nat.le_of_ble_eq_true rfl, Nat.le_of_ble_eq_true rfl⟩ rfl (Nat.le_of_ble_eq_true rfl) ⟨Nat.le_of_ble_eq_true rfl, Nat.le_of_ble_eq_true rfl⟩ (c_X6_isImage) ?_
  refine a_ifneB 10 dX6_keep_4 (by decide) (fun c4 => ?_) (fun c4 => ?_)
  · skip
    exact absurd c4 (by rw [hi]; decide)
  · skip
    refine a_ldc (-1000000001) k_X6_134 dX6_keep_7 ?_
    refine a_ret dX6_keep_9 ⟨⟨ri ?_, ?_⟩, rfl, rfl⟩
    · rfl
    · rfl
set_option maxHeartbeats 4000000 in
set_option maxRecDepth 100000 in
theorem c_X6_goBack {G : GT} {B : Nat} {l : Launch} {H : Heap} {b : Nat} {tx : Nat → Nat} {L : Nat} {fp : Int32} {kb : Bool} {ka ks kw : Int32} {n nv : Nat} {kK kV dd : DD} {sd nx ct : Nat} {pu : Nat → DD} {sn : Nat} {sw sg : Nat → Nat} {bn : Nat} {bw : Nat → Nat} {bt : DD} {ik : Nat → Bool} {iD : Nat → DD} {iS : Nat → Nat} {i : Nat} (hi : i < 2) (hk : ik i = true) (hX : Bx G H b tx L fp kb ka ks kw n nv kK kV dd sd nx ct pu sn sw sg bn bw bt ik iD iS) (hB : B ≤ b) : AM G B l yX6_goBack cX6_goBack 2 (some .int) 2 0 0 [.ref b, .int (nI i)] H (fun rv H' => rv = some (.int 1) ∧ (Bx G H' b tx L fp kb ka ks kw n nv kK kV (iD i) (iS i) nx 0 pu sn sw sg bn bw bt ik iD iS ∧ ∀ q : Nat, ¬ (b ≤ q ∧ q < b + 120) → H'[q]? = H[q]?)) := by
  have hX0 := hX
  obtain ⟨kr, sp, kS, kU, hC, hR2, hK2, hT2, hPs, hSe, hBo, hIm⟩ := hX
  have hC0 := hC
  obtain ⟨hb, hK, hD, hkr⟩ := hC
  have hK0 := hK
  have hN := hD
  unfold bxL at hb
  obtain ⟨fS3, fU3, fK3, fV3, hk3, ha3, hb3, hc3, he3, eS3, eU3, eK3, eV3, hn3, hnv3⟩ := hK
  obtain ⟨fS, fU, fO, hd, hs, hu, ho, eS, eU, eO, hn⟩ := hD
  have hpo := hPs.1
  have hse := hSe
  have hbo := hBo
  obtain ⟨fA, fB, hsp, hsa, hsb, eA, eB, hsN, -⟩ := hse
  obtain ⟨fA2, fB2, hbp, hba, hbb, eA2, eB2, hbN, -⟩ := hbo
  obtain ⟨⟨fI, hia, eI⟩, hIi⟩ := id hIm
  obtain ⟨n9, dd9, dr, ⟨hio, hiD⟩, hiv⟩ := hIi i hi
  obtain ⟨e1, e2, e3⟩ := hiv hk
  rw [e1, e2] at hiD
  rw [e3] at hio
  have hid := hiD.choose_spec.choose_spec.choose_spec.1
  have hF : ∀ q : Nat, q ≠ b ∧ ¬ (b + 13 ≤ q ∧ q < b + 17) ∧ ¬ (b + 21 ≤ q ∧ q < b + 103) → H[q]? = H[q]? := fun _ _ => rfl
  have hP : ∀ q : Nat, q ≠ b ∧ ¬ (b + 13 ≤ q ∧ q < b + 17) → H[q]? = H[q]? := fun _ _ => rfl
  refine AM.ofI (lv := [(0, .ref b), (1, .int (nI i))]) (by decide +kernel) (Nat.le_of_ble_eq_true rfl) rfl ?_ (fun _ h => by cases h.1)
  refine a_iload_n 1 dX6_goBack_0 rfl rfl ?_
  refine a_callSp (As := [.int (nI i)]) (rest := []) (d := 0) (mc := 0) (ms := 0) (x := bI (wIx 2 (nI i))) l_X6_253 st_X6_isImage dX6_goBack_1 ⟨Nat.le_of_ble_eq_true rfl, Nat.le_of_ble_eq_true rfl⟩ rfl (Nat.le_of_ble_eq_true rfl) ⟨Nat.le_of_ble_eq_true rfl, Nat.le_of_ble_eq_true rfl⟩ (c_X6_isImage) ?_
  refine a_ifneB 10 dX6_goBack_4 (by decide) (fun c4 => ?_) (fun c4 => ?_)
  · skip
    refine a_aload_n 0 dX6_goBack_10 rfl rfl ?_
    refine a_get f_X6_49 dX6_goBack_11 hb rfl ?_
    refine a_iload_n 1 dX6_goBack_14 rfl rfl ?_
    refine a_aald (t := 4) (C0 := RX1) (x := b + 110 + 5 * i) (fun _ => rfl) dX6_goBack_15 hia (by omega) (by decide) (eI _ hi) ?_
    refine a_get f_X6_95 dX6_goBack_16 hio rfl ?_
    refine a_ifneB 25 dX6_goBack_19 (by decide) (fun c19 => ?_) (fun c19 => ?_)
    · skip
      refine a_aload_n 0 dX6_goBack_25 rfl rfl ?_
      refine a_get f_X6_33 dX6_goBack_26 hb rfl ?_
      refine a_aload_n 0 dX6_goBack_29 rfl rfl ?_
      refine a_get f_X6_49 dX6_goBack_30 hb rfl ?_
      refine a_iload_n 1 dX6_goBack_33 rfl rfl ?_
      refine a_aald (t := 4) (C0 := RX1) (x := b + 110 + 5 * i) (fun _ => rfl) dX6_goBack_34 hia (by omega) (by decide) (eI _ hi) ?_
      refine a_get f_X6_256 dX6_goBack_35 hio rfl ?_
      refine a_callVv (As := [.ref (b + 110 + 5 * i + 1)]) (rest := []) (d := 1) (mc := 0) (ms := 0) (ci := 0) l_X6_219 im_X0_copy se_X0_copy ⟨_, rfl, rfl⟩ dX6_goBack_38 ⟨Nat.le_of_ble_eq_true rfl, Nat.le_of_ble_eq_true rfl⟩ rfl (Nat.le_of_ble_eq_true rfl) ⟨Nat.le_of_ble_eq_true rfl, Nat.le_of_ble_eq_true rfl⟩ hd (c_X0_copy hiD (by omega) hN (by omega)) (fun H2 hp2 => ?_)
      obtain ⟨hD1, hfr⟩ := hp2
      have hC1 := hC0.now hD1 (fun q a c => hfr q (by omega))
      have hb := hb.kept (hfr _ (by omega))
      have hk3 := hk3.kept (hfr _ (by omega))
      have ha3 := ha3.kept (hfr _ (by omega))
      have hb3 := hb3.kept (hfr _ (by omega))
      have hc3 := hc3.kept (hfr _ (by omega))
      have he3 := he3.kept (hfr _ (by omega))
      have hpo := hpo.kept (hfr _ (by omega))
      have hsp := hsp.kept (hfr _ (by omega))
      have hbp := hbp.kept (hfr _ (by omega))
      have hia := hia.kept (hfr _ (by omega))
      have hio := hio.kept (hfr _ (by omega))
      have hF : ∀ q : Nat, q ≠ b ∧ ¬ (b + 13 ≤ q ∧ q < b + 17) ∧ ¬ (b + 21 ≤ q ∧ q < b + 103) → H2[q]? = H[q]? := fun q hq => (hfr q (by omega)).trans (hF q hq)
      have hP : ∀ q : Nat, q ≠ b ∧ ¬ (b + 13 ≤ q ∧ q < b + 17) → H2[q]? = H[q]? := fun q hq => (hfr q (by omega)).trans (hP q hq)
      refine a_aload_n 0 dX6_goBack_41 rfl rfl ?_
      refine a_aload_n 0 dX6_goBack_42 rfl rfl ?_
      refine a_get f_X6_49 dX6_goBack_43 hb rfl ?_
      refine a_iload_n 1 dX6_goBack_46 rfl rfl ?_
      refine a_aald (t := 4) (C0 := RX1) (x := b + 110 + 5 * i) (fun _ => rfl) dX6_goBack_47 hia (by omega) (by decide) (eI _ hi) ?_
      refine a_get f_X6_259 dX6_goBack_48 hio rfl ?_
      refine a_put f_X6_53 p_X6_53 dX6_goBack_51 hb (Nat.le_of_ble_eq_true rfl) rfl rfl (by omega) (fun H3 hb hz3 hq3 => ?_)
      have hb : Ob G H3 b 6 [.ref (b + 1), .int fp, .ref kr, .ref sp, .ref (b + 13), .ref (b + 17), .ref (b + 21), .ref (b + 103), .int (nI (iS i)), .ref (b + 104), .ref (b + 107)] := hb
      have hk3 := hk3.kept (hq3 _ (by omega))
      have ha3 := ha3.kept (hq3 _ (by omega))
      have hb3 := hb3.kept (hq3 _ (by omega))
      have hc3 := hc3.kept (hq3 _ (by omega))
      have he3 := he3.kept (hq3 _ (by omega))
      have hpo := hpo.kept (hq3 _ (by omega))
      have hsp := hsp.kept (hq3 _ (by omega))
      have hbp := hbp.kept (hq3 _ (by omega))
      have hia := hia.kept (hq3 _ (by omega))
      have hio := hio.kept (hq3 _ (by omega))
      have hF : ∀ q : Nat, q ≠ b ∧ ¬ (b + 13 ≤ q ∧ q < b + 17) ∧ ¬ (b + 21 ≤ q ∧ q < b + 103) → H3[q]? = H[q]? := fun q hq => (hq3 q (by omega)).trans (hF q hq)
      have hP : ∀ q : Nat, q ≠ b ∧ ¬ (b + 13 ≤ q ∧ q < b + 17) → H3[q]? = H[q]? := fun q hq => (hq3 q (by omega)).trans (hP q hq)
      have hC2 := hC1.box hb hq3
      have hPs0 := hPs.kept (H1 := H3) (fun q a c => hP q (by omega))
      refine a_aload_n 0 dX6_goBack_54 rfl rfl ?_
      refine a_get f_X6_43 dX6_goBack_55 hb rfl ?_
      refine a_callVv (As := []) (rest := []) (d := 0) (mc := 0) (ms := 0) (ci := 4) l_X6_92 im_X4_clear se_X4_clear ⟨_, rfl, rfl⟩ dX6_goBack_58 ⟨Nat.le_of_ble_eq_true rfl, Nat.le_of_ble_eq_true rfl⟩ rfl (Nat.le_of_ble_eq_true rfl) ⟨Nat.le_of_ble_eq_true rfl, Nat.le_of_ble_eq_true rfl⟩ hpo (c_X4_clear hPs0 (by omega)) (fun H4 hp4 => ?_)
      obtain ⟨hPs1, hfr3⟩ := hp4
      have hC3 := hC2.kept (H1 := H4) (fun q a c => hfr3 q (by omega))
      have hF : ∀ q : Nat, q ≠ b ∧ ¬ (b + 13 ≤ q ∧ q < b + 17) ∧ ¬ (b + 21 ≤ q ∧ q < b + 103) → H4[q]? = H[q]? := fun q hq => (hfr3 q (by omega)).trans (hF q hq)
      refine a_iconst 1 dX6_goBack_61 (by decide) ?_
      refine a_ret dX6_goBack_62 ⟨⟨ri ?_, ?_⟩, rfl, rfl⟩
      · rfl
      · exact ⟨⟨kr, sp, kS, kU, hC3, hR2.kept (fun q a c => hF q (by omega)), hK2.kept (fun q a c => hF q (by omega)), hT2.kept (fun q a c => hF q (by omega)), hPs1 _ _, hSe.kept (fun q a c => hF q (by omega)), hBo.kept (fun q a c => hF q (by omega)), hIm.kept (fun q a => hF q (by omega))⟩, fun q hq => hF q (by omega)⟩
    · skip
      exact absurd c19 (by rw [hk]; decide)
  · skip
    exact absurd c4 (by rw [wIx_nI hi (by decide)]; decide)
set_option maxHeartbeats 4000000 in
set_option maxRecDepth 100000 in
theorem c_X6_goBack_unk {G : GT} {B : Nat} {l : Launch} {H : Heap} {b : Nat} {tx : Nat → Nat} {L : Nat} {fp : Int32} {kb : Bool} {ka ks kw : Int32} {n nv : Nat} {kK kV dd : DD} {sd nx ct : Nat} {pu : Nat → DD} {sn : Nat} {sw sg : Nat → Nat} {bn : Nat} {bw : Nat → Nat} {bt : DD} {ik : Nat → Bool} {iD : Nat → DD} {iS : Nat → Nat} {i : Int32} (hi : wIx 2 i = false) (hX : Bx G H b tx L fp kb ka ks kw n nv kK kV dd sd nx ct pu sn sw sg bn bw bt ik iD iS) (hB : B ≤ b) : AM G B l yX6_goBack cX6_goBack 2 (some .int) 2 0 0 [.ref b, .int i] H (fun rv H' => rv = some (.int (-1000000001)) ∧ (H' = H)) := by
  have hX0 := hX
  obtain ⟨kr, sp, kS, kU, hC, hR2, hK2, hT2, hPs, hSe, hBo, hIm⟩ := hX
  have hC0 := hC
  obtain ⟨hb, hK, hD, hkr⟩ := hC
  have hK0 := hK
  have hN := hD
  unfold bxL at hb
  obtain ⟨fS3, fU3, fK3, fV3, hk3, ha3, hb3, hc3, he3, eS3, eU3, eK3, eV3, hn3, hnv3⟩ := hK
  obtain ⟨fS, fU, fO, hd, hs, hu, ho, eS, eU, eO, hn⟩ := hD
  have hpo := hPs.1
  have hse := hSe
  have hbo := hBo
  obtain ⟨fA, fB, hsp, hsa, hsb, eA, eB, hsN, -⟩ := hse
  obtain ⟨fA2, fB2, hbp, hba, hbb, eA2, eB2, hbN, -⟩ := hbo
  refine AM.ofI (lv := [(0, .ref b), (1, .int i)]) (by decide +kernel) (Nat.le_of_ble_eq_true rfl) rfl ?_ (fun _ h => by cases h.1)
  refine a_iload_n 1 dX6_goBack_0 rfl rfl ?_
  refine a_callSp (As := [.int i]) (rest := []) (d := 0) (mc := 0) (ms := 0) (x := bI (wIx 2 i)) l_X6_253 st_X6_isImage dX6_goBack_1 ⟨Nat.le_of_ble_eq_true rfl, Nat.le_of_ble_eq_true rfl⟩ rfl (Nat.le_of_ble_eq_true rfl) ⟨Nat.le_of_ble_eq_true rfl, Nat.le_of_ble_eq_true rfl⟩ (c_X6_isImage) ?_
  refine a_ifneB 10 dX6_goBack_4 (by decide) (fun c4 => ?_) (fun c4 => ?_)
  · skip
    exact absurd c4 (by rw [hi]; decide)
  · skip
    refine a_ldc (-1000000001) k_X6_134 dX6_goBack_7 ?_
    refine a_ret dX6_goBack_9 ⟨⟨ri ?_, ?_⟩, rfl, rfl⟩
    · rfl
    · rfl
set_option maxHeartbeats 4000000 in
set_option maxRecDepth 100000 in
theorem c_X6_goBack_not {G : GT} {B : Nat} {l : Launch} {H : Heap} {b : Nat} {tx : Nat → Nat} {L : Nat} {fp : Int32} {kb : Bool} {ka ks kw : Int32} {n nv : Nat} {kK kV dd : DD} {sd nx ct : Nat} {pu : Nat → DD} {sn : Nat} {sw sg : Nat → Nat} {bn : Nat} {bw : Nat → Nat} {bt : DD} {ik : Nat → Bool} {iD : Nat → DD} {iS : Nat → Nat} {i : Nat} (hi : i < 2) (hk : ik i = false) (hX : Bx G H b tx L fp kb ka ks kw n nv kK kV dd sd nx ct pu sn sw sg bn bw bt ik iD iS) (hB : B ≤ b) : AM G B l yX6_goBack cX6_goBack 2 (some .int) 2 0 0 [.ref b, .int (nI i)] H (fun rv H' => rv = some (.int (-1000000003)) ∧ (H' = H)) := by
  have hX0 := hX
  obtain ⟨kr, sp, kS, kU, hC, hR2, hK2, hT2, hPs, hSe, hBo, hIm⟩ := hX
  have hC0 := hC
  obtain ⟨hb, hK, hD, hkr⟩ := hC
  have hK0 := hK
  have hN := hD
  unfold bxL at hb
  obtain ⟨fS3, fU3, fK3, fV3, hk3, ha3, hb3, hc3, he3, eS3, eU3, eK3, eV3, hn3, hnv3⟩ := hK
  obtain ⟨fS, fU, fO, hd, hs, hu, ho, eS, eU, eO, hn⟩ := hD
  have hpo := hPs.1
  have hse := hSe
  have hbo := hBo
  obtain ⟨fA, fB, hsp, hsa, hsb, eA, eB, hsN, -⟩ := hse
  obtain ⟨fA2, fB2, hbp, hba, hbb, eA2, eB2, hbN, -⟩ := hbo
  obtain ⟨⟨fI, hia, eI⟩, hIi⟩ := id hIm
  obtain ⟨n9, dd9, dr, ⟨hio, hiD⟩, hiv⟩ := hIi i hi
  have hid := hiD.choose_spec.choose_spec.choose_spec.1
  refine AM.ofI (lv := [(0, .ref b), (1, .int (nI i))]) (by decide +kernel) (Nat.le_of_ble_eq_true rfl) rfl ?_ (fun _ h => by cases h.1)
  refine a_iload_n 1 dX6_goBack_0 rfl rfl ?_
  refine a_callSp (As := [.int (nI i)]) (rest := []) (d := 0) (mc := 0) (ms := 0) (x := bI (wIx 2 (nI i))) l_X6_253 st_X6_isImage dX6_goBack_1 ⟨Nat.le_of_ble_eq_true rfl, Nat.le_of_ble_eq_true rfl⟩ rfl (Nat.le_of_ble_eq_true rfl) ⟨Nat.le_of_ble_eq_true rfl, Nat.le_of_ble_eq_true rfl⟩ (c_X6_isImage) ?_
  refine a_ifneB 10 dX6_goBack_4 (by decide) (fun c4 => ?_) (fun c4 => ?_)
  · skip
    refine a_aload_n 0 dX6_goBack_10 rfl rfl ?_
    refine a_get f_X6_49 dX6_goBack_11 hb rfl ?_
    refine a_iload_n 1 dX6_goBack_14 rfl rfl ?_
    refine a_aald (t := 4) (C0 := RX1) (x := b + 110 + 5 * i) (fun _ => rfl) dX6_goBack_15 hia (by omega) (by decide) (eI _ hi) ?_
    refine a_get f_X6_95 dX6_goBack_16 hio rfl ?_
    refine a_ifneB 25 dX6_goBack_19 (by decide) (fun c19 => ?_) (fun c19 => ?_)
    · skip
      exact absurd c19 (by rw [hk]; decide)
    · skip
      refine a_ldc (-1000000003) k_X6_157 dX6_goBack_22 ?_
      refine a_ret dX6_goBack_24 ⟨⟨ri ?_, ?_⟩, rfl, rfl⟩
      · rfl
      · rfl
  · skip
    exact absurd c4 (by rw [wIx_nI hi (by decide)]; decide)
set_option maxHeartbeats 4000000 in
set_option maxRecDepth 100000 in
theorem c_X6_feed {G : GT} {B : Nat} {l : Launch} {H : Heap} {b : Nat} {tx : Nat → Nat} {L : Nat} {fp : Int32} {kb : Bool} {ka ks kw : Int32} {n nv : Nat} {kK kV dd : DD} {sd nx ct : Nat} {pu : Nat → DD} {sn : Nat} {sw sg : Nat → Nat} {bn : Nat} {bw : Nat → Nat} {bt : DD} {ik : Nat → Bool} {iD : Nat → DD} {iS : Nat → Nat} {c : Nat} (hc : c < 256) (hL : L < 240) (hX : Bx G H b tx L fp kb ka ks kw n nv kK kV dd sd nx ct pu sn sw sg bn bw bt ik iD iS) (hB : B ≤ b) : AM G B l yX6_feed cX6_feed 2 (some .int) 1 0 0 [.ref b, .int (nI c)] H (fun rv H' => rv = some (.int (nI (L + 1))) ∧ (Bx G H' b (fun i => if i = L then c else tx i) (L + 1) fp kb ka ks kw n nv kK kV dd sd nx ct pu sn sw sg bn bw bt ik iD iS ∧ ∀ q : Nat, ¬ (b ≤ q ∧ q < b + 120) → H'[q]? = H[q]?)) := by
  have hX0 := hX
  obtain ⟨kr, sp, kS, kU, hC, hR2, hK2, hT2, hPs, hSe, hBo, hIm⟩ := hX
  have hC0 := hC
  obtain ⟨hb, hK, hD, hkr⟩ := hC
  have hK0 := hK
  have hN := hD
  unfold bxL at hb
  obtain ⟨fS3, fU3, fK3, fV3, hk3, ha3, hb3, hc3, he3, eS3, eU3, eK3, eV3, hn3, hnv3⟩ := hK
  obtain ⟨fS, fU, fO, hd, hs, hu, ho, eS, eU, eO, hn⟩ := hD
  have hpo := hPs.1
  have hse := hSe
  have hbo := hBo
  obtain ⟨fA, fB, hsp, hsa, hsb, eA, eB, hsN, -⟩ := hse
  obtain ⟨fA2, fB2, hbp, hba, hbb, eA2, eB2, hbN, -⟩ := hbo
  obtain ⟨pl, kd, hR⟩ := id hR2
  obtain ⟨ft, hr, -⟩ := id hR
  have hF : ∀ q : Nat, ¬ (b + 1 ≤ q ∧ q < b + 3) → H[q]? = H[q]? := fun _ _ => rfl
  refine AM.ofI (lv := [(0, .ref b), (1, .int (nI c))]) (by decide +kernel) (Nat.le_of_ble_eq_true rfl) rfl ?_ (fun _ h => by cases h.1)
  refine a_iload_n 1 dX6_feed_0 rfl rfl ?_
  refine a_ifltN (a := c) 11 dX6_feed_1 (by decide) (by omega) (fun c1 => ?_) (fun c1 => ?_)
  · skip
    exact c1.elim
  · skip
    refine a_iload_n 1 dX6_feed_4 rfl rfl ?_
    refine a_sipush 255 dX6_feed_5 (by decide) ?_
    refine a_icmpleN (a := c) (b := 255) 14 dX6_feed_8 (by decide) (by omega) (by omega) (fun c8 => ?_) (fun c8 => ?_)
    · skip
      refine a_aload_n 0 dX6_feed_14 rfl rfl ?_
      refine a_get f_X6_10 dX6_feed_15 hb rfl ?_
      refine a_iload_n 1 dX6_feed_18 rfl rfl ?_
      refine a_callVi (As := [.int (nI c)]) (rest := []) (d := 0) (mc := 0) (ms := 0) (x := bI (decide (L < 240))) (ci := 5) l_X6_70 im_X5_append se_X5_append ⟨_, rfl, rfl⟩ dX6_feed_19 ⟨Nat.le_of_ble_eq_true rfl, Nat.le_of_ble_eq_true rfl⟩ rfl (Nat.le_of_ble_eq_true rfl) ⟨Nat.le_of_ble_eq_true rfl, Nat.le_of_ble_eq_true rfl⟩ hr (c_X5_append hR hc (by omega)) (fun H1 hp1 => ?_)
      obtain ⟨hR1, hfr⟩ := hp1
      rw [if_pos hL, if_pos hL] at hR1
      obtain ⟨ft9, hr, -⟩ := id hR1
      have hb := hb.kept (hfr _ (by omega))
      have hk3 := hk3.kept (hfr _ (by omega))
      have ha3 := ha3.kept (hfr _ (by omega))
      have hb3 := hb3.kept (hfr _ (by omega))
      have hc3 := hc3.kept (hfr _ (by omega))
      have he3 := he3.kept (hfr _ (by omega))
      have hd := hd.kept (hfr _ (by omega))
      have hs := hs.kept (hfr _ (by omega))
      have hu := hu.kept (hfr _ (by omega))
      have ho := ho.kept (hfr _ (by omega))
      have hpo := hpo.kept (hfr _ (by omega))
      have hsp := hsp.kept (hfr _ (by omega))
      have hbp := hbp.kept (hfr _ (by omega))
      have hF : ∀ q : Nat, ¬ (b + 1 ≤ q ∧ q < b + 3) → H1[q]? = H[q]? := fun q hq => (hfr q (by omega)).trans (hF q hq)
      refine a_ifeqB 35 dX6_feed_22 (by decide) (fun c22 => ?_) (fun c22 => ?_)
      · skip
        exact absurd c22 (by rw [decide_eq_true hL]; decide)
      · skip
        refine a_aload_n 0 dX6_feed_25 rfl rfl ?_
        refine a_get f_X6_10 dX6_feed_26 hb rfl ?_
        refine a_get f_X6_74 dX6_feed_29 hr rfl ?_
        refine a_goto 37 dX6_feed_32 (by decide) ?_
        refine a_ret dX6_feed_37 ⟨⟨ri ?_, ?_⟩, rfl, rfl⟩
        · rfl
        · exact ⟨⟨kr, sp, kS, kU, hC0.kept (fun q a c => hF q (by omega)), ⟨_, _, hR1⟩, hK2.kept (fun q a c => hF q (by omega)), hT2.kept (fun q a c => hF q (by omega)), hPs.kept (fun q a c => hF q (by omega)), hSe.kept (fun q a c => hF q (by omega)), hBo.kept (fun q a c => hF q (by omega)), hIm.kept (fun q a => hF q (by omega))⟩, fun q hq => hF q (by omega)⟩
    · skip
      omega
set_option maxHeartbeats 4000000 in
set_option maxRecDepth 100000 in
theorem c_X6_feed_full {G : GT} {B : Nat} {l : Launch} {H : Heap} {b : Nat} {tx : Nat → Nat} {L : Nat} {fp : Int32} {kb : Bool} {ka ks kw : Int32} {n nv : Nat} {kK kV dd : DD} {sd nx ct : Nat} {pu : Nat → DD} {sn : Nat} {sw sg : Nat → Nat} {bn : Nat} {bw : Nat → Nat} {bt : DD} {ik : Nat → Bool} {iD : Nat → DD} {iS : Nat → Nat} {c : Nat} (hc : c < 256) (hL : L = 240) (hX : Bx G H b tx L fp kb ka ks kw n nv kK kV dd sd nx ct pu sn sw sg bn bw bt ik iD iS) (hB : B ≤ b) : AM G B l yX6_feed cX6_feed 2 (some .int) 1 0 0 [.ref b, .int (nI c)] H (fun rv H' => rv = some (.int (-1000000004)) ∧ (Bx G H' b tx L fp kb ka ks kw n nv kK kV dd sd nx ct pu sn sw sg bn bw bt ik iD iS ∧ ∀ q : Nat, ¬ (b ≤ q ∧ q < b + 120) → H'[q]? = H[q]?)) := by
  have hX0 := hX
  obtain ⟨kr, sp, kS, kU, hC, hR2, hK2, hT2, hPs, hSe, hBo, hIm⟩ := hX
  have hC0 := hC
  obtain ⟨hb, hK, hD, hkr⟩ := hC
  have hK0 := hK
  have hN := hD
  unfold bxL at hb
  obtain ⟨fS3, fU3, fK3, fV3, hk3, ha3, hb3, hc3, he3, eS3, eU3, eK3, eV3, hn3, hnv3⟩ := hK
  obtain ⟨fS, fU, fO, hd, hs, hu, ho, eS, eU, eO, hn⟩ := hD
  have hpo := hPs.1
  have hse := hSe
  have hbo := hBo
  obtain ⟨fA, fB, hsp, hsa, hsb, eA, eB, hsN, -⟩ := hse
  obtain ⟨fA2, fB2, hbp, hba, hbb, eA2, eB2, hbN, -⟩ := hbo
  obtain ⟨pl, kd, hR⟩ := id hR2
  obtain ⟨ft, hr, -⟩ := id hR
  have hF : ∀ q : Nat, ¬ (b + 1 ≤ q ∧ q < b + 3) → H[q]? = H[q]? := fun _ _ => rfl
  refine AM.ofI (lv := [(0, .ref b), (1, .int (nI c))]) (by decide +kernel) (Nat.le_of_ble_eq_true rfl) rfl ?_ (fun _ h => by cases h.1)
  refine a_iload_n 1 dX6_feed_0 rfl rfl ?_
  refine a_ifltN (a := c) 11 dX6_feed_1 (by decide) (by omega) (fun c1 => ?_) (fun c1 => ?_)
  · skip
    exact c1.elim
  · skip
    refine a_iload_n 1 dX6_feed_4 rfl rfl ?_
    refine a_sipush 255 dX6_feed_5 (by decide) ?_
    refine a_icmpleN (a := c) (b := 255) 14 dX6_feed_8 (by decide) (by omega) (by omega) (fun c8 => ?_) (fun c8 => ?_)
    · skip
      refine a_aload_n 0 dX6_feed_14 rfl rfl ?_
      refine a_get f_X6_10 dX6_feed_15 hb rfl ?_
      refine a_iload_n 1 dX6_feed_18 rfl rfl ?_
      refine a_callVi (As := [.int (nI c)]) (rest := []) (d := 0) (mc := 0) (ms := 0) (x := bI (decide (L < 240))) (ci := 5) l_X6_70 im_X5_append se_X5_append ⟨_, rfl, rfl⟩ dX6_feed_19 ⟨Nat.le_of_ble_eq_true rfl, Nat.le_of_ble_eq_true rfl⟩ rfl (Nat.le_of_ble_eq_true rfl) ⟨Nat.le_of_ble_eq_true rfl, Nat.le_of_ble_eq_true rfl⟩ hr (c_X5_append hR hc (by omega)) (fun H1 hp1 => ?_)
      obtain ⟨hR1, hfr⟩ := hp1
      rw [if_neg (by omega), if_neg (by omega)] at hR1
      have hb := hb.kept (hfr _ (by omega))
      have hk3 := hk3.kept (hfr _ (by omega))
      have ha3 := ha3.kept (hfr _ (by omega))
      have hb3 := hb3.kept (hfr _ (by omega))
      have hc3 := hc3.kept (hfr _ (by omega))
      have he3 := he3.kept (hfr _ (by omega))
      have hd := hd.kept (hfr _ (by omega))
      have hs := hs.kept (hfr _ (by omega))
      have hu := hu.kept (hfr _ (by omega))
      have ho := ho.kept (hfr _ (by omega))
      have hpo := hpo.kept (hfr _ (by omega))
      have hsp := hsp.kept (hfr _ (by omega))
      have hbp := hbp.kept (hfr _ (by omega))
      have hF : ∀ q : Nat, ¬ (b + 1 ≤ q ∧ q < b + 3) → H1[q]? = H[q]? := fun q hq => (hfr q (by omega)).trans (hF q hq)
      refine a_ifeqB 35 dX6_feed_22 (by decide) (fun c22 => ?_) (fun c22 => ?_)
      · skip
        refine a_ldc (-1000000004) k_X6_77 dX6_feed_35 ?_
        refine a_ret dX6_feed_37 ⟨⟨ri ?_, ?_⟩, rfl, rfl⟩
        · rfl
        · exact ⟨⟨kr, sp, kS, kU, hC0.kept (fun q a c => hF q (by omega)), ⟨_, _, hR1⟩, hK2.kept (fun q a c => hF q (by omega)), hT2.kept (fun q a c => hF q (by omega)), hPs.kept (fun q a c => hF q (by omega)), hSe.kept (fun q a c => hF q (by omega)), hBo.kept (fun q a c => hF q (by omega)), hIm.kept (fun q a => hF q (by omega))⟩, fun q hq => hF q (by omega)⟩
      · skip
        exact absurd c22 (by rw [decide_eq_false (by omega)]; decide)
    · skip
      omega
set_option maxHeartbeats 4000000 in
set_option maxRecDepth 100000 in
theorem c_X6_feed_out {G : GT} {B : Nat} {l : Launch} {H : Heap} {b : Nat} {tx : Nat → Nat} {L : Nat} {fp : Int32} {kb : Bool} {ka ks kw : Int32} {n nv : Nat} {kK kV dd : DD} {sd nx ct : Nat} {pu : Nat → DD} {sn : Nat} {sw sg : Nat → Nat} {bn : Nat} {bw : Nat → Nat} {bt : DD} {ik : Nat → Bool} {iD : Nat → DD} {iS : Nat → Nat} {c : Int32} (hq : c < 0 ∨ ¬ c ≤ 255) (hX : Bx G H b tx L fp kb ka ks kw n nv kK kV dd sd nx ct pu sn sw sg bn bw bt ik iD iS) (hB : B ≤ b) : AM G B l yX6_feed cX6_feed 2 (some .int) 1 0 0 [.ref b, .int c] H (fun rv H' => rv = some (.int (-1000000002)) ∧ (H' = H)) := by
  have hX0 := hX
  obtain ⟨kr, sp, kS, kU, hC, hR2, hK2, hT2, hPs, hSe, hBo, hIm⟩ := hX
  have hC0 := hC
  obtain ⟨hb, hK, hD, hkr⟩ := hC
  have hK0 := hK
  have hN := hD
  unfold bxL at hb
  obtain ⟨fS3, fU3, fK3, fV3, hk3, ha3, hb3, hc3, he3, eS3, eU3, eK3, eV3, hn3, hnv3⟩ := hK
  obtain ⟨fS, fU, fO, hd, hs, hu, ho, eS, eU, eO, hn⟩ := hD
  have hpo := hPs.1
  have hse := hSe
  have hbo := hBo
  obtain ⟨fA, fB, hsp, hsa, hsb, eA, eB, hsN, -⟩ := hse
  obtain ⟨fA2, fB2, hbp, hba, hbb, eA2, eB2, hbN, -⟩ := hbo
  refine AM.ofI (lv := [(0, .ref b), (1, .int c)]) (by decide +kernel) (Nat.le_of_ble_eq_true rfl) rfl ?_ (fun _ h => by cases h.1)
  refine a_iload_n 1 dX6_feed_0 rfl rfl ?_
  refine a_iflt 11 dX6_feed_1 (by decide) (fun c1 => ?_) (fun c1 => ?_)
  · skip
    refine a_ldc (-1000000002) k_X6_69 dX6_feed_11 ?_
    refine a_ret dX6_feed_13 ⟨⟨ri ?_, ?_⟩, rfl, rfl⟩
    · rfl
    · rfl
  · skip
    refine a_iload_n 1 dX6_feed_4 rfl rfl ?_
    refine a_sipush 255 dX6_feed_5 (by decide) ?_
    refine a_icmple 14 dX6_feed_8 (by decide) (fun c8 => ?_) (fun c8 => ?_)
    · skip
      exact (hq.elim c1 (fun h => h c8)).elim
    · skip
      refine a_ldc (-1000000002) k_X6_69 dX6_feed_11 ?_
      refine a_ret dX6_feed_13 ⟨⟨ri ?_, ?_⟩, rfl, rfl⟩
      · rfl
      · rfl
set_option maxHeartbeats 4000000 in
set_option maxRecDepth 100000 in
theorem c_X6_told {G : GT} {B : Nat} {l : Launch} {H : Heap} {b : Nat} {tx : Nat → Nat} {L : Nat} {fp : Int32} {kb : Bool} {ka ks kw : Int32} {n nv : Nat} {kK kV dd : DD} {sd nx ct : Nat} {pu : Nat → DD} {sn : Nat} {sw sg : Nat → Nat} {bn : Nat} {bw : Nat → Nat} {bt : DD} {ik : Nat → Bool} {iD : Nat → DD} {iS : Nat → Nat} {what : Int32} (hX : Bx G H b tx L fp kb ka ks kw n nv kK kV dd sd nx ct pu sn sw sg bn bw bt ik iD iS) (hB : B ≤ b) : AM G B l yX6_told cX6_told 2 (some .int) 2 0 0 [.ref b, .int what] H (fun rv H' => rv = some (.int (if what = 0 then ka else if what = 1 then ks else if what = 2 then kw else if what = 3 then nI n else if what = 4 then nI nv else if what = 5 then nI L else if what = 6 then dd 24 else if what = 7 then dd 25 else if what = 8 then dd 26 else if what = 9 then liF dd n else if what = 10 then nI sn else if what = 11 then nI bn else if what = 12 then nI ct else -1000000002)) ∧ (H' = H)) := by
  have hX0 := hX
  obtain ⟨kr, sp, kS, kU, hC, hR2, hK2, hT2, hPs, hSe, hBo, hIm⟩ := hX
  have hC0 := hC
  obtain ⟨hb, hK, hD, hkr⟩ := hC
  have hK0 := hK
  have hN := hD
  unfold bxL at hb
  obtain ⟨fS3, fU3, fK3, fV3, hk3, ha3, hb3, hc3, he3, eS3, eU3, eK3, eV3, hn3, hnv3⟩ := hK
  obtain ⟨fS, fU, fO, hd, hs, hu, ho, eS, eU, eO, hn⟩ := hD
  have hpo := hPs.1
  have hse := hSe
  have hbo := hBo
  obtain ⟨fA, fB, hsp, hsa, hsb, eA, eB, hsN, -⟩ := hse
  obtain ⟨fA2, fB2, hbp, hba, hbb, eA2, eB2, hbN, -⟩ := hbo
  obtain ⟨pl, kd, hR⟩ := id hR2
  obtain ⟨ft, hr, -⟩ := id hR
  refine AM.ofI (lv := [(0, .ref b), (1, .int what)]) (by decide +kernel) (Nat.le_of_ble_eq_true rfl) rfl ?_ (fun _ h => by cases h.1)
  refine a_iload_n 1 dX6_told_0 rfl rfl ?_
  by_cases e0 : what = 0
  · skip
    refine a_toeq 0 e0 ?_
    refine a_tabIn 68 dX6_told_1 (by decide) (by decide) (off := 67) (by rfl) (by decide) ?_
    refine a_aload_n 0 dX6_told_68 rfl rfl ?_
    refine a_get f_X6_23 dX6_told_69 hb rfl ?_
    refine a_get f_X6_103 dX6_told_72 hk3 rfl ?_
    refine a_ret dX6_told_75 ⟨⟨ri ?_, ?_⟩, rfl, rfl⟩
    · rw [if_pos e0]
    · rfl
  by_cases e1 : what = 1
  · skip
    refine a_toeq 1 e1 ?_
    refine a_tabIn 76 dX6_told_1 (by decide) (by decide) (off := 75) (by rfl) (by decide) ?_
    refine a_aload_n 0 dX6_told_76 rfl rfl ?_
    refine a_get f_X6_23 dX6_told_77 hb rfl ?_
    refine a_get f_X6_106 dX6_told_80 hk3 rfl ?_
    refine a_ret dX6_told_83 ⟨⟨ri ?_, ?_⟩, rfl, rfl⟩
    · rw [if_neg e0, if_pos e1]
    · rfl
  by_cases e2 : what = 2
  · skip
    refine a_toeq 2 e2 ?_
    refine a_tabIn 84 dX6_told_1 (by decide) (by decide) (off := 83) (by rfl) (by decide) ?_
    refine a_aload_n 0 dX6_told_84 rfl rfl ?_
    refine a_get f_X6_23 dX6_told_85 hb rfl ?_
    refine a_get f_X6_109 dX6_told_88 hk3 rfl ?_
    refine a_ret dX6_told_91 ⟨⟨ri ?_, ?_⟩, rfl, rfl⟩
    · rw [if_neg e0, if_neg e1, if_pos e2]
    · rfl
  by_cases e3 : what = 3
  · skip
    refine a_toeq 3 e3 ?_
    refine a_tabIn 92 dX6_told_1 (by decide) (by decide) (off := 91) (by rfl) (by decide) ?_
    refine a_aload_n 0 dX6_told_92 rfl rfl ?_
    refine a_get f_X6_23 dX6_told_93 hb rfl ?_
    refine a_get f_X6_100 dX6_told_96 hk3 rfl ?_
    refine a_ret dX6_told_99 ⟨⟨ri ?_, ?_⟩, rfl, rfl⟩
    · rw [if_neg e0, if_neg e1, if_neg e2, if_pos e3]
    · rfl
  by_cases e4 : what = 4
  · skip
    refine a_toeq 4 e4 ?_
    refine a_tabIn 100 dX6_told_1 (by decide) (by decide) (off := 99) (by rfl) (by decide) ?_
    refine a_aload_n 0 dX6_told_100 rfl rfl ?_
    refine a_get f_X6_23 dX6_told_101 hb rfl ?_
    refine a_get f_X6_112 dX6_told_104 hk3 rfl ?_
    refine a_ret dX6_told_107 ⟨⟨ri ?_, ?_⟩, rfl, rfl⟩
    · rw [if_neg e0, if_neg e1, if_neg e2, if_neg e3, if_pos e4]
    · rfl
  by_cases e5 : what = 5
  · skip
    refine a_toeq 5 e5 ?_
    refine a_tabIn 108 dX6_told_1 (by decide) (by decide) (off := 107) (by rfl) (by decide) ?_
    refine a_aload_n 0 dX6_told_108 rfl rfl ?_
    refine a_get f_X6_10 dX6_told_109 hb rfl ?_
    refine a_get f_X6_74 dX6_told_112 hr rfl ?_
    refine a_ret dX6_told_115 ⟨⟨ri ?_, ?_⟩, rfl, rfl⟩
    · rw [if_neg e0, if_neg e1, if_neg e2, if_neg e3, if_neg e4, if_pos e5]
    · rfl
  by_cases e6 : what = 6
  · skip
    refine a_toeq 6 e6 ?_
    refine a_tabIn 116 dX6_told_1 (by decide) (by decide) (off := 115) (by rfl) (by decide) ?_
    refine a_aload_n 0 dX6_told_116 rfl rfl ?_
    refine a_get f_X6_33 dX6_told_117 hb rfl ?_
    refine a_get f_X6_115 dX6_told_120 hd rfl ?_
    refine a_ret dX6_told_123 ⟨⟨ri ?_, ?_⟩, rfl, rfl⟩
    · rw [if_neg e0, if_neg e1, if_neg e2, if_neg e3, if_neg e4, if_neg e5, if_pos e6]
    · rfl
  by_cases e7 : what = 7
  · skip
    refine a_toeq 7 e7 ?_
    refine a_tabIn 124 dX6_told_1 (by decide) (by decide) (off := 123) (by rfl) (by decide) ?_
    refine a_aload_n 0 dX6_told_124 rfl rfl ?_
    refine a_get f_X6_33 dX6_told_125 hb rfl ?_
    refine a_get f_X6_118 dX6_told_128 hd rfl ?_
    refine a_ret dX6_told_131 ⟨⟨ri ?_, ?_⟩, rfl, rfl⟩
    · rw [if_neg e0, if_neg e1, if_neg e2, if_neg e3, if_neg e4, if_neg e5, if_neg e6, if_pos e7]
    · rfl
  by_cases e8 : what = 8
  · skip
    refine a_toeq 8 e8 ?_
    refine a_tabIn 132 dX6_told_1 (by decide) (by decide) (off := 131) (by rfl) (by decide) ?_
    refine a_aload_n 0 dX6_told_132 rfl rfl ?_
    refine a_get f_X6_33 dX6_told_133 hb rfl ?_
    refine a_get f_X6_121 dX6_told_136 hd rfl ?_
    refine a_ret dX6_told_139 ⟨⟨ri ?_, ?_⟩, rfl, rfl⟩
    · rw [if_neg e0, if_neg e1, if_neg e2, if_neg e3, if_neg e4, if_neg e5, if_neg e6, if_neg e7, if_pos e8]
    · rfl
  by_cases e9 : what = 9
  · skip
    refine a_toeq 9 e9 ?_
    refine a_tabIn 140 dX6_told_1 (by decide) (by decide) (off := 139) (by rfl) (by decide) ?_
    refine a_aload_n 0 dX6_told_140 rfl rfl ?_
    refine a_get f_X6_33 dX6_told_141 hb rfl ?_
    refine a_callVp (As := []) (rest := []) (d := 1) (mc := 0) (ms := 0) (x := liF dd n) (ci := 0) l_X6_123 im_X0_allOnList se_X0_allOnList ⟨_, rfl, rfl⟩ dX6_told_144 ⟨Nat.le_of_ble_eq_true rfl, Nat.le_of_ble_eq_true rfl⟩ rfl (Nat.le_of_ble_eq_true rfl) ⟨Nat.le_of_ble_eq_true rfl, Nat.le_of_ble_eq_true rfl⟩ hd (c_X0_allOnList hN) ?_
    refine a_ret dX6_told_147 ⟨⟨ri ?_, ?_⟩, rfl, rfl⟩
    · rw [if_neg e0, if_neg e1, if_neg e2, if_neg e3, if_neg e4, if_neg e5, if_neg e6, if_neg e7, if_neg e8, if_pos e9]
    · rfl
  by_cases e10 : what = 10
  · skip
    refine a_toeq 10 e10 ?_
    refine a_tabIn 148 dX6_told_1 (by decide) (by decide) (off := 147) (by rfl) (by decide) ?_
    refine a_aload_n 0 dX6_told_148 rfl rfl ?_
    refine a_get f_X6_61 dX6_told_149 hb rfl ?_
    refine a_get f_X6_127 dX6_told_152 hsp rfl ?_
    refine a_ret dX6_told_155 ⟨⟨ri ?_, ?_⟩, rfl, rfl⟩
    · rw [if_neg e0, if_neg e1, if_neg e2, if_neg e3, if_neg e4, if_neg e5, if_neg e6, if_neg e7, if_neg e8, if_neg e9, if_pos e10]
    · rfl
  by_cases e11 : what = 11
  · skip
    refine a_toeq 11 e11 ?_
    refine a_tabIn 156 dX6_told_1 (by decide) (by decide) (off := 155) (by rfl) (by decide) ?_
    refine a_aload_n 0 dX6_told_156 rfl rfl ?_
    refine a_get f_X6_65 dX6_told_157 hb rfl ?_
    refine a_get f_X6_127 dX6_told_160 hbp rfl ?_
    refine a_ret dX6_told_163 ⟨⟨ri ?_, ?_⟩, rfl, rfl⟩
    · rw [if_neg e0, if_neg e1, if_neg e2, if_neg e3, if_neg e4, if_neg e5, if_neg e6, if_neg e7, if_neg e8, if_neg e9, if_neg e10, if_pos e11]
    · rfl
  by_cases e12 : what = 12
  · skip
    refine a_toeq 12 e12 ?_
    refine a_tabIn 164 dX6_told_1 (by decide) (by decide) (off := 163) (by rfl) (by decide) ?_
    refine a_aload_n 0 dX6_told_164 rfl rfl ?_
    refine a_get f_X6_43 dX6_told_165 hb rfl ?_
    refine a_get f_X6_130 dX6_told_168 hpo rfl ?_
    refine a_ret dX6_told_171 ⟨⟨ri ?_, ?_⟩, rfl, rfl⟩
    · rw [if_neg e0, if_neg e1, if_neg e2, if_neg e3, if_neg e4, if_neg e5, if_neg e6, if_neg e7, if_neg e8, if_neg e9, if_neg e10, if_neg e11, if_pos e12]
    · rfl
  · skip
    refine a_tabOut 172 dX6_told_1 (by have h0 := lv_neT e0 (a := 0) rfl; have h1 := lv_neT e1 (a := 1) rfl; have h2 := lv_neT e2 (a := 2) rfl; have h3 := lv_neT e3 (a := 3) rfl; have h4 := lv_neT e4 (a := 4) rfl; have h5 := lv_neT e5 (a := 5) rfl; have h6 := lv_neT e6 (a := 6) rfl; have h7 := lv_neT e7 (a := 7) rfl; have h8 := lv_neT e8 (a := 8) rfl; have h9 := lv_neT e9 (a := 9) rfl; have h10 := lv_neT e10 (a := 10) rfl; have h11 := lv_neT e11 (a := 11) rfl; have h12 := lv_neT e12 (a := 12) rfl; omega) (by decide) ?_
    refine a_ldc (-1000000002) k_X6_69 dX6_told_172 ?_
    refine a_ret dX6_told_174 ⟨⟨ri ?_, ?_⟩, rfl, rfl⟩
    · rw [if_neg e0, if_neg e1, if_neg e2, if_neg e3, if_neg e4, if_neg e5, if_neg e6, if_neg e7, if_neg e8, if_neg e9, if_neg e10, if_neg e11, if_neg e12]
    · rfl
