/-! ===== BEGIN BeansBoxModel: told, undone, kept ===== -/
theorem Mu.zero {G : GT} {H : Heap} {p nx ct n : Nat} {pu : Nat → DD} (h : Mu G H p nx ct n pu) : Mu G H p nx 0 n pu := by
  obtain ⟨f, h1, -, h3, -⟩ := h
  exact ⟨f, h1, fun i hi hv => absurd hv (Nat.not_lt_zero _), h3, Nat.zero_le _⟩
theorem kp_z {fz : DD} {ik : Nat → Bool} {i : Nat} (h : ∀ j, j < 2 → fz j = bI (ik j)) : ∀ j, j < 2 → upd fz i (bI true) j = bI ((fun j => if j = i then true else ik j) j) := by
  intro j hj
  unfold upd
  dsimp only
  by_cases e : j = i
  · rw [if_pos e, if_pos e]
  · rw [if_neg e, if_neg e]; exact h j hj
theorem kp_g {fg : Nat → Int64} {ik : Nat → Bool} {iS : Nat → Nat} {i sd : Nat} (h : ∀ j, j < 2 → ik j = true → fg j = lN (iS j)) : ∀ j, j < 2 → (fun j => if j = i then true else ik j) j = true → vp_updL fg i (lN sd) j = lN ((fun j => if j = i then sd else iS j) j) := by
  intro j hj hk
  unfold vp_updL
  dsimp only at hk ⊢
  by_cases e : j = i
  · rw [if_pos e, if_pos e]
  · rw [if_neg e] at hk ⊢
    rw [if_neg e]; exact h j hj hk
theorem kp_k {n : Nat} {fN gk fk dd : DD} {ik : Nat → Bool} {iD : Nat → DD} {i : Nat} (hn : n ≤ 8) (hN : NA n fN dd) (h : ∀ j, j < 2 → ik j = true → NA n (fun x => fk (27 * j + x)) (iD j)) (e1 : ∀ j, j < 27 → gk (27 * i + j) = fN j) (e2 : ∀ x, ¬ (27 * i ≤ x ∧ x < 27 * i + 27) → gk x = fk x) : ∀ j, j < 2 → (fun j => if j = i then true else ik j) j = true → NA n (fun x => gk (27 * j + x)) ((fun j => if j = i then dd else iD j) j) := by
  intro j hj hk
  dsimp only at hk ⊢
  by_cases e : j = i
  · rw [if_pos e, e]
    exact NA.cg hn hN e1
  · rw [if_neg e] at hk ⊢
    exact NA.cg hn (h j hj hk) (fun x hx => e2 _ (by omega))
/-! ===== END ===== -/

set_option maxHeartbeats 4000000 in
set_option maxRecDepth 100000 in
theorem c_X7_told {G : GT} {B : Nat} {l : Launch} {H : Heap} {a : Nat} {tx : Nat → Nat} {L : Nat} {fp : Int32} {kb : Bool} {ka ks kw : Int32} {n nv : Nat} {kK kV dd : DD} {sd nx ct : Nat} {pu : Nat → DD} {sn : Nat} {sw sg : Nat → Nat} {bn : Nat} {bw : Nat → Nat} {bt : DD} {ik : Nat → Bool} {iD : Nat → DD} {iS : Nat → Nat} {what : Int32} (hX : Mx G H a tx L fp kb ka ks kw n nv kK kV dd sd nx ct pu sn sw sg bn bw bt ik iD iS) (hB : B ≤ a) : AM G B l yX7_told cX7_told 2 (some .int) 1 0 0 [.ref a, .int what] H (fun rv H' => rv = some (.int (if what = 0 then ka else if what = 1 then ks else if what = 2 then kw else if what = 3 then nI n else if what = 4 then nI nv else if what = 5 then nI L else if what = 6 then dd 24 else if what = 7 then dd 25 else if what = 8 then dd 26 else if what = 9 then liF dd n else if what = 10 then nI sn else if what = 11 then nI bn else if what = 12 then nI ct else -1000000002)) ∧ (H' = H)) := by
  have hX0 := hX
  obtain ⟨ra, rf, rw, rx, ir, hM, hT, hU, hS, hK9, hJ9⟩ := hX
  have hM0 := hM
  obtain ⟨hm, ⟨fB, hBx, eB0, eB1, eB2⟩, ⟨fK, hKx, eK⟩, ⟨fV, hVx, eV⟩, ⟨fN, hNx, eS, eU, eO, e24, e25, e26⟩, hn, hnv⟩ := hM
  unfold mxL at hm
  refine AM.ofI (lv := [(0, .ref a), (1, .int what)]) (by decide +kernel) (Nat.le_of_ble_eq_true rfl) rfl ?_ (fun _ h => by cases h.1)
  refine a_iload_n 1 dX7_told_0 rfl rfl ?_
  by_cases e0 : what = 0
  · skip
    refine a_toeq 0 e0 ?_
    refine a_tabIn 68 dX7_told_1 (by decide) (by decide) (off := 67) (by rfl) (by decide) ?_
    refine a_aload_n 0 dX7_told_68 rfl rfl ?_
    refine a_get f_X7_26 dX7_told_69 hm rfl ?_
    refine a_iload_n 1 dX7_told_72 rfl rfl ?_
    refine a_toeq 0 e0 ?_
    refine a_ialdN (j := 0) dX7_told_73 hBx (by omega) (by decide) ?_
    refine a_toeq (ka) eB0 ?_
    refine a_ret dX7_told_74 ⟨⟨ri ?_, ?_⟩, rfl, rfl⟩
    · rw [if_pos e0]
    · rfl
  by_cases e1 : what = 1
  · skip
    refine a_toeq 1 e1 ?_
    refine a_tabIn 68 dX7_told_1 (by decide) (by decide) (off := 67) (by rfl) (by decide) ?_
    refine a_aload_n 0 dX7_told_68 rfl rfl ?_
    refine a_get f_X7_26 dX7_told_69 hm rfl ?_
    refine a_iload_n 1 dX7_told_72 rfl rfl ?_
    refine a_toeq 1 e1 ?_
    refine a_ialdN (j := 1) dX7_told_73 hBx (by omega) (by decide) ?_
    refine a_toeq (ks) eB1 ?_
    refine a_ret dX7_told_74 ⟨⟨ri ?_, ?_⟩, rfl, rfl⟩
    · rw [if_neg e0, if_pos e1]
    · rfl
  by_cases e2 : what = 2
  · skip
    refine a_toeq 2 e2 ?_
    refine a_tabIn 68 dX7_told_1 (by decide) (by decide) (off := 67) (by rfl) (by decide) ?_
    refine a_aload_n 0 dX7_told_68 rfl rfl ?_
    refine a_get f_X7_26 dX7_told_69 hm rfl ?_
    refine a_iload_n 1 dX7_told_72 rfl rfl ?_
    refine a_toeq 2 e2 ?_
    refine a_ialdN (j := 2) dX7_told_73 hBx (by omega) (by decide) ?_
    refine a_toeq (kw) eB2 ?_
    refine a_ret dX7_told_74 ⟨⟨ri ?_, ?_⟩, rfl, rfl⟩
    · rw [if_neg e0, if_neg e1, if_pos e2]
    · rfl
  by_cases e3 : what = 3
  · skip
    refine a_toeq 3 e3 ?_
    refine a_tabIn 75 dX7_told_1 (by decide) (by decide) (off := 74) (by rfl) (by decide) ?_
    refine a_aload_n 0 dX7_told_75 rfl rfl ?_
    refine a_get f_X7_120 dX7_told_76 hm rfl ?_
    refine a_ret dX7_told_79 ⟨⟨ri ?_, ?_⟩, rfl, rfl⟩
    · rw [if_neg e0, if_neg e1, if_neg e2, if_pos e3]
    · rfl
  by_cases e4 : what = 4
  · skip
    refine a_toeq 4 e4 ?_
    refine a_tabIn 80 dX7_told_1 (by decide) (by decide) (off := 79) (by rfl) (by decide) ?_
    refine a_aload_n 0 dX7_told_80 rfl rfl ?_
    refine a_get f_X7_123 dX7_told_81 hm rfl ?_
    refine a_ret dX7_told_84 ⟨⟨ri ?_, ?_⟩, rfl, rfl⟩
    · rw [if_neg e0, if_neg e1, if_neg e2, if_neg e3, if_pos e4]
    · rfl
  by_cases e5 : what = 5
  · skip
    refine a_toeq 5 e5 ?_
    refine a_tabIn 85 dX7_told_1 (by decide) (by decide) (off := 84) (by rfl) (by decide) ?_
    refine a_aload_n 0 dX7_told_85 rfl rfl ?_
    refine a_get f_X7_63 dX7_told_86 hm rfl ?_
    refine a_ret dX7_told_89 ⟨⟨ri ?_, ?_⟩, rfl, rfl⟩
    · rw [if_neg e0, if_neg e1, if_neg e2, if_neg e3, if_neg e4, if_pos e5]
    · rfl
  by_cases e6 : what = 6
  · skip
    refine a_toeq 6 e6 ?_
    refine a_tabIn 90 dX7_told_1 (by decide) (by decide) (off := 89) (by rfl) (by decide) ?_
    refine a_aload_n 0 dX7_told_90 rfl rfl ?_
    refine a_get f_X7_35 dX7_told_91 hm rfl ?_
    refine a_bipush 24 dX7_told_94 (by decide) ?_
    refine a_ialdN (j := 24) dX7_told_96 hNx (by omega) (by decide) ?_
    refine a_toeq (dd 24) (e24) ?_
    refine a_ret dX7_told_97 ⟨⟨ri ?_, ?_⟩, rfl, rfl⟩
    · rw [if_neg e0, if_neg e1, if_neg e2, if_neg e3, if_neg e4, if_neg e5, if_pos e6]
    · rfl
  by_cases e7 : what = 7
  · skip
    refine a_toeq 7 e7 ?_
    refine a_tabIn 98 dX7_told_1 (by decide) (by decide) (off := 97) (by rfl) (by decide) ?_
    refine a_aload_n 0 dX7_told_98 rfl rfl ?_
    refine a_get f_X7_35 dX7_told_99 hm rfl ?_
    refine a_bipush 25 dX7_told_102 (by decide) ?_
    refine a_ialdN (j := 25) dX7_told_104 hNx (by omega) (by decide) ?_
    refine a_toeq (dd 25) (e25) ?_
    refine a_ret dX7_told_105 ⟨⟨ri ?_, ?_⟩, rfl, rfl⟩
    · rw [if_neg e0, if_neg e1, if_neg e2, if_neg e3, if_neg e4, if_neg e5, if_neg e6, if_pos e7]
    · rfl
  by_cases e8 : what = 8
  · skip
    refine a_toeq 8 e8 ?_
    refine a_tabIn 106 dX7_told_1 (by decide) (by decide) (off := 105) (by rfl) (by decide) ?_
    refine a_aload_n 0 dX7_told_106 rfl rfl ?_
    refine a_get f_X7_35 dX7_told_107 hm rfl ?_
    refine a_bipush 26 dX7_told_110 (by decide) ?_
    refine a_ialdN (j := 26) dX7_told_112 hNx (by omega) (by decide) ?_
    refine a_toeq (dd 26) (e26) ?_
    refine a_ret dX7_told_113 ⟨⟨ri ?_, ?_⟩, rfl, rfl⟩
    · rw [if_neg e0, if_neg e1, if_neg e2, if_neg e3, if_neg e4, if_neg e5, if_neg e6, if_neg e7, if_pos e8]
    · rfl
  by_cases e9 : what = 9
  · skip
    refine a_toeq 9 e9 ?_
    refine a_tabIn 114 dX7_told_1 (by decide) (by decide) (off := 113) (by rfl) (by decide) ?_
    refine a_aload_n 0 dX7_told_114 rfl rfl ?_
    refine a_callVp (As := []) (rest := []) (d := 0) (mc := 0) (ms := 0) (x := liF dd n) (ci := 7) l_X7_135 im_X7_allListed se_X7_allListed ⟨_, rfl, rfl⟩ dX7_told_115 ⟨Nat.le_of_ble_eq_true rfl, Nat.le_of_ble_eq_true rfl⟩ rfl (Nat.le_of_ble_eq_true rfl) ⟨Nat.le_of_ble_eq_true rfl, Nat.le_of_ble_eq_true rfl⟩ hm (c_X7_allListed hM0) ?_
    refine a_ret dX7_told_118 ⟨⟨ri ?_, ?_⟩, rfl, rfl⟩
    · rw [if_neg e0, if_neg e1, if_neg e2, if_neg e3, if_neg e4, if_neg e5, if_neg e6, if_neg e7, if_neg e8, if_pos e9]
    · rfl
  by_cases e10 : what = 10
  · skip
    refine a_toeq 10 e10 ?_
    refine a_tabIn 119 dX7_told_1 (by decide) (by decide) (off := 118) (by rfl) (by decide) ?_
    refine a_aload_n 0 dX7_told_119 rfl rfl ?_
    refine a_get f_X7_126 dX7_told_120 hm rfl ?_
    refine a_ret dX7_told_123 ⟨⟨ri ?_, ?_⟩, rfl, rfl⟩
    · rw [if_neg e0, if_neg e1, if_neg e2, if_neg e3, if_neg e4, if_neg e5, if_neg e6, if_neg e7, if_neg e8, if_neg e9, if_pos e10]
    · rfl
  by_cases e11 : what = 11
  · skip
    refine a_toeq 11 e11 ?_
    refine a_tabIn 124 dX7_told_1 (by decide) (by decide) (off := 123) (by rfl) (by decide) ?_
    refine a_aload_n 0 dX7_told_124 rfl rfl ?_
    refine a_get f_X7_129 dX7_told_125 hm rfl ?_
    refine a_ret dX7_told_128 ⟨⟨ri ?_, ?_⟩, rfl, rfl⟩
    · rw [if_neg e0, if_neg e1, if_neg e2, if_neg e3, if_neg e4, if_neg e5, if_neg e6, if_neg e7, if_neg e8, if_neg e9, if_neg e10, if_pos e11]
    · rfl
  by_cases e12 : what = 12
  · skip
    refine a_toeq 12 e12 ?_
    refine a_tabIn 129 dX7_told_1 (by decide) (by decide) (off := 128) (by rfl) (by decide) ?_
    refine a_aload_n 0 dX7_told_129 rfl rfl ?_
    refine a_get f_X7_132 dX7_told_130 hm rfl ?_
    refine a_ret dX7_told_133 ⟨⟨ri ?_, ?_⟩, rfl, rfl⟩
    · rw [if_neg e0, if_neg e1, if_neg e2, if_neg e3, if_neg e4, if_neg e5, if_neg e6, if_neg e7, if_neg e8, if_neg e9, if_neg e10, if_neg e11, if_pos e12]
    · rfl
  · skip
    refine a_tabOut 134 dX7_told_1 (by have h0 := lv_neT e0 (a := 0) rfl; have h1 := lv_neT e1 (a := 1) rfl; have h2 := lv_neT e2 (a := 2) rfl; have h3 := lv_neT e3 (a := 3) rfl; have h4 := lv_neT e4 (a := 4) rfl; have h5 := lv_neT e5 (a := 5) rfl; have h6 := lv_neT e6 (a := 6) rfl; have h7 := lv_neT e7 (a := 7) rfl; have h8 := lv_neT e8 (a := 8) rfl; have h9 := lv_neT e9 (a := 9) rfl; have h10 := lv_neT e10 (a := 10) rfl; have h11 := lv_neT e11 (a := 11) rfl; have h12 := lv_neT e12 (a := 12) rfl; omega) (by decide) ?_
    refine a_ldc (-1000000002) k_X7_62 dX7_told_134 ?_
    refine a_ret dX7_told_136 ⟨⟨ri ?_, ?_⟩, rfl, rfl⟩
    · rw [if_neg e0, if_neg e1, if_neg e2, if_neg e3, if_neg e4, if_neg e5, if_neg e6, if_neg e7, if_neg e8, if_neg e9, if_neg e10, if_neg e11, if_neg e12]
    · rfl
set_option maxHeartbeats 4000000 in
set_option maxRecDepth 100000 in
theorem c_X7_undo {G : GT} {B : Nat} {l : Launch} {H : Heap} {a : Nat} {tx : Nat → Nat} {L : Nat} {fp : Int32} {kb : Bool} {ka ks kw : Int32} {n nv : Nat} {kK kV dd : DD} {sd nx ct : Nat} {pu : Nat → DD} {sn : Nat} {sw sg : Nat → Nat} {bn : Nat} {bw : Nat → Nat} {bt : DD} {ik : Nat → Bool} {iD : Nat → DD} {iS : Nat → Nat} (hc0 : 0 < ct) (hX : Mx G H a tx L fp kb ka ks kw n nv kK kV dd sd nx ct pu sn sw sg bn bw bt ik iD iS) (hB : B ≤ a) : AM G B l yX7_undo cX7_undo 2 (some .int) 0 0 0 [.ref a] H (fun rv H' => rv = some (.int (nI (ct - 1))) ∧ (Mx G H' a tx L fp kb ka ks kw n nv kK kV (pu ((nx + 19) % 20)) sd ((nx + 19) % 20) (ct - 1) pu sn sw sg bn bw bt ik iD iS ∧ ∀ q : Nat, ¬ (a ≤ q ∧ q < a + 15) → H'[q]? = H[q]?)) := by
  have hX0 := hX
  obtain ⟨ra, rf, rw, rx, ir, hM, hT, hU, hS, hK9, hJ9⟩ := hX
  have hM0 := hM
  obtain ⟨hm, ⟨fB, hBx, eB0, eB1, eB2⟩, ⟨fK, hKx, eK⟩, ⟨fV, hVx, eV⟩, ⟨fN, hNx, eS, eU, eO, e24, e25, e26⟩, hn, hnv⟩ := hM
  unfold mxL at hm
  have hU0 := hU
  obtain ⟨fU, hUx, eV9, hnx, hct⟩ := hU
  have hF : ∀ q : Nat, ¬ (a ≤ q ∧ q < a + 15) → H[q]? = H[q]? := fun _ _ => rfl
  have hG : ∀ q : Nat, q ≠ a ∧ q ≠ a + 8 → H[q]? = H[q]? := fun _ _ => rfl
  refine AM.ofI (lv := [(0, .ref a)]) (by decide +kernel) (Nat.le_of_ble_eq_true rfl) rfl ?_ (fun _ h => by cases h.1)
  refine a_aload_n 0 dX7_undo_0 rfl rfl ?_
  refine a_get f_X7_132 dX7_undo_1 hm rfl ?_
  refine a_ifneN (a := ct) 10 dX7_undo_4 (by decide) (by omega) (fun c4 => ?_) (fun c4 => ?_)
  · skip
    refine a_aload_n 0 dX7_undo_10 rfl rfl ?_
    refine a_aload_n 0 dX7_undo_11 rfl rfl ?_
    refine a_get f_X7_171 dX7_undo_12 hm rfl ?_
    refine a_bipush 20 dX7_undo_15 (by decide) ?_
    refine a_iaddN (a := nx) (b := 20) dX7_undo_17 ?_
    refine a_iconst 1 dX7_undo_18 (by decide) ?_
    refine a_isubN (a := nx + 20) (b := 1) dX7_undo_19 (by omega) ?_
    refine a_bipush 20 dX7_undo_20 (by decide) ?_
    refine a_iremN (a := (nx + 20) - 1) (b := 20) dX7_undo_22 (by omega) (by omega) (by omega) ?_
    refine a_toeq (nI ((nx + 19) % 20)) (congrArg nI (by omega)) ?_
    refine a_put f_X7_171 p_X7_171 dX7_undo_23 hm (Nat.le_of_ble_eq_true rfl) rfl rfl (by omega) (fun H1 hm hz1 hq1 => ?_)
    have hm : Ob G H1 a 7 [.int (nI L), .ref (a + 1), .int fp, .int ra, .int rf, .int rw, .int rx, .ref (a + 2), .ref (a + 3), .ref (a + 4), .int (bI ir), .int (bI kb), .int (nI n), .int (nI nv), .ref (a + 5), .ref (a + 6), .ref (a + 7), .ref (a + 8), .int (nI ct), .int (nI ((nx + 19) % 20)), .ref (a + 9), .long (lN sd), .int (nI sn), .ref (a + 10), .int (nI bn), .ref (a + 11), .ref (a + 12), .ref (a + 13), .ref (a + 14)] := hm
    have hBx := hBx.kept (hq1 _ (by omega))
    have hKx := hKx.kept (hq1 _ (by omega))
    have hVx := hVx.kept (hq1 _ (by omega))
    have hNx := hNx.kept (hq1 _ (by omega))
    have hUx := hUx.kept (hq1 _ (by omega))
    have hF : ∀ q : Nat, ¬ (a ≤ q ∧ q < a + 15) → H1[q]? = H[q]? := fun q hq => (hq1 q (by omega)).trans (hF q hq)
    have hG : ∀ q : Nat, q ≠ a ∧ q ≠ a + 8 → H1[q]? = H[q]? := fun q hq => (hq1 q (by omega)).trans (hG q hq)
    refine a_aload_n 0 dX7_undo_26 rfl rfl ?_
    refine a_dup dX7_undo_27 rfl ?_
    refine a_get f_X7_132 dX7_undo_28 hm rfl ?_
    refine a_iconst 1 dX7_undo_31 (by decide) ?_
    refine a_isubN (a := ct) (b := 1) dX7_undo_32 (by omega) ?_
    refine a_put f_X7_132 p_X7_132 dX7_undo_33 hm (Nat.le_of_ble_eq_true rfl) rfl rfl (by omega) (fun H2 hm hz2 hq2 => ?_)
    have hm : Ob G H2 a 7 [.int (nI L), .ref (a + 1), .int fp, .int ra, .int rf, .int rw, .int rx, .ref (a + 2), .ref (a + 3), .ref (a + 4), .int (bI ir), .int (bI kb), .int (nI n), .int (nI nv), .ref (a + 5), .ref (a + 6), .ref (a + 7), .ref (a + 8), .int (nI (ct - 1)), .int (nI ((nx + 19) % 20)), .ref (a + 9), .long (lN sd), .int (nI sn), .ref (a + 10), .int (nI bn), .ref (a + 11), .ref (a + 12), .ref (a + 13), .ref (a + 14)] := hm
    have hBx := hBx.kept (hq2 _ (by omega))
    have hKx := hKx.kept (hq2 _ (by omega))
    have hVx := hVx.kept (hq2 _ (by omega))
    have hNx := hNx.kept (hq2 _ (by omega))
    have hUx := hUx.kept (hq2 _ (by omega))
    have hF : ∀ q : Nat, ¬ (a ≤ q ∧ q < a + 15) → H2[q]? = H[q]? := fun q hq => (hq2 q (by omega)).trans (hF q hq)
    have hG : ∀ q : Nat, q ≠ a ∧ q ≠ a + 8 → H2[q]? = H[q]? := fun q hq => (hq2 q (by omega)).trans (hG q hq)
    refine a_iconst 0 dX7_undo_36 (by decide) ?_
    refine a_istore_n (lv' := [(1, .int 0), (0, .ref a)]) dX7_undo_37 rfl (by decide) rfl ?_
    have L38 : ∀ (fu : Nat) (k : Nat) (Hk : Heap) (gN : DD), k ≤ 27 → Ob G Hk a 7 [.int (nI L), .ref (a + 1), .int fp, .int ra, .int rf, .int rw, .int rx, .ref (a + 2), .ref (a + 3), .ref (a + 4), .int (bI ir), .int (bI kb), .int (nI n), .int (nI nv), .ref (a + 5), .ref (a + 6), .ref (a + 7), .ref (a + 8), .int (nI (ct - 1)), .int (nI ((nx + 19) % 20)), .ref (a + 9), .long (lN sd), .int (nI sn), .ref (a + 10), .int (nI bn), .ref (a + 11), .ref (a + 12), .ref (a + 13), .ref (a + 14)] → Ai G Hk (a + 5) 3 fB → Ai G Hk (a + 6) 8 fK → Ai G Hk (a + 7) 4 fV → Ai G Hk (a + 8) 27 gN → Ai G Hk (a + 9) 540 fU → (∀ j, j < k → gN j = fU (27 * ((nx + 19) % 20) + j)) → (∀ q : Nat, q ≠ a ∧ q ≠ a + 8 → Hk[q]? = H[q]?) → (∀ q : Nat, ¬ (a ≤ q ∧ q < a + 15) → Hk[q]? = H[q]?) → 27 - k < fu → AW G B l { frames := 0, cells := 0, slots := 0, locals := 27 * 0 } yX7_undo.cls cX7_undo 2 false (fun rv H' ce' sl' => (rv = some (.int (nI (ct - 1))) ∧ (Mx G H' a tx L fp kb ka ks kw n nv kK kV (pu ((nx + 19) % 20)) sd ((nx + 19) % 20) (ct - 1) pu sn sw sg bn bw bt ik iD iS ∧ ∀ q : Nat, ¬ (a ≤ q ∧ q < a + 15) → H'[q]? = H[q]?)) ∧ ce' = 0 ∧ sl' = 0) 38 [(0, .ref a), (1, .int (nI k))] [] Hk 0 0 := by
      intro fu
      induction fu with
      | zero => intro k Hk gN hk hm hBx hKx hVx hNx hUx e1 hG hF hm38; exact absurd hm38 (Nat.not_lt_zero _)
      | succ fu ih38 =>
        intro k Hk gN hk hm hBx hKx hVx hNx hUx e1 hG hF hm38
        refine a_iload_n 1 dX7_undo_38 rfl rfl ?_
        refine a_bipush 27 dX7_undo_39 (by decide) ?_
        refine a_icmpgeN (a := k) (b := 27) 70 dX7_undo_41 (by decide) (by omega) (by omega) (fun c41 => ?_) (fun c41 => ?_)
        · skip
          refine a_aload_n 0 dX7_undo_70 rfl rfl ?_
          refine a_get f_X7_132 dX7_undo_71 hm rfl ?_
          refine a_ret dX7_undo_74 ⟨⟨ri ?_, ?_⟩, rfl, rfl⟩
          · rfl
          · have hk27 : k = 27 := by omega
            subst hk27
            have hT := hT.kept (H1 := _) (fun q c1 c2 => hG q (by omega))
            have hS := hS.kept (H1 := _) (hG _ (by omega))
            have hK9 := hK9.kept (H1 := _) (hG _ (by omega))
            have hJ9 := hJ9.kept (H1 := _) (fun q c1 c2 => hG q (by omega))
            have hv9 := eV9 ((nx + 19) % 20) (Nat.mod_lt _ (by decide)) (by unfold vld; omega)
            exact ⟨⟨_, _, _, _, _, ⟨by unfold mxL; exact hm, ⟨fB, hBx, eB0, eB1, eB2⟩, ⟨fK, hKx, eK⟩, ⟨fV, hVx, eV⟩, ⟨_, hNx, NA.cg hn hv9 (fun j hj => e1 j hj)⟩, hn, hnv⟩, hT, ⟨_, hUx, fun i hi hv => eV9 i hi (by unfold vld at *; omega), Nat.mod_lt _ (by decide), by omega⟩, hS, hK9, hJ9⟩, hF⟩
        · skip
          refine a_aload_n 0 dX7_undo_44 rfl rfl ?_
          refine a_get f_X7_35 dX7_undo_45 hm rfl ?_
          refine a_iload_n 1 dX7_undo_48 rfl rfl ?_
          refine a_aload_n 0 dX7_undo_49 rfl rfl ?_
          refine a_get f_X7_38 dX7_undo_50 hm rfl ?_
          refine a_bipush 27 dX7_undo_53 (by decide) ?_
          refine a_aload_n 0 dX7_undo_55 rfl rfl ?_
          refine a_get f_X7_171 dX7_undo_56 hm rfl ?_
          refine a_imulN (a := 27) (b := (nx + 19) % 20) dX7_undo_59 ?_
          refine a_iload_n 1 dX7_undo_60 rfl rfl ?_
          refine a_iaddN (a := 27 * ((nx + 19) % 20)) (b := k) dX7_undo_61 ?_
          refine a_ialdN (j := (27 * ((nx + 19) % 20)) + k) dX7_undo_62 hUx (by omega) (by decide) ?_
          refine a_iastN (j := k) dX7_undo_63 hNx (by omega) (by decide) (by omega) (fun H3 hNx hz3 hq3 => ?_)
          have hNx : Ai G H3 (a + 8) 27 (upd gN k (fU ((27 * ((nx + 19) % 20)) + k))) := hNx
          have hm := hm.kept (hq3 _ (by omega))
          have hBx := hBx.kept (hq3 _ (by omega))
          have hKx := hKx.kept (hq3 _ (by omega))
          have hVx := hVx.kept (hq3 _ (by omega))
          have hUx := hUx.kept (hq3 _ (by omega))
          have hF : ∀ q : Nat, ¬ (a ≤ q ∧ q < a + 15) → H3[q]? = H[q]? := fun q hq => (hq3 q (by omega)).trans (hF q hq)
          have hG : ∀ q : Nat, q ≠ a ∧ q ≠ a + 8 → H3[q]? = H[q]? := fun q hq => (hq3 q (by omega)).trans (hG q hq)
          refine a_iincN (q := 1) (lv' := [(1, .int (nI (k + 1))), (0, .ref a)]) dX7_undo_64 rfl (by decide) rfl ?_
          refine a_goto 38 dX7_undo_67 (by decide) ?_
          refine a_sub [1, 0] rfl ?_
          exact ih38 _ _ _ (by omega) hm hBx hKx hVx hNx hUx (upd_to (e := fun j => fU (27 * ((nx + 19) % 20) + j)) e1 rfl) hG hF (by omega)
    refine a_sub [1, 0] rfl ?_
    exact L38 _ 0 _ _ (Nat.zero_le _) hm hBx hKx hVx hNx hUx (fun j hj => absurd hj (Nat.not_lt_zero _)) hG hF (Nat.lt_succ_self _)
  · skip
    omega
set_option maxHeartbeats 4000000 in
set_option maxRecDepth 100000 in
theorem c_X7_undo_not {G : GT} {B : Nat} {l : Launch} {H : Heap} {a : Nat} {tx : Nat → Nat} {L : Nat} {fp : Int32} {kb : Bool} {ka ks kw : Int32} {n nv : Nat} {kK kV dd : DD} {sd nx ct : Nat} {pu : Nat → DD} {sn : Nat} {sw sg : Nat → Nat} {bn : Nat} {bw : Nat → Nat} {bt : DD} {ik : Nat → Bool} {iD : Nat → DD} {iS : Nat → Nat} (hc0 : ct = 0) (hX : Mx G H a tx L fp kb ka ks kw n nv kK kV dd sd nx ct pu sn sw sg bn bw bt ik iD iS) (hB : B ≤ a) : AM G B l yX7_undo cX7_undo 2 (some .int) 0 0 0 [.ref a] H (fun rv H' => rv = some (.int (-1000000003)) ∧ (H' = H)) := by
  have hX0 := hX
  obtain ⟨ra, rf, rw, rx, ir, hM, hT, hU, hS, hK9, hJ9⟩ := hX
  have hM0 := hM
  obtain ⟨hm, ⟨fB, hBx, eB0, eB1, eB2⟩, ⟨fK, hKx, eK⟩, ⟨fV, hVx, eV⟩, ⟨fN, hNx, eS, eU, eO, e24, e25, e26⟩, hn, hnv⟩ := hM
  unfold mxL at hm
  have hU0 := hU
  obtain ⟨fU, hUx, eV9, hnx, hct⟩ := hU
  refine AM.ofI (lv := [(0, .ref a)]) (by decide +kernel) (Nat.le_of_ble_eq_true rfl) rfl ?_ (fun _ h => by cases h.1)
  refine a_aload_n 0 dX7_undo_0 rfl rfl ?_
  refine a_get f_X7_132 dX7_undo_1 hm rfl ?_
  refine a_ifneN (a := ct) 10 dX7_undo_4 (by decide) (by omega) (fun c4 => ?_) (fun c4 => ?_)
  · skip
    omega
  · skip
    refine a_ldc (-1000000003) k_X7_186 dX7_undo_7 ?_
    refine a_ret dX7_undo_9 ⟨⟨ri ?_, ?_⟩, rfl, rfl⟩
    · rfl
    · rfl
set_option maxHeartbeats 4000000 in
set_option maxRecDepth 100000 in
theorem c_X7_keep {G : GT} {B : Nat} {l : Launch} {H : Heap} {a : Nat} {tx : Nat → Nat} {L : Nat} {fp : Int32} {kb : Bool} {ka ks kw : Int32} {n nv : Nat} {kK kV dd : DD} {sd nx ct : Nat} {pu : Nat → DD} {sn : Nat} {sw sg : Nat → Nat} {bn : Nat} {bw : Nat → Nat} {bt : DD} {ik : Nat → Bool} {iD : Nat → DD} {iS : Nat → Nat} {i : Nat} (hi : i < 2) (hX : Mx G H a tx L fp kb ka ks kw n nv kK kV dd sd nx ct pu sn sw sg bn bw bt ik iD iS) (hB : B ≤ a) : AM G B l yX7_keep cX7_keep 3 (some .int) 1 0 0 [.ref a, .int (nI i)] H (fun rv H' => rv = some (.int 1) ∧ (Mx G H' a tx L fp kb ka ks kw n nv kK kV dd sd nx 0 pu sn sw sg bn bw bt (fun j => if j = i then true else ik j) (fun j => if j = i then dd else iD j) (fun j => if j = i then sd else iS j) ∧ ∀ q : Nat, ¬ (a ≤ q ∧ q < a + 15) → H'[q]? = H[q]?)) := by
  have hX0 := hX
  obtain ⟨ra, rf, rw, rx, ir, hM, hT, hU, hS, hK9, hJ9⟩ := hX
  have hM0 := hM
  obtain ⟨hm, ⟨fB, hBx, eB0, eB1, eB2⟩, ⟨fK, hKx, eK⟩, ⟨fV, hVx, eV⟩, ⟨fN, hNx, eS, eU, eO, e24, e25, e26⟩, hn, hnv⟩ := hM
  unfold mxL at hm
  obtain ⟨⟨fz, hzx, ez⟩, ⟨fk, hkx, ek⟩, ⟨fg, hgx, eg⟩⟩ := id hJ9
  have hF : ∀ q : Nat, ¬ (a ≤ q ∧ q < a + 15) → H[q]? = H[q]? := fun _ _ => rfl
  have hG : ∀ q : Nat, q ≠ a ∧ ¬ (a + 12 ≤ q ∧ q < a + 15) → H[q]? = H[q]? := fun _ _ => rfl
  refine AM.ofI (lv := [(0, .ref a), (1, .int (nI i))]) (by decide +kernel) (Nat.le_of_ble_eq_true rfl) rfl ?_ (fun _ h => by cases h.1)
  refine a_iload_n 1 dX7_keep_0 rfl rfl ?_
  refine a_iconst 0 dX7_keep_1 (by decide) ?_
  refine a_iconst 1 dX7_keep_2 (by decide) ?_
  refine a_callSp (As := [.int (nI i), .int 0, .int 1]) (rest := []) (d := 0) (mc := 0) (ms := 0) (x := bI (inF (nI i) 0 1)) l_X7_58 st_X7_in dX7_keep_3 ⟨Nat.le_of_ble_eq_true rfl, Nat.le_of_ble_eq_true rfl⟩ rfl (Nat.le_of_ble_eq_true rfl) ⟨Nat.le_of_ble_eq_true rfl, Nat.le_of_ble_eq_true rfl⟩ (c_X7_in) ?_
  refine a_ifneB 12 dX7_keep_6 (by decide) (fun c6 => ?_) (fun c6 => ?_)
  · skip
    refine a_aload_n 0 dX7_keep_12 rfl rfl ?_
    refine a_get f_X7_47 dX7_keep_13 hm rfl ?_
    refine a_iload_n 1 dX7_keep_16 rfl rfl ?_
    refine a_iconst 1 dX7_keep_17 (by decide) ?_
    refine a_toeq (bI true) rfl ?_
    refine a_zast dX7_keep_18 hzx (vp_in_nI hi (by decide)) (by omega) (fun H2 hzx hz2 hq2 => ?_)
    have hzx : Az G H2 (a + 12) 2 (upd fz (nI i).toNatClampNeg (bI true)) := hzx
    have hzx : Az G H2 (a + 12) 2 (upd fz i (bI true)) := hzx.to (fun j _ => by rw [nI_clamp (by omega)])
    have hm := hm.kept (hq2 _ (by omega))
    have hBx := hBx.kept (hq2 _ (by omega))
    have hKx := hKx.kept (hq2 _ (by omega))
    have hVx := hVx.kept (hq2 _ (by omega))
    have hNx := hNx.kept (hq2 _ (by omega))
    have hkx := hkx.kept (hq2 _ (by omega))
    have hgx := hgx.kept (hq2 _ (by omega))
    have hF : ∀ q : Nat, ¬ (a ≤ q ∧ q < a + 15) → H2[q]? = H[q]? := fun q hq => (hq2 q (by omega)).trans (hF q hq)
    have hG : ∀ q : Nat, q ≠ a ∧ ¬ (a + 12 ≤ q ∧ q < a + 15) → H2[q]? = H[q]? := fun q hq => (hq2 q (by omega)).trans (hG q hq)
    refine a_aload_n 0 dX7_keep_19 rfl rfl ?_
    refine a_get f_X7_54 dX7_keep_20 hm rfl ?_
    refine a_iload_n 1 dX7_keep_23 rfl rfl ?_
    refine a_aload_n 0 dX7_keep_24 rfl rfl ?_
    refine a_get f_X7_200 dX7_keep_25 hm rfl ?_
    refine a_last dX7_keep_28 hgx (vp_in_nI hi (by decide)) (by omega) (fun H3 hgx hz3 hq3 => ?_)
    have hgx : Al G H3 (a + 14) 2 (vp_updL fg (nI i).toNatClampNeg (lN sd)) := hgx
    have hgx : Al G H3 (a + 14) 2 (vp_updL fg i (lN sd)) := hgx.to (fun j _ => by rw [nI_clamp (by omega)])
    have hm := hm.kept (hq3 _ (by omega))
    have hBx := hBx.kept (hq3 _ (by omega))
    have hKx := hKx.kept (hq3 _ (by omega))
    have hVx := hVx.kept (hq3 _ (by omega))
    have hNx := hNx.kept (hq3 _ (by omega))
    have hzx := hzx.kept (hq3 _ (by omega))
    have hkx := hkx.kept (hq3 _ (by omega))
    have hF : ∀ q : Nat, ¬ (a ≤ q ∧ q < a + 15) → H3[q]? = H[q]? := fun q hq => (hq3 q (by omega)).trans (hF q hq)
    have hG : ∀ q : Nat, q ≠ a ∧ ¬ (a + 12 ≤ q ∧ q < a + 15) → H3[q]? = H[q]? := fun q hq => (hq3 q (by omega)).trans (hG q hq)
    refine a_aload_n 0 dX7_keep_29 rfl rfl ?_
    refine a_iconst 0 dX7_keep_30 (by decide) ?_
    refine a_put f_X7_132 p_X7_132 dX7_keep_31 hm (Nat.le_of_ble_eq_true rfl) rfl rfl (by omega) (fun H4 hm hz4 hq4 => ?_)
    have hm : Ob G H4 a 7 [.int (nI L), .ref (a + 1), .int fp, .int ra, .int rf, .int rw, .int rx, .ref (a + 2), .ref (a + 3), .ref (a + 4), .int (bI ir), .int (bI kb), .int (nI n), .int (nI nv), .ref (a + 5), .ref (a + 6), .ref (a + 7), .ref (a + 8), .int 0, .int (nI nx), .ref (a + 9), .long (lN sd), .int (nI sn), .ref (a + 10), .int (nI bn), .ref (a + 11), .ref (a + 12), .ref (a + 13), .ref (a + 14)] := hm
    have hBx := hBx.kept (hq4 _ (by omega))
    have hKx := hKx.kept (hq4 _ (by omega))
    have hVx := hVx.kept (hq4 _ (by omega))
    have hNx := hNx.kept (hq4 _ (by omega))
    have hzx := hzx.kept (hq4 _ (by omega))
    have hkx := hkx.kept (hq4 _ (by omega))
    have hgx := hgx.kept (hq4 _ (by omega))
    have hF : ∀ q : Nat, ¬ (a ≤ q ∧ q < a + 15) → H4[q]? = H[q]? := fun q hq => (hq4 q (by omega)).trans (hF q hq)
    have hG : ∀ q : Nat, q ≠ a ∧ ¬ (a + 12 ≤ q ∧ q < a + 15) → H4[q]? = H[q]? := fun q hq => (hq4 q (by omega)).trans (hG q hq)
    refine a_iconst 0 dX7_keep_34 (by decide) ?_
    refine a_istore_n (lv' := [(2, .int 0), (0, .ref a), (1, .int (nI i))]) dX7_keep_35 rfl (by decide) rfl ?_
    have L36 : ∀ (fu : Nat) (k : Nat) (Hk : Heap) (gk : DD), k ≤ 27 → Ob G Hk a 7 [.int (nI L), .ref (a + 1), .int fp, .int ra, .int rf, .int rw, .int rx, .ref (a + 2), .ref (a + 3), .ref (a + 4), .int (bI ir), .int (bI kb), .int (nI n), .int (nI nv), .ref (a + 5), .ref (a + 6), .ref (a + 7), .ref (a + 8), .int 0, .int (nI nx), .ref (a + 9), .long (lN sd), .int (nI sn), .ref (a + 10), .int (nI bn), .ref (a + 11), .ref (a + 12), .ref (a + 13), .ref (a + 14)] → Ai G Hk (a + 5) 3 fB → Ai G Hk (a + 6) 8 fK → Ai G Hk (a + 7) 4 fV → Ai G Hk (a + 8) 27 fN → Az G Hk (a + 12) 2 (upd fz i (bI true)) → Ai G Hk (a + 13) 54 gk → Al G Hk (a + 14) 2 (vp_updL fg i (lN sd)) → (∀ j, j < k → gk (27 * i + j) = fN j) → (∀ x, ¬ (27 * i ≤ x ∧ x < 27 * i + 27) → gk x = fk x) → (∀ q : Nat, q ≠ a ∧ ¬ (a + 12 ≤ q ∧ q < a + 15) → Hk[q]? = H[q]?) → (∀ q : Nat, ¬ (a ≤ q ∧ q < a + 15) → Hk[q]? = H[q]?) → 27 - k < fu → AW G B l { frames := 1, cells := 0, slots := 0, locals := 27 * 1 } yX7_keep.cls cX7_keep 3 false (fun rv H' ce' sl' => (rv = some (.int 1) ∧ (Mx G H' a tx L fp kb ka ks kw n nv kK kV dd sd nx 0 pu sn sw sg bn bw bt (fun j => if j = i then true else ik j) (fun j => if j = i then dd else iD j) (fun j => if j = i then sd else iS j) ∧ ∀ q : Nat, ¬ (a ≤ q ∧ q < a + 15) → H'[q]? = H[q]?)) ∧ ce' = 0 ∧ sl' = 0) 36 [(0, .ref a), (1, .int (nI i)), (2, .int (nI k))] [] Hk 0 0 := by
      intro fu
      induction fu with
      | zero => intro k Hk gk hk hm hBx hKx hVx hNx hzx hkx hgx e1 e2 hG hF hm36; exact absurd hm36 (Nat.not_lt_zero _)
      | succ fu ih36 =>
        intro k Hk gk hk hm hBx hKx hVx hNx hzx hkx hgx e1 e2 hG hF hm36
        refine a_iload_n 2 dX7_keep_36 rfl rfl ?_
        refine a_bipush 27 dX7_keep_37 (by decide) ?_
        refine a_icmpgeN (a := k) (b := 27) 65 dX7_keep_39 (by decide) (by omega) (by omega) (fun c39 => ?_) (fun c39 => ?_)
        · skip
          refine a_iconst 1 dX7_keep_65 (by decide) ?_
          refine a_ret dX7_keep_66 ⟨⟨ri ?_, ?_⟩, rfl, rfl⟩
          · rfl
          · have hk27 : k = 27 := by omega
            subst hk27
            have hT := hT.kept (H1 := _) (fun q c1 c2 => hG q (by omega))
            have hU := hU.kept (H1 := _) (hG _ (by omega))
            have hS := hS.kept (H1 := _) (hG _ (by omega))
            have hK9 := hK9.kept (H1 := _) (hG _ (by omega))
            exact ⟨⟨_, _, _, _, _, ⟨by unfold mxL; exact hm, ⟨fB, hBx, eB0, eB1, eB2⟩, ⟨fK, hKx, eK⟩, ⟨fV, hVx, eV⟩, ⟨_, hNx, ⟨eS, eU, eO, e24, e25, e26⟩⟩, hn, hnv⟩, hT, Mu.zero hU, hS, hK9, ⟨⟨_, hzx, kp_z ez⟩, ⟨_, hkx, kp_k hn ⟨eS, eU, eO, e24, e25, e26⟩ ek e1 e2⟩, ⟨_, hgx, kp_g eg⟩⟩⟩, hF⟩
        · skip
          refine a_aload_n 0 dX7_keep_42 rfl rfl ?_
          refine a_get f_X7_51 dX7_keep_43 hm rfl ?_
          refine a_bipush 27 dX7_keep_46 (by decide) ?_
          refine a_iload_n 1 dX7_keep_48 rfl rfl ?_
          refine a_imulN (a := 27) (b := i) dX7_keep_49 ?_
          refine a_iload_n 2 dX7_keep_50 rfl rfl ?_
          refine a_iaddN (a := 27 * i) (b := k) dX7_keep_51 ?_
          refine a_aload_n 0 dX7_keep_52 rfl rfl ?_
          refine a_get f_X7_35 dX7_keep_53 hm rfl ?_
          refine a_iload_n 2 dX7_keep_56 rfl rfl ?_
          refine a_ialdN (j := k) dX7_keep_57 hNx (by omega) (by decide) ?_
          refine a_iastN (j := (27 * i) + k) dX7_keep_58 hkx (by omega) (by decide) (by omega) (fun H5 hkx hz5 hq5 => ?_)
          have hkx : Ai G H5 (a + 13) 54 (upd gk ((27 * i) + k) (fN k)) := hkx
          have hm := hm.kept (hq5 _ (by omega))
          have hBx := hBx.kept (hq5 _ (by omega))
          have hKx := hKx.kept (hq5 _ (by omega))
          have hVx := hVx.kept (hq5 _ (by omega))
          have hNx := hNx.kept (hq5 _ (by omega))
          have hzx := hzx.kept (hq5 _ (by omega))
          have hgx := hgx.kept (hq5 _ (by omega))
          have hF : ∀ q : Nat, ¬ (a ≤ q ∧ q < a + 15) → H5[q]? = H[q]? := fun q hq => (hq5 q (by omega)).trans (hF q hq)
          have hG : ∀ q : Nat, q ≠ a ∧ ¬ (a + 12 ≤ q ∧ q < a + 15) → H5[q]? = H[q]? := fun q hq => (hq5 q (by omega)).trans (hG q hq)
          refine a_iincN (q := 2) (lv' := [(2, .int (nI (k + 1))), (0, .ref a), (1, .int (nI i))]) dX7_keep_59 rfl (by decide) rfl ?_
          refine a_goto 36 dX7_keep_62 (by decide) ?_
          refine a_sub [1, 2, 0] rfl ?_
          exact ih36 _ _ _ (by omega) hm hBx hKx hVx hNx hzx hkx hgx (cp1 e1) (cp2 c39 e2) hG hF (by omega)
    refine a_sub [1, 2, 0] rfl ?_
    exact L36 _ 0 _ _ (Nat.zero_le _) hm hBx hKx hVx hNx hzx hkx hgx (fun j hj => absurd hj (Nat.not_lt_zero _)) (fun _ _ => rfl) hG hF (Nat.lt_succ_self _)
  · skip
    exact absurd c6 (by rw [(inF_2.trans (wIx_nI hi (by decide)) : inF (nI i) 0 1 = true)]; decide)
set_option maxHeartbeats 4000000 in
set_option maxRecDepth 100000 in
theorem c_X7_keep_unk {G : GT} {B : Nat} {l : Launch} {H : Heap} {a : Nat} {tx : Nat → Nat} {L : Nat} {fp : Int32} {kb : Bool} {ka ks kw : Int32} {n nv : Nat} {kK kV dd : DD} {sd nx ct : Nat} {pu : Nat → DD} {sn : Nat} {sw sg : Nat → Nat} {bn : Nat} {bw : Nat → Nat} {bt : DD} {ik : Nat → Bool} {iD : Nat → DD} {iS : Nat → Nat} {i : Int32} (hi : wIx 2 i = false) (hX : Mx G H a tx L fp kb ka ks kw n nv kK kV dd sd nx ct pu sn sw sg bn bw bt ik iD iS) (hB : B ≤ a) : AM G B l yX7_keep cX7_keep 3 (some .int) 1 0 0 [.ref a, .int i] H (fun rv H' => rv = some (.int (-1000000001)) ∧ (H' = H)) := by
  have hX0 := hX
  obtain ⟨ra, rf, rw, rx, ir, hM, hT, hU, hS, hK9, hJ9⟩ := hX
  have hM0 := hM
  obtain ⟨hm, ⟨fB, hBx, eB0, eB1, eB2⟩, ⟨fK, hKx, eK⟩, ⟨fV, hVx, eV⟩, ⟨fN, hNx, eS, eU, eO, e24, e25, e26⟩, hn, hnv⟩ := hM
  unfold mxL at hm
  refine AM.ofI (lv := [(0, .ref a), (1, .int i)]) (by decide +kernel) (Nat.le_of_ble_eq_true rfl) rfl ?_ (fun _ h => by cases h.1)
  refine a_iload_n 1 dX7_keep_0 rfl rfl ?_
  refine a_iconst 0 dX7_keep_1 (by decide) ?_
  refine a_iconst 1 dX7_keep_2 (by decide) ?_
  refine a_callSp (As := [.int i, .int 0, .int 1]) (rest := []) (d := 0) (mc := 0) (ms := 0) (x := bI (inF i 0 1)) l_X7_58 st_X7_in dX7_keep_3 ⟨Nat.le_of_ble_eq_true rfl, Nat.le_of_ble_eq_true rfl⟩ rfl (Nat.le_of_ble_eq_true rfl) ⟨Nat.le_of_ble_eq_true rfl, Nat.le_of_ble_eq_true rfl⟩ (c_X7_in) ?_
  refine a_ifneB 12 dX7_keep_6 (by decide) (fun c6 => ?_) (fun c6 => ?_)
  · skip
    exact absurd c6 (by rw [inF_2, hi]; decide)
  · skip
    refine a_ldc (-1000000001) k_X7_142 dX7_keep_9 ?_
    refine a_ret dX7_keep_11 ⟨⟨ri ?_, ?_⟩, rfl, rfl⟩
    · rfl
    · rfl
set_option maxHeartbeats 4000000 in
set_option maxRecDepth 100000 in
theorem c_X7_goBack {G : GT} {B : Nat} {l : Launch} {H : Heap} {a : Nat} {tx : Nat → Nat} {L : Nat} {fp : Int32} {kb : Bool} {ka ks kw : Int32} {n nv : Nat} {kK kV dd : DD} {sd nx ct : Nat} {pu : Nat → DD} {sn : Nat} {sw sg : Nat → Nat} {bn : Nat} {bw : Nat → Nat} {bt : DD} {ik : Nat → Bool} {iD : Nat → DD} {iS : Nat → Nat} {i : Nat} (hi : i < 2) (hki : ik i = true) (hX : Mx G H a tx L fp kb ka ks kw n nv kK kV dd sd nx ct pu sn sw sg bn bw bt ik iD iS) (hB : B ≤ a) : AM G B l yX7_goBack cX7_goBack 3 (some .int) 1 0 0 [.ref a, .int (nI i)] H (fun rv H' => rv = some (.int 1) ∧ (Mx G H' a tx L fp kb ka ks kw n nv kK kV (iD i) (iS i) nx 0 pu sn sw sg bn bw bt ik iD iS ∧ ∀ q : Nat, ¬ (a ≤ q ∧ q < a + 15) → H'[q]? = H[q]?)) := by
  have hX0 := hX
  obtain ⟨ra, rf, rw, rx, ir, hM, hT, hU, hS, hK9, hJ9⟩ := hX
  have hM0 := hM
  obtain ⟨hm, ⟨fB, hBx, eB0, eB1, eB2⟩, ⟨fK, hKx, eK⟩, ⟨fV, hVx, eV⟩, ⟨fN, hNx, eS, eU, eO, e24, e25, e26⟩, hn, hnv⟩ := hM
  unfold mxL at hm
  obtain ⟨⟨fz, hzx, ez⟩, ⟨fk, hkx, ek⟩, ⟨fg, hgx, eg⟩⟩ := id hJ9
  have hF : ∀ q : Nat, ¬ (a ≤ q ∧ q < a + 15) → H[q]? = H[q]? := fun _ _ => rfl
  have hG : ∀ q : Nat, q ≠ a ∧ q ≠ a + 8 → H[q]? = H[q]? := fun _ _ => rfl
  refine AM.ofI (lv := [(0, .ref a), (1, .int (nI i))]) (by decide +kernel) (Nat.le_of_ble_eq_true rfl) rfl ?_ (fun _ h => by cases h.1)
  refine a_iload_n 1 dX7_goBack_0 rfl rfl ?_
  refine a_iconst 0 dX7_goBack_1 (by decide) ?_
  refine a_iconst 1 dX7_goBack_2 (by decide) ?_
  refine a_callSp (As := [.int (nI i), .int 0, .int 1]) (rest := []) (d := 0) (mc := 0) (ms := 0) (x := bI (inF (nI i) 0 1)) l_X7_58 st_X7_in dX7_goBack_3 ⟨Nat.le_of_ble_eq_true rfl, Nat.le_of_ble_eq_true rfl⟩ rfl (Nat.le_of_ble_eq_true rfl) ⟨Nat.le_of_ble_eq_true rfl, Nat.le_of_ble_eq_true rfl⟩ (c_X7_in) ?_
  refine a_ifneB 12 dX7_goBack_6 (by decide) (fun c6 => ?_) (fun c6 => ?_)
  · skip
    refine a_aload_n 0 dX7_goBack_12 rfl rfl ?_
    refine a_get f_X7_47 dX7_goBack_13 hm rfl ?_
    refine a_iload_n 1 dX7_goBack_16 rfl rfl ?_
    refine a_zald dX7_goBack_17 hzx (vp_in_nI hi (by decide)) ?_
    refine a_toeq (1) (by rw [nI_clamp (by omega), ez i hi, hki]; rfl) ?_
    refine a_ifne 24 dX7_goBack_18 (by decide) (fun c18 => ?_) (fun c18 => ?_)
    · skip
      refine a_aload_n 0 dX7_goBack_24 rfl rfl ?_
      refine a_aload_n 0 dX7_goBack_25 rfl rfl ?_
      refine a_get f_X7_54 dX7_goBack_26 hm rfl ?_
      refine a_iload_n 1 dX7_goBack_29 rfl rfl ?_
      refine a_lald dX7_goBack_30 hgx (vp_in_nI hi (by decide)) ?_
      refine a_toeql (lN (iS i)) (by rw [nI_clamp (by omega)]; exact eg i hi hki) ?_
      refine a_put f_X7_200 p_X7_200 dX7_goBack_31 hm (Nat.le_of_ble_eq_true rfl) rfl rfl (by omega) (fun H2 hm hz2 hq2 => ?_)
      have hm : Ob G H2 a 7 [.int (nI L), .ref (a + 1), .int fp, .int ra, .int rf, .int rw, .int rx, .ref (a + 2), .ref (a + 3), .ref (a + 4), .int (bI ir), .int (bI kb), .int (nI n), .int (nI nv), .ref (a + 5), .ref (a + 6), .ref (a + 7), .ref (a + 8), .int (nI ct), .int (nI nx), .ref (a + 9), .long (lN (iS i)), .int (nI sn), .ref (a + 10), .int (nI bn), .ref (a + 11), .ref (a + 12), .ref (a + 13), .ref (a + 14)] := hm
      have hBx := hBx.kept (hq2 _ (by omega))
      have hKx := hKx.kept (hq2 _ (by omega))
      have hVx := hVx.kept (hq2 _ (by omega))
      have hNx := hNx.kept (hq2 _ (by omega))
      have hzx := hzx.kept (hq2 _ (by omega))
      have hkx := hkx.kept (hq2 _ (by omega))
      have hgx := hgx.kept (hq2 _ (by omega))
      have hF : ∀ q : Nat, ¬ (a ≤ q ∧ q < a + 15) → H2[q]? = H[q]? := fun q hq => (hq2 q (by omega)).trans (hF q hq)
      have hG : ∀ q : Nat, q ≠ a ∧ q ≠ a + 8 → H2[q]? = H[q]? := fun q hq => (hq2 q (by omega)).trans (hG q hq)
      refine a_aload_n 0 dX7_goBack_34 rfl rfl ?_
      refine a_iconst 0 dX7_goBack_35 (by decide) ?_
      refine a_put f_X7_132 p_X7_132 dX7_goBack_36 hm (Nat.le_of_ble_eq_true rfl) rfl rfl (by omega) (fun H3 hm hz3 hq3 => ?_)
      have hm : Ob G H3 a 7 [.int (nI L), .ref (a + 1), .int fp, .int ra, .int rf, .int rw, .int rx, .ref (a + 2), .ref (a + 3), .ref (a + 4), .int (bI ir), .int (bI kb), .int (nI n), .int (nI nv), .ref (a + 5), .ref (a + 6), .ref (a + 7), .ref (a + 8), .int 0, .int (nI nx), .ref (a + 9), .long (lN (iS i)), .int (nI sn), .ref (a + 10), .int (nI bn), .ref (a + 11), .ref (a + 12), .ref (a + 13), .ref (a + 14)] := hm
      have hBx := hBx.kept (hq3 _ (by omega))
      have hKx := hKx.kept (hq3 _ (by omega))
      have hVx := hVx.kept (hq3 _ (by omega))
      have hNx := hNx.kept (hq3 _ (by omega))
      have hzx := hzx.kept (hq3 _ (by omega))
      have hkx := hkx.kept (hq3 _ (by omega))
      have hgx := hgx.kept (hq3 _ (by omega))
      have hF : ∀ q : Nat, ¬ (a ≤ q ∧ q < a + 15) → H3[q]? = H[q]? := fun q hq => (hq3 q (by omega)).trans (hF q hq)
      have hG : ∀ q : Nat, q ≠ a ∧ q ≠ a + 8 → H3[q]? = H[q]? := fun q hq => (hq3 q (by omega)).trans (hG q hq)
      refine a_iconst 0 dX7_goBack_39 (by decide) ?_
      refine a_istore_n (lv' := [(2, .int 0), (0, .ref a), (1, .int (nI i))]) dX7_goBack_40 rfl (by decide) rfl ?_
      have L41 : ∀ (fu : Nat) (k : Nat) (Hk : Heap) (gN : DD), k ≤ 27 → Ob G Hk a 7 [.int (nI L), .ref (a + 1), .int fp, .int ra, .int rf, .int rw, .int rx, .ref (a + 2), .ref (a + 3), .ref (a + 4), .int (bI ir), .int (bI kb), .int (nI n), .int (nI nv), .ref (a + 5), .ref (a + 6), .ref (a + 7), .ref (a + 8), .int 0, .int (nI nx), .ref (a + 9), .long (lN (iS i)), .int (nI sn), .ref (a + 10), .int (nI bn), .ref (a + 11), .ref (a + 12), .ref (a + 13), .ref (a + 14)] → Ai G Hk (a + 5) 3 fB → Ai G Hk (a + 6) 8 fK → Ai G Hk (a + 7) 4 fV → Ai G Hk (a + 8) 27 gN → Ai G Hk (a + 13) 54 fk → (∀ j, j < k → gN j = fk (27 * i + j)) → (∀ q : Nat, q ≠ a ∧ q ≠ a + 8 → Hk[q]? = H[q]?) → (∀ q : Nat, ¬ (a ≤ q ∧ q < a + 15) → Hk[q]? = H[q]?) → 27 - k < fu → AW G B l { frames := 1, cells := 0, slots := 0, locals := 27 * 1 } yX7_goBack.cls cX7_goBack 3 false (fun rv H' ce' sl' => (rv = some (.int 1) ∧ (Mx G H' a tx L fp kb ka ks kw n nv kK kV (iD i) (iS i) nx 0 pu sn sw sg bn bw bt ik iD iS ∧ ∀ q : Nat, ¬ (a ≤ q ∧ q < a + 15) → H'[q]? = H[q]?)) ∧ ce' = 0 ∧ sl' = 0) 41 [(0, .ref a), (1, .int (nI i)), (2, .int (nI k))] [] Hk 0 0 := by
        intro fu
        induction fu with
        | zero => intro k Hk gN hk hm hBx hKx hVx hNx hkx e1 hG hF hm41; exact absurd hm41 (Nat.not_lt_zero _)
        | succ fu ih41 =>
          intro k Hk gN hk hm hBx hKx hVx hNx hkx e1 hG hF hm41
          refine a_iload_n 2 dX7_goBack_41 rfl rfl ?_
          refine a_bipush 27 dX7_goBack_42 (by decide) ?_
          refine a_icmpgeN (a := k) (b := 27) 70 dX7_goBack_44 (by decide) (by omega) (by omega) (fun c44 => ?_) (fun c44 => ?_)
          · skip
            refine a_iconst 1 dX7_goBack_70 (by decide) ?_
            refine a_ret dX7_goBack_71 ⟨⟨ri ?_, ?_⟩, rfl, rfl⟩
            · rfl
            · have hk27 : k = 27 := by omega
              subst hk27
              have hT := hT.kept (H1 := _) (fun q c1 c2 => hG q (by omega))
              have hU := hU.kept (H1 := _) (hG _ (by omega))
              have hS := hS.kept (H1 := _) (hG _ (by omega))
              have hK9 := hK9.kept (H1 := _) (hG _ (by omega))
              have hJ9 := hJ9.kept (H1 := _) (fun q c1 c2 => hG q (by omega))
              exact ⟨⟨_, _, _, _, _, ⟨by unfold mxL; exact hm, ⟨fB, hBx, eB0, eB1, eB2⟩, ⟨fK, hKx, eK⟩, ⟨fV, hVx, eV⟩, ⟨_, hNx, NA.cg hn (ek i hi hki) (fun j hj => e1 j hj)⟩, hn, hnv⟩, hT, Mu.zero hU, hS, hK9, hJ9⟩, hF⟩
          · skip
            refine a_aload_n 0 dX7_goBack_47 rfl rfl ?_
            refine a_get f_X7_35 dX7_goBack_48 hm rfl ?_
            refine a_iload_n 2 dX7_goBack_51 rfl rfl ?_
            refine a_aload_n 0 dX7_goBack_52 rfl rfl ?_
            refine a_get f_X7_51 dX7_goBack_53 hm rfl ?_
            refine a_bipush 27 dX7_goBack_56 (by decide) ?_
            refine a_iload_n 1 dX7_goBack_58 rfl rfl ?_
            refine a_imulN (a := 27) (b := i) dX7_goBack_59 ?_
            refine a_iload_n 2 dX7_goBack_60 rfl rfl ?_
            refine a_iaddN (a := 27 * i) (b := k) dX7_goBack_61 ?_
            refine a_ialdN (j := (27 * i) + k) dX7_goBack_62 hkx (by omega) (by decide) ?_
            refine a_iastN (j := k) dX7_goBack_63 hNx (by omega) (by decide) (by omega) (fun H4 hNx hz4 hq4 => ?_)
            have hNx : Ai G H4 (a + 8) 27 (upd gN k (fk ((27 * i) + k))) := hNx
            have hm := hm.kept (hq4 _ (by omega))
            have hBx := hBx.kept (hq4 _ (by omega))
            have hKx := hKx.kept (hq4 _ (by omega))
            have hVx := hVx.kept (hq4 _ (by omega))
            have hkx := hkx.kept (hq4 _ (by omega))
            have hF : ∀ q : Nat, ¬ (a ≤ q ∧ q < a + 15) → H4[q]? = H[q]? := fun q hq => (hq4 q (by omega)).trans (hF q hq)
            have hG : ∀ q : Nat, q ≠ a ∧ q ≠ a + 8 → H4[q]? = H[q]? := fun q hq => (hq4 q (by omega)).trans (hG q hq)
            refine a_iincN (q := 2) (lv' := [(2, .int (nI (k + 1))), (0, .ref a), (1, .int (nI i))]) dX7_goBack_64 rfl (by decide) rfl ?_
            refine a_goto 41 dX7_goBack_67 (by decide) ?_
            refine a_sub [1, 2, 0] rfl ?_
            exact ih41 _ _ _ (by omega) hm hBx hKx hVx hNx hkx (upd_to (e := fun j => fk (27 * i + j)) e1 rfl) hG hF (by omega)
      refine a_sub [1, 2, 0] rfl ?_
      exact L41 _ 0 _ _ (Nat.zero_le _) hm hBx hKx hVx hNx hkx (fun j hj => absurd hj (Nat.not_lt_zero _)) hG hF (Nat.lt_succ_self _)
    · skip
      exact absurd c18 (by decide)
  · skip
    exact absurd c6 (by rw [(inF_2.trans (wIx_nI hi (by decide)) : inF (nI i) 0 1 = true)]; decide)
set_option maxHeartbeats 4000000 in
set_option maxRecDepth 100000 in
theorem c_X7_goBack_unk {G : GT} {B : Nat} {l : Launch} {H : Heap} {a : Nat} {tx : Nat → Nat} {L : Nat} {fp : Int32} {kb : Bool} {ka ks kw : Int32} {n nv : Nat} {kK kV dd : DD} {sd nx ct : Nat} {pu : Nat → DD} {sn : Nat} {sw sg : Nat → Nat} {bn : Nat} {bw : Nat → Nat} {bt : DD} {ik : Nat → Bool} {iD : Nat → DD} {iS : Nat → Nat} {i : Int32} (hi : wIx 2 i = false) (hX : Mx G H a tx L fp kb ka ks kw n nv kK kV dd sd nx ct pu sn sw sg bn bw bt ik iD iS) (hB : B ≤ a) : AM G B l yX7_goBack cX7_goBack 3 (some .int) 1 0 0 [.ref a, .int i] H (fun rv H' => rv = some (.int (-1000000001)) ∧ (H' = H)) := by
  have hX0 := hX
  obtain ⟨ra, rf, rw, rx, ir, hM, hT, hU, hS, hK9, hJ9⟩ := hX
  have hM0 := hM
  obtain ⟨hm, ⟨fB, hBx, eB0, eB1, eB2⟩, ⟨fK, hKx, eK⟩, ⟨fV, hVx, eV⟩, ⟨fN, hNx, eS, eU, eO, e24, e25, e26⟩, hn, hnv⟩ := hM
  unfold mxL at hm
  refine AM.ofI (lv := [(0, .ref a), (1, .int i)]) (by decide +kernel) (Nat.le_of_ble_eq_true rfl) rfl ?_ (fun _ h => by cases h.1)
  refine a_iload_n 1 dX7_goBack_0 rfl rfl ?_
  refine a_iconst 0 dX7_goBack_1 (by decide) ?_
  refine a_iconst 1 dX7_goBack_2 (by decide) ?_
  refine a_callSp (As := [.int i, .int 0, .int 1]) (rest := []) (d := 0) (mc := 0) (ms := 0) (x := bI (inF i 0 1)) l_X7_58 st_X7_in dX7_goBack_3 ⟨Nat.le_of_ble_eq_true rfl, Nat.le_of_ble_eq_true rfl⟩ rfl (Nat.le_of_ble_eq_true rfl) ⟨Nat.le_of_ble_eq_true rfl, Nat.le_of_ble_eq_true rfl⟩ (c_X7_in) ?_
  refine a_ifneB 12 dX7_goBack_6 (by decide) (fun c6 => ?_) (fun c6 => ?_)
  · skip
    exact absurd c6 (by rw [inF_2, hi]; decide)
  · skip
    refine a_ldc (-1000000001) k_X7_142 dX7_goBack_9 ?_
    refine a_ret dX7_goBack_11 ⟨⟨ri ?_, ?_⟩, rfl, rfl⟩
    · rfl
    · rfl
set_option maxHeartbeats 4000000 in
set_option maxRecDepth 100000 in
theorem c_X7_goBack_not {G : GT} {B : Nat} {l : Launch} {H : Heap} {a : Nat} {tx : Nat → Nat} {L : Nat} {fp : Int32} {kb : Bool} {ka ks kw : Int32} {n nv : Nat} {kK kV dd : DD} {sd nx ct : Nat} {pu : Nat → DD} {sn : Nat} {sw sg : Nat → Nat} {bn : Nat} {bw : Nat → Nat} {bt : DD} {ik : Nat → Bool} {iD : Nat → DD} {iS : Nat → Nat} {i : Nat} (hi : i < 2) (hki : ik i = false) (hX : Mx G H a tx L fp kb ka ks kw n nv kK kV dd sd nx ct pu sn sw sg bn bw bt ik iD iS) (hB : B ≤ a) : AM G B l yX7_goBack cX7_goBack 3 (some .int) 1 0 0 [.ref a, .int (nI i)] H (fun rv H' => rv = some (.int (-1000000003)) ∧ (H' = H)) := by
  have hX0 := hX
  obtain ⟨ra, rf, rw, rx, ir, hM, hT, hU, hS, hK9, hJ9⟩ := hX
  have hM0 := hM
  obtain ⟨hm, ⟨fB, hBx, eB0, eB1, eB2⟩, ⟨fK, hKx, eK⟩, ⟨fV, hVx, eV⟩, ⟨fN, hNx, eS, eU, eO, e24, e25, e26⟩, hn, hnv⟩ := hM
  unfold mxL at hm
  obtain ⟨⟨fz, hzx, ez⟩, ⟨fk, hkx, ek⟩, ⟨fg, hgx, eg⟩⟩ := id hJ9
  refine AM.ofI (lv := [(0, .ref a), (1, .int (nI i))]) (by decide +kernel) (Nat.le_of_ble_eq_true rfl) rfl ?_ (fun _ h => by cases h.1)
  refine a_iload_n 1 dX7_goBack_0 rfl rfl ?_
  refine a_iconst 0 dX7_goBack_1 (by decide) ?_
  refine a_iconst 1 dX7_goBack_2 (by decide) ?_
  refine a_callSp (As := [.int (nI i), .int 0, .int 1]) (rest := []) (d := 0) (mc := 0) (ms := 0) (x := bI (inF (nI i) 0 1)) l_X7_58 st_X7_in dX7_goBack_3 ⟨Nat.le_of_ble_eq_true rfl, Nat.le_of_ble_eq_true rfl⟩ rfl (Nat.le_of_ble_eq_true rfl) ⟨Nat.le_of_ble_eq_true rfl, Nat.le_of_ble_eq_true rfl⟩ (c_X7_in) ?_
  refine a_ifneB 12 dX7_goBack_6 (by decide) (fun c6 => ?_) (fun c6 => ?_)
  · skip
    refine a_aload_n 0 dX7_goBack_12 rfl rfl ?_
    refine a_get f_X7_47 dX7_goBack_13 hm rfl ?_
    refine a_iload_n 1 dX7_goBack_16 rfl rfl ?_
    refine a_zald dX7_goBack_17 hzx (vp_in_nI hi (by decide)) ?_
    refine a_toeq (0) (by rw [nI_clamp (by omega), ez i hi, hki]; rfl) ?_
    refine a_ifne 24 dX7_goBack_18 (by decide) (fun c18 => ?_) (fun c18 => ?_)
    · skip
      exact absurd rfl c18
    · skip
      refine a_ldc (-1000000003) k_X7_186 dX7_goBack_21 ?_
      refine a_ret dX7_goBack_23 ⟨⟨ri ?_, ?_⟩, rfl, rfl⟩
      · rfl
      · rfl
  · skip
    exact absurd c6 (by rw [(inF_2.trans (wIx_nI hi (by decide)) : inF (nI i) 0 1 = true)]; decide)
