/-! ===== BEGIN BeansBoxModel: weeks by draws ===== -/
theorem df_step {n nv : Nat} {kK kV : DD} {ka ks : Int32} {dd d1 : DD} {sd s1 k c g : Nat} (hg : dfS n nv kK kV ka ks dd sd k = (d1, s1)) (ec : spF d1 kV (drF (sdF s1) n) (drF s1 nv) = nI c) (hgu : guF n d1 (nI c) = nI g) (hgb : g < 2 ^ 31) : dfS n nv kK kV ka ks dd sd (k + 1) = (if drF (sdF (sdF s1)) 3 = 0 ∧ g ≠ drF (sdF s1) n then crF (hrF d1 g (ruF n d1 kK ka ks (nI c))) g (drF (sdF s1) n) else cfF (hrF d1 g (ruF n d1 kK ka ks (nI c))) g, sdF (sdF (sdF s1))) := by
  simp only [dfS]
  rw [hg]
  unfold dfX
  dsimp only
  rw [ec, hgu, nI_clamp hgb]
/-! ===== END ===== -/

set_option maxHeartbeats 4000000 in
set_option maxRecDepth 100000 in
theorem c_X7_drift {G : GT} {B : Nat} {l : Launch} {H : Heap} {a : Nat} {tx : Nat → Nat} {L : Nat} {fp : Int32} {kb : Bool} {ka ks kw : Int32} {n nv : Nat} {kK kV dd : DD} {sd nx ct : Nat} {pu : Nat → DD} {sn : Nat} {sw sg : Nat → Nat} {bn : Nat} {bw : Nat → Nat} {bt : DD} {ik : Nat → Bool} {iD : Nat → DD} {iS : Nat → Nat} {m : Nat} (hm1 : 1 ≤ m) (hm2 : m ≤ 60) (hkb : kb = true) (hh : dd 24 ≤ 9000) (hn0 : 0 < n) (hv0 : 0 < nv) (hsd : sd < 2 ^ 31) (hR : RG n dd) (hV : RV nv kV) (hRK : RK n kK) (hX : Mx G H a tx L fp kb ka ks kw n nv kK kV dd sd nx ct pu sn sw sg bn bw bt ik iD iS) (hB : B ≤ a) : AM G B l yX7_drift cX7_drift 5 (some .int) 7 0 0 [.ref a, .int (nI m)] H (fun rv H' => rv = some (.int ((dfS n nv kK kV ka ks dd sd m).1 25)) ∧ (Mx G H' a tx L fp kb ka ks kw n nv kK kV ((dfS n nv kK kV ka ks dd sd m).1) ((dfS n nv kK kV ka ks dd sd m).2) ((nx + 1) % 20) (min (ct + 1) 20) (fun i => if i = nx then dd else pu i) sn sw sg bn bw bt ik iD iS ∧ ∀ q : Nat, ¬ (a ≤ q ∧ q < a + 15) → H'[q]? = H[q]?)) := by
  have hX0 := hX
  obtain ⟨ra, rf, rw, rx, ir, hM, hT, hU, hS, hK9, hJ9⟩ := hX
  have hM0 := hM
  obtain ⟨hm, ⟨fB, hBx, eB0, eB1, eB2⟩, ⟨fK, hKx, eK⟩, ⟨fV, hVx, eV⟩, ⟨fN, hNx, eS, eU, eO, e24, e25, e26⟩, hn, hnv⟩ := hM
  unfold mxL at hm
  have hF : ∀ q : Nat, ¬ (a ≤ q ∧ q < a + 15) → H[q]? = H[q]? := fun _ _ => rfl
  refine AM.ofI (lv := [(0, .ref a), (1, .int (nI m))]) (by decide +kernel) (Nat.le_of_ble_eq_true rfl) rfl ?_ (fun _ h => by cases h.1)
  refine a_iload_n 1 dX7_drift_0 rfl rfl ?_
  refine a_iconst 1 dX7_drift_1 (by decide) ?_
  refine a_bipush 60 dX7_drift_2 (by decide) ?_
  refine a_callSp (As := [.int (nI m), .int 1, .int 60]) (rest := []) (d := 0) (mc := 0) (ms := 0) (x := bI (inF (nI m) 1 60)) l_X7_58 st_X7_in dX7_drift_4 ⟨Nat.le_of_ble_eq_true rfl, Nat.le_of_ble_eq_true rfl⟩ rfl (Nat.le_of_ble_eq_true rfl) ⟨Nat.le_of_ble_eq_true rfl, Nat.le_of_ble_eq_true rfl⟩ (c_X7_in) ?_
  refine a_ifneB 13 dX7_drift_7 (by decide) (fun c7 => ?_) (fun c7 => ?_)
  · skip
    refine a_aload_n 0 dX7_drift_13 rfl rfl ?_
    refine a_get f_X7_117 dX7_drift_14 hm rfl ?_
    refine a_ifneB 23 dX7_drift_17 (by decide) (fun c17 => ?_) (fun c17 => ?_)
    · skip
      refine a_aload_n 0 dX7_drift_23 rfl rfl ?_
      refine a_get f_X7_35 dX7_drift_24 hm rfl ?_
      refine a_bipush 24 dX7_drift_27 (by decide) ?_
      refine a_ialdN (j := 24) dX7_drift_29 hNx (by omega) (by decide) ?_
      refine a_toeq (dd 24) (e24) ?_
      refine a_sipush 9000 dX7_drift_30 (by decide) ?_
      refine a_icmple 39 dX7_drift_33 (by decide) (fun c33 => ?_) (fun c33 => ?_)
      · skip
        refine a_aload_n 0 dX7_drift_39 rfl rfl ?_
        refine a_callVv (As := []) (rest := []) (d := 0) (mc := 0) (ms := 0) (ci := 7) l_X7_187 im_X7_remember se_X7_remember ⟨_, rfl, rfl⟩ dX7_drift_40 ⟨Nat.le_of_ble_eq_true rfl, Nat.le_of_ble_eq_true rfl⟩ rfl (Nat.le_of_ble_eq_true rfl) ⟨Nat.le_of_ble_eq_true rfl, Nat.le_of_ble_eq_true rfl⟩ hm (c_X7_remember hU hM0 hB) (fun H2 hp2 => ?_)
        obtain ⟨hM1, hU, hfr1⟩ := hp2
        have hT := hT.kept (H1 := H2) (fun q c1 c2 => hfr1 q (by omega))
        have hS := hS.kept (H1 := H2) (hfr1 _ (by omega))
        have hK9 := hK9.kept (H1 := H2) (hfr1 _ (by omega))
        have hJ9 := hJ9.kept (H1 := H2) (fun q c1 c2 => hfr1 q (by omega))
        have hm := hM1.1
        unfold mxL at hm
        have hF : ∀ q : Nat, ¬ (a ≤ q ∧ q < a + 15) → H2[q]? = H[q]? := fun q hq => (hfr1 q (by omega)).trans (hF q hq)
        refine a_iconst 0 dX7_drift_43 (by decide) ?_
        refine a_istore_n (lv' := [(2, .int 0), (0, .ref a), (1, .int (nI m))]) dX7_drift_44 rfl (by decide) rfl ?_
        have L45 : ∀ (fu : Nat) (k : Nat) (Hk : Heap) (d1 : DD) (s1 : Nat), k ≤ m → dfS n nv kK kV ka ks dd sd k = (d1, s1) → RG n d1 → s1 < 2 ^ 31 → Mc G Hk a L fp ra rf rw rx ir kb n nv (min (ct + 1) 20) ((nx + 1) % 20) s1 sn bn ka ks kw kK kV d1 → Mt G Hk a tx L → Mu G Hk (a + 9) ((nx + 1) % 20) (min (ct + 1) 20) n (fun i => if i = nx then dd else pu i) → Mp G Hk (a + 10) 12 sn (fun i => nI (sw i)) (fun i => nI (sg i)) → Mp G Hk (a + 11) 30 bn (fun i => nI (bw i)) bt → Mk G Hk a n ik iD iS → (∀ q : Nat, ¬ (a ≤ q ∧ q < a + 15) → Hk[q]? = H[q]?) → m - k < fu → AW G B l { frames := 7, cells := 0, slots := 0, locals := 27 * 7 } yX7_drift.cls cX7_drift 5 false (fun rv H' ce' sl' => (rv = some (.int ((dfS n nv kK kV ka ks dd sd m).1 25)) ∧ (Mx G H' a tx L fp kb ka ks kw n nv kK kV ((dfS n nv kK kV ka ks dd sd m).1) ((dfS n nv kK kV ka ks dd sd m).2) ((nx + 1) % 20) (min (ct + 1) 20) (fun i => if i = nx then dd else pu i) sn sw sg bn bw bt ik iD iS ∧ ∀ q : Nat, ¬ (a ≤ q ∧ q < a + 15) → H'[q]? = H[q]?)) ∧ ce' = 0 ∧ sl' = 0) 45 [(0, .ref a), (1, .int (nI m)), (2, .int (nI k))] [] Hk 0 0 := by
          intro fu
          induction fu with
          | zero => intro k Hk d1 s1 hk hg hR1 hs1 hM hT hU hS hK9 hJ9 hF hm45; exact absurd hm45 (Nat.not_lt_zero _)
          | succ fu ih45 =>
            intro k Hk d1 s1 hk hg hR1 hs1 hM hT hU hS hK9 hJ9 hF hm45
            have hm := hM.1
            unfold mxL at hm
            have hs2 : sdF s1 < 2 ^ 31 := Nat.mod_lt _ (by decide)
            have hs3 : sdF (sdF s1) < 2 ^ 31 := Nat.mod_lt _ (by decide)
            have hs4 : sdF (sdF (sdF s1)) < 2 ^ 31 := Nat.mod_lt _ (by decide)
            have hv9 : drF s1 nv < nv := Nat.mod_lt _ hv0
            have hw9 : drF (sdF s1) n < n := Nat.mod_lt _ hn0
            obtain ⟨c, hc, ec⟩ := sp_ok hR1 hV hw9 hv9
            obtain ⟨g, hgn, hg9⟩ := gu_ok hR1 hc hn0
            have hk9 : (hrF d1 g (ruF n d1 kK ka ks (nI c))) 26 = nI g := if_pos rfl
            have hR2 : RG n (hrF d1 g (ruF n d1 kK ka ks (nI c))) := hr_ok hn hR1 hgn
            have hst := df_step hg ec hg9 (by omega)
            have hd3 : drF (sdF (sdF s1)) 3 < 3 := Nat.mod_lt _ (by decide)
            refine a_iload_n 2 dX7_drift_45 rfl rfl ?_
            refine a_iload_n 1 dX7_drift_46 rfl rfl ?_
            refine a_icmpgeN (a := k) (b := m) 135 dX7_drift_47 (by decide) (by omega) (by omega) (fun c47 => ?_) (fun c47 => ?_)
            · skip
              have hkm : k = m := by omega
              subst hkm
              obtain ⟨-, -, -, -, ⟨fN2, hNx, -, -, -, -, e25, -⟩, -⟩ := id hM
              refine a_aload_n 0 dX7_drift_135 rfl rfl ?_
              refine a_get f_X7_35 dX7_drift_136 hm rfl ?_
              refine a_bipush 25 dX7_drift_139 (by decide) ?_
              refine a_ialdN (j := 25) dX7_drift_141 hNx (by omega) (by decide) ?_
              refine a_toeq (d1 25) e25 ?_
              refine a_ret dX7_drift_142 ⟨⟨ri ?_, ?_⟩, rfl, rfl⟩
              · rw [hg]
              · rw [hg]
                exact ⟨⟨_, _, _, _, _, hM, hT, hU, hS, hK9, hJ9⟩, hF⟩
            · skip
              refine a_aload_n 0 dX7_drift_50 rfl rfl ?_
              refine a_get f_X7_120 dX7_drift_51 hm rfl ?_
              refine a_ifleN (a := n) 135 dX7_drift_54 (by decide) (by omega) (fun c54 => ?_) (fun c54 => ?_)
              · skip
                omega
              · skip
                refine a_aload_n 0 dX7_drift_57 rfl rfl ?_
                refine a_get f_X7_123 dX7_drift_58 hm rfl ?_
                refine a_ifleN (a := nv) 135 dX7_drift_61 (by decide) (by omega) (fun c61 => ?_) (fun c61 => ?_)
                · skip
                  omega
                · skip
                  refine a_aload_n 0 dX7_drift_64 rfl rfl ?_
                  refine a_aload_n 0 dX7_drift_65 rfl rfl ?_
                  refine a_get f_X7_123 dX7_drift_66 hm rfl ?_
                  refine a_callVi (As := [.int (nI nv)]) (rest := []) (d := 0) (mc := 0) (ms := 0) (x := nI (drF s1 nv)) (ci := 7) l_X7_212 im_X7_draw se_X7_draw ⟨_, rfl, rfl⟩ dX7_drift_69 ⟨Nat.le_of_ble_eq_true rfl, Nat.le_of_ble_eq_true rfl⟩ rfl (Nat.le_of_ble_eq_true rfl) ⟨Nat.le_of_ble_eq_true rfl, Nat.le_of_ble_eq_true rfl⟩ hm (c_X7_draw hs1 hv0 (by omega) hM hB) (fun H3 hp3 => ?_)
                  obtain ⟨hMa, hfra⟩ := hp3
                  have hT := hT.kept (H1 := H3) (fun q c1 c2 => hfra q (by omega))
                  have hU := hU.kept (H1 := H3) (hfra _ (by omega))
                  have hS := hS.kept (H1 := H3) (hfra _ (by omega))
                  have hK9 := hK9.kept (H1 := H3) (hfra _ (by omega))
                  have hJ9 := hJ9.kept (H1 := H3) (fun q c1 c2 => hfra q (by omega))
                  have hm := hMa.1
                  unfold mxL at hm
                  have hF : ∀ q : Nat, ¬ (a ≤ q ∧ q < a + 15) → H3[q]? = H[q]? := fun q hq => (hfra q (by omega)).trans (hF q hq)
                  refine a_istore_n (lv' := [(3, .int (nI (drF s1 nv))), (0, .ref a), (1, .int (nI m)), (2, .int (nI k))]) dX7_drift_72 rfl (by decide) rfl ?_
                  refine a_aload_n 1 dX7_drift_73 rfl rfl ?_
                  refine a_aload_n 1 dX7_drift_74 rfl rfl ?_
                  refine a_get f_X7_120 dX7_drift_75 hm rfl ?_
                  refine a_callVi (As := [.int (nI n)]) (rest := []) (d := 0) (mc := 0) (ms := 0) (x := nI (drF (sdF s1) n)) (ci := 7) l_X7_212 im_X7_draw se_X7_draw ⟨_, rfl, rfl⟩ dX7_drift_78 ⟨Nat.le_of_ble_eq_true rfl, Nat.le_of_ble_eq_true rfl⟩ rfl (Nat.le_of_ble_eq_true rfl) ⟨Nat.le_of_ble_eq_true rfl, Nat.le_of_ble_eq_true rfl⟩ hm (c_X7_draw hs2 hn0 (by omega) hMa hB) (fun H4 hp4 => ?_)
                  obtain ⟨hMb, hfrb⟩ := hp4
                  have hT := hT.kept (H1 := H4) (fun q c1 c2 => hfrb q (by omega))
                  have hU := hU.kept (H1 := H4) (hfrb _ (by omega))
                  have hS := hS.kept (H1 := H4) (hfrb _ (by omega))
                  have hK9 := hK9.kept (H1 := H4) (hfrb _ (by omega))
                  have hJ9 := hJ9.kept (H1 := H4) (fun q c1 c2 => hfrb q (by omega))
                  have hm := hMb.1
                  unfold mxL at hm
                  have hF : ∀ q : Nat, ¬ (a ≤ q ∧ q < a + 15) → H4[q]? = H[q]? := fun q hq => (hfrb q (by omega)).trans (hF q hq)
                  refine a_istore (lv' := [(4, .int (nI (drF (sdF s1) n))), (3, .int (nI (drF s1 nv))), (0, .ref a), (1, .int (nI m)), (2, .int (nI k))]) dX7_drift_81 (by decide) rfl ?_
                  refine a_aload_n 2 dX7_drift_83 rfl rfl ?_
                  refine a_aload_n 2 dX7_drift_84 rfl rfl ?_
                  refine a_iload 0 dX7_drift_85 rfl ?_
                  refine a_iload_n 1 dX7_drift_87 rfl rfl ?_
                  refine a_callVp (As := [.int (nI (drF (sdF s1) n)), .int (nI (drF s1 nv))]) (rest := [.ref a]) (d := 1) (mc := 0) (ms := 0) (x := nI c) (ci := 7) l_X7_215 im_X7_saidBy se_X7_saidBy ⟨_, rfl, rfl⟩ dX7_drift_88 ⟨Nat.le_of_ble_eq_true rfl, Nat.le_of_ble_eq_true rfl⟩ rfl (Nat.le_of_ble_eq_true rfl) ⟨Nat.le_of_ble_eq_true rfl, Nat.le_of_ble_eq_true rfl⟩ hm ((by rw [← ec]; exact c_X7_saidBy hw9 hv9 hMb)) ?_
                  refine a_callVi (As := [.int (nI c)]) (rest := []) (d := 6) (mc := 0) (ms := 0) (x := ruF n d1 kK ka ks (nI c)) (ci := 7) l_X7_190 im_X7_hears se_X7_hears ⟨_, rfl, rfl⟩ dX7_drift_91 ⟨Nat.le_of_ble_eq_true rfl, Nat.le_of_ble_eq_true rfl⟩ rfl (Nat.le_of_ble_eq_true rfl) ⟨Nat.le_of_ble_eq_true rfl, Nat.le_of_ble_eq_true rfl⟩ hm (c_X7_hears hR1 hc hRK hg9 hgn hMb hB) (fun H6 hp6 => ?_)
                  obtain ⟨hMc, hfrc⟩ := hp6
                  have hT := hT.kept (H1 := H6) (fun q c1 c2 => hfrc q (by omega))
                  have hU := hU.kept (H1 := H6) (hfrc _ (by omega))
                  have hS := hS.kept (H1 := H6) (hfrc _ (by omega))
                  have hK9 := hK9.kept (H1 := H6) (hfrc _ (by omega))
                  have hJ9 := hJ9.kept (H1 := H6) (fun q c1 c2 => hfrc q (by omega))
                  have hm := hMc.1
                  unfold mxL at hm
                  have hF : ∀ q : Nat, ¬ (a ≤ q ∧ q < a + 15) → H6[q]? = H[q]? := fun q hq => (hfrc q (by omega)).trans (hF q hq)
                  refine a_pop dX7_drift_94 rfl ?_
                  refine a_aload_n 2 dX7_drift_95 rfl rfl ?_
                  refine a_iconst 3 dX7_drift_96 (by decide) ?_
                  refine a_callVi (As := [.int 3]) (rest := []) (d := 0) (mc := 0) (ms := 0) (x := nI (drF (sdF (sdF s1)) 3)) (ci := 7) l_X7_212 im_X7_draw se_X7_draw ⟨_, rfl, rfl⟩ dX7_drift_97 ⟨Nat.le_of_ble_eq_true rfl, Nat.le_of_ble_eq_true rfl⟩ rfl (Nat.le_of_ble_eq_true rfl) ⟨Nat.le_of_ble_eq_true rfl, Nat.le_of_ble_eq_true rfl⟩ hm (c_X7_draw hs3 (by decide) (by decide) hMc hB) (fun H7 hp7 => ?_)
                  obtain ⟨hMd, hfrd⟩ := hp7
                  have hT := hT.kept (H1 := H7) (fun q c1 c2 => hfrd q (by omega))
                  have hU := hU.kept (H1 := H7) (hfrd _ (by omega))
                  have hS := hS.kept (H1 := H7) (hfrd _ (by omega))
                  have hK9 := hK9.kept (H1 := H7) (hfrd _ (by omega))
                  have hJ9 := hJ9.kept (H1 := H7) (fun q c1 c2 => hfrd q (by omega))
                  have hm := hMd.1
                  unfold mxL at hm
                  obtain ⟨-, -, -, -, ⟨fN2, hNx, -, -, -, -, -, e26⟩, -⟩ := id hMd
                  have hF : ∀ q : Nat, ¬ (a ≤ q ∧ q < a + 15) → H7[q]? = H[q]? := fun q hq => (hfrd q (by omega)).trans (hF q hq)
                  refine a_ifneN (a := drF (sdF (sdF s1)) 3) 124 dX7_drift_100 (by decide) (by omega) (fun c100 => ?_) (fun c100 => ?_)
                  · skip
                    refine a_aload_n 2 dX7_drift_124 rfl rfl ?_
                    refine a_callVi (As := []) (rest := []) (d := 1) (mc := 0) (ms := 0) (x := cfF (hrF d1 g (ruF n d1 kK ka ks (nI c))) g (8 + g)) (ci := 7) l_X7_197 im_X7_letsBe se_X7_letsBe ⟨_, rfl, rfl⟩ dX7_drift_125 ⟨Nat.le_of_ble_eq_true rfl, Nat.le_of_ble_eq_true rfl⟩ rfl (Nat.le_of_ble_eq_true rfl) ⟨Nat.le_of_ble_eq_true rfl, Nat.le_of_ble_eq_true rfl⟩ hm (c_X7_letsBe hk9 hgn hMd hB) (fun H8 hp8 => ?_)
                    obtain ⟨hMe, hfre⟩ := hp8
                    have hT := hT.kept (H1 := H8) (fun q c1 c2 => hfre q (by omega))
                    have hU := hU.kept (H1 := H8) (hfre _ (by omega))
                    have hS := hS.kept (H1 := H8) (hfre _ (by omega))
                    have hK9 := hK9.kept (H1 := H8) (hfre _ (by omega))
                    have hJ9 := hJ9.kept (H1 := H8) (fun q c1 c2 => hfre q (by omega))
                    have hm := hMe.1
                    unfold mxL at hm
                    have hF : ∀ q : Nat, ¬ (a ≤ q ∧ q < a + 15) → H8[q]? = H[q]? := fun q hq => (hfre q (by omega)).trans (hF q hq)
                    refine a_pop dX7_drift_128 rfl ?_
                    refine a_iincN (q := 4) (lv' := [(2, .int (nI (k + 1))), (4, .int (nI (drF (sdF s1) n))), (3, .int (nI (drF s1 nv))), (0, .ref a), (1, .int (nI m))]) dX7_drift_129 rfl (by decide) rfl ?_
                    refine a_goto 45 dX7_drift_132 (by decide) ?_
                    refine a_sub [3, 4, 0] rfl ?_
                    exact ih45 _ _ _ _ (by omega) (hst.trans (by rw [if_neg (fun h => c100 h.1)])) (cf_ok hn hR2 hgn) hs4 hMe hT hU hS hK9 hJ9 hF (by omega)
                  · skip
                    refine a_aload_n 2 dX7_drift_103 rfl rfl ?_
                    refine a_get f_X7_35 dX7_drift_104 hm rfl ?_
                    refine a_bipush 26 dX7_drift_107 (by decide) ?_
                    refine a_ialdN (j := 26) dX7_drift_109 hNx (by omega) (by decide) ?_
                    refine a_toeq (nI g) (e26.trans hk9) ?_
                    refine a_iload 0 dX7_drift_110 rfl ?_
                    refine a_icmpeqN (a := g) (b := drF (sdF s1) n) 124 dX7_drift_112 (by decide) (by omega) (by omega) (fun c112 => ?_) (fun c112 => ?_)
                    · skip
                      refine a_aload_n 2 dX7_drift_124 rfl rfl ?_
                      refine a_callVi (As := []) (rest := []) (d := 1) (mc := 0) (ms := 0) (x := cfF (hrF d1 g (ruF n d1 kK ka ks (nI c))) g (8 + g)) (ci := 7) l_X7_197 im_X7_letsBe se_X7_letsBe ⟨_, rfl, rfl⟩ dX7_drift_125 ⟨Nat.le_of_ble_eq_true rfl, Nat.le_of_ble_eq_true rfl⟩ rfl (Nat.le_of_ble_eq_true rfl) ⟨Nat.le_of_ble_eq_true rfl, Nat.le_of_ble_eq_true rfl⟩ hm (c_X7_letsBe hk9 hgn hMd hB) (fun H9 hp9 => ?_)
                      obtain ⟨hMe, hfre⟩ := hp9
                      have hT := hT.kept (H1 := H9) (fun q c1 c2 => hfre q (by omega))
                      have hU := hU.kept (H1 := H9) (hfre _ (by omega))
                      have hS := hS.kept (H1 := H9) (hfre _ (by omega))
                      have hK9 := hK9.kept (H1 := H9) (hfre _ (by omega))
                      have hJ9 := hJ9.kept (H1 := H9) (fun q c1 c2 => hfre q (by omega))
                      have hm := hMe.1
                      unfold mxL at hm
                      have hF : ∀ q : Nat, ¬ (a ≤ q ∧ q < a + 15) → H9[q]? = H[q]? := fun q hq => (hfre q (by omega)).trans (hF q hq)
                      refine a_pop dX7_drift_128 rfl ?_
                      refine a_iincN (q := 4) (lv' := [(2, .int (nI (k + 1))), (4, .int (nI (drF (sdF s1) n))), (3, .int (nI (drF s1 nv))), (0, .ref a), (1, .int (nI m))]) dX7_drift_129 rfl (by decide) rfl ?_
                      refine a_goto 45 dX7_drift_132 (by decide) ?_
                      refine a_sub [3, 4, 0] rfl ?_
                      exact ih45 _ _ _ _ (by omega) (hst.trans (by rw [if_neg (fun h => h.2 c112)])) (cf_ok hn hR2 hgn) hs4 hMe hT hU hS hK9 hJ9 hF (by omega)
                    · skip
                      refine a_aload_n 2 dX7_drift_115 rfl rfl ?_
                      refine a_iload 0 dX7_drift_116 rfl ?_
                      refine a_callVv (As := [.int (nI (drF (sdF s1) n))]) (rest := []) (d := 1) (mc := 0) (ms := 0) (ci := 7) l_X7_193 im_X7_takesBack se_X7_takesBack ⟨_, rfl, rfl⟩ dX7_drift_118 ⟨Nat.le_of_ble_eq_true rfl, Nat.le_of_ble_eq_true rfl⟩ rfl (Nat.le_of_ble_eq_true rfl) ⟨Nat.le_of_ble_eq_true rfl, Nat.le_of_ble_eq_true rfl⟩ hm (c_X7_takesBack hw9 hk9 hgn c112 hR2 hMd hB) (fun H10 hp10 => ?_)
                      obtain ⟨hMe, hfre⟩ := hp10
                      have hT := hT.kept (H1 := H10) (fun q c1 c2 => hfre q (by omega))
                      have hU := hU.kept (H1 := H10) (hfre _ (by omega))
                      have hS := hS.kept (H1 := H10) (hfre _ (by omega))
                      have hK9 := hK9.kept (H1 := H10) (hfre _ (by omega))
                      have hJ9 := hJ9.kept (H1 := H10) (fun q c1 c2 => hfre q (by omega))
                      have hm := hMe.1
                      unfold mxL at hm
                      have hF : ∀ q : Nat, ¬ (a ≤ q ∧ q < a + 15) → H10[q]? = H[q]? := fun q hq => (hfre q (by omega)).trans (hF q hq)
                      refine a_goto 129 dX7_drift_121 (by decide) ?_
                      refine a_iincN (q := 4) (lv' := [(2, .int (nI (k + 1))), (4, .int (nI (drF (sdF s1) n))), (3, .int (nI (drF s1 nv))), (0, .ref a), (1, .int (nI m))]) dX7_drift_129 rfl (by decide) rfl ?_
                      refine a_goto 45 dX7_drift_132 (by decide) ?_
                      refine a_sub [3, 4, 0] rfl ?_
                      exact ih45 _ _ _ _ (by omega) (hst.trans (by rw [if_pos ⟨c100, c112⟩])) (cr_ok hn hR2 hgn hw9) hs4 hMe hT hU hS hK9 hJ9 hF (by omega)
        refine a_sub [1, 2, 0] rfl ?_
        exact L45 _ 0 _ dd sd (Nat.zero_le _) rfl hR hsd hM1 hT hU hS hK9 hJ9 hF (Nat.lt_succ_self _)
      · skip
        exact absurd hh c33
    · skip
      exact absurd (hkb.symm.trans c17) (by decide)
  · skip
    exact absurd c7 (by rw [(inF_t (Int32.not_lt.mpr (Int32.not_lt.mp fun h => absurd ((nI_ltI (b := 1) (by omega) (by omega)).mp h) (by omega))) (Int32.not_lt.mp fun h => absurd ((nI_ltI (a := 60) (by omega) (by omega)).mp h) (by omega)) : inF (nI m) 1 60 = true)]; decide)
set_option maxHeartbeats 4000000 in
set_option maxRecDepth 100000 in
theorem c_X7_drift_empty {G : GT} {B : Nat} {l : Launch} {H : Heap} {a : Nat} {tx : Nat → Nat} {L : Nat} {fp : Int32} {kb : Bool} {ka ks kw : Int32} {n nv : Nat} {kK kV dd : DD} {sd nx ct : Nat} {pu : Nat → DD} {sn : Nat} {sw sg : Nat → Nat} {bn : Nat} {bw : Nat → Nat} {bt : DD} {ik : Nat → Bool} {iD : Nat → DD} {iS : Nat → Nat} {m : Nat} (hm1 : 1 ≤ m) (hm2 : m ≤ 60) (hkb : kb = true) (hh : dd 24 ≤ 9000) (hz9 : n = 0 ∨ nv = 0) (hX : Mx G H a tx L fp kb ka ks kw n nv kK kV dd sd nx ct pu sn sw sg bn bw bt ik iD iS) (hB : B ≤ a) : AM G B l yX7_drift cX7_drift 5 (some .int) 7 0 0 [.ref a, .int (nI m)] H (fun rv H' => rv = some (.int (dd 25)) ∧ (Mx G H' a tx L fp kb ka ks kw n nv kK kV dd sd ((nx + 1) % 20) (min (ct + 1) 20) (fun i => if i = nx then dd else pu i) sn sw sg bn bw bt ik iD iS ∧ ∀ q : Nat, ¬ (a ≤ q ∧ q < a + 15) → H'[q]? = H[q]?)) := by
  have hX0 := hX
  obtain ⟨ra, rf, rw, rx, ir, hM, hT, hU, hS, hK9, hJ9⟩ := hX
  have hM0 := hM
  obtain ⟨hm, ⟨fB, hBx, eB0, eB1, eB2⟩, ⟨fK, hKx, eK⟩, ⟨fV, hVx, eV⟩, ⟨fN, hNx, eS, eU, eO, e24, e25, e26⟩, hn, hnv⟩ := hM
  unfold mxL at hm
  have hF : ∀ q : Nat, ¬ (a ≤ q ∧ q < a + 15) → H[q]? = H[q]? := fun _ _ => rfl
  refine AM.ofI (lv := [(0, .ref a), (1, .int (nI m))]) (by decide +kernel) (Nat.le_of_ble_eq_true rfl) rfl ?_ (fun _ h => by cases h.1)
  refine a_iload_n 1 dX7_drift_0 rfl rfl ?_
  refine a_iconst 1 dX7_drift_1 (by decide) ?_
  refine a_bipush 60 dX7_drift_2 (by decide) ?_
  refine a_callSp (As := [.int (nI m), .int 1, .int 60]) (rest := []) (d := 0) (mc := 0) (ms := 0) (x := bI (inF (nI m) 1 60)) l_X7_58 st_X7_in dX7_drift_4 ⟨Nat.le_of_ble_eq_true rfl, Nat.le_of_ble_eq_true rfl⟩ rfl (Nat.le_of_ble_eq_true rfl) ⟨Nat.le_of_ble_eq_true rfl, Nat.le_of_ble_eq_true rfl⟩ (c_X7_in) ?_
  refine a_ifneB 13 dX7_drift_7 (by decide) (fun c7 => ?_) (fun c7 => ?_)
  · skip
    refine a_aload_n 0 dX7_drift_13 rfl rfl ?_
    refine a_get f_X7_117 dX7_drift_14 hm rfl ?_
    refine a_ifneB 23 dX7_drift_17 (by decide) (fun c17 => ?_) (fun c17 => ?_)
    · skip
      refine a_aload_n 0 dX7_drift_23 rfl rfl ?_
      refine a_get f_X7_35 dX7_drift_24 hm rfl ?_
      refine a_bipush 24 dX7_drift_27 (by decide) ?_
      refine a_ialdN (j := 24) dX7_drift_29 hNx (by omega) (by decide) ?_
      refine a_toeq (dd 24) (e24) ?_
      refine a_sipush 9000 dX7_drift_30 (by decide) ?_
      refine a_icmple 39 dX7_drift_33 (by decide) (fun c33 => ?_) (fun c33 => ?_)
      · skip
        refine a_aload_n 0 dX7_drift_39 rfl rfl ?_
        refine a_callVv (As := []) (rest := []) (d := 0) (mc := 0) (ms := 0) (ci := 7) l_X7_187 im_X7_remember se_X7_remember ⟨_, rfl, rfl⟩ dX7_drift_40 ⟨Nat.le_of_ble_eq_true rfl, Nat.le_of_ble_eq_true rfl⟩ rfl (Nat.le_of_ble_eq_true rfl) ⟨Nat.le_of_ble_eq_true rfl, Nat.le_of_ble_eq_true rfl⟩ hm (c_X7_remember hU hM0 hB) (fun H2 hp2 => ?_)
        obtain ⟨hM1, hU, hfr1⟩ := hp2
        have hT := hT.kept (H1 := H2) (fun q c1 c2 => hfr1 q (by omega))
        have hS := hS.kept (H1 := H2) (hfr1 _ (by omega))
        have hK9 := hK9.kept (H1 := H2) (hfr1 _ (by omega))
        have hJ9 := hJ9.kept (H1 := H2) (fun q c1 c2 => hfr1 q (by omega))
        obtain ⟨hm, ⟨fB, hBx, eB0, eB1, eB2⟩, ⟨fK, hKx, eK⟩, ⟨fV, hVx, eV⟩, ⟨fN, hNx, eS, eU, eO, e24, e25, e26⟩, -, -⟩ := id hM1
        unfold mxL at hm
        have hF : ∀ q : Nat, ¬ (a ≤ q ∧ q < a + 15) → H2[q]? = H[q]? := fun q hq => (hfr1 q (by omega)).trans (hF q hq)
        refine a_iconst 0 dX7_drift_43 (by decide) ?_
        refine a_istore_n (lv' := [(2, .int 0), (0, .ref a), (1, .int (nI m))]) dX7_drift_44 rfl (by decide) rfl ?_
        refine a_iload_n 0 dX7_drift_45 rfl rfl ?_
        refine a_iload_n 2 dX7_drift_46 rfl rfl ?_
        refine a_icmpgeN (a := 0) (b := m) 135 dX7_drift_47 (by decide) (by omega) (by omega) (fun c47 => ?_) (fun c47 => ?_)
        · skip
          refine a_aload_n 1 dX7_drift_135 rfl rfl ?_
          refine a_get f_X7_35 dX7_drift_136 hm rfl ?_
          refine a_bipush 25 dX7_drift_139 (by decide) ?_
          refine a_ialdN (j := 25) dX7_drift_141 hNx (by omega) (by decide) ?_
          refine a_toeq (dd 25) (e25) ?_
          refine a_ret dX7_drift_142 ⟨⟨ri ?_, ?_⟩, rfl, rfl⟩
          · rfl
          · exact ⟨⟨_, _, _, _, _, hM1, hT, hU, hS, hK9, hJ9⟩, hF⟩
        · skip
          refine a_aload_n 1 dX7_drift_50 rfl rfl ?_
          refine a_get f_X7_120 dX7_drift_51 hm rfl ?_
          refine a_ifleN (a := n) 135 dX7_drift_54 (by decide) (by omega) (fun c54 => ?_) (fun c54 => ?_)
          · skip
            refine a_aload_n 1 dX7_drift_135 rfl rfl ?_
            refine a_get f_X7_35 dX7_drift_136 hm rfl ?_
            refine a_bipush 25 dX7_drift_139 (by decide) ?_
            refine a_ialdN (j := 25) dX7_drift_141 hNx (by omega) (by decide) ?_
            refine a_toeq (dd 25) (e25) ?_
            refine a_ret dX7_drift_142 ⟨⟨ri ?_, ?_⟩, rfl, rfl⟩
            · rfl
            · exact ⟨⟨_, _, _, _, _, hM1, hT, hU, hS, hK9, hJ9⟩, hF⟩
          · skip
            refine a_aload_n 1 dX7_drift_57 rfl rfl ?_
            refine a_get f_X7_123 dX7_drift_58 hm rfl ?_
            refine a_ifleN (a := nv) 135 dX7_drift_61 (by decide) (by omega) (fun c61 => ?_) (fun c61 => ?_)
            · skip
              refine a_aload_n 1 dX7_drift_135 rfl rfl ?_
              refine a_get f_X7_35 dX7_drift_136 hm rfl ?_
              refine a_bipush 25 dX7_drift_139 (by decide) ?_
              refine a_ialdN (j := 25) dX7_drift_141 hNx (by omega) (by decide) ?_
              refine a_toeq (dd 25) (e25) ?_
              refine a_ret dX7_drift_142 ⟨⟨ri ?_, ?_⟩, rfl, rfl⟩
              · rfl
              · exact ⟨⟨_, _, _, _, _, hM1, hT, hU, hS, hK9, hJ9⟩, hF⟩
            · skip
              omega
      · skip
        exact absurd hh c33
    · skip
      exact absurd (hkb.symm.trans c17) (by decide)
  · skip
    exact absurd c7 (by rw [(inF_t (Int32.not_lt.mpr (Int32.not_lt.mp fun h => absurd ((nI_ltI (b := 1) (by omega) (by omega)).mp h) (by omega))) (Int32.not_lt.mp fun h => absurd ((nI_ltI (a := 60) (by omega) (by omega)).mp h) (by omega)) : inF (nI m) 1 60 = true)]; decide)
set_option maxHeartbeats 4000000 in
set_option maxRecDepth 100000 in
theorem c_X7_drift_out {G : GT} {B : Nat} {l : Launch} {H : Heap} {a : Nat} {tx : Nat → Nat} {L : Nat} {fp : Int32} {kb : Bool} {ka ks kw : Int32} {n nv : Nat} {kK kV dd : DD} {sd nx ct : Nat} {pu : Nat → DD} {sn : Nat} {sw sg : Nat → Nat} {bn : Nat} {bw : Nat → Nat} {bt : DD} {ik : Nat → Bool} {iD : Nat → DD} {iS : Nat → Nat} {m : Int32} (hq : m < 1 ∨ ¬ m ≤ 60) (hX : Mx G H a tx L fp kb ka ks kw n nv kK kV dd sd nx ct pu sn sw sg bn bw bt ik iD iS) (hB : B ≤ a) : AM G B l yX7_drift cX7_drift 5 (some .int) 7 0 0 [.ref a, .int m] H (fun rv H' => rv = some (.int (-1000000002)) ∧ (H' = H)) := by
  have hX0 := hX
  obtain ⟨ra, rf, rw, rx, ir, hM, hT, hU, hS, hK9, hJ9⟩ := hX
  have hM0 := hM
  obtain ⟨hm, ⟨fB, hBx, eB0, eB1, eB2⟩, ⟨fK, hKx, eK⟩, ⟨fV, hVx, eV⟩, ⟨fN, hNx, eS, eU, eO, e24, e25, e26⟩, hn, hnv⟩ := hM
  unfold mxL at hm
  refine AM.ofI (lv := [(0, .ref a), (1, .int m)]) (by decide +kernel) (Nat.le_of_ble_eq_true rfl) rfl ?_ (fun _ h => by cases h.1)
  refine a_iload_n 1 dX7_drift_0 rfl rfl ?_
  refine a_iconst 1 dX7_drift_1 (by decide) ?_
  refine a_bipush 60 dX7_drift_2 (by decide) ?_
  refine a_callSp (As := [.int m, .int 1, .int 60]) (rest := []) (d := 0) (mc := 0) (ms := 0) (x := bI (inF m 1 60)) l_X7_58 st_X7_in dX7_drift_4 ⟨Nat.le_of_ble_eq_true rfl, Nat.le_of_ble_eq_true rfl⟩ rfl (Nat.le_of_ble_eq_true rfl) ⟨Nat.le_of_ble_eq_true rfl, Nat.le_of_ble_eq_true rfl⟩ (c_X7_in) ?_
  refine a_ifneB 13 dX7_drift_7 (by decide) (fun c7 => ?_) (fun c7 => ?_)
  · skip
    exact absurd c7 (by rw [inF_n hq]; decide)
  · skip
    refine a_ldc (-1000000002) k_X7_62 dX7_drift_10 ?_
    refine a_ret dX7_drift_12 ⟨⟨ri ?_, ?_⟩, rfl, rfl⟩
    · rfl
    · rfl
set_option maxHeartbeats 4000000 in
set_option maxRecDepth 100000 in
theorem c_X7_drift_not {G : GT} {B : Nat} {l : Launch} {H : Heap} {a : Nat} {tx : Nat → Nat} {L : Nat} {fp : Int32} {kb : Bool} {ka ks kw : Int32} {n nv : Nat} {kK kV dd : DD} {sd nx ct : Nat} {pu : Nat → DD} {sn : Nat} {sw sg : Nat → Nat} {bn : Nat} {bw : Nat → Nat} {bt : DD} {ik : Nat → Bool} {iD : Nat → DD} {iS : Nat → Nat} {m : Nat} (hm1 : 1 ≤ m) (hm2 : m ≤ 60) (hkb : kb = false) (hX : Mx G H a tx L fp kb ka ks kw n nv kK kV dd sd nx ct pu sn sw sg bn bw bt ik iD iS) (hB : B ≤ a) : AM G B l yX7_drift cX7_drift 5 (some .int) 7 0 0 [.ref a, .int (nI m)] H (fun rv H' => rv = some (.int (-1000000003)) ∧ (H' = H)) := by
  have hX0 := hX
  obtain ⟨ra, rf, rw, rx, ir, hM, hT, hU, hS, hK9, hJ9⟩ := hX
  have hM0 := hM
  obtain ⟨hm, ⟨fB, hBx, eB0, eB1, eB2⟩, ⟨fK, hKx, eK⟩, ⟨fV, hVx, eV⟩, ⟨fN, hNx, eS, eU, eO, e24, e25, e26⟩, hn, hnv⟩ := hM
  unfold mxL at hm
  refine AM.ofI (lv := [(0, .ref a), (1, .int (nI m))]) (by decide +kernel) (Nat.le_of_ble_eq_true rfl) rfl ?_ (fun _ h => by cases h.1)
  refine a_iload_n 1 dX7_drift_0 rfl rfl ?_
  refine a_iconst 1 dX7_drift_1 (by decide) ?_
  refine a_bipush 60 dX7_drift_2 (by decide) ?_
  refine a_callSp (As := [.int (nI m), .int 1, .int 60]) (rest := []) (d := 0) (mc := 0) (ms := 0) (x := bI (inF (nI m) 1 60)) l_X7_58 st_X7_in dX7_drift_4 ⟨Nat.le_of_ble_eq_true rfl, Nat.le_of_ble_eq_true rfl⟩ rfl (Nat.le_of_ble_eq_true rfl) ⟨Nat.le_of_ble_eq_true rfl, Nat.le_of_ble_eq_true rfl⟩ (c_X7_in) ?_
  refine a_ifneB 13 dX7_drift_7 (by decide) (fun c7 => ?_) (fun c7 => ?_)
  · skip
    refine a_aload_n 0 dX7_drift_13 rfl rfl ?_
    refine a_get f_X7_117 dX7_drift_14 hm rfl ?_
    refine a_ifneB 23 dX7_drift_17 (by decide) (fun c17 => ?_) (fun c17 => ?_)
    · skip
      exact absurd (hkb.symm.trans c17) (by decide)
    · skip
      refine a_ldc (-1000000003) k_X7_186 dX7_drift_20 ?_
      refine a_ret dX7_drift_22 ⟨⟨ri ?_, ?_⟩, rfl, rfl⟩
      · rfl
      · rfl
  · skip
    exact absurd c7 (by rw [(inF_t (Int32.not_lt.mpr (Int32.not_lt.mp fun h => absurd ((nI_ltI (b := 1) (by omega) (by omega)).mp h) (by omega))) (Int32.not_lt.mp fun h => absurd ((nI_ltI (a := 60) (by omega) (by omega)).mp h) (by omega)) : inF (nI m) 1 60 = true)]; decide)
set_option maxHeartbeats 4000000 in
set_option maxRecDepth 100000 in
theorem c_X7_drift_full {G : GT} {B : Nat} {l : Launch} {H : Heap} {a : Nat} {tx : Nat → Nat} {L : Nat} {fp : Int32} {kb : Bool} {ka ks kw : Int32} {n nv : Nat} {kK kV dd : DD} {sd nx ct : Nat} {pu : Nat → DD} {sn : Nat} {sw sg : Nat → Nat} {bn : Nat} {bw : Nat → Nat} {bt : DD} {ik : Nat → Bool} {iD : Nat → DD} {iS : Nat → Nat} {m : Nat} (hm1 : 1 ≤ m) (hm2 : m ≤ 60) (hkb : kb = true) (hh : ¬ dd 24 ≤ 9000) (hX : Mx G H a tx L fp kb ka ks kw n nv kK kV dd sd nx ct pu sn sw sg bn bw bt ik iD iS) (hB : B ≤ a) : AM G B l yX7_drift cX7_drift 5 (some .int) 7 0 0 [.ref a, .int (nI m)] H (fun rv H' => rv = some (.int (-1000000004)) ∧ (H' = H)) := by
  have hX0 := hX
  obtain ⟨ra, rf, rw, rx, ir, hM, hT, hU, hS, hK9, hJ9⟩ := hX
  have hM0 := hM
  obtain ⟨hm, ⟨fB, hBx, eB0, eB1, eB2⟩, ⟨fK, hKx, eK⟩, ⟨fV, hVx, eV⟩, ⟨fN, hNx, eS, eU, eO, e24, e25, e26⟩, hn, hnv⟩ := hM
  unfold mxL at hm
  refine AM.ofI (lv := [(0, .ref a), (1, .int (nI m))]) (by decide +kernel) (Nat.le_of_ble_eq_true rfl) rfl ?_ (fun _ h => by cases h.1)
  refine a_iload_n 1 dX7_drift_0 rfl rfl ?_
  refine a_iconst 1 dX7_drift_1 (by decide) ?_
  refine a_bipush 60 dX7_drift_2 (by decide) ?_
  refine a_callSp (As := [.int (nI m), .int 1, .int 60]) (rest := []) (d := 0) (mc := 0) (ms := 0) (x := bI (inF (nI m) 1 60)) l_X7_58 st_X7_in dX7_drift_4 ⟨Nat.le_of_ble_eq_true rfl, Nat.le_of_ble_eq_true rfl⟩ rfl (Nat.le_of_ble_eq_true rfl) ⟨Nat.le_of_ble_eq_true rfl, Nat.le_of_ble_eq_true rfl⟩ (c_X7_in) ?_
  refine a_ifneB 13 dX7_drift_7 (by decide) (fun c7 => ?_) (fun c7 => ?_)
  · skip
    refine a_aload_n 0 dX7_drift_13 rfl rfl ?_
    refine a_get f_X7_117 dX7_drift_14 hm rfl ?_
    refine a_ifneB 23 dX7_drift_17 (by decide) (fun c17 => ?_) (fun c17 => ?_)
    · skip
      refine a_aload_n 0 dX7_drift_23 rfl rfl ?_
      refine a_get f_X7_35 dX7_drift_24 hm rfl ?_
      refine a_bipush 24 dX7_drift_27 (by decide) ?_
      refine a_ialdN (j := 24) dX7_drift_29 hNx (by omega) (by decide) ?_
      refine a_toeq (dd 24) (e24) ?_
      refine a_sipush 9000 dX7_drift_30 (by decide) ?_
      refine a_icmple 39 dX7_drift_33 (by decide) (fun c33 => ?_) (fun c33 => ?_)
      · skip
        exact absurd c33 hh
      · skip
        refine a_ldc (-1000000004) k_X7_66 dX7_drift_36 ?_
        refine a_ret dX7_drift_38 ⟨⟨ri ?_, ?_⟩, rfl, rfl⟩
        · rfl
        · rfl
    · skip
      exact absurd (hkb.symm.trans c17) (by decide)
  · skip
    exact absurd c7 (by rw [(inF_t (Int32.not_lt.mpr (Int32.not_lt.mp fun h => absurd ((nI_ltI (b := 1) (by omega) (by omega)).mp h) (by omega))) (Int32.not_lt.mp fun h => absurd ((nI_ltI (a := 60) (by omega) (by omega)).mp h) (by omega)) : inF (nI m) 1 60 = true)]; decide)
