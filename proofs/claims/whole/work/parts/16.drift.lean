/-! ===== BEGIN drift, the constructor ===== -/
/-- the pieces of a new BeansBox, its images apart -/
def BI0 (G : GT) (H : Heap) (b : Nat) : Prop := Ob G H b 6 (bxL b (b + 3) (b + 8) (-1) 0) ∧ (∀ tx : Nat → Nat, Rd G H (b + 1) tx 0 0 0) ∧ (∀ kS kU kK kV : DD, Kt G H (b + 3) false 0 0 0 0 0 kS kU kK kV) ∧ (∀ kS kU kK kV : DD, Kt G H (b + 8) false 0 0 0 0 0 kS kU kK kV) ∧ Dd G H (b + 13) 0 (fun i => if i = 26 then -1 else 0) ∧ Dd G H (b + 17) 0 (fun i => if i = 26 then -1 else 0) ∧ (∀ (n' : Nat) (pu' : Nat → DD), Ps G H (b + 21) 0 0 n' pu') ∧ (∀ P' Q' : DD, Pr G H (b + 104) 6 0 P' Q') ∧ (∀ P' Q' : DD, Pr G H (b + 107) 15 0 P' Q')
theorem BI0.kept {G : GT} {H H1 : Heap} {b : Nat} (h : BI0 G H b) (hq : ∀ q, b ≤ q → q < b + 110 ∧ q ≠ b + 103 → H1[q]? = H[q]?) : BI0 G H1 b := by
  obtain ⟨h1, h2, h3, h4, h5, h6, h7, h8, h9⟩ := h
  exact ⟨h1.kept (hq _ (by omega) (by omega)), fun tx => (h2 tx).kept (fun q a c => hq q (by omega) (by omega)), fun a b c d => (h3 a b c d).kept (fun q a c => hq q (by omega) (by omega)), fun a b c d => (h4 a b c d).kept (fun q a c => hq q (by omega) (by omega)), h5.kept (fun q a c => hq q (by omega) (by omega)), h6.kept (fun q a c => hq q (by omega) (by omega)), fun n p => (h7 n p).kept (fun q a c => hq q (by omega) (by omega)), fun a b => (h8 a b).kept (fun q a c => hq q (by omega) (by omega)), fun a b => (h9 a b).kept (fun q a c => hq q (by omega) (by omega))⟩
/-! ===== END ===== -/

set_option maxHeartbeats 4000000 in
set_option maxRecDepth 100000 in
theorem c_X6_drift {G : GT} {B : Nat} {l : Launch} {H : Heap} {b : Nat} {tx : Nat → Nat} {L : Nat} {fp : Int32} {kb : Bool} {ka ks kw : Int32} {n nv : Nat} {kK kV dd : DD} {sd nx ct : Nat} {pu : Nat → DD} {sn : Nat} {sw sg : Nat → Nat} {bn : Nat} {bw : Nat → Nat} {bt : DD} {ik : Nat → Bool} {iD : Nat → DD} {iS : Nat → Nat} {m : Nat} (hm1 : 1 ≤ m) (hm2 : m ≤ 60) (hkb : kb = true) (hh : dd 24 ≤ 9000) (hn0 : 0 < n) (hv0 : 0 < nv) (hsd : sd < 2 ^ 31) (hRG : RG n dd) (hV : RV nv kV) (hX : Bx G H b tx L fp kb ka ks kw n nv kK kV dd sd nx ct pu sn sw sg bn bw bt ik iD iS) (hB : B ≤ b) : AM G B l yX6_drift cX6_drift 5 (some .int) 7 0 0 [.ref b, .int (nI m)] H (fun rv H' => rv = some (.int ((dfS n nv kK kV ka ks dd sd m).1 25)) ∧ (Bx G H' b tx L fp kb ka ks kw n nv kK kV ((dfS n nv kK kV ka ks dd sd m).1) ((dfS n nv kK kV ka ks dd sd m).2) ((nx + 1) % 20) (min (ct + 1) 20) (fun i => if i = nx then dd else pu i) sn sw sg bn bw bt ik iD iS ∧ ∀ q : Nat, ¬ (b ≤ q ∧ q < b + 120) → H'[q]? = H[q]?)) := by
  have hX0 := hX
  obtain ⟨kr, sp, kS, kU, hC, hR2, hK2, hT2, hPs, hSe, hBo, hIm⟩ := hX
  have hC0 := hC
  obtain ⟨hb, hK, hD, hkr⟩ := hC
  have hK0 := hK
  have hN := hD
  unfold bxL at hb
  obtain ⟨fS3, fU3, fK3, fV3, hk3, ha3, hb3, hc3, he3, eS3, eU3, eK3, eV3, hn3, hnv3⟩ := hK
  obtain ⟨fS, fU, fO, hd, hs, hu, ho, eS, eU, eO, hn⟩ := hD
  have hpo := hPs.1
  have hse := hSe
  have hbo := hBo
  obtain ⟨fA, fB, hsp, hsa, hsb, eA, eB, hsN, -⟩ := hse
  obtain ⟨fA2, fB2, hbp, hba, hbb, eA2, eB2, hbN, -⟩ := hbo
  have hF : ∀ q : Nat, q ≠ b ∧ ¬ (b + 13 ≤ q ∧ q < b + 17) ∧ ¬ (b + 21 ≤ q ∧ q < b + 103) → H[q]? = H[q]? := fun _ _ => rfl
  refine AM.ofI (lv := [(0, .ref b), (1, .int (nI m))]) (by decide +kernel) (Nat.le_of_ble_eq_true rfl) rfl ?_ (fun _ h => by cases h.1)
  refine a_iload_n 1 dX6_drift_0 rfl rfl ?_
  refine a_iconst 1 dX6_drift_1 (by decide) ?_
  refine a_icmpltN (a := m) (b := 1) 11 dX6_drift_2 (by decide) (by omega) (by omega) (fun c2 => ?_) (fun c2 => ?_)
  · skip
    omega
  · skip
    refine a_iload_n 1 dX6_drift_5 rfl rfl ?_
    refine a_bipush 60 dX6_drift_6 (by decide) ?_
    refine a_icmpleN (a := m) (b := 60) 14 dX6_drift_8 (by decide) (by omega) (by omega) (fun c8 => ?_) (fun c8 => ?_)
    · skip
      refine a_aload_n 0 dX6_drift_14 rfl rfl ?_
      refine a_get f_X6_23 dX6_drift_15 hb rfl ?_
      refine a_get f_X6_176 dX6_drift_18 hk3 rfl ?_
      refine a_ifneB 27 dX6_drift_21 (by decide) (fun c21 => ?_) (fun c21 => ?_)
      · skip
        refine a_aload_n 0 dX6_drift_27 rfl rfl ?_
        refine a_get f_X6_33 dX6_drift_28 hb rfl ?_
        refine a_get f_X6_115 dX6_drift_31 hd rfl ?_
        refine a_sipush 9000 dX6_drift_34 (by decide) ?_
        refine a_icmple 43 dX6_drift_37 (by decide) (fun c37 => ?_) (fun c37 => ?_)
        · skip
          refine a_aload_n 0 dX6_drift_43 rfl rfl ?_
          refine a_get f_X6_43 dX6_drift_44 hb rfl ?_
          refine a_aload_n 0 dX6_drift_47 rfl rfl ?_
          refine a_get f_X6_33 dX6_drift_48 hb rfl ?_
          refine a_callVv (As := [.ref (b + 13)]) (rest := []) (d := 2) (mc := 0) (ms := 0) (ci := 4) l_X6_158 im_X4_push se_X4_push ⟨_, rfl, rfl⟩ dX6_drift_51 ⟨Nat.le_of_ble_eq_true rfl, Nat.le_of_ble_eq_true rfl⟩ rfl (Nat.le_of_ble_eq_true rfl) ⟨Nat.le_of_ble_eq_true rfl, Nat.le_of_ble_eq_true rfl⟩ hpo (c_X4_push hN (by omega) hPs (by omega)) (fun H1 hp1 => ?_)
          obtain ⟨hPs1, hfr⟩ := hp1
          have hC1 := hC0.kept (H1 := H1) (fun q a c => hfr q (by omega))
          have hN1 := hC1.2.2.1
          have hb := hb.kept (hfr _ (by omega))
          have hk3 := hk3.kept (hfr _ (by omega))
          have ha3 := ha3.kept (hfr _ (by omega))
          have hb3 := hb3.kept (hfr _ (by omega))
          have hc3 := hc3.kept (hfr _ (by omega))
          have he3 := he3.kept (hfr _ (by omega))
          have hd := hd.kept (hfr _ (by omega))
          have hs := hs.kept (hfr _ (by omega))
          have hu := hu.kept (hfr _ (by omega))
          have ho := ho.kept (hfr _ (by omega))
          have hsp := hsp.kept (hfr _ (by omega))
          have hbp := hbp.kept (hfr _ (by omega))
          have hF : ∀ q : Nat, q ≠ b ∧ ¬ (b + 13 ≤ q ∧ q < b + 17) ∧ ¬ (b + 21 ≤ q ∧ q < b + 103) → H1[q]? = H[q]? := fun q hq => (hfr q (by omega)).trans (hF q hq)
          refine a_aload_n 0 dX6_drift_54 rfl rfl ?_
          refine a_get f_X6_23 dX6_drift_55 hb rfl ?_
          refine a_get f_X6_100 dX6_drift_58 hk3 rfl ?_
          refine a_ifleN (a := n) 146 dX6_drift_61 (by decide) (by omega) (fun c61 => ?_) (fun c61 => ?_)
          · skip
            omega
          · skip
            refine a_aload_n 0 dX6_drift_64 rfl rfl ?_
            refine a_get f_X6_23 dX6_drift_65 hb rfl ?_
            refine a_get f_X6_112 dX6_drift_68 hk3 rfl ?_
            refine a_ifleN (a := nv) 146 dX6_drift_71 (by decide) (by omega) (fun c71 => ?_) (fun c71 => ?_)
            · skip
              omega
            · skip
              refine a_iconst 0 dX6_drift_74 (by decide) ?_
              refine a_istore_n (lv' := [(2, .int 0), (0, .ref b), (1, .int (nI m))]) dX6_drift_75 rfl (by decide) rfl ?_
              have L76 : ∀ (fu : Nat) (k : Nat) (Hk : Heap) (d1 : DD) (s1 : Nat), k ≤ m → dfS n nv kK kV ka ks dd sd k = (d1, s1) → Bc G Hk b kr sp fp (nI s1) kb ka ks kw n nv kS kU kK kV (d1) → Ps G Hk (b + 21) ((nx + 1) % 20) (min (ct + 1) 20) n (fun i => if i = nx then dd else pu i) → RG n d1 → s1 < 2 ^ 31 → (∀ q : Nat, q ≠ b ∧ ¬ (b + 13 ≤ q ∧ q < b + 17) ∧ ¬ (b + 21 ≤ q ∧ q < b + 103) → Hk[q]? = H[q]?) → m - k < fu → AW G B l { frames := 7, cells := 0, slots := 0, locals := 27 * 7 } yX6_drift.cls cX6_drift 5 false (fun rv H' ce' sl' => (rv = some (.int ((dfS n nv kK kV ka ks dd sd m).1 25)) ∧ (Bx G H' b tx L fp kb ka ks kw n nv kK kV ((dfS n nv kK kV ka ks dd sd m).1) ((dfS n nv kK kV ka ks dd sd m).2) ((nx + 1) % 20) (min (ct + 1) 20) (fun i => if i = nx then dd else pu i) sn sw sg bn bw bt ik iD iS ∧ ∀ q : Nat, ¬ (b ≤ q ∧ q < b + 120) → H'[q]? = H[q]?)) ∧ ce' = 0 ∧ sl' = 0) 76 [(0, .ref b), (1, .int (nI m)), (2, .int (nI k))] [] Hk 0 0 := by
                intro fu
                induction fu with
                | zero => intro k Hk d1 s1 hk hr hC hPs1 hRk hs1 hF hm76; exact absurd hm76 (Nat.not_lt_zero _)
                | succ fu ih76 =>
                  intro k Hk d1 s1 hk hr hC hPs1 hRk hs1 hF hm76
                  have hC1 := hC
                  have hC0 := hC
                  obtain ⟨hb, hK, hD, -⟩ := hC
                  have hN := hD
                  unfold bxL at hb
                  obtain ⟨fS3, fU3, fK3, fV3, hk3, ha3, hb3, hc3, he3, eS3, eU3, eK3, eV3, hn3, hnv3⟩ := hK
                  obtain ⟨fS, fU, fO, hd, hs, hu, ho, eS, eU, eO, -⟩ := hD
                  have hG : ∀ q : Nat, q ≠ b ∧ ¬ (b + 13 ≤ q ∧ q < b + 17) → Hk[q]? = Hk[q]? := fun _ _ => rfl
                  refine a_iload_n 2 dX6_drift_76 rfl rfl ?_
                  refine a_iload_n 1 dX6_drift_77 rfl rfl ?_
                  refine a_icmpgeN (a := k) (b := m) 146 dX6_drift_78 (by decide) (by omega) (by omega) (fun c78 => ?_) (fun c78 => ?_)
                  · skip
                    refine a_aload_n 0 dX6_drift_146 rfl rfl ?_
                    refine a_get f_X6_33 dX6_drift_147 hb rfl ?_
                    refine a_get f_X6_118 dX6_drift_150 hd rfl ?_
                    refine a_ret dX6_drift_153 ⟨⟨ri ?_, ?_⟩, rfl, rfl⟩
                    · have e : m = k := by omega
                      rw [e, hr]
                    · have e : m = k := by omega
                      rw [e, hr]
                      exact ⟨⟨kr, sp, kS, kU, hC1, hR2.kept (fun q a c => hF q (by omega)), hK2.kept (fun q a c => hF q (by omega)), hT2.kept (fun q a c => hF q (by omega)), hPs1, hSe.kept (fun q a c => hF q (by omega)), hBo.kept (fun q a c => hF q (by omega)), hIm.kept (fun q a => hF q (by omega))⟩, fun q hq => hF q (by omega)⟩
                  · skip
                    refine a_aload_n 0 dX6_drift_81 rfl rfl ?_
                    refine a_aload_n 0 dX6_drift_82 rfl rfl ?_
                    refine a_get f_X6_23 dX6_drift_83 hb rfl ?_
                    refine a_get f_X6_112 dX6_drift_86 hk3 rfl ?_
                    have hbb1 : Ob G Hk b 6 (bxL b kr sp fp (nI s1)) := hb
                    refine a_callVi (As := [.int (nI nv)]) (rest := []) (d := 0) (mc := 0) (ms := 0) (x := nI (drF s1 nv)) (ci := 6) l_X6_179 im_X6_draw se_X6_draw ⟨_, rfl, rfl⟩ dX6_drift_89 ⟨Nat.le_of_ble_eq_true rfl, Nat.le_of_ble_eq_true rfl⟩ rfl (Nat.le_of_ble_eq_true rfl) ⟨Nat.le_of_ble_eq_true rfl, Nat.le_of_ble_eq_true rfl⟩ hb (c_X6_draw hbb1 hs1 (by omega) (by omega) hB) (fun H2 hp2 => ?_)
                    obtain ⟨hbn, hfr⟩ := hp2
                    have hC2 := hC0.box hbn hfr
                    unfold bxL at hbn
                    have hb := hbn
                    have hk3 := hk3.kept (hfr _ (by omega))
                    have ha3 := ha3.kept (hfr _ (by omega))
                    have hb3 := hb3.kept (hfr _ (by omega))
                    have hc3 := hc3.kept (hfr _ (by omega))
                    have he3 := he3.kept (hfr _ (by omega))
                    have hd := hd.kept (hfr _ (by omega))
                    have hs := hs.kept (hfr _ (by omega))
                    have hu := hu.kept (hfr _ (by omega))
                    have ho := ho.kept (hfr _ (by omega))
                    have hF : ∀ q : Nat, q ≠ b ∧ ¬ (b + 13 ≤ q ∧ q < b + 17) ∧ ¬ (b + 21 ≤ q ∧ q < b + 103) → H2[q]? = H[q]? := fun q hq => (hfr q (by omega)).trans (hF q hq)
                    have hG : ∀ q : Nat, q ≠ b ∧ ¬ (b + 13 ≤ q ∧ q < b + 17) → H2[q]? = Hk[q]? := fun q hq => (hfr q (by omega)).trans (hG q hq)
                    refine a_istore_n (lv' := [(3, .int (nI (drF s1 nv))), (0, .ref b), (1, .int (nI m)), (2, .int (nI k))]) dX6_drift_92 rfl (by decide) rfl ?_
                    refine a_aload_n 1 dX6_drift_93 rfl rfl ?_
                    refine a_aload_n 1 dX6_drift_94 rfl rfl ?_
                    refine a_get f_X6_23 dX6_drift_95 hb rfl ?_
                    refine a_get f_X6_100 dX6_drift_98 hk3 rfl ?_
                    have hbb2 : Ob G H2 b 6 (bxL b kr sp fp (nI (sdF s1))) := hb
                    refine a_callVi (As := [.int (nI n)]) (rest := []) (d := 0) (mc := 0) (ms := 0) (x := nI (drF (sdF s1) n)) (ci := 6) l_X6_179 im_X6_draw se_X6_draw ⟨_, rfl, rfl⟩ dX6_drift_101 ⟨Nat.le_of_ble_eq_true rfl, Nat.le_of_ble_eq_true rfl⟩ rfl (Nat.le_of_ble_eq_true rfl) ⟨Nat.le_of_ble_eq_true rfl, Nat.le_of_ble_eq_true rfl⟩ hb (c_X6_draw hbb2 sdF_lt (by omega) (by omega) hB) (fun H3 hp3 => ?_)
                    obtain ⟨hbn, hfr⟩ := hp3
                    have hC3 := hC2.box hbn hfr
                    unfold bxL at hbn
                    have hb := hbn
                    have hk3 := hk3.kept (hfr _ (by omega))
                    have ha3 := ha3.kept (hfr _ (by omega))
                    have hb3 := hb3.kept (hfr _ (by omega))
                    have hc3 := hc3.kept (hfr _ (by omega))
                    have he3 := he3.kept (hfr _ (by omega))
                    have hd := hd.kept (hfr _ (by omega))
                    have hs := hs.kept (hfr _ (by omega))
                    have hu := hu.kept (hfr _ (by omega))
                    have ho := ho.kept (hfr _ (by omega))
                    have hF : ∀ q : Nat, q ≠ b ∧ ¬ (b + 13 ≤ q ∧ q < b + 17) ∧ ¬ (b + 21 ≤ q ∧ q < b + 103) → H3[q]? = H[q]? := fun q hq => (hfr q (by omega)).trans (hF q hq)
                    have hG : ∀ q : Nat, q ≠ b ∧ ¬ (b + 13 ≤ q ∧ q < b + 17) → H3[q]? = Hk[q]? := fun q hq => (hfr q (by omega)).trans (hG q hq)
                    refine a_istore (lv' := [(4, .int (nI (drF (sdF s1) n))), (3, .int (nI (drF s1 nv))), (0, .ref b), (1, .int (nI m)), (2, .int (nI k))]) dX6_drift_104 (by decide) rfl ?_
                    refine a_aload_n 2 dX6_drift_106 rfl rfl ?_
                    refine a_aload_n 2 dX6_drift_107 rfl rfl ?_
                    refine a_iload 0 dX6_drift_108 rfl ?_
                    refine a_iload_n 1 dX6_drift_110 rfl rfl ?_
                    refine a_callVp (As := [.int (nI (drF (sdF s1) n)), .int (nI (drF s1 nv))]) (rest := [.ref b]) (d := 1) (mc := 0) (ms := 0) (x := spF d1 kV (drF (sdF s1) n) (drF s1 nv)) (ci := 6) l_X6_182 im_X6_spoken se_X6_spoken ⟨_, rfl, rfl⟩ dX6_drift_111 ⟨Nat.le_of_ble_eq_true rfl, Nat.le_of_ble_eq_true rfl⟩ rfl (Nat.le_of_ble_eq_true rfl) ⟨Nat.le_of_ble_eq_true rfl, Nat.le_of_ble_eq_true rfl⟩ hb (c_X6_spoken (drF_lt hn0) (drF_lt hv0) hC3) ?_
                    obtain ⟨c, hc, ec⟩ := sp_ok hRk hV (drF_lt hn0 : drF (sdF s1) n < n) (drF_lt hv0 : drF s1 nv < nv)
                    obtain ⟨g, hgn, hg⟩ := gu_ok hRk hc hn0
                    rw [← ec] at hg
                    have hgc : (guF n d1 (spF d1 kV (drF (sdF s1) n) (drF s1 nv))).toNatClampNeg = g := by rw [hg]; exact nI_clamp (by omega)
                    refine a_callVi (As := [.int (spF d1 kV (drF (sdF s1) n) (drF s1 nv))]) (rest := []) (d := 6) (mc := 0) (ms := 0) (x := ruF n d1 kK ka ks (spF d1 kV (drF (sdF s1) n) (drF s1 nv))) (ci := 6) l_X6_162 im_X6_takeIn se_X6_takeIn ⟨_, rfl, rfl⟩ dX6_drift_114 ⟨Nat.le_of_ble_eq_true rfl, Nat.le_of_ble_eq_true rfl⟩ rfl (Nat.le_of_ble_eq_true rfl) ⟨Nat.le_of_ble_eq_true rfl, Nat.le_of_ble_eq_true rfl⟩ hb (c_X6_takeIn hC3 hg hgn hB) (fun H5 hp5 => ?_)
                    obtain ⟨hD4, hfr⟩ := hp5
                    have hC4 := hC3.now hD4 (fun q a c => hfr q (by omega))
                    obtain ⟨fS, fU, fO, hd, hs, hu, ho, -⟩ := id hD4
                    have hb := hb.kept (hfr _ (by omega))
                    have hk3 := hk3.kept (hfr _ (by omega))
                    have ha3 := ha3.kept (hfr _ (by omega))
                    have hb3 := hb3.kept (hfr _ (by omega))
                    have hc3 := hc3.kept (hfr _ (by omega))
                    have he3 := he3.kept (hfr _ (by omega))
                    have hF : ∀ q : Nat, q ≠ b ∧ ¬ (b + 13 ≤ q ∧ q < b + 17) ∧ ¬ (b + 21 ≤ q ∧ q < b + 103) → H5[q]? = H[q]? := fun q hq => (hfr q (by omega)).trans (hF q hq)
                    have hG : ∀ q : Nat, q ≠ b ∧ ¬ (b + 13 ≤ q ∧ q < b + 17) → H5[q]? = Hk[q]? := fun q hq => (hfr q (by omega)).trans (hG q hq)
                    refine a_pop dX6_drift_117 rfl ?_
                    refine a_aload_n 2 dX6_drift_118 rfl rfl ?_
                    refine a_get f_X6_33 dX6_drift_119 hb rfl ?_
                    refine a_iload 0 dX6_drift_122 rfl ?_
                    refine a_aload_n 2 dX6_drift_124 rfl rfl ?_
                    refine a_iconst 3 dX6_drift_125 (by decide) ?_
                    have hbb3 : Ob G H5 b 6 (bxL b kr sp fp (nI (sdF (sdF s1)))) := hb
                    refine a_callVi (As := [.int 3]) (rest := [.int (nI (drF (sdF s1) n)), .ref (b + 13)]) (d := 0) (mc := 0) (ms := 0) (x := nI (drF (sdF (sdF s1)) 3)) (ci := 6) l_X6_179 im_X6_draw se_X6_draw ⟨_, rfl, rfl⟩ dX6_drift_126 ⟨Nat.le_of_ble_eq_true rfl, Nat.le_of_ble_eq_true rfl⟩ rfl (Nat.le_of_ble_eq_true rfl) ⟨Nat.le_of_ble_eq_true rfl, Nat.le_of_ble_eq_true rfl⟩ hb (c_X6_draw hbb3 sdF_lt (by decide) (by decide) hB) (fun H6 hp6 => ?_)
                    obtain ⟨hbn, hfr⟩ := hp6
                    have hC5 := hC4.box hbn hfr
                    unfold bxL at hbn
                    have hb := hbn
                    have hk3 := hk3.kept (hfr _ (by omega))
                    have ha3 := ha3.kept (hfr _ (by omega))
                    have hb3 := hb3.kept (hfr _ (by omega))
                    have hc3 := hc3.kept (hfr _ (by omega))
                    have he3 := he3.kept (hfr _ (by omega))
                    have hd := hd.kept (hfr _ (by omega))
                    have hs := hs.kept (hfr _ (by omega))
                    have hu := hu.kept (hfr _ (by omega))
                    have ho := ho.kept (hfr _ (by omega))
                    have hF : ∀ q : Nat, q ≠ b ∧ ¬ (b + 13 ≤ q ∧ q < b + 17) ∧ ¬ (b + 21 ≤ q ∧ q < b + 103) → H6[q]? = H[q]? := fun q hq => (hfr q (by omega)).trans (hF q hq)
                    have hG : ∀ q : Nat, q ≠ b ∧ ¬ (b + 13 ≤ q ∧ q < b + 17) → H6[q]? = Hk[q]? := fun q hq => (hfr q (by omega)).trans (hG q hq)
                    have h3r := drF_lt (sd := sdF (sdF s1)) (k := 3) (by decide)
                    refine a_ifneN (a := drF (sdF (sdF s1)) 3) 136 dX6_drift_129 (by decide) (by omega) (fun c129 => ?_) (fun c129 => ?_)
                    · skip
                      refine a_iconst 0 dX6_drift_136 (by decide) ?_
                      have hD5 := hC5.2.2.1
                      refine a_callVv (As := [.int (nI (drF (sdF s1) n)), .int 0]) (rest := []) (d := 3) (mc := 0) (ms := 0) (ci := 0) l_X6_185 im_X0_learn se_X0_learn ⟨_, rfl, rfl⟩ dX6_drift_137 ⟨Nat.le_of_ble_eq_true rfl, Nat.le_of_ble_eq_true rfl⟩ rfl (Nat.le_of_ble_eq_true rfl) ⟨Nat.le_of_ble_eq_true rfl, Nat.le_of_ble_eq_true rfl⟩ hd (c_X0_learn (b := false) hD5 (if_pos rfl) hgn (drF_lt hn0) (by omega)) (fun H7 hp7 => ?_)
                      obtain ⟨hD6, hfr⟩ := hp7
                      have hD7 : Dd G H7 (b + 13) n (if drF (sdF (sdF s1)) 3 = 0 ∧ g ≠ drF (sdF s1) n then crF (hrF d1 g (ruF n d1 kK ka ks (spF d1 kV (drF (sdF s1) n) (drF s1 nv)))) g (drF (sdF s1) n) else cfF (hrF d1 g (ruF n d1 kK ka ks (spF d1 kV (drF (sdF s1) n) (drF s1 nv)))) g) := by simpa [c129] using hD6
                      have hC6 := hC5.now hD7 (fun q a c => hfr q (by omega))
                      have hb := hb.kept (hfr _ (by omega))
                      have hk3 := hk3.kept (hfr _ (by omega))
                      have ha3 := ha3.kept (hfr _ (by omega))
                      have hb3 := hb3.kept (hfr _ (by omega))
                      have hc3 := hc3.kept (hfr _ (by omega))
                      have he3 := he3.kept (hfr _ (by omega))
                      have hF : ∀ q : Nat, q ≠ b ∧ ¬ (b + 13 ≤ q ∧ q < b + 17) ∧ ¬ (b + 21 ≤ q ∧ q < b + 103) → H7[q]? = H[q]? := fun q hq => (hfr q (by omega)).trans (hF q hq)
                      have hG : ∀ q : Nat, q ≠ b ∧ ¬ (b + 13 ≤ q ∧ q < b + 17) → H7[q]? = Hk[q]? := fun q hq => (hfr q (by omega)).trans (hG q hq)
                      have hPs2 := hPs1.kept (H1 := H7) (fun q a c => hG q (by omega))
                      have hRk2 : RG n (if drF (sdF (sdF s1)) 3 = 0 ∧ g ≠ drF (sdF s1) n then crF (hrF d1 g (ruF n d1 kK ka ks (spF d1 kV (drF (sdF s1) n) (drF s1 nv)))) g (drF (sdF s1) n) else cfF (hrF d1 g (ruF n d1 kK ka ks (spF d1 kV (drF (sdF s1) n) (drF s1 nv)))) g) := by split; { exact cr_ok hn (hr_ok hn hRk hgn) hgn (drF_lt hn0) }; { exact cf_ok hn (hr_ok hn hRk hgn) hgn }
                      refine a_iincN (q := 4) (lv' := [(2, .int (nI (k + 1))), (4, .int (nI (drF (sdF s1) n))), (3, .int (nI (drF s1 nv))), (0, .ref b), (1, .int (nI m))]) dX6_drift_140 rfl (by decide) rfl ?_
                      refine a_goto 76 dX6_drift_143 (by decide) ?_
                      refine a_sub [3, 4, 0] rfl ?_
                      exact ih76 _ _ _ _ (by omega) (by simp only [dfS]; rw [hr]; simp only [dfX]; rw [hgc]) hC6 hPs2 hRk2 sdF_lt hF (by omega)
                    · skip
                      refine a_iconst 1 dX6_drift_132 (by decide) ?_
                      refine a_goto 137 dX6_drift_133 (by decide) ?_
                      have hD5 := hC5.2.2.1
                      refine a_callVv (As := [.int (nI (drF (sdF s1) n)), .int 1]) (rest := []) (d := 3) (mc := 0) (ms := 0) (ci := 0) l_X6_185 im_X0_learn se_X0_learn ⟨_, rfl, rfl⟩ dX6_drift_137 ⟨Nat.le_of_ble_eq_true rfl, Nat.le_of_ble_eq_true rfl⟩ rfl (Nat.le_of_ble_eq_true rfl) ⟨Nat.le_of_ble_eq_true rfl, Nat.le_of_ble_eq_true rfl⟩ hd (c_X0_learn (b := true) hD5 (if_pos rfl) hgn (drF_lt hn0) (by omega)) (fun H8 hp8 => ?_)
                      obtain ⟨hD6, hfr⟩ := hp8
                      have hD7 : Dd G H8 (b + 13) n (if drF (sdF (sdF s1)) 3 = 0 ∧ g ≠ drF (sdF s1) n then crF (hrF d1 g (ruF n d1 kK ka ks (spF d1 kV (drF (sdF s1) n) (drF s1 nv)))) g (drF (sdF s1) n) else cfF (hrF d1 g (ruF n d1 kK ka ks (spF d1 kV (drF (sdF s1) n) (drF s1 nv)))) g) := by simpa [c129] using hD6
                      have hC6 := hC5.now hD7 (fun q a c => hfr q (by omega))
                      have hb := hb.kept (hfr _ (by omega))
                      have hk3 := hk3.kept (hfr _ (by omega))
                      have ha3 := ha3.kept (hfr _ (by omega))
                      have hb3 := hb3.kept (hfr _ (by omega))
                      have hc3 := hc3.kept (hfr _ (by omega))
                      have he3 := he3.kept (hfr _ (by omega))
                      have hF : ∀ q : Nat, q ≠ b ∧ ¬ (b + 13 ≤ q ∧ q < b + 17) ∧ ¬ (b + 21 ≤ q ∧ q < b + 103) → H8[q]? = H[q]? := fun q hq => (hfr q (by omega)).trans (hF q hq)
                      have hG : ∀ q : Nat, q ≠ b ∧ ¬ (b + 13 ≤ q ∧ q < b + 17) → H8[q]? = Hk[q]? := fun q hq => (hfr q (by omega)).trans (hG q hq)
                      have hPs2 := hPs1.kept (H1 := H8) (fun q a c => hG q (by omega))
                      have hRk2 : RG n (if drF (sdF (sdF s1)) 3 = 0 ∧ g ≠ drF (sdF s1) n then crF (hrF d1 g (ruF n d1 kK ka ks (spF d1 kV (drF (sdF s1) n) (drF s1 nv)))) g (drF (sdF s1) n) else cfF (hrF d1 g (ruF n d1 kK ka ks (spF d1 kV (drF (sdF s1) n) (drF s1 nv)))) g) := by split; { exact cr_ok hn (hr_ok hn hRk hgn) hgn (drF_lt hn0) }; { exact cf_ok hn (hr_ok hn hRk hgn) hgn }
                      refine a_iincN (q := 4) (lv' := [(2, .int (nI (k + 1))), (4, .int (nI (drF (sdF s1) n))), (3, .int (nI (drF s1 nv))), (0, .ref b), (1, .int (nI m))]) dX6_drift_140 rfl (by decide) rfl ?_
                      refine a_goto 76 dX6_drift_143 (by decide) ?_
                      refine a_sub [3, 4, 0] rfl ?_
                      exact ih76 _ _ _ _ (by omega) (by simp only [dfS]; rw [hr]; simp only [dfX]; rw [hgc]) hC6 hPs2 hRk2 sdF_lt hF (by omega)
              refine a_sub [1, 2, 0] rfl ?_
              exact L76 _ 0 _ dd sd (Nat.zero_le _) rfl hC1 hPs1 hRG hsd hF (Nat.lt_succ_self _)
        · skip
          exact absurd hh c37
      · skip
        exact absurd c21 (by rw [hkb]; decide)
    · skip
      omega
set_option maxHeartbeats 4000000 in
set_option maxRecDepth 100000 in
theorem c_X6_drift_empty {G : GT} {B : Nat} {l : Launch} {H : Heap} {b : Nat} {tx : Nat → Nat} {L : Nat} {fp : Int32} {kb : Bool} {ka ks kw : Int32} {n nv : Nat} {kK kV dd : DD} {sd nx ct : Nat} {pu : Nat → DD} {sn : Nat} {sw sg : Nat → Nat} {bn : Nat} {bw : Nat → Nat} {bt : DD} {ik : Nat → Bool} {iD : Nat → DD} {iS : Nat → Nat} {m : Nat} (hm1 : 1 ≤ m) (hm2 : m ≤ 60) (hkb : kb = true) (hh : dd 24 ≤ 9000) (hz : n = 0 ∨ nv = 0) (hX : Bx G H b tx L fp kb ka ks kw n nv kK kV dd sd nx ct pu sn sw sg bn bw bt ik iD iS) (hB : B ≤ b) : AM G B l yX6_drift cX6_drift 5 (some .int) 7 0 0 [.ref b, .int (nI m)] H (fun rv H' => rv = some (.int (dd 25)) ∧ (Bx G H' b tx L fp kb ka ks kw n nv kK kV dd sd ((nx + 1) % 20) (min (ct + 1) 20) (fun i => if i = nx then dd else pu i) sn sw sg bn bw bt ik iD iS ∧ ∀ q : Nat, ¬ (b ≤ q ∧ q < b + 120) → H'[q]? = H[q]?)) := by
  have hX0 := hX
  obtain ⟨kr, sp, kS, kU, hC, hR2, hK2, hT2, hPs, hSe, hBo, hIm⟩ := hX
  have hC0 := hC
  obtain ⟨hb, hK, hD, hkr⟩ := hC
  have hK0 := hK
  have hN := hD
  unfold bxL at hb
  obtain ⟨fS3, fU3, fK3, fV3, hk3, ha3, hb3, hc3, he3, eS3, eU3, eK3, eV3, hn3, hnv3⟩ := hK
  obtain ⟨fS, fU, fO, hd, hs, hu, ho, eS, eU, eO, hn⟩ := hD
  have hpo := hPs.1
  have hse := hSe
  have hbo := hBo
  obtain ⟨fA, fB, hsp, hsa, hsb, eA, eB, hsN, -⟩ := hse
  obtain ⟨fA2, fB2, hbp, hba, hbb, eA2, eB2, hbN, -⟩ := hbo
  have hF : ∀ q : Nat, ¬ (b + 13 ≤ q ∧ q < b + 17) ∧ ¬ (b + 21 ≤ q ∧ q < b + 103) → H[q]? = H[q]? := fun _ _ => rfl
  refine AM.ofI (lv := [(0, .ref b), (1, .int (nI m))]) (by decide +kernel) (Nat.le_of_ble_eq_true rfl) rfl ?_ (fun _ h => by cases h.1)
  refine a_iload_n 1 dX6_drift_0 rfl rfl ?_
  refine a_iconst 1 dX6_drift_1 (by decide) ?_
  refine a_icmpltN (a := m) (b := 1) 11 dX6_drift_2 (by decide) (by omega) (by omega) (fun c2 => ?_) (fun c2 => ?_)
  · skip
    omega
  · skip
    refine a_iload_n 1 dX6_drift_5 rfl rfl ?_
    refine a_bipush 60 dX6_drift_6 (by decide) ?_
    refine a_icmpleN (a := m) (b := 60) 14 dX6_drift_8 (by decide) (by omega) (by omega) (fun c8 => ?_) (fun c8 => ?_)
    · skip
      refine a_aload_n 0 dX6_drift_14 rfl rfl ?_
      refine a_get f_X6_23 dX6_drift_15 hb rfl ?_
      refine a_get f_X6_176 dX6_drift_18 hk3 rfl ?_
      refine a_ifneB 27 dX6_drift_21 (by decide) (fun c21 => ?_) (fun c21 => ?_)
      · skip
        refine a_aload_n 0 dX6_drift_27 rfl rfl ?_
        refine a_get f_X6_33 dX6_drift_28 hb rfl ?_
        refine a_get f_X6_115 dX6_drift_31 hd rfl ?_
        refine a_sipush 9000 dX6_drift_34 (by decide) ?_
        refine a_icmple 43 dX6_drift_37 (by decide) (fun c37 => ?_) (fun c37 => ?_)
        · skip
          refine a_aload_n 0 dX6_drift_43 rfl rfl ?_
          refine a_get f_X6_43 dX6_drift_44 hb rfl ?_
          refine a_aload_n 0 dX6_drift_47 rfl rfl ?_
          refine a_get f_X6_33 dX6_drift_48 hb rfl ?_
          refine a_callVv (As := [.ref (b + 13)]) (rest := []) (d := 2) (mc := 0) (ms := 0) (ci := 4) l_X6_158 im_X4_push se_X4_push ⟨_, rfl, rfl⟩ dX6_drift_51 ⟨Nat.le_of_ble_eq_true rfl, Nat.le_of_ble_eq_true rfl⟩ rfl (Nat.le_of_ble_eq_true rfl) ⟨Nat.le_of_ble_eq_true rfl, Nat.le_of_ble_eq_true rfl⟩ hpo (c_X4_push hN (by omega) hPs (by omega)) (fun H1 hp1 => ?_)
          obtain ⟨hPs1, hfr⟩ := hp1
          have hC1 := hC0.kept (H1 := H1) (fun q a c => hfr q (by omega))
          have hN1 := hC1.2.2.1
          have hb := hb.kept (hfr _ (by omega))
          have hk3 := hk3.kept (hfr _ (by omega))
          have ha3 := ha3.kept (hfr _ (by omega))
          have hb3 := hb3.kept (hfr _ (by omega))
          have hc3 := hc3.kept (hfr _ (by omega))
          have he3 := he3.kept (hfr _ (by omega))
          have hd := hd.kept (hfr _ (by omega))
          have hs := hs.kept (hfr _ (by omega))
          have hu := hu.kept (hfr _ (by omega))
          have ho := ho.kept (hfr _ (by omega))
          have hsp := hsp.kept (hfr _ (by omega))
          have hbp := hbp.kept (hfr _ (by omega))
          have hF : ∀ q : Nat, ¬ (b + 13 ≤ q ∧ q < b + 17) ∧ ¬ (b + 21 ≤ q ∧ q < b + 103) → H1[q]? = H[q]? := fun q hq => (hfr q (by omega)).trans (hF q hq)
          refine a_aload_n 0 dX6_drift_54 rfl rfl ?_
          refine a_get f_X6_23 dX6_drift_55 hb rfl ?_
          refine a_get f_X6_100 dX6_drift_58 hk3 rfl ?_
          refine a_ifleN (a := n) 146 dX6_drift_61 (by decide) (by omega) (fun c61 => ?_) (fun c61 => ?_)
          · skip
            refine a_aload_n 0 dX6_drift_146 rfl rfl ?_
            refine a_get f_X6_33 dX6_drift_147 hb rfl ?_
            refine a_get f_X6_118 dX6_drift_150 hd rfl ?_
            refine a_ret dX6_drift_153 ⟨⟨ri ?_, ?_⟩, rfl, rfl⟩
            · rfl
            · exact ⟨⟨kr, sp, kS, kU, hC1, hR2.kept (fun q a c => hF q (by omega)), hK2.kept (fun q a c => hF q (by omega)), hT2.kept (fun q a c => hF q (by omega)), hPs1, hSe.kept (fun q a c => hF q (by omega)), hBo.kept (fun q a c => hF q (by omega)), hIm.kept (fun q a => hF q (by omega))⟩, fun q hq => hF q (by omega)⟩
          · skip
            refine a_aload_n 0 dX6_drift_64 rfl rfl ?_
            refine a_get f_X6_23 dX6_drift_65 hb rfl ?_
            refine a_get f_X6_112 dX6_drift_68 hk3 rfl ?_
            refine a_ifleN (a := nv) 146 dX6_drift_71 (by decide) (by omega) (fun c71 => ?_) (fun c71 => ?_)
            · skip
              refine a_aload_n 0 dX6_drift_146 rfl rfl ?_
              refine a_get f_X6_33 dX6_drift_147 hb rfl ?_
              refine a_get f_X6_118 dX6_drift_150 hd rfl ?_
              refine a_ret dX6_drift_153 ⟨⟨ri ?_, ?_⟩, rfl, rfl⟩
              · rfl
              · exact ⟨⟨kr, sp, kS, kU, hC1, hR2.kept (fun q a c => hF q (by omega)), hK2.kept (fun q a c => hF q (by omega)), hT2.kept (fun q a c => hF q (by omega)), hPs1, hSe.kept (fun q a c => hF q (by omega)), hBo.kept (fun q a c => hF q (by omega)), hIm.kept (fun q a => hF q (by omega))⟩, fun q hq => hF q (by omega)⟩
            · skip
              omega
        · skip
          exact absurd hh c37
      · skip
        exact absurd c21 (by rw [hkb]; decide)
    · skip
      omega
set_option maxHeartbeats 4000000 in
set_option maxRecDepth 100000 in
theorem c_X6_drift_out {G : GT} {B : Nat} {l : Launch} {H : Heap} {b : Nat} {tx : Nat → Nat} {L : Nat} {fp : Int32} {kb : Bool} {ka ks kw : Int32} {n nv : Nat} {kK kV dd : DD} {sd nx ct : Nat} {pu : Nat → DD} {sn : Nat} {sw sg : Nat → Nat} {bn : Nat} {bw : Nat → Nat} {bt : DD} {ik : Nat → Bool} {iD : Nat → DD} {iS : Nat → Nat} {m : Int32} (hq : m < 1 ∨ ¬ m ≤ 60) (hX : Bx G H b tx L fp kb ka ks kw n nv kK kV dd sd nx ct pu sn sw sg bn bw bt ik iD iS) (hB : B ≤ b) : AM G B l yX6_drift cX6_drift 5 (some .int) 7 0 0 [.ref b, .int m] H (fun rv H' => rv = some (.int (-1000000002)) ∧ (H' = H)) := by
  have hX0 := hX
  obtain ⟨kr, sp, kS, kU, hC, hR2, hK2, hT2, hPs, hSe, hBo, hIm⟩ := hX
  have hC0 := hC
  obtain ⟨hb, hK, hD, hkr⟩ := hC
  have hK0 := hK
  have hN := hD
  unfold bxL at hb
  obtain ⟨fS3, fU3, fK3, fV3, hk3, ha3, hb3, hc3, he3, eS3, eU3, eK3, eV3, hn3, hnv3⟩ := hK
  obtain ⟨fS, fU, fO, hd, hs, hu, ho, eS, eU, eO, hn⟩ := hD
  have hpo := hPs.1
  have hse := hSe
  have hbo := hBo
  obtain ⟨fA, fB, hsp, hsa, hsb, eA, eB, hsN, -⟩ := hse
  obtain ⟨fA2, fB2, hbp, hba, hbb, eA2, eB2, hbN, -⟩ := hbo
  refine AM.ofI (lv := [(0, .ref b), (1, .int m)]) (by decide +kernel) (Nat.le_of_ble_eq_true rfl) rfl ?_ (fun _ h => by cases h.1)
  refine a_iload_n 1 dX6_drift_0 rfl rfl ?_
  refine a_iconst 1 dX6_drift_1 (by decide) ?_
  refine a_icmplt 11 dX6_drift_2 (by decide) (fun c2 => ?_) (fun c2 => ?_)
  · skip
    refine a_ldc (-1000000002) k_X6_69 dX6_drift_11 ?_
    refine a_ret dX6_drift_13 ⟨⟨ri ?_, ?_⟩, rfl, rfl⟩
    · rfl
    · rfl
  · skip
    refine a_iload_n 1 dX6_drift_5 rfl rfl ?_
    refine a_bipush 60 dX6_drift_6 (by decide) ?_
    refine a_icmple 14 dX6_drift_8 (by decide) (fun c8 => ?_) (fun c8 => ?_)
    · skip
      exact (hq.elim c2 (fun h => h c8)).elim
    · skip
      refine a_ldc (-1000000002) k_X6_69 dX6_drift_11 ?_
      refine a_ret dX6_drift_13 ⟨⟨ri ?_, ?_⟩, rfl, rfl⟩
      · rfl
      · rfl
set_option maxHeartbeats 4000000 in
set_option maxRecDepth 100000 in
theorem c_X6_drift_not {G : GT} {B : Nat} {l : Launch} {H : Heap} {b : Nat} {tx : Nat → Nat} {L : Nat} {fp : Int32} {kb : Bool} {ka ks kw : Int32} {n nv : Nat} {kK kV dd : DD} {sd nx ct : Nat} {pu : Nat → DD} {sn : Nat} {sw sg : Nat → Nat} {bn : Nat} {bw : Nat → Nat} {bt : DD} {ik : Nat → Bool} {iD : Nat → DD} {iS : Nat → Nat} {m : Nat} (hm1 : 1 ≤ m) (hm2 : m ≤ 60) (hkb : kb = false) (hX : Bx G H b tx L fp kb ka ks kw n nv kK kV dd sd nx ct pu sn sw sg bn bw bt ik iD iS) (hB : B ≤ b) : AM G B l yX6_drift cX6_drift 5 (some .int) 7 0 0 [.ref b, .int (nI m)] H (fun rv H' => rv = some (.int (-1000000003)) ∧ (H' = H)) := by
  have hX0 := hX
  obtain ⟨kr, sp, kS, kU, hC, hR2, hK2, hT2, hPs, hSe, hBo, hIm⟩ := hX
  have hC0 := hC
  obtain ⟨hb, hK, hD, hkr⟩ := hC
  have hK0 := hK
  have hN := hD
  unfold bxL at hb
  obtain ⟨fS3, fU3, fK3, fV3, hk3, ha3, hb3, hc3, he3, eS3, eU3, eK3, eV3, hn3, hnv3⟩ := hK
  obtain ⟨fS, fU, fO, hd, hs, hu, ho, eS, eU, eO, hn⟩ := hD
  have hpo := hPs.1
  have hse := hSe
  have hbo := hBo
  obtain ⟨fA, fB, hsp, hsa, hsb, eA, eB, hsN, -⟩ := hse
  obtain ⟨fA2, fB2, hbp, hba, hbb, eA2, eB2, hbN, -⟩ := hbo
  refine AM.ofI (lv := [(0, .ref b), (1, .int (nI m))]) (by decide +kernel) (Nat.le_of_ble_eq_true rfl) rfl ?_ (fun _ h => by cases h.1)
  refine a_iload_n 1 dX6_drift_0 rfl rfl ?_
  refine a_iconst 1 dX6_drift_1 (by decide) ?_
  refine a_icmpltN (a := m) (b := 1) 11 dX6_drift_2 (by decide) (by omega) (by omega) (fun c2 => ?_) (fun c2 => ?_)
  · skip
    omega
  · skip
    refine a_iload_n 1 dX6_drift_5 rfl rfl ?_
    refine a_bipush 60 dX6_drift_6 (by decide) ?_
    refine a_icmpleN (a := m) (b := 60) 14 dX6_drift_8 (by decide) (by omega) (by omega) (fun c8 => ?_) (fun c8 => ?_)
    · skip
      refine a_aload_n 0 dX6_drift_14 rfl rfl ?_
      refine a_get f_X6_23 dX6_drift_15 hb rfl ?_
      refine a_get f_X6_176 dX6_drift_18 hk3 rfl ?_
      refine a_ifneB 27 dX6_drift_21 (by decide) (fun c21 => ?_) (fun c21 => ?_)
      · skip
        exact absurd c21 (by rw [hkb]; decide)
      · skip
        refine a_ldc (-1000000003) k_X6_157 dX6_drift_24 ?_
        refine a_ret dX6_drift_26 ⟨⟨ri ?_, ?_⟩, rfl, rfl⟩
        · rfl
        · rfl
    · skip
      omega
set_option maxHeartbeats 4000000 in
set_option maxRecDepth 100000 in
theorem c_X6_drift_full {G : GT} {B : Nat} {l : Launch} {H : Heap} {b : Nat} {tx : Nat → Nat} {L : Nat} {fp : Int32} {kb : Bool} {ka ks kw : Int32} {n nv : Nat} {kK kV dd : DD} {sd nx ct : Nat} {pu : Nat → DD} {sn : Nat} {sw sg : Nat → Nat} {bn : Nat} {bw : Nat → Nat} {bt : DD} {ik : Nat → Bool} {iD : Nat → DD} {iS : Nat → Nat} {m : Nat} (hm1 : 1 ≤ m) (hm2 : m ≤ 60) (hkb : kb = true) (hh : ¬ dd 24 ≤ 9000) (hX : Bx G H b tx L fp kb ka ks kw n nv kK kV dd sd nx ct pu sn sw sg bn bw bt ik iD iS) (hB : B ≤ b) : AM G B l yX6_drift cX6_drift 5 (some .int) 7 0 0 [.ref b, .int (nI m)] H (fun rv H' => rv = some (.int (-1000000004)) ∧ (H' = H)) := by
  have hX0 := hX
  obtain ⟨kr, sp, kS, kU, hC, hR2, hK2, hT2, hPs, hSe, hBo, hIm⟩ := hX
  have hC0 := hC
  obtain ⟨hb, hK, hD, hkr⟩ := hC
  have hK0 := hK
  have hN := hD
  unfold bxL at hb
  obtain ⟨fS3, fU3, fK3, fV3, hk3, ha3, hb3, hc3, he3, eS3, eU3, eK3, eV3, hn3, hnv3⟩ := hK
  obtain ⟨fS, fU, fO, hd, hs, hu, ho, eS, eU, eO, hn⟩ := hD
  have hpo := hPs.1
  have hse := hSe
  have hbo := hBo
  obtain ⟨fA, fB, hsp, hsa, hsb, eA, eB, hsN, -⟩ := hse
  obtain ⟨fA2, fB2, hbp, hba, hbb, eA2, eB2, hbN, -⟩ := hbo
  refine AM.ofI (lv := [(0, .ref b), (1, .int (nI m))]) (by decide +kernel) (Nat.le_of_ble_eq_true rfl) rfl ?_ (fun _ h => by cases h.1)
  refine a_iload_n 1 dX6_drift_0 rfl rfl ?_
  refine a_iconst 1 dX6_drift_1 (by decide) ?_
  refine a_icmpltN (a := m) (b := 1) 11 dX6_drift_2 (by decide) (by omega) (by omega) (fun c2 => ?_) (fun c2 => ?_)
  · skip
    omega
  · skip
    refine a_iload_n 1 dX6_drift_5 rfl rfl ?_
    refine a_bipush 60 dX6_drift_6 (by decide) ?_
    refine a_icmpleN (a := m) (b := 60) 14 dX6_drift_8 (by decide) (by omega) (by omega) (fun c8 => ?_) (fun c8 => ?_)
    · skip
      refine a_aload_n 0 dX6_drift_14 rfl rfl ?_
      refine a_get f_X6_23 dX6_drift_15 hb rfl ?_
      refine a_get f_X6_176 dX6_drift_18 hk3 rfl ?_
      refine a_ifneB 27 dX6_drift_21 (by decide) (fun c21 => ?_) (fun c21 => ?_)
      · skip
        refine a_aload_n 0 dX6_drift_27 rfl rfl ?_
        refine a_get f_X6_33 dX6_drift_28 hb rfl ?_
        refine a_get f_X6_115 dX6_drift_31 hd rfl ?_
        refine a_sipush 9000 dX6_drift_34 (by decide) ?_
        refine a_icmple 43 dX6_drift_37 (by decide) (fun c37 => ?_) (fun c37 => ?_)
        · skip
          exact absurd c37 (hh)
        · skip
          refine a_ldc (-1000000004) k_X6_77 dX6_drift_40 ?_
          refine a_ret dX6_drift_42 ⟨⟨ri ?_, ?_⟩, rfl, rfl⟩
          · rfl
          · rfl
      · skip
        exact absurd c21 (by rw [hkb]; decide)
    · skip
      omega
set_option maxHeartbeats 4000000 in
set_option maxRecDepth 100000 in
theorem c_X6_init {G : GT} {B : Nat} {l : Launch} {H : Heap} {b : Nat} (hb : Ob G H b 6 [.null, .int 0, .null, .null, .null, .null, .null, .null, .int 0, .null, .null]) (hsz : H.size = b + 1) (hB : B ≤ b) : AM G B l yX6_init cX6_init 2 none 3 119 1143 [.ref b] H (fun rv H' => rv = none ∧ ((∀ (tx : Nat → Nat) (kK kV : DD) (pu : Nat → DD) (sw sg : Nat → Nat) (bw : Nat → Nat) (bt : DD) (iD : Nat → DD) (iS : Nat → Nat), Bx G H' b tx 0 (-1) false 0 0 0 0 0 kK kV (fun i => if i = 26 then -1 else 0) 0 0 0 pu 0 sw sg 0 bw bt (fun _ => false) iD iS) ∧ H'.size = b + 120 ∧ ∀ q : Nat, q < b → H'[q]? = H[q]?)) := by
  sorry
