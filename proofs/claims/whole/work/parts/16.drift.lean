/-! ===== BEGIN drift, the constructor ===== -/
/-- the pieces of a new BeansBox, its images apart -/
def BI0 (G : GT) (H : Heap) (b : Nat) : Prop := Ob G H b 6 (bxL b (b + 3) (b + 8) (-1) 0) ∧ (∀ tx : Nat → Nat, Rd G H (b + 1) tx 0 0 0) ∧ (∀ kS kU kK kV : DD, Kt G H (b + 3) false 0 0 0 0 0 kS kU kK kV) ∧ (∀ kS kU kK kV : DD, Kt G H (b + 8) false 0 0 0 0 0 kS kU kK kV) ∧ Dd G H (b + 13) 0 (fun i => if i = 26 then -1 else 0) ∧ Dd G H (b + 17) 0 (fun i => if i = 26 then -1 else 0) ∧ (∀ (n' : Nat) (pu' : Nat → DD), Ps G H (b + 21) 0 0 n' pu') ∧ (∀ P' Q' : DD, Pr G H (b + 104) 6 0 P' Q') ∧ (∀ P' Q' : DD, Pr G H (b + 107) 15 0 P' Q')
theorem BI0.kept {G : GT} {H H1 : Heap} {b : Nat} (h : BI0 G H b) (hq : ∀ q, b ≤ q → q < b + 110 ∧ q ≠ b + 103 → H1[q]? = H[q]?) : BI0 G H1 b := by
  obtain ⟨h1, h2, h3, h4, h5, h6, h7, h8, h9⟩ := h
  exact ⟨h1.kept (hq _ (by omega) (by omega)), fun tx => (h2 tx).kept (fun q a c => hq q (by omega) (by omega)), fun a b c d => (h3 a b c d).kept (fun q a c => hq q (by omega) (by omega)), fun a b c d => (h4 a b c d).kept (fun q a c => hq q (by omega) (by omega)), h5.kept (fun q a c => hq q (by omega) (by omega)), h6.kept (fun q a c => hq q (by omega) (by omega)), fun n p => (h7 n p).kept (fun q a c => hq q (by omega) (by omega)), fun a b => (h8 a b).kept (fun q a c => hq q (by omega) (by omega)), fun a b => (h9 a b).kept (fun q a c => hq q (by omega) (by omega))⟩
/-! ===== END ===== -/

set_option maxHeartbeats 4000000 in
set_option maxRecDepth 100000 in
theorem c_X6_drift {G : GT} {B : Nat} {l : Launch} {H : Heap} {b : Nat} {tx : Nat → Nat} {L : Nat} {fp : Int32} {kb : Bool} {ka ks kw : Int32} {n nv : Nat} {kK kV dd : DD} {sd nx ct : Nat} {pu : Nat → DD} {sn : Nat} {sw sg : Nat → Nat} {bn : Nat} {bw : Nat → Nat} {bt : DD} {ik : Nat → Bool} {iD : Nat → DD} {iS : Nat → Nat} {m : Nat} (hm1 : 1 ≤ m) (hm2 : m ≤ 60) (hkb : kb = true) (hh : dd 24 ≤ 9000) (hn0 : 0 < n) (hv0 : 0 < nv) (hsd : sd < 2 ^ 31) (hRG : RG n dd) (hV : RV nv kV) (hX : Bx G H b tx L fp kb ka ks kw n nv kK kV dd sd nx ct pu sn sw sg bn bw bt ik iD iS) (hB : B ≤ b) : AM G B l yX6_drift cX6_drift 5 (some .int) 7 0 0 [.ref b, .int (nI m)] H (fun rv H' => rv = some (.int ((dfS n nv kK kV ka ks dd sd m).1 25)) ∧ (Bx G H' b tx L fp kb ka ks kw n nv kK kV ((dfS n nv kK kV ka ks dd sd m).1) ((dfS n nv kK kV ka ks dd sd m).2) ((nx + 1) % 20) (min (ct + 1) 20) (fun i => if i = nx then dd else pu i) sn sw sg bn bw bt ik iD iS ∧ ∀ q : Nat, ¬ (b ≤ q ∧ q < b + 120) → H'[q]? = H[q]?)) := by
  have hX0 := hX
  obtain ⟨kr, sp, kS, kU, hC, hR2, hK2, hT2, hPs, hSe, hBo, hIm⟩ := hX
  have hC0 := hC
  obtain ⟨hb, hK, hD, hkr⟩ := hC
  have hK0 := hK
  have hN := hD
  unfold bxL at hb
  obtain ⟨fS3, fU3, fK3, fV3, hk3, ha3, hb3, hc3, he3, eS3, eU3, eK3, eV3, hn3, hnv3⟩ := hK
  obtain ⟨fS, fU, fO, hd, hs, hu, ho, eS, eU, eO, hn⟩ := hD
  have hpo := hPs.1
  have hse := hSe
  have hbo := hBo
  obtain ⟨fA, fB, hsp, hsa, hsb, eA, eB, hsN, -⟩ := hse
  obtain ⟨fA2, fB2, hbp, hba, hbb, eA2, eB2, hbN, -⟩ := hbo
  have hF : ∀ q : Nat, q ≠ b ∧ ¬ (b + 13 ≤ q ∧ q < b + 17) ∧ ¬ (b + 21 ≤ q ∧ q < b + 103) → H[q]? = H[q]? := fun _ _ => rfl
  refine AM.ofI (lv := [(0, .ref b), (1, .int (nI m))]) (by decide +kernel) (Nat.le_of_ble_eq_true rfl) rfl ?_ (fun _ h => by cases h.1)
  refine a_iload_n 1 dX6_drift_0 rfl rfl ?_
  refine a_iconst 1 dX6_drift_1 (by decide) ?_
  refine a_icmpltN (a := m) (b := 1) 11 dX6_drift_2 (by decide) (by omega) (by omega) (fun c2 => ?_) (fun c2 => ?_)
  · skip
    omega
  · skip
    refine a_iload_n 1 dX6_drift_5 rfl rfl ?_
    refine a_bipush 60 dX6_drift_6 (by decide) ?_
    refine a_icmpleN (a := m) (b := 60) 14 dX6_drift_8 (by decide) (by omega) (by omega) (fun c8 => ?_) (fun c8 => ?_)
    · skip
      refine a_aload_n 0 dX6_drift_14 rfl rfl ?_
      refine a_get f_X6_23 dX6_drift_15 hb rfl ?_
      refine a_get f_X6_176 dX6_drift_18 hk3 rfl ?_
      refine a_ifneB 27 dX6_drift_21 (by decide) (fun c21 => ?_) (fun c21 => ?_)
      · skip
        refine a_aload_n 0 dX6_drift_27 rfl rfl ?_
        refine a_get f_X6_33 dX6_drift_28 hb rfl ?_
        refine a_get f_X6_115 dX6_drift_31 hd rfl ?_
        refine a_sipush 9000 dX6_drift_34 (by decide) ?_
        refine a_icmple 43 dX6_drift_37 (by decide) (fun c37 => ?_) (fun c37 => ?_)
        · skip
          refine a_aload_n 0 dX6_drift_43 rfl rfl ?_
          refine a_get f_X6_43 dX6_drift_44 hb rfl ?_
          refine a_aload_n 0 dX6_drift_47 rfl rfl ?_
          refine a_get f_X6_33 dX6_drift_48 hb rfl ?_
          refine a_callVv (As := [.ref (b + 13)]) (rest := []) (d := 2) (mc := 0) (ms := 0) (ci := 4) l_X6_158 im_X4_push se_X4_push ⟨_, rfl, rfl⟩ dX6_drift_51 ⟨Nat.le_of_ble_eq_true rfl, Nat.le_of_ble_eq_true rfl⟩ rfl (Nat.le_of_ble_eq_true rfl) ⟨Nat.le_of_ble_eq_true rfl, Nat.le_of_ble_eq_true rfl⟩ hpo (c_X4_push hN (by omega) hPs (by omega)) (fun H1 hp1 => ?_)
          obtain ⟨hPs1, hfr⟩ := hp1
          have hC1 := hC0.kept (H1 := H1) (fun q a c => hfr q (by omega))
          have hN1 := hC1.2.2.1
          have hb := hb.kept (hfr _ (by omega))
          have hk3 := hk3.kept (hfr _ (by omega))
          have ha3 := ha3.kept (hfr _ (by omega))
          have hb3 := hb3.kept (hfr _ (by omega))
          have hc3 := hc3.kept (hfr _ (by omega))
          have he3 := he3.kept (hfr _ (by omega))
          have hd := hd.kept (hfr _ (by omega))
          have hs := hs.kept (hfr _ (by omega))
          have hu := hu.kept (hfr _ (by omega))
          have ho := ho.kept (hfr _ (by omega))
          have hsp := hsp.kept (hfr _ (by omega))
          have hbp := hbp.kept (hfr _ (by omega))
          have hF : ∀ q : Nat, q ≠ b ∧ ¬ (b + 13 ≤ q ∧ q < b + 17) ∧ ¬ (b + 21 ≤ q ∧ q < b + 103) → H1[q]? = H[q]? := fun q hq => (hfr q (by omega)).trans (hF q hq)
          refine a_aload_n 0 dX6_drift_54 rfl rfl ?_
          refine a_get f_X6_23 dX6_drift_55 hb rfl ?_
          refine a_get f_X6_100 dX6_drift_58 hk3 rfl ?_
          refine a_ifleN (a := n) 146 dX6_drift_61 (by decide) (by omega) (fun c61 => ?_) (fun c61 => ?_)
          · skip
            omega
          · skip
            refine a_aload_n 0 dX6_drift_64 rfl rfl ?_
            refine a_get f_X6_23 dX6_drift_65 hb rfl ?_
            refine a_get f_X6_112 dX6_drift_68 hk3 rfl ?_
            refine a_ifleN (a := nv) 146 dX6_drift_71 (by decide) (by omega) (fun c71 => ?_) (fun c71 => ?_)
            · skip
              omega
            · skip
              refine a_iconst 0 dX6_drift_74 (by decide) ?_
              refine a_istore_n (lv' := [(2, .int 0), (0, .ref b), (1, .int (nI m))]) dX6_drift_75 rfl (by decide) rfl ?_
              have L76 : ∀ (fu : Nat) (k : Nat) (Hk : Heap) (d1 : DD) (s1 : Nat), k ≤ m → dfS n nv kK kV ka ks dd sd k = (d1, s1) → Bc G Hk b kr sp fp (nI s1) kb ka ks kw n nv kS kU kK kV (d1) → Ps G Hk (b + 21) ((nx + 1) % 20) (min (ct + 1) 20) n (fun i => if i = nx then dd else pu i) → RG n d1 → s1 < 2 ^ 31 → (∀ q : Nat, q ≠ b ∧ ¬ (b + 13 ≤ q ∧ q < b + 17) ∧ ¬ (b + 21 ≤ q ∧ q < b + 103) → Hk[q]? = H[q]?) → m - k < fu → AW G B l { frames := 7, cells := 0, slots := 0, locals := 27 * 7 } yX6_drift.cls cX6_drift 5 false (fun rv H' ce' sl' => (rv = some (.int ((dfS n nv kK kV ka ks dd sd m).1 25)) ∧ (Bx G H' b tx L fp kb ka ks kw n nv kK kV ((dfS n nv kK kV ka ks dd sd m).1) ((dfS n nv kK kV ka ks dd sd m).2) ((nx + 1) % 20) (min (ct + 1) 20) (fun i => if i = nx then dd else pu i) sn sw sg bn bw bt ik iD iS ∧ ∀ q : Nat, ¬ (b ≤ q ∧ q < b + 120) → H'[q]? = H[q]?)) ∧ ce' = 0 ∧ sl' = 0) 76 [(0, .ref b), (1, .int (nI m)), (2, .int (nI k))] [] Hk 0 0 := by
                intro fu
                induction fu with
                | zero => intro k Hk d1 s1 hk hr hC hPs1 hRk hs1 hF hm76; exact absurd hm76 (Nat.not_lt_zero _)
                | succ fu ih76 =>
                  intro k Hk d1 s1 hk hr hC hPs1 hRk hs1 hF hm76
                  have hC1 := hC
                  have hC0 := hC
                  obtain ⟨hb, hK, hD, -⟩ := hC
                  have hN := hD
                  unfold bxL at hb
                  obtain ⟨fS3, fU3, fK3, fV3, hk3, ha3, hb3, hc3, he3, eS3, eU3, eK3, eV3, hn3, hnv3⟩ := hK
                  obtain ⟨fS, fU, fO, hd, hs, hu, ho, eS, eU, eO, -⟩ := hD
                  have hG : ∀ q : Nat, q ≠ b ∧ ¬ (b + 13 ≤ q ∧ q < b + 17) → Hk[q]? = Hk[q]? := fun _ _ => rfl
                  refine a_iload_n 2 dX6_drift_76 rfl rfl ?_
                  refine a_iload_n 1 dX6_drift_77 rfl rfl ?_
                  refine a_icmpgeN (a := k) (b := m) 146 dX6_drift_78 (by decide) (by omega) (by omega) (fun c78 => ?_) (fun c78 => ?_)
                  · skip
                    refine a_aload_n 0 dX6_drift_146 rfl rfl ?_
                    refine a_get f_X6_33 dX6_drift_147 hb rfl ?_
                    refine a_get f_X6_118 dX6_drift_150 hd rfl ?_
                    refine a_ret dX6_drift_153 ⟨⟨ri ?_, ?_⟩, rfl, rfl⟩
                    · have e : m = k := by omega
                      rw [e, hr]
                    · have e : m = k := by omega
                      rw [e, hr]
                      exact ⟨⟨kr, sp, kS, kU, hC1, hR2.kept (fun q a c => hF q (by omega)), hK2.kept (fun q a c => hF q (by omega)), hT2.kept (fun q a c => hF q (by omega)), hPs1, hSe.kept (fun q a c => hF q (by omega)), hBo.kept (fun q a c => hF q (by omega)), hIm.kept (fun q a => hF q (by omega))⟩, fun q hq => hF q (by omega)⟩
                  · skip
                    refine a_aload_n 0 dX6_drift_81 rfl rfl ?_
                    refine a_aload_n 0 dX6_drift_82 rfl rfl ?_
                    refine a_get f_X6_23 dX6_drift_83 hb rfl ?_
                    refine a_get f_X6_112 dX6_drift_86 hk3 rfl ?_
                    have hbb1 : Ob G Hk b 6 (bxL b kr sp fp (nI s1)) := hb
                    refine a_callVi (As := [.int (nI nv)]) (rest := []) (d := 0) (mc := 0) (ms := 0) (x := nI (drF s1 nv)) (ci := 6) l_X6_179 im_X6_draw se_X6_draw ⟨_, rfl, rfl⟩ dX6_drift_89 ⟨Nat.le_of_ble_eq_true rfl, Nat.le_of_ble_eq_true rfl⟩ rfl (Nat.le_of_ble_eq_true rfl) ⟨Nat.le_of_ble_eq_true rfl, Nat.le_of_ble_eq_true rfl⟩ hb (c_X6_draw hbb1 hs1 (by omega) (by omega) hB) (fun H2 hp2 => ?_)
                    obtain ⟨hbn, hfr⟩ := hp2
                    have hC2 := hC0.box hbn hfr
                    unfold bxL at hbn
                    have hb := hbn
                    have hk3 := hk3.kept (hfr _ (by omega))
                    have ha3 := ha3.kept (hfr _ (by omega))
                    have hb3 := hb3.kept (hfr _ (by omega))
                    have hc3 := hc3.kept (hfr _ (by omega))
                    have he3 := he3.kept (hfr _ (by omega))
                    have hd := hd.kept (hfr _ (by omega))
                    have hs := hs.kept (hfr _ (by omega))
                    have hu := hu.kept (hfr _ (by omega))
                    have ho := ho.kept (hfr _ (by omega))
                    have hF : ∀ q : Nat, q ≠ b ∧ ¬ (b + 13 ≤ q ∧ q < b + 17) ∧ ¬ (b + 21 ≤ q ∧ q < b + 103) → H2[q]? = H[q]? := fun q hq => (hfr q (by omega)).trans (hF q hq)
                    have hG : ∀ q : Nat, q ≠ b ∧ ¬ (b + 13 ≤ q ∧ q < b + 17) → H2[q]? = Hk[q]? := fun q hq => (hfr q (by omega)).trans (hG q hq)
                    refine a_istore_n (lv' := [(3, .int (nI (drF s1 nv))), (0, .ref b), (1, .int (nI m)), (2, .int (nI k))]) dX6_drift_92 rfl (by decide) rfl ?_
                    refine a_aload_n 1 dX6_drift_93 rfl rfl ?_
                    refine a_aload_n 1 dX6_drift_94 rfl rfl ?_
                    refine a_get f_X6_23 dX6_drift_95 hb rfl ?_
                    refine a_get f_X6_100 dX6_drift_98 hk3 rfl ?_
                    have hbb2 : Ob G H2 b 6 (bxL b kr sp fp (nI (sdF s1))) := hb
                    refine a_callVi (As := [.int (nI n)]) (rest := []) (d := 0) (mc := 0) (ms := 0) (x := nI (drF (sdF s1) n)) (ci := 6) l_X6_179 im_X6_draw se_X6_draw ⟨_, rfl, rfl⟩ dX6_drift_101 ⟨Nat.le_of_ble_eq_true rfl, Nat.le_of_ble_eq_true rfl⟩ rfl (Nat.le_of_ble_eq_true rfl) ⟨Nat.le_of_ble_eq_true rfl, Nat.le_of_ble_eq_true rfl⟩ hb (c_X6_draw hbb2 sdF_lt (by omega) (by omega) hB) (fun H3 hp3 => ?_)
                    obtain ⟨hbn, hfr⟩ := hp3
                    have hC3 := hC2.box hbn hfr
                    unfold bxL at hbn
                    have hb := hbn
                    have hk3 := hk3.kept (hfr _ (by omega))
                    have ha3 := ha3.kept (hfr _ (by omega))
                    have hb3 := hb3.kept (hfr _ (by omega))
                    have hc3 := hc3.kept (hfr _ (by omega))
                    have he3 := he3.kept (hfr _ (by omega))
                    have hd := hd.kept (hfr _ (by omega))
                    have hs := hs.kept (hfr _ (by omega))
                    have hu := hu.kept (hfr _ (by omega))
                    have ho := ho.kept (hfr _ (by omega))
                    have hF : ∀ q : Nat, q ≠ b ∧ ¬ (b + 13 ≤ q ∧ q < b + 17) ∧ ¬ (b + 21 ≤ q ∧ q < b + 103) → H3[q]? = H[q]? := fun q hq => (hfr q (by omega)).trans (hF q hq)
                    have hG : ∀ q : Nat, q ≠ b ∧ ¬ (b + 13 ≤ q ∧ q < b + 17) → H3[q]? = Hk[q]? := fun q hq => (hfr q (by omega)).trans (hG q hq)
                    refine a_istore (lv' := [(4, .int (nI (drF (sdF s1) n))), (3, .int (nI (drF s1 nv))), (0, .ref b), (1, .int (nI m)), (2, .int (nI k))]) dX6_drift_104 (by decide) rfl ?_
                    refine a_aload_n 2 dX6_drift_106 rfl rfl ?_
                    refine a_aload_n 2 dX6_drift_107 rfl rfl ?_
                    refine a_iload 0 dX6_drift_108 rfl ?_
                    refine a_iload_n 1 dX6_drift_110 rfl rfl ?_
                    refine a_callVp (As := [.int (nI (drF (sdF s1) n)), .int (nI (drF s1 nv))]) (rest := [.ref b]) (d := 1) (mc := 0) (ms := 0) (x := spF d1 kV (drF (sdF s1) n) (drF s1 nv)) (ci := 6) l_X6_182 im_X6_spoken se_X6_spoken ⟨_, rfl, rfl⟩ dX6_drift_111 ⟨Nat.le_of_ble_eq_true rfl, Nat.le_of_ble_eq_true rfl⟩ rfl (Nat.le_of_ble_eq_true rfl) ⟨Nat.le_of_ble_eq_true rfl, Nat.le_of_ble_eq_true rfl⟩ hb (c_X6_spoken (drF_lt hn0) (drF_lt hv0) hC3) ?_
                    obtain ⟨c, hc, ec⟩ := sp_ok hRk hV (drF_lt hn0 : drF (sdF s1) n < n) (drF_lt hv0 : drF s1 nv < nv)
                    obtain ⟨g, hgn, hg⟩ := gu_ok hRk hc hn0
                    rw [← ec] at hg
                    have hgc : (guF n d1 (spF d1 kV (drF (sdF s1) n) (drF s1 nv))).toNatClampNeg = g := by rw [hg]; exact nI_clamp (by omega)
                    refine a_callVi (As := [.int (spF d1 kV (drF (sdF s1) n) (drF s1 nv))]) (rest := []) (d := 6) (mc := 0) (ms := 0) (x := ruF n d1 kK ka ks (spF d1 kV (drF (sdF s1) n) (drF s1 nv))) (ci := 6) l_X6_162 im_X6_takeIn se_X6_takeIn ⟨_, rfl, rfl⟩ dX6_drift_114 ⟨Nat.le_of_ble_eq_true rfl, Nat.le_of_ble_eq_true rfl⟩ rfl (Nat.le_of_ble_eq_true rfl) ⟨Nat.le_of_ble_eq_true rfl, Nat.le_of_ble_eq_true rfl⟩ hb (c_X6_takeIn hC3 hg hgn hB) (fun H5 hp5 => ?_)
                    obtain ⟨hD4, hfr⟩ := hp5
                    have hC4 := hC3.now hD4 (fun q a c => hfr q (by omega))
                    obtain ⟨fS, fU, fO, hd, hs, hu, ho, -⟩ := id hD4
                    have hb := hb.kept (hfr _ (by omega))
                    have hk3 := hk3.kept (hfr _ (by omega))
                    have ha3 := ha3.kept (hfr _ (by omega))
                    have hb3 := hb3.kept (hfr _ (by omega))
                    have hc3 := hc3.kept (hfr _ (by omega))
                    have he3 := he3.kept (hfr _ (by omega))
                    have hF : ∀ q : Nat, q ≠ b ∧ ¬ (b + 13 ≤ q ∧ q < b + 17) ∧ ¬ (b + 21 ≤ q ∧ q < b + 103) → H5[q]? = H[q]? := fun q hq => (hfr q (by omega)).trans (hF q hq)
                    have hG : ∀ q : Nat, q ≠ b ∧ ¬ (b + 13 ≤ q ∧ q < b + 17) → H5[q]? = Hk[q]? := fun q hq => (hfr q (by omega)).trans (hG q hq)
                    refine a_pop dX6_drift_117 rfl ?_
                    refine a_aload_n 2 dX6_drift_118 rfl rfl ?_
                    refine a_get f_X6_33 dX6_drift_119 hb rfl ?_
                    refine a_iload 0 dX6_drift_122 rfl ?_
                    refine a_aload_n 2 dX6_drift_124 rfl rfl ?_
                    refine a_iconst 3 dX6_drift_125 (by decide) ?_
                    have hbb3 : Ob G H5 b 6 (bxL b kr sp fp (nI (sdF (sdF s1)))) := hb
                    refine a_callVi (As := [.int 3]) (rest := [.int (nI (drF (sdF s1) n)), .ref (b + 13)]) (d := 0) (mc := 0) (ms := 0) (x := nI (drF (sdF (sdF s1)) 3)) (ci := 6) l_X6_179 im_X6_draw se_X6_draw ⟨_, rfl, rfl⟩ dX6_drift_126 ⟨Nat.le_of_ble_eq_true rfl, Nat.le_of_ble_eq_true rfl⟩ rfl (Nat.le_of_ble_eq_true rfl) ⟨Nat.le_of_ble_eq_true rfl, Nat.le_of_ble_eq_true rfl⟩ hb (c_X6_draw hbb3 sdF_lt (by decide) (by decide) hB) (fun H6 hp6 => ?_)
                    obtain ⟨hbn, hfr⟩ := hp6
                    have hC5 := hC4.box hbn hfr
                    unfold bxL at hbn
                    have hb := hbn
                    have hk3 := hk3.kept (hfr _ (by omega))
                    have ha3 := ha3.kept (hfr _ (by omega))
                    have hb3 := hb3.kept (hfr _ (by omega))
                    have hc3 := hc3.kept (hfr _ (by omega))
                    have he3 := he3.kept (hfr _ (by omega))
                    have hd := hd.kept (hfr _ (by omega))
                    have hs := hs.kept (hfr _ (by omega))
                    have hu := hu.kept (hfr _ (by omega))
                    have ho := ho.kept (hfr _ (by omega))
                    have hF : ∀ q : Nat, q ≠ b ∧ ¬ (b + 13 ≤ q ∧ q < b + 17) ∧ ¬ (b + 21 ≤ q ∧ q < b + 103) → H6[q]? = H[q]? := fun q hq => (hfr q (by omega)).trans (hF q hq)
                    have hG : ∀ q : Nat, q ≠ b ∧ ¬ (b + 13 ≤ q ∧ q < b + 17) → H6[q]? = Hk[q]? := fun q hq => (hfr q (by omega)).trans (hG q hq)
                    have h3r := drF_lt (sd := sdF (sdF s1)) (k := 3) (by decide)
                    refine a_ifneN (a := drF (sdF (sdF s1)) 3) 136 dX6_drift_129 (by decide) (by omega) (fun c129 => ?_) (fun c129 => ?_)
                    · skip
                      refine a_iconst 0 dX6_drift_136 (by decide) ?_
                      have hD5 := hC5.2.2.1
                      refine a_callVv (As := [.int (nI (drF (sdF s1) n)), .int 0]) (rest := []) (d := 3) (mc := 0) (ms := 0) (ci := 0) l_X6_185 im_X0_learn se_X0_learn ⟨_, rfl, rfl⟩ dX6_drift_137 ⟨Nat.le_of_ble_eq_true rfl, Nat.le_of_ble_eq_true rfl⟩ rfl (Nat.le_of_ble_eq_true rfl) ⟨Nat.le_of_ble_eq_true rfl, Nat.le_of_ble_eq_true rfl⟩ hd (c_X0_learn (b := false) hD5 (if_pos rfl) hgn (drF_lt hn0) (by omega)) (fun H7 hp7 => ?_)
                      obtain ⟨hD6, hfr⟩ := hp7
                      have hD7 : Dd G H7 (b + 13) n (if drF (sdF (sdF s1)) 3 = 0 ∧ g ≠ drF (sdF s1) n then crF (hrF d1 g (ruF n d1 kK ka ks (spF d1 kV (drF (sdF s1) n) (drF s1 nv)))) g (drF (sdF s1) n) else cfF (hrF d1 g (ruF n d1 kK ka ks (spF d1 kV (drF (sdF s1) n) (drF s1 nv)))) g) := by simpa [c129] using hD6
                      have hC6 := hC5.now hD7 (fun q a c => hfr q (by omega))
                      have hb := hb.kept (hfr _ (by omega))
                      have hk3 := hk3.kept (hfr _ (by omega))
                      have ha3 := ha3.kept (hfr _ (by omega))
                      have hb3 := hb3.kept (hfr _ (by omega))
                      have hc3 := hc3.kept (hfr _ (by omega))
                      have he3 := he3.kept (hfr _ (by omega))
                      have hF : ∀ q : Nat, q ≠ b ∧ ¬ (b + 13 ≤ q ∧ q < b + 17) ∧ ¬ (b + 21 ≤ q ∧ q < b + 103) → H7[q]? = H[q]? := fun q hq => (hfr q (by omega)).trans (hF q hq)
                      have hG : ∀ q : Nat, q ≠ b ∧ ¬ (b + 13 ≤ q ∧ q < b + 17) → H7[q]? = Hk[q]? := fun q hq => (hfr q (by omega)).trans (hG q hq)
                      have hPs2 := hPs1.kept (H1 := H7) (fun q a c => hG q (by omega))
                      have hRk2 : RG n (if drF (sdF (sdF s1)) 3 = 0 ∧ g ≠ drF (sdF s1) n then crF (hrF d1 g (ruF n d1 kK ka ks (spF d1 kV (drF (sdF s1) n) (drF s1 nv)))) g (drF (sdF s1) n) else cfF (hrF d1 g (ruF n d1 kK ka ks (spF d1 kV (drF (sdF s1) n) (drF s1 nv)))) g) := by split; { exact cr_ok hn (hr_ok hn hRk hgn) hgn (drF_lt hn0) }; { exact cf_ok hn (hr_ok hn hRk hgn) hgn }
                      refine a_iincN (q := 4) (lv' := [(2, .int (nI (k + 1))), (4, .int (nI (drF (sdF s1) n))), (3, .int (nI (drF s1 nv))), (0, .ref b), (1, .int (nI m))]) dX6_drift_140 rfl (by decide) rfl ?_
                      refine a_goto 76 dX6_drift_143 (by decide) ?_
                      refine a_sub [3, 4, 0] rfl ?_
                      exact ih76 _ _ _ _ (by omega) (by simp only [dfS]; rw [hr]; simp only [dfX]; rw [hgc]) hC6 hPs2 hRk2 sdF_lt hF (by omega)
                    · skip
                      refine a_iconst 1 dX6_drift_132 (by decide) ?_
                      refine a_goto 137 dX6_drift_133 (by decide) ?_
                      have hD5 := hC5.2.2.1
                      refine a_callVv (As := [.int (nI (drF (sdF s1) n)), .int 1]) (rest := []) (d := 3) (mc := 0) (ms := 0) (ci := 0) l_X6_185 im_X0_learn se_X0_learn ⟨_, rfl, rfl⟩ dX6_drift_137 ⟨Nat.le_of_ble_eq_true rfl, Nat.le_of_ble_eq_true rfl⟩ rfl (Nat.le_of_ble_eq_true rfl) ⟨Nat.le_of_ble_eq_true rfl, Nat.le_of_ble_eq_true rfl⟩ hd (c_X0_learn (b := true) hD5 (if_pos rfl) hgn (drF_lt hn0) (by omega)) (fun H8 hp8 => ?_)
                      obtain ⟨hD6, hfr⟩ := hp8
                      have hD7 : Dd G H8 (b + 13) n (if drF (sdF (sdF s1)) 3 = 0 ∧ g ≠ drF (sdF s1) n then crF (hrF d1 g (ruF n d1 kK ka ks (spF d1 kV (drF (sdF s1) n) (drF s1 nv)))) g (drF (sdF s1) n) else cfF (hrF d1 g (ruF n d1 kK ka ks (spF d1 kV (drF (sdF s1) n) (drF s1 nv)))) g) := by simpa [c129] using hD6
                      have hC6 := hC5.now hD7 (fun q a c => hfr q (by omega))
                      have hb := hb.kept (hfr _ (by omega))
                      have hk3 := hk3.kept (hfr _ (by omega))
                      have ha3 := ha3.kept (hfr _ (by omega))
                      have hb3 := hb3.kept (hfr _ (by omega))
                      have hc3 := hc3.kept (hfr _ (by omega))
                      have he3 := he3.kept (hfr _ (by omega))
                      have hF : ∀ q : Nat, q ≠ b ∧ ¬ (b + 13 ≤ q ∧ q < b + 17) ∧ ¬ (b + 21 ≤ q ∧ q < b + 103) → H8[q]? = H[q]? := fun q hq => (hfr q (by omega)).trans (hF q hq)
                      have hG : ∀ q : Nat, q ≠ b ∧ ¬ (b + 13 ≤ q ∧ q < b + 17) → H8[q]? = Hk[q]? := fun q hq => (hfr q (by omega)).trans (hG q hq)
                      have hPs2 := hPs1.kept (H1 := H8) (fun q a c => hG q (by omega))
                      have hRk2 : RG n (if drF (sdF (sdF s1)) 3 = 0 ∧ g ≠ drF (sdF s1) n then crF (hrF d1 g (ruF n d1 kK ka ks (spF d1 kV (drF (sdF s1) n) (drF s1 nv)))) g (drF (sdF s1) n) else cfF (hrF d1 g (ruF n d1 kK ka ks (spF d1 kV (drF (sdF s1) n) (drF s1 nv)))) g) := by split; { exact cr_ok hn (hr_ok hn hRk hgn) hgn (drF_lt hn0) }; { exact cf_ok hn (hr_ok hn hRk hgn) hgn }
                      refine a_iincN (q := 4) (lv' := [(2, .int (nI (k + 1))), (4, .int (nI (drF (sdF s1) n))), (3, .int (nI (drF s1 nv))), (0, .ref b), (1, .int (nI m))]) dX6_drift_140 rfl (by decide) rfl ?_
                      refine a_goto 76 dX6_drift_143 (by decide) ?_
                      refine a_sub [3, 4, 0] rfl ?_
                      exact ih76 _ _ _ _ (by omega) (by simp only [dfS]; rw [hr]; simp only [dfX]; rw [hgc]) hC6 hPs2 hRk2 sdF_lt hF (by omega)
              refine a_sub [1, 2, 0] rfl ?_
              exact L76 _ 0 _ dd sd (Nat.zero_le _) rfl hC1 hPs1 hRG hsd hF (Nat.lt_succ_self _)
        · skip
          exact absurd hh c37
      · skip
        exact absurd c21 (by rw [hkb]; decide)
    · skip
      omega
set_option maxHeartbeats 4000000 in
set_option maxRecDepth 100000 in
theorem c_X6_drift_empty {G : GT} {B : Nat} {l : Launch} {H : Heap} {b : Nat} {tx : Nat → Nat} {L : Nat} {fp : Int32} {kb : Bool} {ka ks kw : Int32} {n nv : Nat} {kK kV dd : DD} {sd nx ct : Nat} {pu : Nat → DD} {sn : Nat} {sw sg : Nat → Nat} {bn : Nat} {bw : Nat → Nat} {bt : DD} {ik : Nat → Bool} {iD : Nat → DD} {iS : Nat → Nat} {m : Nat} (hm1 : 1 ≤ m) (hm2 : m ≤ 60) (hkb : kb = true) (hh : dd 24 ≤ 9000) (hz : n = 0 ∨ nv = 0) (hX : Bx G H b tx L fp kb ka ks kw n nv kK kV dd sd nx ct pu sn sw sg bn bw bt ik iD iS) (hB : B ≤ b) : AM G B l yX6_drift cX6_drift 5 (some .int) 7 0 0 [.ref b, .int (nI m)] H (fun rv H' => rv = some (.int (dd 25)) ∧ (Bx G H' b tx L fp kb ka ks kw n nv kK kV dd sd ((nx + 1) % 20) (min (ct + 1) 20) (fun i => if i = nx then dd else pu i) sn sw sg bn bw bt ik iD iS ∧ ∀ q : Nat, ¬ (b ≤ q ∧ q < b + 120) → H'[q]? = H[q]?)) := by
  have hX0 := hX
  obtain ⟨kr, sp, kS, kU, hC, hR2, hK2, hT2, hPs, hSe, hBo, hIm⟩ := hX
  have hC0 := hC
  obtain ⟨hb, hK, hD, hkr⟩ := hC
  have hK0 := hK
  have hN := hD
  unfold bxL at hb
  obtain ⟨fS3, fU3, fK3, fV3, hk3, ha3, hb3, hc3, he3, eS3, eU3, eK3, eV3, hn3, hnv3⟩ := hK
  obtain ⟨fS, fU, fO, hd, hs, hu, ho, eS, eU, eO, hn⟩ := hD
  have hpo := hPs.1
  have hse := hSe
  have hbo := hBo
  obtain ⟨fA, fB, hsp, hsa, hsb, eA, eB, hsN, -⟩ := hse
  obtain ⟨fA2, fB2, hbp, hba, hbb, eA2, eB2, hbN, -⟩ := hbo
  have hF : ∀ q : Nat, ¬ (b + 13 ≤ q ∧ q < b + 17) ∧ ¬ (b + 21 ≤ q ∧ q < b + 103) → H[q]? = H[q]? := fun _ _ => rfl
  refine AM.ofI (lv := [(0, .ref b), (1, .int (nI m))]) (by decide +kernel) (Nat.le_of_ble_eq_true rfl) rfl ?_ (fun _ h => by cases h.1)
  refine a_iload_n 1 dX6_drift_0 rfl rfl ?_
  refine a_iconst 1 dX6_drift_1 (by decide) ?_
  refine a_icmpltN (a := m) (b := 1) 11 dX6_drift_2 (by decide) (by omega) (by omega) (fun c2 => ?_) (fun c2 => ?_)
  · skip
    omega
  · skip
    refine a_iload_n 1 dX6_drift_5 rfl rfl ?_
    refine a_bipush 60 dX6_drift_6 (by decide) ?_
    refine a_icmpleN (a := m) (b := 60) 14 dX6_drift_8 (by decide) (by omega) (by omega) (fun c8 => ?_) (fun c8 => ?_)
    · skip
      refine a_aload_n 0 dX6_drift_14 rfl rfl ?_
      refine a_get f_X6_23 dX6_drift_15 hb rfl ?_
      refine a_get f_X6_176 dX6_drift_18 hk3 rfl ?_
      refine a_ifneB 27 dX6_drift_21 (by decide) (fun c21 => ?_) (fun c21 => ?_)
      · skip
        refine a_aload_n 0 dX6_drift_27 rfl rfl ?_
        refine a_get f_X6_33 dX6_drift_28 hb rfl ?_
        refine a_get f_X6_115 dX6_drift_31 hd rfl ?_
        refine a_sipush 9000 dX6_drift_34 (by decide) ?_
        refine a_icmple 43 dX6_drift_37 (by decide) (fun c37 => ?_) (fun c37 => ?_)
        · skip
          refine a_aload_n 0 dX6_drift_43 rfl rfl ?_
          refine a_get f_X6_43 dX6_drift_44 hb rfl ?_
          refine a_aload_n 0 dX6_drift_47 rfl rfl ?_
          refine a_get f_X6_33 dX6_drift_48 hb rfl ?_
          refine a_callVv (As := [.ref (b + 13)]) (rest := []) (d := 2) (mc := 0) (ms := 0) (ci := 4) l_X6_158 im_X4_push se_X4_push ⟨_, rfl, rfl⟩ dX6_drift_51 ⟨Nat.le_of_ble_eq_true rfl, Nat.le_of_ble_eq_true rfl⟩ rfl (Nat.le_of_ble_eq_true rfl) ⟨Nat.le_of_ble_eq_true rfl, Nat.le_of_ble_eq_true rfl⟩ hpo (c_X4_push hN (by omega) hPs (by omega)) (fun H1 hp1 => ?_)
          obtain ⟨hPs1, hfr⟩ := hp1
          have hC1 := hC0.kept (H1 := H1) (fun q a c => hfr q (by omega))
          have hN1 := hC1.2.2.1
          have hb := hb.kept (hfr _ (by omega))
          have hk3 := hk3.kept (hfr _ (by omega))
          have ha3 := ha3.kept (hfr _ (by omega))
          have hb3 := hb3.kept (hfr _ (by omega))
          have hc3 := hc3.kept (hfr _ (by omega))
          have he3 := he3.kept (hfr _ (by omega))
          have hd := hd.kept (hfr _ (by omega))
          have hs := hs.kept (hfr _ (by omega))
          have hu := hu.kept (hfr _ (by omega))
          have ho := ho.kept (hfr _ (by omega))
          have hsp := hsp.kept (hfr _ (by omega))
          have hbp := hbp.kept (hfr _ (by omega))
          have hF : ∀ q : Nat, ¬ (b + 13 ≤ q ∧ q < b + 17) ∧ ¬ (b + 21 ≤ q ∧ q < b + 103) → H1[q]? = H[q]? := fun q hq => (hfr q (by omega)).trans (hF q hq)
          refine a_aload_n 0 dX6_drift_54 rfl rfl ?_
          refine a_get f_X6_23 dX6_drift_55 hb rfl ?_
          refine a_get f_X6_100 dX6_drift_58 hk3 rfl ?_
          refine a_ifleN (a := n) 146 dX6_drift_61 (by decide) (by omega) (fun c61 => ?_) (fun c61 => ?_)
          · skip
            refine a_aload_n 0 dX6_drift_146 rfl rfl ?_
            refine a_get f_X6_33 dX6_drift_147 hb rfl ?_
            refine a_get f_X6_118 dX6_drift_150 hd rfl ?_
            refine a_ret dX6_drift_153 ⟨⟨ri ?_, ?_⟩, rfl, rfl⟩
            · rfl
            · exact ⟨⟨kr, sp, kS, kU, hC1, hR2.kept (fun q a c => hF q (by omega)), hK2.kept (fun q a c => hF q (by omega)), hT2.kept (fun q a c => hF q (by omega)), hPs1, hSe.kept (fun q a c => hF q (by omega)), hBo.kept (fun q a c => hF q (by omega)), hIm.kept (fun q a => hF q (by omega))⟩, fun q hq => hF q (by omega)⟩
          · skip
            refine a_aload_n 0 dX6_drift_64 rfl rfl ?_
            refine a_get f_X6_23 dX6_drift_65 hb rfl ?_
            refine a_get f_X6_112 dX6_drift_68 hk3 rfl ?_
            refine a_ifleN (a := nv) 146 dX6_drift_71 (by decide) (by omega) (fun c71 => ?_) (fun c71 => ?_)
            · skip
              refine a_aload_n 0 dX6_drift_146 rfl rfl ?_
              refine a_get f_X6_33 dX6_drift_147 hb rfl ?_
              refine a_get f_X6_118 dX6_drift_150 hd rfl ?_
              refine a_ret dX6_drift_153 ⟨⟨ri ?_, ?_⟩, rfl, rfl⟩
              · rfl
              · exact ⟨⟨kr, sp, kS, kU, hC1, hR2.kept (fun q a c => hF q (by omega)), hK2.kept (fun q a c => hF q (by omega)), hT2.kept (fun q a c => hF q (by omega)), hPs1, hSe.kept (fun q a c => hF q (by omega)), hBo.kept (fun q a c => hF q (by omega)), hIm.kept (fun q a => hF q (by omega))⟩, fun q hq => hF q (by omega)⟩
            · skip
              omega
        · skip
          exact absurd hh c37
      · skip
        exact absurd c21 (by rw [hkb]; decide)
    · skip
      omega
set_option maxHeartbeats 4000000 in
set_option maxRecDepth 100000 in
theorem c_X6_drift_out {G : GT} {B : Nat} {l : Launch} {H : Heap} {b : Nat} {tx : Nat → Nat} {L : Nat} {fp : Int32} {kb : Bool} {ka ks kw : Int32} {n nv : Nat} {kK kV dd : DD} {sd nx ct : Nat} {pu : Nat → DD} {sn : Nat} {sw sg : Nat → Nat} {bn : Nat} {bw : Nat → Nat} {bt : DD} {ik : Nat → Bool} {iD : Nat → DD} {iS : Nat → Nat} {m : Int32} (hq : m < 1 ∨ ¬ m ≤ 60) (hX : Bx G H b tx L fp kb ka ks kw n nv kK kV dd sd nx ct pu sn sw sg bn bw bt ik iD iS) (hB : B ≤ b) : AM G B l yX6_drift cX6_drift 5 (some .int) 7 0 0 [.ref b, .int m] H (fun rv H' => rv = some (.int (-1000000002)) ∧ (H' = H)) := by
  have hX0 := hX
  obtain ⟨kr, sp, kS, kU, hC, hR2, hK2, hT2, hPs, hSe, hBo, hIm⟩ := hX
  have hC0 := hC
  obtain ⟨hb, hK, hD, hkr⟩ := hC
  have hK0 := hK
  have hN := hD
  unfold bxL at hb
  obtain ⟨fS3, fU3, fK3, fV3, hk3, ha3, hb3, hc3, he3, eS3, eU3, eK3, eV3, hn3, hnv3⟩ := hK
  obtain ⟨fS, fU, fO, hd, hs, hu, ho, eS, eU, eO, hn⟩ := hD
  have hpo := hPs.1
  have hse := hSe
  have hbo := hBo
  obtain ⟨fA, fB, hsp, hsa, hsb, eA, eB, hsN, -⟩ := hse
  obtain ⟨fA2, fB2, hbp, hba, hbb, eA2, eB2, hbN, -⟩ := hbo
  refine AM.ofI (lv := [(0, .ref b), (1, .int m)]) (by decide +kernel) (Nat.le_of_ble_eq_true rfl) rfl ?_ (fun _ h => by cases h.1)
  refine a_iload_n 1 dX6_drift_0 rfl rfl ?_
  refine a_iconst 1 dX6_drift_1 (by decide) ?_
  refine a_icmplt 11 dX6_drift_2 (by decide) (fun c2 => ?_) (fun c2 => ?_)
  · skip
    refine a_ldc (-1000000002) k_X6_69 dX6_drift_11 ?_
    refine a_ret dX6_drift_13 ⟨⟨ri ?_, ?_⟩, rfl, rfl⟩
    · rfl
    · rfl
  · skip
    refine a_iload_n 1 dX6_drift_5 rfl rfl ?_
    refine a_bipush 60 dX6_drift_6 (by decide) ?_
    refine a_icmple 14 dX6_drift_8 (by decide) (fun c8 => ?_) (fun c8 => ?_)
    · skip
      exact (hq.elim c2 (fun h => h c8)).elim
    · skip
      refine a_ldc (-1000000002) k_X6_69 dX6_drift_11 ?_
      refine a_ret dX6_drift_13 ⟨⟨ri ?_, ?_⟩, rfl, rfl⟩
      · rfl
      · rfl
set_option maxHeartbeats 4000000 in
set_option maxRecDepth 100000 in
theorem c_X6_drift_not {G : GT} {B : Nat} {l : Launch} {H : Heap} {b : Nat} {tx : Nat → Nat} {L : Nat} {fp : Int32} {kb : Bool} {ka ks kw : Int32} {n nv : Nat} {kK kV dd : DD} {sd nx ct : Nat} {pu : Nat → DD} {sn : Nat} {sw sg : Nat → Nat} {bn : Nat} {bw : Nat → Nat} {bt : DD} {ik : Nat → Bool} {iD : Nat → DD} {iS : Nat → Nat} {m : Nat} (hm1 : 1 ≤ m) (hm2 : m ≤ 60) (hkb : kb = false) (hX : Bx G H b tx L fp kb ka ks kw n nv kK kV dd sd nx ct pu sn sw sg bn bw bt ik iD iS) (hB : B ≤ b) : AM G B l yX6_drift cX6_drift 5 (some .int) 7 0 0 [.ref b, .int (nI m)] H (fun rv H' => rv = some (.int (-1000000003)) ∧ (H' = H)) := by
  have hX0 := hX
  obtain ⟨kr, sp, kS, kU, hC, hR2, hK2, hT2, hPs, hSe, hBo, hIm⟩ := hX
  have hC0 := hC
  obtain ⟨hb, hK, hD, hkr⟩ := hC
  have hK0 := hK
  have hN := hD
  unfold bxL at hb
  obtain ⟨fS3, fU3, fK3, fV3, hk3, ha3, hb3, hc3, he3, eS3, eU3, eK3, eV3, hn3, hnv3⟩ := hK
  obtain ⟨fS, fU, fO, hd, hs, hu, ho, eS, eU, eO, hn⟩ := hD
  have hpo := hPs.1
  have hse := hSe
  have hbo := hBo
  obtain ⟨fA, fB, hsp, hsa, hsb, eA, eB, hsN, -⟩ := hse
  obtain ⟨fA2, fB2, hbp, hba, hbb, eA2, eB2, hbN, -⟩ := hbo
  refine AM.ofI (lv := [(0, .ref b), (1, .int (nI m))]) (by decide +kernel) (Nat.le_of_ble_eq_true rfl) rfl ?_ (fun _ h => by cases h.1)
  refine a_iload_n 1 dX6_drift_0 rfl rfl ?_
  refine a_iconst 1 dX6_drift_1 (by decide) ?_
  refine a_icmpltN (a := m) (b := 1) 11 dX6_drift_2 (by decide) (by omega) (by omega) (fun c2 => ?_) (fun c2 => ?_)
  · skip
    omega
  · skip
    refine a_iload_n 1 dX6_drift_5 rfl rfl ?_
    refine a_bipush 60 dX6_drift_6 (by decide) ?_
    refine a_icmpleN (a := m) (b := 60) 14 dX6_drift_8 (by decide) (by omega) (by omega) (fun c8 => ?_) (fun c8 => ?_)
    · skip
      refine a_aload_n 0 dX6_drift_14 rfl rfl ?_
      refine a_get f_X6_23 dX6_drift_15 hb rfl ?_
      refine a_get f_X6_176 dX6_drift_18 hk3 rfl ?_
      refine a_ifneB 27 dX6_drift_21 (by decide) (fun c21 => ?_) (fun c21 => ?_)
      · skip
        exact absurd c21 (by rw [hkb]; decide)
      · skip
        refine a_ldc (-1000000003) k_X6_157 dX6_drift_24 ?_
        refine a_ret dX6_drift_26 ⟨⟨ri ?_, ?_⟩, rfl, rfl⟩
        · rfl
        · rfl
    · skip
      omega
set_option maxHeartbeats 4000000 in
set_option maxRecDepth 100000 in
theorem c_X6_drift_full {G : GT} {B : Nat} {l : Launch} {H : Heap} {b : Nat} {tx : Nat → Nat} {L : Nat} {fp : Int32} {kb : Bool} {ka ks kw : Int32} {n nv : Nat} {kK kV dd : DD} {sd nx ct : Nat} {pu : Nat → DD} {sn : Nat} {sw sg : Nat → Nat} {bn : Nat} {bw : Nat → Nat} {bt : DD} {ik : Nat → Bool} {iD : Nat → DD} {iS : Nat → Nat} {m : Nat} (hm1 : 1 ≤ m) (hm2 : m ≤ 60) (hkb : kb = true) (hh : ¬ dd 24 ≤ 9000) (hX : Bx G H b tx L fp kb ka ks kw n nv kK kV dd sd nx ct pu sn sw sg bn bw bt ik iD iS) (hB : B ≤ b) : AM G B l yX6_drift cX6_drift 5 (some .int) 7 0 0 [.ref b, .int (nI m)] H (fun rv H' => rv = some (.int (-1000000004)) ∧ (H' = H)) := by
  have hX0 := hX
  obtain ⟨kr, sp, kS, kU, hC, hR2, hK2, hT2, hPs, hSe, hBo, hIm⟩ := hX
  have hC0 := hC
  obtain ⟨hb, hK, hD, hkr⟩ := hC
  have hK0 := hK
  have hN := hD
  unfold bxL at hb
  obtain ⟨fS3, fU3, fK3, fV3, hk3, ha3, hb3, hc3, he3, eS3, eU3, eK3, eV3, hn3, hnv3⟩ := hK
  obtain ⟨fS, fU, fO, hd, hs, hu, ho, eS, eU, eO, hn⟩ := hD
  have hpo := hPs.1
  have hse := hSe
  have hbo := hBo
  obtain ⟨fA, fB, hsp, hsa, hsb, eA, eB, hsN, -⟩ := hse
  obtain ⟨fA2, fB2, hbp, hba, hbb, eA2, eB2, hbN, -⟩ := hbo
  refine AM.ofI (lv := [(0, .ref b), (1, .int (nI m))]) (by decide +kernel) (Nat.le_of_ble_eq_true rfl) rfl ?_ (fun _ h => by cases h.1)
  refine a_iload_n 1 dX6_drift_0 rfl rfl ?_
  refine a_iconst 1 dX6_drift_1 (by decide) ?_
  refine a_icmpltN (a := m) (b := 1) 11 dX6_drift_2 (by decide) (by omega) (by omega) (fun c2 => ?_) (fun c2 => ?_)
  · skip
    omega
  · skip
    refine a_iload_n 1 dX6_drift_5 rfl rfl ?_
    refine a_bipush 60 dX6_drift_6 (by decide) ?_
    refine a_icmpleN (a := m) (b := 60) 14 dX6_drift_8 (by decide) (by omega) (by omega) (fun c8 => ?_) (fun c8 => ?_)
    · skip
      refine a_aload_n 0 dX6_drift_14 rfl rfl ?_
      refine a_get f_X6_23 dX6_drift_15 hb rfl ?_
      refine a_get f_X6_176 dX6_drift_18 hk3 rfl ?_
      refine a_ifneB 27 dX6_drift_21 (by decide) (fun c21 => ?_) (fun c21 => ?_)
      · skip
        refine a_aload_n 0 dX6_drift_27 rfl rfl ?_
        refine a_get f_X6_33 dX6_drift_28 hb rfl ?_
        refine a_get f_X6_115 dX6_drift_31 hd rfl ?_
        refine a_sipush 9000 dX6_drift_34 (by decide) ?_
        refine a_icmple 43 dX6_drift_37 (by decide) (fun c37 => ?_) (fun c37 => ?_)
        · skip
          exact absurd c37 (hh)
        · skip
          refine a_ldc (-1000000004) k_X6_77 dX6_drift_40 ?_
          refine a_ret dX6_drift_42 ⟨⟨ri ?_, ?_⟩, rfl, rfl⟩
          · rfl
          · rfl
      · skip
        exact absurd c21 (by rw [hkb]; decide)
    · skip
      omega
set_option maxHeartbeats 4000000 in
set_option maxRecDepth 100000 in
theorem c_X6_init {G : GT} {B : Nat} {l : Launch} {H : Heap} {b : Nat} (hb : Ob G H b 6 [.null, .int 0, .null, .null, .null, .null, .null, .null, .int 0, .null, .null]) (hsz : H.size = b + 1) (hB : B ≤ b) : AM G B l yX6_init cX6_init 2 none 3 119 1143 [.ref b] H (fun rv H' => rv = none ∧ ((∀ (tx : Nat → Nat) (kK kV : DD) (pu : Nat → DD) (sw sg : Nat → Nat) (bw : Nat → Nat) (bt : DD) (iD : Nat → DD) (iS : Nat → Nat), Bx G H' b tx 0 (-1) false 0 0 0 0 0 kK kV (fun i => if i = 26 then -1 else 0) 0 0 0 pu 0 sw sg 0 bw bt (fun _ => false) iD iS) ∧ H'.size = b + 120 ∧ ∀ q : Nat, q < b → H'[q]? = H[q]?)) := by
  have hZ : H.size = b + 1 := hsz
  have hF : ∀ q : Nat, q < b → H[q]? = H[q]? := fun _ _ => rfl
  refine AM.ofV (lv := [(0, .ref b)]) (by decide +kernel) (ini := true) (fun _ => rfl) (Nat.le_of_ble_eq_true rfl) rfl ?_ (fun _ _ h => h.1)
  refine a_aload_n 0 dX6_init_0 rfl rfl ?_
  refine a_objI oi_X6_1 dX6_init_1 (Nat.le_of_ble_eq_true rfl) (Nat.le_of_ble_eq_true rfl) ?_
  refine a_aload_n 0 dX6_init_4 rfl rfl ?_
  refine a_new (ci := 5) (N := 4) (fs := [.null, .int 0, .int 0, .int 0]) nw_X6_7 (fun q hq => by cases hq; rfl) dX6_init_5 (fun j hj => by rcases (show j = 0 ∨ j = 1 ∨ j = 2 ∨ j = 3 by omega) with rfl | rfl | rfl | rfl <;> rfl) (Nat.le_of_ble_eq_true rfl) (Nat.le_of_ble_eq_true rfl) (fun H1 hr0 hz1 hq1 => ?_)
  have hA1 : H.size = b + 1 := by omega
  rw [hA1] at hr0 hz1 hq1
  rw [hA1]
  have hb := hb.kept (hq1 _ (by omega))
  replace hZ : H1.size = b + 1 + 1 := hz1
  clear hz1 hA1
  have hF : ∀ q : Nat, q < b → H1[q]? = H[q]? := fun q hq => (hq1 q (by omega)).trans (hF q hq)
  refine a_dup dX6_init_8 rfl ?_
  refine a_callIv (As := []) (rest := [.ref (b + 1), .ref b]) (d := 1) (mc := 1) (ms := 240) l_X6_9 im_X5_init rfl dX6_init_9 ⟨Nat.le_of_ble_eq_true rfl, Nat.le_of_ble_eq_true rfl⟩ rfl (Nat.le_of_ble_eq_true rfl) ⟨Nat.le_of_ble_eq_true rfl, Nat.le_of_ble_eq_true rfl⟩ (c_X5_init hr0 (by omega) (by omega)) (fun H2 hp2 => ?_)
  clear hZ
  obtain ⟨hP1, hZ, hfr⟩ := hp2
  have hb := hb.kept (hfr _ (by omega))
  have hF : ∀ q : Nat, q < b → H2[q]? = H[q]? := fun q hq => (hfr q (by omega)).trans (hF q hq)
  have ghP1 : ∀ q : Nat, q ≠ b ∧ q < b + 3 → H2[q]? = H2[q]? := fun _ _ => rfl
  refine a_put f_X6_10 p_X6_10 dX6_init_12 hb (Nat.le_of_ble_eq_true rfl) rfl rfl (by omega) (fun H3 hb hz3 hq3 => ?_)
  have hb : Ob G H3 b 6 [.ref (b + 1), .int 0, .null, .null, .null, .null, .null, .null, .int 0, .null, .null] := hb
  have hF : ∀ q : Nat, q < b → H3[q]? = H[q]? := fun q hq => (hq3 q (by omega)).trans (hF q hq)
  have ghP1 : ∀ q : Nat, q ≠ b ∧ q < b + 3 → H3[q]? = H2[q]? := fun q hq => (hq3 q (by omega)).trans (ghP1 q hq)
  replace hZ := hz3.trans hZ
  clear hz3
  refine a_aload_n 0 dX6_init_15 rfl rfl ?_
  refine a_iconst (-1) dX6_init_16 (by decide) ?_
  refine a_put f_X6_16 p_X6_16 dX6_init_17 hb (Nat.le_of_ble_eq_true rfl) rfl rfl (by omega) (fun H4 hb hz4 hq4 => ?_)
  have hb : Ob G H4 b 6 [.ref (b + 1), .int (-1), .null, .null, .null, .null, .null, .null, .int 0, .null, .null] := hb
  have hF : ∀ q : Nat, q < b → H4[q]? = H[q]? := fun q hq => (hq4 q (by omega)).trans (hF q hq)
  have ghP1 : ∀ q : Nat, q ≠ b ∧ q < b + 3 → H4[q]? = H2[q]? := fun q hq => (hq4 q (by omega)).trans (ghP1 q hq)
  replace hZ := hz4.trans hZ
  clear hz4
  refine a_aload_n 0 dX6_init_20 rfl rfl ?_
  refine a_new (ci := 2) (N := 10) (fs := [.int 0, .int 0, .int 0, .int 0, .int 0, .int 0, .null, .null, .null, .null]) nw_X6_20 (fun q hq => by cases hq; rfl) dX6_init_21 (fun j hj => by rcases (show j = 0 ∨ j = 1 ∨ j = 2 ∨ j = 3 ∨ j = 4 ∨ j = 5 ∨ j = 6 ∨ j = 7 ∨ j = 8 ∨ j = 9 by omega) with rfl | rfl | rfl | rfl | rfl | rfl | rfl | rfl | rfl | rfl <;> rfl) (Nat.le_of_ble_eq_true rfl) (Nat.le_of_ble_eq_true rfl) (fun H5 hk0 hz5 hq5 => ?_)
  have hA5 : H4.size = b + 3 := by omega
  rw [hA5] at hk0 hz5 hq5
  rw [hA5]
  have hb := hb.kept (hq5 _ (by omega))
  replace hZ : H5.size = b + 3 + 1 := hz5
  clear hz5 hA5
  have hF : ∀ q : Nat, q < b → H5[q]? = H[q]? := fun q hq => (hq5 q (by omega)).trans (hF q hq)
  have ghP1 : ∀ q : Nat, q ≠ b ∧ q < b + 3 → H5[q]? = H2[q]? := fun q hq => (hq5 q (by omega)).trans (ghP1 q hq)
  refine a_dup dX6_init_24 rfl ?_
  refine a_callIv (As := []) (rest := [.ref (b + 3), .ref b]) (d := 1) (mc := 4) (ms := 28) l_X6_22 im_X2_init rfl dX6_init_25 ⟨Nat.le_of_ble_eq_true rfl, Nat.le_of_ble_eq_true rfl⟩ rfl (Nat.le_of_ble_eq_true rfl) ⟨Nat.le_of_ble_eq_true rfl, Nat.le_of_ble_eq_true rfl⟩ (c_X2_init hk0 (by omega) (by omega)) (fun H6 hp6 => ?_)
  clear hZ
  obtain ⟨hP2, hZ, hfr⟩ := hp6
  have hb := hb.kept (hfr _ (by omega))
  have hF : ∀ q : Nat, q < b → H6[q]? = H[q]? := fun q hq => (hfr q (by omega)).trans (hF q hq)
  have ghP1 : ∀ q : Nat, q ≠ b ∧ q < b + 3 → H6[q]? = H2[q]? := fun q hq => (hfr q (by omega)).trans (ghP1 q hq)
  have ghP2 : ∀ q : Nat, q ≠ b ∧ q < b + 8 → H6[q]? = H6[q]? := fun _ _ => rfl
  refine a_put f_X6_23 p_X6_23 dX6_init_28 hb (Nat.le_of_ble_eq_true rfl) rfl rfl (by omega) (fun H7 hb hz7 hq7 => ?_)
  have hb : Ob G H7 b 6 [.ref (b + 1), .int (-1), .ref (b + 3), .null, .null, .null, .null, .null, .int 0, .null, .null] := hb
  have hF : ∀ q : Nat, q < b → H7[q]? = H[q]? := fun q hq => (hq7 q (by omega)).trans (hF q hq)
  have ghP1 : ∀ q : Nat, q ≠ b ∧ q < b + 3 → H7[q]? = H2[q]? := fun q hq => (hq7 q (by omega)).trans (ghP1 q hq)
  have ghP2 : ∀ q : Nat, q ≠ b ∧ q < b + 8 → H7[q]? = H6[q]? := fun q hq => (hq7 q (by omega)).trans (ghP2 q hq)
  replace hZ := hz7.trans hZ
  clear hz7
  refine a_aload_n 0 dX6_init_31 rfl rfl ?_
  refine a_new (ci := 2) (N := 10) (fs := [.int 0, .int 0, .int 0, .int 0, .int 0, .int 0, .null, .null, .null, .null]) nw_X6_20 (fun q hq => by cases hq; rfl) dX6_init_32 (fun j hj => by rcases (show j = 0 ∨ j = 1 ∨ j = 2 ∨ j = 3 ∨ j = 4 ∨ j = 5 ∨ j = 6 ∨ j = 7 ∨ j = 8 ∨ j = 9 by omega) with rfl | rfl | rfl | rfl | rfl | rfl | rfl | rfl | rfl | rfl <;> rfl) (Nat.le_of_ble_eq_true rfl) (Nat.le_of_ble_eq_true rfl) (fun H8 hk1 hz8 hq8 => ?_)
  have hA8 : H7.size = b + 8 := by omega
  rw [hA8] at hk1 hz8 hq8
  rw [hA8]
  have hb := hb.kept (hq8 _ (by omega))
  replace hZ : H8.size = b + 8 + 1 := hz8
  clear hz8 hA8
  have hF : ∀ q : Nat, q < b → H8[q]? = H[q]? := fun q hq => (hq8 q (by omega)).trans (hF q hq)
  have ghP1 : ∀ q : Nat, q ≠ b ∧ q < b + 3 → H8[q]? = H2[q]? := fun q hq => (hq8 q (by omega)).trans (ghP1 q hq)
  have ghP2 : ∀ q : Nat, q ≠ b ∧ q < b + 8 → H8[q]? = H6[q]? := fun q hq => (hq8 q (by omega)).trans (ghP2 q hq)
  refine a_dup dX6_init_35 rfl ?_
  refine a_callIv (As := []) (rest := [.ref (b + 8), .ref b]) (d := 1) (mc := 4) (ms := 28) l_X6_22 im_X2_init rfl dX6_init_36 ⟨Nat.le_of_ble_eq_true rfl, Nat.le_of_ble_eq_true rfl⟩ rfl (Nat.le_of_ble_eq_true rfl) ⟨Nat.le_of_ble_eq_true rfl, Nat.le_of_ble_eq_true rfl⟩ (c_X2_init hk1 (by omega) (by omega)) (fun H9 hp9 => ?_)
  clear hZ
  obtain ⟨hP3, hZ, hfr⟩ := hp9
  have hb := hb.kept (hfr _ (by omega))
  have hF : ∀ q : Nat, q < b → H9[q]? = H[q]? := fun q hq => (hfr q (by omega)).trans (hF q hq)
  have ghP1 : ∀ q : Nat, q ≠ b ∧ q < b + 3 → H9[q]? = H2[q]? := fun q hq => (hfr q (by omega)).trans (ghP1 q hq)
  have ghP2 : ∀ q : Nat, q ≠ b ∧ q < b + 8 → H9[q]? = H6[q]? := fun q hq => (hfr q (by omega)).trans (ghP2 q hq)
  have ghP3 : ∀ q : Nat, q ≠ b ∧ q < b + 13 → H9[q]? = H9[q]? := fun _ _ => rfl
  refine a_put f_X6_27 p_X6_27 dX6_init_39 hb (Nat.le_of_ble_eq_true rfl) rfl rfl (by omega) (fun H10 hb hz10 hq10 => ?_)
  have hb : Ob G H10 b 6 [.ref (b + 1), .int (-1), .ref (b + 3), .ref (b + 8), .null, .null, .null, .null, .int 0, .null, .null] := hb
  have hF : ∀ q : Nat, q < b → H10[q]? = H[q]? := fun q hq => (hq10 q (by omega)).trans (hF q hq)
  have ghP1 : ∀ q : Nat, q ≠ b ∧ q < b + 3 → H10[q]? = H2[q]? := fun q hq => (hq10 q (by omega)).trans (ghP1 q hq)
  have ghP2 : ∀ q : Nat, q ≠ b ∧ q < b + 8 → H10[q]? = H6[q]? := fun q hq => (hq10 q (by omega)).trans (ghP2 q hq)
  have ghP3 : ∀ q : Nat, q ≠ b ∧ q < b + 13 → H10[q]? = H9[q]? := fun q hq => (hq10 q (by omega)).trans (ghP3 q hq)
  replace hZ := hz10.trans hZ
  clear hz10
  refine a_aload_n 0 dX6_init_42 rfl rfl ?_
  refine a_new (ci := 0) (N := 7) (fs := [.int 0, .null, .null, .null, .int 0, .int 0, .int 0]) nw_X6_30 (fun q hq => by cases hq; rfl) dX6_init_43 (fun j hj => by rcases (show j = 0 ∨ j = 1 ∨ j = 2 ∨ j = 3 ∨ j = 4 ∨ j = 5 ∨ j = 6 by omega) with rfl | rfl | rfl | rfl | rfl | rfl | rfl <;> rfl) (Nat.le_of_ble_eq_true rfl) (Nat.le_of_ble_eq_true rfl) (fun H11 hd0 hz11 hq11 => ?_)
  have hA11 : H10.size = b + 13 := by omega
  rw [hA11] at hd0 hz11 hq11
  rw [hA11]
  have hb := hb.kept (hq11 _ (by omega))
  replace hZ : H11.size = b + 13 + 1 := hz11
  clear hz11 hA11
  have hF : ∀ q : Nat, q < b → H11[q]? = H[q]? := fun q hq => (hq11 q (by omega)).trans (hF q hq)
  have ghP1 : ∀ q : Nat, q ≠ b ∧ q < b + 3 → H11[q]? = H2[q]? := fun q hq => (hq11 q (by omega)).trans (ghP1 q hq)
  have ghP2 : ∀ q : Nat, q ≠ b ∧ q < b + 8 → H11[q]? = H6[q]? := fun q hq => (hq11 q (by omega)).trans (ghP2 q hq)
  have ghP3 : ∀ q : Nat, q ≠ b ∧ q < b + 13 → H11[q]? = H9[q]? := fun q hq => (hq11 q (by omega)).trans (ghP3 q hq)
  refine a_dup dX6_init_46 rfl ?_
  refine a_callIv (As := []) (rest := [.ref (b + 13), .ref b]) (d := 1) (mc := 3) (ms := 24) l_X6_32 im_X0_init rfl dX6_init_47 ⟨Nat.le_of_ble_eq_true rfl, Nat.le_of_ble_eq_true rfl⟩ rfl (Nat.le_of_ble_eq_true rfl) ⟨Nat.le_of_ble_eq_true rfl, Nat.le_of_ble_eq_true rfl⟩ (c_X0_init hd0 (by omega) (by omega)) (fun H12 hp12 => ?_)
  clear hZ
  obtain ⟨hP4, hZ, hfr⟩ := hp12
  have hb := hb.kept (hfr _ (by omega))
  have hF : ∀ q : Nat, q < b → H12[q]? = H[q]? := fun q hq => (hfr q (by omega)).trans (hF q hq)
  have ghP1 : ∀ q : Nat, q ≠ b ∧ q < b + 3 → H12[q]? = H2[q]? := fun q hq => (hfr q (by omega)).trans (ghP1 q hq)
  have ghP2 : ∀ q : Nat, q ≠ b ∧ q < b + 8 → H12[q]? = H6[q]? := fun q hq => (hfr q (by omega)).trans (ghP2 q hq)
  have ghP3 : ∀ q : Nat, q ≠ b ∧ q < b + 13 → H12[q]? = H9[q]? := fun q hq => (hfr q (by omega)).trans (ghP3 q hq)
  have ghP4 : ∀ q : Nat, q ≠ b ∧ q < b + 17 → H12[q]? = H12[q]? := fun _ _ => rfl
  refine a_put f_X6_33 p_X6_33 dX6_init_50 hb (Nat.le_of_ble_eq_true rfl) rfl rfl (by omega) (fun H13 hb hz13 hq13 => ?_)
  have hb : Ob G H13 b 6 [.ref (b + 1), .int (-1), .ref (b + 3), .ref (b + 8), .ref (b + 13), .null, .null, .null, .int 0, .null, .null] := hb
  have hF : ∀ q : Nat, q < b → H13[q]? = H[q]? := fun q hq => (hq13 q (by omega)).trans (hF q hq)
  have ghP1 : ∀ q : Nat, q ≠ b ∧ q < b + 3 → H13[q]? = H2[q]? := fun q hq => (hq13 q (by omega)).trans (ghP1 q hq)
  have ghP2 : ∀ q : Nat, q ≠ b ∧ q < b + 8 → H13[q]? = H6[q]? := fun q hq => (hq13 q (by omega)).trans (ghP2 q hq)
  have ghP3 : ∀ q : Nat, q ≠ b ∧ q < b + 13 → H13[q]? = H9[q]? := fun q hq => (hq13 q (by omega)).trans (ghP3 q hq)
  have ghP4 : ∀ q : Nat, q ≠ b ∧ q < b + 17 → H13[q]? = H12[q]? := fun q hq => (hq13 q (by omega)).trans (ghP4 q hq)
  replace hZ := hz13.trans hZ
  clear hz13
  refine a_aload_n 0 dX6_init_53 rfl rfl ?_
  refine a_new (ci := 0) (N := 7) (fs := [.int 0, .null, .null, .null, .int 0, .int 0, .int 0]) nw_X6_30 (fun q hq => by cases hq; rfl) dX6_init_54 (fun j hj => by rcases (show j = 0 ∨ j = 1 ∨ j = 2 ∨ j = 3 ∨ j = 4 ∨ j = 5 ∨ j = 6 by omega) with rfl | rfl | rfl | rfl | rfl | rfl | rfl <;> rfl) (Nat.le_of_ble_eq_true rfl) (Nat.le_of_ble_eq_true rfl) (fun H14 hd1 hz14 hq14 => ?_)
  have hA14 : H13.size = b + 17 := by omega
  rw [hA14] at hd1 hz14 hq14
  rw [hA14]
  have hb := hb.kept (hq14 _ (by omega))
  replace hZ : H14.size = b + 17 + 1 := hz14
  clear hz14 hA14
  have hF : ∀ q : Nat, q < b → H14[q]? = H[q]? := fun q hq => (hq14 q (by omega)).trans (hF q hq)
  have ghP1 : ∀ q : Nat, q ≠ b ∧ q < b + 3 → H14[q]? = H2[q]? := fun q hq => (hq14 q (by omega)).trans (ghP1 q hq)
  have ghP2 : ∀ q : Nat, q ≠ b ∧ q < b + 8 → H14[q]? = H6[q]? := fun q hq => (hq14 q (by omega)).trans (ghP2 q hq)
  have ghP3 : ∀ q : Nat, q ≠ b ∧ q < b + 13 → H14[q]? = H9[q]? := fun q hq => (hq14 q (by omega)).trans (ghP3 q hq)
  have ghP4 : ∀ q : Nat, q ≠ b ∧ q < b + 17 → H14[q]? = H12[q]? := fun q hq => (hq14 q (by omega)).trans (ghP4 q hq)
  refine a_dup dX6_init_57 rfl ?_
  refine a_callIv (As := []) (rest := [.ref (b + 17), .ref b]) (d := 1) (mc := 3) (ms := 24) l_X6_32 im_X0_init rfl dX6_init_58 ⟨Nat.le_of_ble_eq_true rfl, Nat.le_of_ble_eq_true rfl⟩ rfl (Nat.le_of_ble_eq_true rfl) ⟨Nat.le_of_ble_eq_true rfl, Nat.le_of_ble_eq_true rfl⟩ (c_X0_init hd1 (by omega) (by omega)) (fun H15 hp15 => ?_)
  clear hZ
  obtain ⟨hP5, hZ, hfr⟩ := hp15
  have hb := hb.kept (hfr _ (by omega))
  have hF : ∀ q : Nat, q < b → H15[q]? = H[q]? := fun q hq => (hfr q (by omega)).trans (hF q hq)
  have ghP1 : ∀ q : Nat, q ≠ b ∧ q < b + 3 → H15[q]? = H2[q]? := fun q hq => (hfr q (by omega)).trans (ghP1 q hq)
  have ghP2 : ∀ q : Nat, q ≠ b ∧ q < b + 8 → H15[q]? = H6[q]? := fun q hq => (hfr q (by omega)).trans (ghP2 q hq)
  have ghP3 : ∀ q : Nat, q ≠ b ∧ q < b + 13 → H15[q]? = H9[q]? := fun q hq => (hfr q (by omega)).trans (ghP3 q hq)
  have ghP4 : ∀ q : Nat, q ≠ b ∧ q < b + 17 → H15[q]? = H12[q]? := fun q hq => (hfr q (by omega)).trans (ghP4 q hq)
  have ghP5 : ∀ q : Nat, q ≠ b ∧ q < b + 21 → H15[q]? = H15[q]? := fun _ _ => rfl
  refine a_put f_X6_37 p_X6_37 dX6_init_61 hb (Nat.le_of_ble_eq_true rfl) rfl rfl (by omega) (fun H16 hb hz16 hq16 => ?_)
  have hb : Ob G H16 b 6 [.ref (b + 1), .int (-1), .ref (b + 3), .ref (b + 8), .ref (b + 13), .ref (b + 17), .null, .null, .int 0, .null, .null] := hb
  have hF : ∀ q : Nat, q < b → H16[q]? = H[q]? := fun q hq => (hq16 q (by omega)).trans (hF q hq)
  have ghP1 : ∀ q : Nat, q ≠ b ∧ q < b + 3 → H16[q]? = H2[q]? := fun q hq => (hq16 q (by omega)).trans (ghP1 q hq)
  have ghP2 : ∀ q : Nat, q ≠ b ∧ q < b + 8 → H16[q]? = H6[q]? := fun q hq => (hq16 q (by omega)).trans (ghP2 q hq)
  have ghP3 : ∀ q : Nat, q ≠ b ∧ q < b + 13 → H16[q]? = H9[q]? := fun q hq => (hq16 q (by omega)).trans (ghP3 q hq)
  have ghP4 : ∀ q : Nat, q ≠ b ∧ q < b + 17 → H16[q]? = H12[q]? := fun q hq => (hq16 q (by omega)).trans (ghP4 q hq)
  have ghP5 : ∀ q : Nat, q ≠ b ∧ q < b + 21 → H16[q]? = H15[q]? := fun q hq => (hq16 q (by omega)).trans (ghP5 q hq)
  replace hZ := hz16.trans hZ
  clear hz16
  refine a_aload_n 0 dX6_init_64 rfl rfl ?_
  refine a_new (ci := 4) (N := 3) (fs := [.null, .int 0, .int 0]) nw_X6_40 (fun q hq => by cases hq; rfl) dX6_init_65 (fun j hj => by rcases (show j = 0 ∨ j = 1 ∨ j = 2 by omega) with rfl | rfl | rfl <;> rfl) (Nat.le_of_ble_eq_true rfl) (Nat.le_of_ble_eq_true rfl) (fun H17 hp0 hz17 hq17 => ?_)
  have hA17 : H16.size = b + 21 := by omega
  rw [hA17] at hp0 hz17 hq17
  rw [hA17]
  have hb := hb.kept (hq17 _ (by omega))
  replace hZ : H17.size = b + 21 + 1 := hz17
  clear hz17 hA17
  have hF : ∀ q : Nat, q < b → H17[q]? = H[q]? := fun q hq => (hq17 q (by omega)).trans (hF q hq)
  have ghP1 : ∀ q : Nat, q ≠ b ∧ q < b + 3 → H17[q]? = H2[q]? := fun q hq => (hq17 q (by omega)).trans (ghP1 q hq)
  have ghP2 : ∀ q : Nat, q ≠ b ∧ q < b + 8 → H17[q]? = H6[q]? := fun q hq => (hq17 q (by omega)).trans (ghP2 q hq)
  have ghP3 : ∀ q : Nat, q ≠ b ∧ q < b + 13 → H17[q]? = H9[q]? := fun q hq => (hq17 q (by omega)).trans (ghP3 q hq)
  have ghP4 : ∀ q : Nat, q ≠ b ∧ q < b + 17 → H17[q]? = H12[q]? := fun q hq => (hq17 q (by omega)).trans (ghP4 q hq)
  have ghP5 : ∀ q : Nat, q ≠ b ∧ q < b + 21 → H17[q]? = H15[q]? := fun q hq => (hq17 q (by omega)).trans (ghP5 q hq)
  refine a_dup dX6_init_68 rfl ?_
  refine a_callIv (As := []) (rest := [.ref (b + 21), .ref b]) (d := 2) (mc := 81) (ms := 640) l_X6_42 im_X4_init rfl dX6_init_69 ⟨Nat.le_of_ble_eq_true rfl, Nat.le_of_ble_eq_true rfl⟩ rfl (Nat.le_of_ble_eq_true rfl) ⟨Nat.le_of_ble_eq_true rfl, Nat.le_of_ble_eq_true rfl⟩ (c_X4_init hp0 (by omega) (by omega)) (fun H18 hp18 => ?_)
  clear hZ
  obtain ⟨hP6, hZ, hfr⟩ := hp18
  have hb := hb.kept (hfr _ (by omega))
  have hF : ∀ q : Nat, q < b → H18[q]? = H[q]? := fun q hq => (hfr q (by omega)).trans (hF q hq)
  have ghP1 : ∀ q : Nat, q ≠ b ∧ q < b + 3 → H18[q]? = H2[q]? := fun q hq => (hfr q (by omega)).trans (ghP1 q hq)
  have ghP2 : ∀ q : Nat, q ≠ b ∧ q < b + 8 → H18[q]? = H6[q]? := fun q hq => (hfr q (by omega)).trans (ghP2 q hq)
  have ghP3 : ∀ q : Nat, q ≠ b ∧ q < b + 13 → H18[q]? = H9[q]? := fun q hq => (hfr q (by omega)).trans (ghP3 q hq)
  have ghP4 : ∀ q : Nat, q ≠ b ∧ q < b + 17 → H18[q]? = H12[q]? := fun q hq => (hfr q (by omega)).trans (ghP4 q hq)
  have ghP5 : ∀ q : Nat, q ≠ b ∧ q < b + 21 → H18[q]? = H15[q]? := fun q hq => (hfr q (by omega)).trans (ghP5 q hq)
  have ghP6 : ∀ q : Nat, q ≠ b ∧ q < b + 103 → H18[q]? = H18[q]? := fun _ _ => rfl
  refine a_put f_X6_43 p_X6_43 dX6_init_72 hb (Nat.le_of_ble_eq_true rfl) rfl rfl (by omega) (fun H19 hb hz19 hq19 => ?_)
  have hb : Ob G H19 b 6 [.ref (b + 1), .int (-1), .ref (b + 3), .ref (b + 8), .ref (b + 13), .ref (b + 17), .ref (b + 21), .null, .int 0, .null, .null] := hb
  have hF : ∀ q : Nat, q < b → H19[q]? = H[q]? := fun q hq => (hq19 q (by omega)).trans (hF q hq)
  have ghP1 : ∀ q : Nat, q ≠ b ∧ q < b + 3 → H19[q]? = H2[q]? := fun q hq => (hq19 q (by omega)).trans (ghP1 q hq)
  have ghP2 : ∀ q : Nat, q ≠ b ∧ q < b + 8 → H19[q]? = H6[q]? := fun q hq => (hq19 q (by omega)).trans (ghP2 q hq)
  have ghP3 : ∀ q : Nat, q ≠ b ∧ q < b + 13 → H19[q]? = H9[q]? := fun q hq => (hq19 q (by omega)).trans (ghP3 q hq)
  have ghP4 : ∀ q : Nat, q ≠ b ∧ q < b + 17 → H19[q]? = H12[q]? := fun q hq => (hq19 q (by omega)).trans (ghP4 q hq)
  have ghP5 : ∀ q : Nat, q ≠ b ∧ q < b + 21 → H19[q]? = H15[q]? := fun q hq => (hq19 q (by omega)).trans (ghP5 q hq)
  have ghP6 : ∀ q : Nat, q ≠ b ∧ q < b + 103 → H19[q]? = H18[q]? := fun q hq => (hq19 q (by omega)).trans (ghP6 q hq)
  replace hZ := hz19.trans hZ
  clear hz19
  refine a_aload_n 0 dX6_init_75 rfl rfl ?_
  refine a_iconst 2 dX6_init_76 (by decide) ?_
  refine a_newq (n := 2) (t := 4) (C0 := RX1) (fun _ => rfl) (Or.inr rfl) cl_X6_47 dX6_init_77 (by decide) (Nat.le_of_ble_eq_true rfl) (Nat.le_of_ble_eq_true rfl) (fun H20 hia hz20 hq20 => ?_)
  have hA20 : H19.size = b + 103 := by omega
  rw [hA20] at hia hz20 hq20
  rw [hA20]
  have hb := hb.kept (hq20 _ (by omega))
  replace hZ : H20.size = b + 103 + 1 := hz20
  clear hz20 hA20
  have hF : ∀ q : Nat, q < b → H20[q]? = H[q]? := fun q hq => (hq20 q (by omega)).trans (hF q hq)
  have ghP1 : ∀ q : Nat, q ≠ b ∧ q < b + 3 → H20[q]? = H2[q]? := fun q hq => (hq20 q (by omega)).trans (ghP1 q hq)
  have ghP2 : ∀ q : Nat, q ≠ b ∧ q < b + 8 → H20[q]? = H6[q]? := fun q hq => (hq20 q (by omega)).trans (ghP2 q hq)
  have ghP3 : ∀ q : Nat, q ≠ b ∧ q < b + 13 → H20[q]? = H9[q]? := fun q hq => (hq20 q (by omega)).trans (ghP3 q hq)
  have ghP4 : ∀ q : Nat, q ≠ b ∧ q < b + 17 → H20[q]? = H12[q]? := fun q hq => (hq20 q (by omega)).trans (ghP4 q hq)
  have ghP5 : ∀ q : Nat, q ≠ b ∧ q < b + 21 → H20[q]? = H15[q]? := fun q hq => (hq20 q (by omega)).trans (ghP5 q hq)
  have ghP6 : ∀ q : Nat, q ≠ b ∧ q < b + 103 → H20[q]? = H18[q]? := fun q hq => (hq20 q (by omega)).trans (ghP6 q hq)
  refine a_put f_X6_49 p_X6_49 dX6_init_80 hb (Nat.le_of_ble_eq_true rfl) rfl rfl (by omega) (fun H21 hb hz21 hq21 => ?_)
  have hb : Ob G H21 b 6 [.ref (b + 1), .int (-1), .ref (b + 3), .ref (b + 8), .ref (b + 13), .ref (b + 17), .ref (b + 21), .ref (b + 103), .int 0, .null, .null] := hb
  have hia := hia.kept (hq21 _ (by omega))
  have hF : ∀ q : Nat, q < b → H21[q]? = H[q]? := fun q hq => (hq21 q (by omega)).trans (hF q hq)
  have ghP1 : ∀ q : Nat, q ≠ b ∧ q < b + 3 → H21[q]? = H2[q]? := fun q hq => (hq21 q (by omega)).trans (ghP1 q hq)
  have ghP2 : ∀ q : Nat, q ≠ b ∧ q < b + 8 → H21[q]? = H6[q]? := fun q hq => (hq21 q (by omega)).trans (ghP2 q hq)
  have ghP3 : ∀ q : Nat, q ≠ b ∧ q < b + 13 → H21[q]? = H9[q]? := fun q hq => (hq21 q (by omega)).trans (ghP3 q hq)
  have ghP4 : ∀ q : Nat, q ≠ b ∧ q < b + 17 → H21[q]? = H12[q]? := fun q hq => (hq21 q (by omega)).trans (ghP4 q hq)
  have ghP5 : ∀ q : Nat, q ≠ b ∧ q < b + 21 → H21[q]? = H15[q]? := fun q hq => (hq21 q (by omega)).trans (ghP5 q hq)
  have ghP6 : ∀ q : Nat, q ≠ b ∧ q < b + 103 → H21[q]? = H18[q]? := fun q hq => (hq21 q (by omega)).trans (ghP6 q hq)
  replace hZ := hz21.trans hZ
  clear hz21
  refine a_aload_n 0 dX6_init_83 rfl rfl ?_
  refine a_iconst 0 dX6_init_84 (by decide) ?_
  refine a_put f_X6_53 p_X6_53 dX6_init_85 hb (Nat.le_of_ble_eq_true rfl) rfl rfl (by omega) (fun H22 hb hz22 hq22 => ?_)
  have hb : Ob G H22 b 6 [.ref (b + 1), .int (-1), .ref (b + 3), .ref (b + 8), .ref (b + 13), .ref (b + 17), .ref (b + 21), .ref (b + 103), .int 0, .null, .null] := hb
  have hia := hia.kept (hq22 _ (by omega))
  have hF : ∀ q : Nat, q < b → H22[q]? = H[q]? := fun q hq => (hq22 q (by omega)).trans (hF q hq)
  have ghP1 : ∀ q : Nat, q ≠ b ∧ q < b + 3 → H22[q]? = H2[q]? := fun q hq => (hq22 q (by omega)).trans (ghP1 q hq)
  have ghP2 : ∀ q : Nat, q ≠ b ∧ q < b + 8 → H22[q]? = H6[q]? := fun q hq => (hq22 q (by omega)).trans (ghP2 q hq)
  have ghP3 : ∀ q : Nat, q ≠ b ∧ q < b + 13 → H22[q]? = H9[q]? := fun q hq => (hq22 q (by omega)).trans (ghP3 q hq)
  have ghP4 : ∀ q : Nat, q ≠ b ∧ q < b + 17 → H22[q]? = H12[q]? := fun q hq => (hq22 q (by omega)).trans (ghP4 q hq)
  have ghP5 : ∀ q : Nat, q ≠ b ∧ q < b + 21 → H22[q]? = H15[q]? := fun q hq => (hq22 q (by omega)).trans (ghP5 q hq)
  have ghP6 : ∀ q : Nat, q ≠ b ∧ q < b + 103 → H22[q]? = H18[q]? := fun q hq => (hq22 q (by omega)).trans (ghP6 q hq)
  replace hZ := hz22.trans hZ
  clear hz22
  refine a_aload_n 0 dX6_init_88 rfl rfl ?_
  refine a_new (ci := 3) (N := 3) (fs := [.null, .null, .int 0]) nw_X6_56 (fun q hq => by cases hq; rfl) dX6_init_89 (fun j hj => by rcases (show j = 0 ∨ j = 1 ∨ j = 2 by omega) with rfl | rfl | rfl <;> rfl) (Nat.le_of_ble_eq_true rfl) (Nat.le_of_ble_eq_true rfl) (fun H23 hs0 hz23 hq23 => ?_)
  have hA23 : H22.size = b + 104 := by omega
  rw [hA23] at hs0 hz23 hq23
  rw [hA23]
  have hb := hb.kept (hq23 _ (by omega))
  have hia := hia.kept (hq23 _ (by omega))
  replace hZ : H23.size = b + 104 + 1 := hz23
  clear hz23 hA23
  have hF : ∀ q : Nat, q < b → H23[q]? = H[q]? := fun q hq => (hq23 q (by omega)).trans (hF q hq)
  have ghP1 : ∀ q : Nat, q ≠ b ∧ q < b + 3 → H23[q]? = H2[q]? := fun q hq => (hq23 q (by omega)).trans (ghP1 q hq)
  have ghP2 : ∀ q : Nat, q ≠ b ∧ q < b + 8 → H23[q]? = H6[q]? := fun q hq => (hq23 q (by omega)).trans (ghP2 q hq)
  have ghP3 : ∀ q : Nat, q ≠ b ∧ q < b + 13 → H23[q]? = H9[q]? := fun q hq => (hq23 q (by omega)).trans (ghP3 q hq)
  have ghP4 : ∀ q : Nat, q ≠ b ∧ q < b + 17 → H23[q]? = H12[q]? := fun q hq => (hq23 q (by omega)).trans (ghP4 q hq)
  have ghP5 : ∀ q : Nat, q ≠ b ∧ q < b + 21 → H23[q]? = H15[q]? := fun q hq => (hq23 q (by omega)).trans (ghP5 q hq)
  have ghP6 : ∀ q : Nat, q ≠ b ∧ q < b + 103 → H23[q]? = H18[q]? := fun q hq => (hq23 q (by omega)).trans (ghP6 q hq)
  refine a_dup dX6_init_92 rfl ?_
  refine a_bipush 6 dX6_init_93 (by decide) ?_
  refine a_callIv (As := [.int 6]) (rest := [.ref (b + 104), .ref b]) (d := 1) (mc := 2) (ms := 12) l_X6_58 im_X3_init rfl dX6_init_95 ⟨Nat.le_of_ble_eq_true rfl, Nat.le_of_ble_eq_true rfl⟩ rfl (Nat.le_of_ble_eq_true rfl) ⟨Nat.le_of_ble_eq_true rfl, Nat.le_of_ble_eq_true rfl⟩ (c_X3_init6 hs0 (by omega) (by omega)) (fun H24 hp24 => ?_)
  clear hZ
  obtain ⟨hP7, hZ, hfr⟩ := hp24
  have hb := hb.kept (hfr _ (by omega))
  have hia := hia.kept (hfr _ (by omega))
  have hF : ∀ q : Nat, q < b → H24[q]? = H[q]? := fun q hq => (hfr q (by omega)).trans (hF q hq)
  have ghP1 : ∀ q : Nat, q ≠ b ∧ q < b + 3 → H24[q]? = H2[q]? := fun q hq => (hfr q (by omega)).trans (ghP1 q hq)
  have ghP2 : ∀ q : Nat, q ≠ b ∧ q < b + 8 → H24[q]? = H6[q]? := fun q hq => (hfr q (by omega)).trans (ghP2 q hq)
  have ghP3 : ∀ q : Nat, q ≠ b ∧ q < b + 13 → H24[q]? = H9[q]? := fun q hq => (hfr q (by omega)).trans (ghP3 q hq)
  have ghP4 : ∀ q : Nat, q ≠ b ∧ q < b + 17 → H24[q]? = H12[q]? := fun q hq => (hfr q (by omega)).trans (ghP4 q hq)
  have ghP5 : ∀ q : Nat, q ≠ b ∧ q < b + 21 → H24[q]? = H15[q]? := fun q hq => (hfr q (by omega)).trans (ghP5 q hq)
  have ghP6 : ∀ q : Nat, q ≠ b ∧ q < b + 103 → H24[q]? = H18[q]? := fun q hq => (hfr q (by omega)).trans (ghP6 q hq)
  have ghP7 : ∀ q : Nat, q ≠ b ∧ q < b + 107 → H24[q]? = H24[q]? := fun _ _ => rfl
  refine a_put f_X6_61 p_X6_61 dX6_init_98 hb (Nat.le_of_ble_eq_true rfl) rfl rfl (by omega) (fun H25 hb hz25 hq25 => ?_)
  have hb : Ob G H25 b 6 [.ref (b + 1), .int (-1), .ref (b + 3), .ref (b + 8), .ref (b + 13), .ref (b + 17), .ref (b + 21), .ref (b + 103), .int 0, .ref (b + 104), .null] := hb
  have hia := hia.kept (hq25 _ (by omega))
  have hF : ∀ q : Nat, q < b → H25[q]? = H[q]? := fun q hq => (hq25 q (by omega)).trans (hF q hq)
  have ghP1 : ∀ q : Nat, q ≠ b ∧ q < b + 3 → H25[q]? = H2[q]? := fun q hq => (hq25 q (by omega)).trans (ghP1 q hq)
  have ghP2 : ∀ q : Nat, q ≠ b ∧ q < b + 8 → H25[q]? = H6[q]? := fun q hq => (hq25 q (by omega)).trans (ghP2 q hq)
  have ghP3 : ∀ q : Nat, q ≠ b ∧ q < b + 13 → H25[q]? = H9[q]? := fun q hq => (hq25 q (by omega)).trans (ghP3 q hq)
  have ghP4 : ∀ q : Nat, q ≠ b ∧ q < b + 17 → H25[q]? = H12[q]? := fun q hq => (hq25 q (by omega)).trans (ghP4 q hq)
  have ghP5 : ∀ q : Nat, q ≠ b ∧ q < b + 21 → H25[q]? = H15[q]? := fun q hq => (hq25 q (by omega)).trans (ghP5 q hq)
  have ghP6 : ∀ q : Nat, q ≠ b ∧ q < b + 103 → H25[q]? = H18[q]? := fun q hq => (hq25 q (by omega)).trans (ghP6 q hq)
  have ghP7 : ∀ q : Nat, q ≠ b ∧ q < b + 107 → H25[q]? = H24[q]? := fun q hq => (hq25 q (by omega)).trans (ghP7 q hq)
  replace hZ := hz25.trans hZ
  clear hz25
  refine a_aload_n 0 dX6_init_101 rfl rfl ?_
  refine a_new (ci := 3) (N := 3) (fs := [.null, .null, .int 0]) nw_X6_56 (fun q hq => by cases hq; rfl) dX6_init_102 (fun j hj => by rcases (show j = 0 ∨ j = 1 ∨ j = 2 by omega) with rfl | rfl | rfl <;> rfl) (Nat.le_of_ble_eq_true rfl) (Nat.le_of_ble_eq_true rfl) (fun H26 hb0 hz26 hq26 => ?_)
  have hA26 : H25.size = b + 107 := by omega
  rw [hA26] at hb0 hz26 hq26
  rw [hA26]
  have hb := hb.kept (hq26 _ (by omega))
  have hia := hia.kept (hq26 _ (by omega))
  replace hZ : H26.size = b + 107 + 1 := hz26
  clear hz26 hA26
  have hF : ∀ q : Nat, q < b → H26[q]? = H[q]? := fun q hq => (hq26 q (by omega)).trans (hF q hq)
  have ghP1 : ∀ q : Nat, q ≠ b ∧ q < b + 3 → H26[q]? = H2[q]? := fun q hq => (hq26 q (by omega)).trans (ghP1 q hq)
  have ghP2 : ∀ q : Nat, q ≠ b ∧ q < b + 8 → H26[q]? = H6[q]? := fun q hq => (hq26 q (by omega)).trans (ghP2 q hq)
  have ghP3 : ∀ q : Nat, q ≠ b ∧ q < b + 13 → H26[q]? = H9[q]? := fun q hq => (hq26 q (by omega)).trans (ghP3 q hq)
  have ghP4 : ∀ q : Nat, q ≠ b ∧ q < b + 17 → H26[q]? = H12[q]? := fun q hq => (hq26 q (by omega)).trans (ghP4 q hq)
  have ghP5 : ∀ q : Nat, q ≠ b ∧ q < b + 21 → H26[q]? = H15[q]? := fun q hq => (hq26 q (by omega)).trans (ghP5 q hq)
  have ghP6 : ∀ q : Nat, q ≠ b ∧ q < b + 103 → H26[q]? = H18[q]? := fun q hq => (hq26 q (by omega)).trans (ghP6 q hq)
  have ghP7 : ∀ q : Nat, q ≠ b ∧ q < b + 107 → H26[q]? = H24[q]? := fun q hq => (hq26 q (by omega)).trans (ghP7 q hq)
  refine a_dup dX6_init_105 rfl ?_
  refine a_bipush 15 dX6_init_106 (by decide) ?_
  refine a_callIv (As := [.int 15]) (rest := [.ref (b + 107), .ref b]) (d := 1) (mc := 2) (ms := 30) l_X6_58 im_X3_init rfl dX6_init_108 ⟨Nat.le_of_ble_eq_true rfl, Nat.le_of_ble_eq_true rfl⟩ rfl (Nat.le_of_ble_eq_true rfl) ⟨Nat.le_of_ble_eq_true rfl, Nat.le_of_ble_eq_true rfl⟩ (c_X3_init15 hb0 (by omega) (by omega)) (fun H27 hp27 => ?_)
  clear hZ
  obtain ⟨hP8, hZ, hfr⟩ := hp27
  have hb := hb.kept (hfr _ (by omega))
  have hia := hia.kept (hfr _ (by omega))
  have hF : ∀ q : Nat, q < b → H27[q]? = H[q]? := fun q hq => (hfr q (by omega)).trans (hF q hq)
  have ghP1 : ∀ q : Nat, q ≠ b ∧ q < b + 3 → H27[q]? = H2[q]? := fun q hq => (hfr q (by omega)).trans (ghP1 q hq)
  have ghP2 : ∀ q : Nat, q ≠ b ∧ q < b + 8 → H27[q]? = H6[q]? := fun q hq => (hfr q (by omega)).trans (ghP2 q hq)
  have ghP3 : ∀ q : Nat, q ≠ b ∧ q < b + 13 → H27[q]? = H9[q]? := fun q hq => (hfr q (by omega)).trans (ghP3 q hq)
  have ghP4 : ∀ q : Nat, q ≠ b ∧ q < b + 17 → H27[q]? = H12[q]? := fun q hq => (hfr q (by omega)).trans (ghP4 q hq)
  have ghP5 : ∀ q : Nat, q ≠ b ∧ q < b + 21 → H27[q]? = H15[q]? := fun q hq => (hfr q (by omega)).trans (ghP5 q hq)
  have ghP6 : ∀ q : Nat, q ≠ b ∧ q < b + 103 → H27[q]? = H18[q]? := fun q hq => (hfr q (by omega)).trans (ghP6 q hq)
  have ghP7 : ∀ q : Nat, q ≠ b ∧ q < b + 107 → H27[q]? = H24[q]? := fun q hq => (hfr q (by omega)).trans (ghP7 q hq)
  have ghP8 : ∀ q : Nat, q ≠ b ∧ q < b + 110 → H27[q]? = H27[q]? := fun _ _ => rfl
  refine a_put f_X6_65 p_X6_65 dX6_init_111 hb (Nat.le_of_ble_eq_true rfl) rfl rfl (by omega) (fun H28 hb hz28 hq28 => ?_)
  have hb : Ob G H28 b 6 [.ref (b + 1), .int (-1), .ref (b + 3), .ref (b + 8), .ref (b + 13), .ref (b + 17), .ref (b + 21), .ref (b + 103), .int 0, .ref (b + 104), .ref (b + 107)] := hb
  have hia := hia.kept (hq28 _ (by omega))
  have hF : ∀ q : Nat, q < b → H28[q]? = H[q]? := fun q hq => (hq28 q (by omega)).trans (hF q hq)
  have ghP1 : ∀ q : Nat, q ≠ b ∧ q < b + 3 → H28[q]? = H2[q]? := fun q hq => (hq28 q (by omega)).trans (ghP1 q hq)
  have ghP2 : ∀ q : Nat, q ≠ b ∧ q < b + 8 → H28[q]? = H6[q]? := fun q hq => (hq28 q (by omega)).trans (ghP2 q hq)
  have ghP3 : ∀ q : Nat, q ≠ b ∧ q < b + 13 → H28[q]? = H9[q]? := fun q hq => (hq28 q (by omega)).trans (ghP3 q hq)
  have ghP4 : ∀ q : Nat, q ≠ b ∧ q < b + 17 → H28[q]? = H12[q]? := fun q hq => (hq28 q (by omega)).trans (ghP4 q hq)
  have ghP5 : ∀ q : Nat, q ≠ b ∧ q < b + 21 → H28[q]? = H15[q]? := fun q hq => (hq28 q (by omega)).trans (ghP5 q hq)
  have ghP6 : ∀ q : Nat, q ≠ b ∧ q < b + 103 → H28[q]? = H18[q]? := fun q hq => (hq28 q (by omega)).trans (ghP6 q hq)
  have ghP7 : ∀ q : Nat, q ≠ b ∧ q < b + 107 → H28[q]? = H24[q]? := fun q hq => (hq28 q (by omega)).trans (ghP7 q hq)
  have ghP8 : ∀ q : Nat, q ≠ b ∧ q < b + 110 → H28[q]? = H27[q]? := fun q hq => (hq28 q (by omega)).trans (ghP8 q hq)
  replace hZ := hz28.trans hZ
  clear hz28
  have hBI : BI0 G H28 b := by
    refine ⟨hb, fun tx => (hP1 tx).kept (fun q a c => ghP1 q (by omega)), fun a c d e => (hP2 a c d e).kept (fun q a c => ghP2 q (by omega)), fun a c d e => (hP3 a c d e).kept (fun q a c => ghP3 q (by omega)), hP4.kept (fun q a c => ghP4 q (by omega)), hP5.kept (fun q a c => ghP5 q (by omega)), fun n p => (hP6 n p).kept (fun q a c => ghP6 q (by omega)), fun a c => (hP7 a c).kept (fun q a c => ghP7 q (by omega)), fun a c => (hP8 a c).kept (fun q a c => ghP8 q (by omega))⟩
  refine a_iconst 0 dX6_init_114 (by decide) ?_
  refine a_istore_n (lv' := [(1, .int 0), (0, .ref b)]) dX6_init_115 rfl (by decide) rfl ?_
  have L116 : ∀ (fu : Nat) (k : Nat) (Hk : Heap) (fR : Nat → Option Nat), k ≤ 2 → BI0 G Hk b → Aq G Hk (b + 103) 4 2 fR → (∀ i, i < k → fR i = some (b + 110 + 5 * i)) → (∀ i, i < k → ∃ (n' : Nat) (dd' : DD) (dr : Int32), Im G Hk (b + 110 + 5 * i) false dr n' dd') → Hk.size = b + 110 + 5 * k → (∀ q : Nat, q < b → Hk[q]? = H[q]?) → 2 - k < fu → AW G B l { frames := 3, cells := 119, slots := 1143, locals := 27 * 3 } yX6_init.cls cX6_init 2 true (fun rv H' ce' sl' => (rv = none ∧ ((∀ (tx : Nat → Nat) (kK kV : DD) (pu : Nat → DD) (sw sg : Nat → Nat) (bw : Nat → Nat) (bt : DD) (iD : Nat → DD) (iS : Nat → Nat), Bx G H' b tx 0 (-1) false 0 0 0 0 0 kK kV (fun i => if i = 26 then -1 else 0) 0 0 0 pu 0 sw sg 0 bw bt (fun _ => false) iD iS) ∧ H'.size = b + 120 ∧ ∀ q : Nat, q < b → H'[q]? = H[q]?)) ∧ ce' = 119 ∧ sl' = 1143) 116 [(0, .ref b), (1, .int (nI k))] [] Hk (109 + 5 * k) (1075 + 34 * k) := by
    intro fu
    induction fu with
    | zero => intro k Hk fR hk hBI hia hR hIm hZ hF hm116; exact absurd hm116 (Nat.not_lt_zero _)
    | succ fu ih116 =>
      intro k Hk fR hk hBI hia hR hIm hZ hF hm116
      have hb := hBI.1
      unfold bxL at hb
      have hG : ∀ q : Nat, q < b + 110 + 5 * k ∧ q ≠ b + 103 → Hk[q]? = Hk[q]? := fun _ _ => rfl
      refine a_iload_n 1 dX6_init_116 rfl rfl ?_
      refine a_iconst 2 dX6_init_117 (by decide) ?_
      refine a_icmpgeN (a := k) (b := 2) 140 dX6_init_118 (by decide) (by omega) (by omega) (fun c118 => ?_) (fun c118 => ?_)
      · skip
        have hk2 : k = 2 := by omega
        subst hk2
        refine a_retv dX6_init_140 ⟨⟨rfl, ?_⟩, rfl, rfl⟩
        · refine ⟨?_, by omega, hF⟩
          intro tx kK kV pu sw sg bw bt iD iS
          obtain ⟨h1, h2, h3, h4, h5, h6, h7, h8, h9⟩ := hBI
          refine ⟨b + 3, b + 8, fun _ => 0, fun _ => 0, ⟨h1, h3 _ _ _ _, h5, Or.inl ⟨rfl, rfl⟩⟩, ⟨0, 0, h2 _⟩, ⟨_, _, _, _, _, _, _, _, _, _, h4 (fun _ => 0) (fun _ => 0) (fun _ => 0) (fun _ => 0)⟩, ⟨_, _, h6⟩, h7 _ _, h8 _ _, h9 _ _, ⟨fR, hia, hR⟩, fun i hi => ?_⟩
          obtain ⟨n', dd', dr, h⟩ := hIm i hi
          exact ⟨n', dd', dr, h, fun h => by cases h⟩
      · skip
        refine a_aload_n 0 dX6_init_121 rfl rfl ?_
        refine a_get f_X6_49 dX6_init_122 hb rfl ?_
        refine a_iload_n 1 dX6_init_125 rfl rfl ?_
        refine a_new (ci := 1) (N := 3) (fs := [.int 0, .null, .int 0]) nw_X6_47 (fun q hq => by cases hq; rfl) dX6_init_126 (fun j hj => by rcases (show j = 0 ∨ j = 1 ∨ j = 2 by omega) with rfl | rfl | rfl <;> rfl) (by show 109 + 5 * k + 1 ≤ 119; omega) (by show 1075 + 34 * k + 3 ≤ 1143; omega) (fun H29 hi hz29 hq29 => ?_)
        have hA29 : Hk.size = b + 110 + 5 * k := by omega
        rw [hA29] at hi hz29 hq29
        rw [hA29]
        have hb := hb.kept (hq29 _ (by omega))
        have hia := hia.kept (hq29 _ (by omega))
        replace hZ : H29.size = b + 110 + 5 * k + 1 := hz29
        clear hz29 hA29
        have hF : ∀ q : Nat, q < b → H29[q]? = H[q]? := fun q hq => (hq29 q (by omega)).trans (hF q hq)
        have hG : ∀ q : Nat, q < b + 110 + 5 * k ∧ q ≠ b + 103 → H29[q]? = Hk[q]? := fun q hq => (hq29 q (by omega)).trans (hG q hq)
        refine a_dup dX6_init_129 rfl ?_
        refine a_callIv (As := []) (rest := [.ref (b + 110 + 5 * k), .int (nI k), .ref (b + 103)]) (d := 2) (mc := 4) (ms := 31) l_X6_68 im_X1_init rfl dX6_init_130 ⟨Nat.le_of_ble_eq_true rfl, Nat.le_of_ble_eq_true rfl⟩ rfl (Nat.le_of_ble_eq_true rfl) ⟨(by show 109 + 5 * k + 1 + 4 ≤ 119; omega), (by show 1075 + 34 * k + 3 + 31 ≤ 1143; omega)⟩ (c_X1_init hi (by omega) (by omega)) (fun H30 hp30 => ?_)
        clear hZ
        obtain ⟨hImN, hZ, hfr⟩ := hp30
        have hi := hImN.1
        have hImN0 := hImN
        have hb := hb.kept (hfr _ (by omega))
        have hia := hia.kept (hfr _ (by omega))
        have hF : ∀ q : Nat, q < b → H30[q]? = H[q]? := fun q hq => (hfr q (by omega)).trans (hF q hq)
        have hG : ∀ q : Nat, q < b + 110 + 5 * k ∧ q ≠ b + 103 → H30[q]? = Hk[q]? := fun q hq => (hfr q (by omega)).trans (hG q hq)
        refine a_aast (j := k) (t := 4) (C0 := RX1) (fun _ => rfl) ⟨_, rfl, rfl⟩ (ci := 1) dX6_init_133 hia hi (by omega) (by decide) (by omega) (fun H31 hia hz31 hq31 => ?_)
        have hb := hb.kept (hq31 _ (by omega))
        have hi := hi.kept (hq31 _ (by omega))
        have hF : ∀ q : Nat, q < b → H31[q]? = H[q]? := fun q hq => (hq31 q (by omega)).trans (hF q hq)
        have hG : ∀ q : Nat, q < b + 110 + 5 * k ∧ q ≠ b + 103 → H31[q]? = Hk[q]? := fun q hq => (hq31 q (by omega)).trans (hG q hq)
        replace hZ := hz31.trans hZ
        clear hz31
        have hImN1 := hImN0.kept (H1 := H31) (fun q a c => hq31 q (by omega))
        have hBI2 := hBI.kept (H1 := H31) (fun q a c => hG q (by omega))
        refine a_iincN (q := 1) (lv' := [(1, .int (nI (k + 1))), (0, .ref b)]) dX6_init_134 rfl (by decide) rfl ?_
        refine a_goto 116 dX6_init_137 (by decide) ?_
        refine a_sub [1, 0] rfl ?_
        refine a_widen (ce2 := 109 + 5 * (k + 1)) (sl2 := 1075 + 34 * (k + 1)) (by omega) (by omega) ?_
        exact ih116 _ _ _ (by omega) hBI2 hia (fun i hi => by unfold va_up; split; { next e => rw [e] }; { next e => exact hR i (by omega) }) (fun i hi => by by_cases e : i = k; { subst e; exact ⟨_, _, _, hImN1⟩ }; { obtain ⟨n', dd', dr, h⟩ := hIm i (by omega); exact ⟨n', dd', dr, h.kept (fun q a c => hG q (by omega))⟩ }) (by omega) hF (by omega)
  refine a_sub [1, 0] rfl ?_
  refine a_widen (ce2 := 109 + 5 * 0) (sl2 := 1075 + 34 * 0) (by omega) (by omega) ?_
  exact L116 _ 0 _ _ (Nat.zero_le _) hBI hia (fun i hi => absurd hi (Nat.not_lt_zero _)) (fun i hi => absurd hi (Nat.not_lt_zero _)) (by omega) hF (Nat.lt_succ_self _)
