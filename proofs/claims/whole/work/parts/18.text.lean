/-! ===== BEGIN a whole text ===== -/
theorem Kt.zero {G : GT} {H : Heap} {k : Nat} {kb : Bool} {ka ks kw : Int32} {kS kU kK kV kS' kU' kK' kV' : DD} (h : Kt G H k kb ka ks kw 0 0 kS kU kK kV) : Kt G H k kb ka ks kw 0 0 kS' kU' kK' kV' := by
  obtain ⟨fS, fU, fK, fV, h1, h2, h3, h4, h5, -⟩ := h
  exact ⟨fS, fU, fK, fV, h1, h2, h3, h4, h5, fun i hi => absurd hi (Nat.not_lt_zero _), fun i hi => absurd hi (Nat.not_lt_zero _), fun i hi => absurd hi (Nat.not_lt_zero _), fun i hi => absurd hi (Nat.not_lt_zero _), by decide, by decide⟩
theorem Bc.kept2 {G : GT} {H H1 : Heap} {b kr sp : Nat} {fp dr : Int32} {kb : Bool} {ka ks kw : Int32} {n nv : Nat} {kS kU kK kV dd : DD} (h : Bc G H b kr sp fp dr kb ka ks kw n nv kS kU kK kV dd) (hq : ∀ q, (q = b ∨ kr ≤ q ∧ q < kr + 5 ∨ b + 13 ≤ q ∧ q < b + 17) → H1[q]? = H[q]?) : Bc G H1 b kr sp fp dr kb ka ks kw n nv kS kU kK kV dd :=
  ⟨h.1.kept (hq _ (Or.inl rfl)), h.2.1.kept (fun q a c => hq q (Or.inr (Or.inl ⟨a, c⟩))), h.2.2.1.kept (fun q a c => hq q (Or.inr (Or.inr ⟨a, by omega⟩))), h.2.2.2⟩
def zD : DD := fun _ => 0
/-- what the text of L letters says: fault, place, kitchen -/
def P0 (tx : Nat → Nat) (L : Nat) : (Nat × Nat) × KK := paF tx L 240 0 (skP tx L 0 0) (kk0 zD zD zD zD)
/-! ===== END ===== -/

set_option maxHeartbeats 4000000 in
set_option maxRecDepth 100000 in
theorem c_X5_readClause {G : GT} {B : Nat} {l : Launch} {H : Heap} {r : Nat} {tx : Nat → Nat} {L pl k0 : Nat} {K : KK} (hR : Rd G H r tx L pl 0) (hlt : pl < L) (hK : KtK G H k0 K) (hap : r + 2 ≤ k0 ∨ k0 + 5 ≤ r) (hBk : B ≤ k0) (hB : B ≤ r) : AM G B l yX5_readClause cX5_readClause 3 none 3 0 0 [.ref r, .ref k0] H (fun rv H' => rv = none ∧ (Rd G H' r tx L (clF tx L pl K).1.2 (clF tx L pl K).1.1 ∧ KtK G H' k0 (clF tx L pl K).2 ∧ ∀ q : Nat, ¬ (r ≤ q ∧ q < r + 2) ∧ ¬ (k0 ≤ q ∧ q < k0 + 5) → H'[q]? = H[q]?)) := by
  obtain ⟨kb, ka, ks, kw, n, nv, kS, kU, kK, kV⟩ := K
  have hK : Kt G H k0 kb ka ks kw n nv kS kU kK kV := hK
  have hK0 := hK
  obtain ⟨fS3, fU3, fK3, fV3, hk3, ha3, hb3, hc3, he3, eS3, eU3, eK3, eV3, hn3, hnv3⟩ := hK
  have hR0 := hR
  obtain ⟨ft, hr, ht, et, e8, hL, hpl, hkd⟩ := hR
  have hF : ∀ q : Nat, ¬ (r ≤ q ∧ q < r + 2) ∧ ¬ (k0 ≤ q ∧ q < k0 + 5) → H[q]? = H[q]? := fun _ _ => rfl
  refine AM.ofV (lv := [(0, .ref r), (1, .ref k0)]) (by decide +kernel) (ini := false) (fun h => by cases h) (Nat.le_of_ble_eq_true rfl) rfl ?_ (fun _ _ h => h.1)
  refine a_aload_n 0 dX5_readClause_0 rfl rfl ?_
  refine a_callVp (As := []) (rest := []) (d := 0) (mc := 0) (ms := 0) (x := if pl < L then nI (tx pl) else -1) (ci := 5) l_X5_37 im_X5_letterHere se_X5_letterHere ⟨_, rfl, rfl⟩ dX5_readClause_1 ⟨Nat.le_of_ble_eq_true rfl, Nat.le_of_ble_eq_true rfl⟩ rfl (Nat.le_of_ble_eq_true rfl) ⟨Nat.le_of_ble_eq_true rfl, Nat.le_of_ble_eq_true rfl⟩ hr (c_X5_letterHere hR0) ?_
  rw [if_pos hlt]
  have hb8 := e8 pl hlt
  refine a_istore_n (lv' := [(2, .int (nI (tx pl))), (0, .ref r), (1, .ref k0)]) dX5_readClause_4 rfl (by decide) rfl ?_
  refine a_iload_n 0 dX5_readClause_5 rfl rfl ?_
  refine a_bipush 98 dX5_readClause_6 (by decide) ?_
  refine a_icmpneN (a := tx pl) (b := 98) 18 dX5_readClause_8 (by decide) (by omega) (by omega) (fun c8 => ?_) (fun c8 => ?_)
  · skip
    refine a_iload_n 0 dX5_readClause_18 rfl rfl ?_
    refine a_bipush 119 dX5_readClause_19 (by decide) ?_
    refine a_icmpneN (a := tx pl) (b := 119) 33 dX5_readClause_21 (by decide) (by omega) (by omega) (fun c21 => ?_) (fun c21 => ?_)
    · skip
      refine a_iload_n 0 dX5_readClause_33 rfl rfl ?_
      refine a_bipush 118 dX5_readClause_34 (by decide) ?_
      refine a_icmpneN (a := tx pl) (b := 118) 59 dX5_readClause_36 (by decide) (by omega) (by omega) (fun c36 => ?_) (fun c36 => ?_)
      · skip
        refine a_iload_n 0 dX5_readClause_59 rfl rfl ?_
        refine a_bipush 98 dX5_readClause_60 (by decide) ?_
        refine a_icmpneN (a := tx pl) (b := 98) 73 dX5_readClause_62 (by decide) (by omega) (by omega) (fun c62 => ?_) (fun c62 => ?_)
        · skip
          refine a_iload_n 0 dX5_readClause_73 rfl rfl ?_
          refine a_bipush 119 dX5_readClause_74 (by decide) ?_
          refine a_icmpneN (a := tx pl) (b := 119) 94 dX5_readClause_76 (by decide) (by omega) (by omega) (fun c76 => ?_) (fun c76 => ?_)
          · skip
            refine a_iload_n 0 dX5_readClause_94 rfl rfl ?_
            refine a_bipush 118 dX5_readClause_95 (by decide) ?_
            refine a_icmpneN (a := tx pl) (b := 118) 115 dX5_readClause_97 (by decide) (by omega) (by omega) (fun c97 => ?_) (fun c97 => ?_)
            · skip
              refine a_aload_n 1 dX5_readClause_115 rfl rfl ?_
              refine a_iconst 1 dX5_readClause_116 (by decide) ?_
              refine a_aload_n 1 dX5_readClause_117 rfl rfl ?_
              refine a_get f_X5_19 dX5_readClause_118 hr rfl ?_
              have hE : clF tx L pl (kb, ka, ks, kw, n, nv, kS, kU, kK, kV) = ((1, pl), (kb, ka, ks, kw, n, nv, kS, kU, kK, kV)) := by
                simp only [clF]
                rw [if_neg (by rintro (⟨h1, h2⟩ | ⟨h1, h2⟩ | ⟨h1, h2⟩) <;> first | omega | (simp_all; done)), if_neg (by omega), if_neg (by first | omega | (simp_all; done)), if_neg (by first | omega | (simp_all; done))]
              refine a_callVv (As := [.int 1, .int (nI pl)]) (rest := []) (d := 0) (mc := 0) (ms := 0) (ci := 5) l_X5_51 im_X5_stop se_X5_stop ⟨_, rfl, rfl⟩ dX5_readClause_121 ⟨Nat.le_of_ble_eq_true rfl, Nat.le_of_ble_eq_true rfl⟩ rfl (Nat.le_of_ble_eq_true rfl) ⟨Nat.le_of_ble_eq_true rfl, Nat.le_of_ble_eq_true rfl⟩ hr (c_X5_stop (a := 1) hR0 (by decide) hpl hB) (fun H2 hp2 => ?_)
              obtain ⟨hR5, hfr⟩ := hp2
              have hK5 := hK0.kept (H1 := H2) (fun q a c => hfr q (by omega))
              have hF : ∀ q : Nat, ¬ (r ≤ q ∧ q < r + 2) ∧ ¬ (k0 ≤ q ∧ q < k0 + 5) → H2[q]? = H[q]? := fun q hq => (hfr q (by omega)).trans (hF q hq)
              refine a_retv dX5_readClause_124 ⟨⟨rfl, ?_⟩, rfl, rfl⟩
              · rw [hE]
                exact ⟨hR5, hK5, hF⟩
            · skip
              omega
          · skip
            omega
        · skip
          omega
      · skip
        refine a_aload_n 2 dX5_readClause_39 rfl rfl ?_
        refine a_get f_X5_48 dX5_readClause_40 hk3 rfl ?_
        refine a_iconst 4 dX5_readClause_43 (by decide) ?_
        refine a_icmpltN (a := nv) (b := 4) 59 dX5_readClause_44 (by decide) (by omega) (by omega) (fun c44 => ?_) (fun c44 => ?_)
        · skip
          refine a_iload_n 0 dX5_readClause_59 rfl rfl ?_
          refine a_bipush 98 dX5_readClause_60 (by decide) ?_
          refine a_icmpneN (a := tx pl) (b := 98) 73 dX5_readClause_62 (by decide) (by omega) (by omega) (fun c62 => ?_) (fun c62 => ?_)
          · skip
            refine a_iload_n 0 dX5_readClause_73 rfl rfl ?_
            refine a_bipush 119 dX5_readClause_74 (by decide) ?_
            refine a_icmpneN (a := tx pl) (b := 119) 94 dX5_readClause_76 (by decide) (by omega) (by omega) (fun c76 => ?_) (fun c76 => ?_)
            · skip
              refine a_iload_n 0 dX5_readClause_94 rfl rfl ?_
              refine a_bipush 118 dX5_readClause_95 (by decide) ?_
              refine a_icmpneN (a := tx pl) (b := 118) 115 dX5_readClause_97 (by decide) (by omega) (by omega) (fun c97 => ?_) (fun c97 => ?_)
              · skip
                omega
              · skip
                refine a_aload_n 2 dX5_readClause_100 rfl rfl ?_
                refine a_get f_X5_41 dX5_readClause_101 hk3 rfl ?_
                refine a_ifeqB 115 dX5_readClause_104 (by decide) (fun c104 => ?_) (fun c104 => ?_)
                · skip
                  refine a_aload_n 1 dX5_readClause_115 rfl rfl ?_
                  refine a_iconst 1 dX5_readClause_116 (by decide) ?_
                  refine a_aload_n 1 dX5_readClause_117 rfl rfl ?_
                  refine a_get f_X5_19 dX5_readClause_118 hr rfl ?_
                  have hE : clF tx L pl (kb, ka, ks, kw, n, nv, kS, kU, kK, kV) = ((1, pl), (kb, ka, ks, kw, n, nv, kS, kU, kK, kV)) := by
                    simp only [clF]
                    rw [if_neg (by rintro (⟨h1, h2⟩ | ⟨h1, h2⟩ | ⟨h1, h2⟩) <;> first | omega | (simp_all; done)), if_neg (by omega), if_neg (by first | omega | (simp_all; done)), if_neg (by first | omega | (simp_all; done))]
                  refine a_callVv (As := [.int 1, .int (nI pl)]) (rest := []) (d := 0) (mc := 0) (ms := 0) (ci := 5) l_X5_51 im_X5_stop se_X5_stop ⟨_, rfl, rfl⟩ dX5_readClause_121 ⟨Nat.le_of_ble_eq_true rfl, Nat.le_of_ble_eq_true rfl⟩ rfl (Nat.le_of_ble_eq_true rfl) ⟨Nat.le_of_ble_eq_true rfl, Nat.le_of_ble_eq_true rfl⟩ hr (c_X5_stop (a := 1) hR0 (by decide) hpl hB) (fun H3 hp3 => ?_)
                  obtain ⟨hR5, hfr⟩ := hp3
                  have hK5 := hK0.kept (H1 := H3) (fun q a c => hfr q (by omega))
                  have hF : ∀ q : Nat, ¬ (r ≤ q ∧ q < r + 2) ∧ ¬ (k0 ≤ q ∧ q < k0 + 5) → H3[q]? = H[q]? := fun q hq => (hfr q (by omega)).trans (hF q hq)
                  refine a_retv dX5_readClause_124 ⟨⟨rfl, ?_⟩, rfl, rfl⟩
                  · rw [hE]
                    exact ⟨hR5, hK5, hF⟩
                · skip
                  refine a_aload_n 1 dX5_readClause_107 rfl rfl ?_
                  refine a_aload_n 2 dX5_readClause_108 rfl rfl ?_
                  have hE : clF tx L pl (kb, ka, ks, kw, n, nv, kS, kU, kK, kV) = (enF tx L (nuF tx L 999 0 (pl + 1)).1 (nuF tx L 999 0 (pl + 1)).2.1, (kb, ka, ks, kw, n, nv + 1, kS, kU, kK, upd kV nv (nI (nuF tx L 999 0 (pl + 1)).2.2))) := by
                    simp only [clF]
                    rw [if_neg (by rintro (⟨h1, h2⟩ | ⟨h1, h2⟩ | ⟨h1, h2⟩) <;> first | omega | (simp_all; done)), if_neg (by omega), if_neg (by omega), if_pos ⟨c97, c104⟩]
                  refine a_callVv (As := [.ref k0]) (rest := []) (d := 2) (mc := 0) (ms := 0) (ci := 5) l_X5_61 im_X5_readVoice se_X5_readVoice ⟨_, rfl, rfl⟩ dX5_readClause_109 ⟨Nat.le_of_ble_eq_true rfl, Nat.le_of_ble_eq_true rfl⟩ rfl (Nat.le_of_ble_eq_true rfl) ⟨Nat.le_of_ble_eq_true rfl, Nat.le_of_ble_eq_true rfl⟩ hr (c_X5_readVoice hR0 hlt hK0 hap hBk hB (by omega)) (fun H4 hp4 => ?_)
                  obtain ⟨hR5, hK5, hfr⟩ := hp4
                  have hF : ∀ q : Nat, ¬ (r ≤ q ∧ q < r + 2) ∧ ¬ (k0 ≤ q ∧ q < k0 + 5) → H4[q]? = H[q]? := fun q hq => (hfr q (by omega)).trans (hF q hq)
                  refine a_goto 124 dX5_readClause_112 (by decide) ?_
                  refine a_retv dX5_readClause_124 ⟨⟨rfl, ?_⟩, rfl, rfl⟩
                  · rw [hE]
                    exact ⟨hR5, hK5, hF⟩
            · skip
              omega
          · skip
            omega
        · skip
          refine a_aload_n 1 dX5_readClause_47 rfl rfl ?_
          refine a_iconst 3 dX5_readClause_48 (by decide) ?_
          refine a_aload_n 1 dX5_readClause_49 rfl rfl ?_
          refine a_get f_X5_19 dX5_readClause_50 hr rfl ?_
          have hE : clF tx L pl (kb, ka, ks, kw, n, nv, kS, kU, kK, kV) = ((3, pl), (kb, ka, ks, kw, n, nv, kS, kU, kK, kV)) := by
            simp only [clF]
            exact if_pos (Or.inr (Or.inr ⟨c36, c44⟩))
          refine a_callVv (As := [.int 3, .int (nI pl)]) (rest := []) (d := 0) (mc := 0) (ms := 0) (ci := 5) l_X5_51 im_X5_stop se_X5_stop ⟨_, rfl, rfl⟩ dX5_readClause_53 ⟨Nat.le_of_ble_eq_true rfl, Nat.le_of_ble_eq_true rfl⟩ rfl (Nat.le_of_ble_eq_true rfl) ⟨Nat.le_of_ble_eq_true rfl, Nat.le_of_ble_eq_true rfl⟩ hr (c_X5_stop (a := 3) hR0 (by decide) hpl hB) (fun H5 hp5 => ?_)
          obtain ⟨hR5, hfr⟩ := hp5
          have hK5 := hK0.kept (H1 := H5) (fun q a c => hfr q (by omega))
          have hF : ∀ q : Nat, ¬ (r ≤ q ∧ q < r + 2) ∧ ¬ (k0 ≤ q ∧ q < k0 + 5) → H5[q]? = H[q]? := fun q hq => (hfr q (by omega)).trans (hF q hq)
          refine a_goto 124 dX5_readClause_56 (by decide) ?_
          refine a_retv dX5_readClause_124 ⟨⟨rfl, ?_⟩, rfl, rfl⟩
          · rw [hE]
            exact ⟨hR5, hK5, hF⟩
    · skip
      refine a_aload_n 2 dX5_readClause_24 rfl rfl ?_
      refine a_get f_X5_45 dX5_readClause_25 hk3 rfl ?_
      refine a_bipush 8 dX5_readClause_28 (by decide) ?_
      refine a_icmpgeN (a := n) (b := 8) 47 dX5_readClause_30 (by decide) (by omega) (by omega) (fun c30 => ?_) (fun c30 => ?_)
      · skip
        refine a_aload_n 1 dX5_readClause_47 rfl rfl ?_
        refine a_iconst 3 dX5_readClause_48 (by decide) ?_
        refine a_aload_n 1 dX5_readClause_49 rfl rfl ?_
        refine a_get f_X5_19 dX5_readClause_50 hr rfl ?_
        have hE : clF tx L pl (kb, ka, ks, kw, n, nv, kS, kU, kK, kV) = ((3, pl), (kb, ka, ks, kw, n, nv, kS, kU, kK, kV)) := by
          simp only [clF]
          exact if_pos (Or.inr (Or.inl ⟨c21, c30⟩))
        refine a_callVv (As := [.int 3, .int (nI pl)]) (rest := []) (d := 0) (mc := 0) (ms := 0) (ci := 5) l_X5_51 im_X5_stop se_X5_stop ⟨_, rfl, rfl⟩ dX5_readClause_53 ⟨Nat.le_of_ble_eq_true rfl, Nat.le_of_ble_eq_true rfl⟩ rfl (Nat.le_of_ble_eq_true rfl) ⟨Nat.le_of_ble_eq_true rfl, Nat.le_of_ble_eq_true rfl⟩ hr (c_X5_stop (a := 3) hR0 (by decide) hpl hB) (fun H6 hp6 => ?_)
        obtain ⟨hR5, hfr⟩ := hp6
        have hK5 := hK0.kept (H1 := H6) (fun q a c => hfr q (by omega))
        have hF : ∀ q : Nat, ¬ (r ≤ q ∧ q < r + 2) ∧ ¬ (k0 ≤ q ∧ q < k0 + 5) → H6[q]? = H[q]? := fun q hq => (hfr q (by omega)).trans (hF q hq)
        refine a_goto 124 dX5_readClause_56 (by decide) ?_
        refine a_retv dX5_readClause_124 ⟨⟨rfl, ?_⟩, rfl, rfl⟩
        · rw [hE]
          exact ⟨hR5, hK5, hF⟩
      · skip
        refine a_iload_n 0 dX5_readClause_33 rfl rfl ?_
        refine a_bipush 118 dX5_readClause_34 (by decide) ?_
        refine a_icmpneN (a := tx pl) (b := 118) 59 dX5_readClause_36 (by decide) (by omega) (by omega) (fun c36 => ?_) (fun c36 => ?_)
        · skip
          refine a_iload_n 0 dX5_readClause_59 rfl rfl ?_
          refine a_bipush 98 dX5_readClause_60 (by decide) ?_
          refine a_icmpneN (a := tx pl) (b := 98) 73 dX5_readClause_62 (by decide) (by omega) (by omega) (fun c62 => ?_) (fun c62 => ?_)
          · skip
            refine a_iload_n 0 dX5_readClause_73 rfl rfl ?_
            refine a_bipush 119 dX5_readClause_74 (by decide) ?_
            refine a_icmpneN (a := tx pl) (b := 119) 94 dX5_readClause_76 (by decide) (by omega) (by omega) (fun c76 => ?_) (fun c76 => ?_)
            · skip
              omega
            · skip
              refine a_aload_n 2 dX5_readClause_79 rfl rfl ?_
              refine a_get f_X5_41 dX5_readClause_80 hk3 rfl ?_
              refine a_ifeqB 94 dX5_readClause_83 (by decide) (fun c83 => ?_) (fun c83 => ?_)
              · skip
                refine a_iload_n 0 dX5_readClause_94 rfl rfl ?_
                refine a_bipush 118 dX5_readClause_95 (by decide) ?_
                refine a_icmpneN (a := tx pl) (b := 118) 115 dX5_readClause_97 (by decide) (by omega) (by omega) (fun c97 => ?_) (fun c97 => ?_)
                · skip
                  refine a_aload_n 1 dX5_readClause_115 rfl rfl ?_
                  refine a_iconst 1 dX5_readClause_116 (by decide) ?_
                  refine a_aload_n 1 dX5_readClause_117 rfl rfl ?_
                  refine a_get f_X5_19 dX5_readClause_118 hr rfl ?_
                  have hE : clF tx L pl (kb, ka, ks, kw, n, nv, kS, kU, kK, kV) = ((1, pl), (kb, ka, ks, kw, n, nv, kS, kU, kK, kV)) := by
                    simp only [clF]
                    rw [if_neg (by rintro (⟨h1, h2⟩ | ⟨h1, h2⟩ | ⟨h1, h2⟩) <;> first | omega | (simp_all; done)), if_neg (by omega), if_neg (by first | omega | (simp_all; done)), if_neg (by first | omega | (simp_all; done))]
                  refine a_callVv (As := [.int 1, .int (nI pl)]) (rest := []) (d := 0) (mc := 0) (ms := 0) (ci := 5) l_X5_51 im_X5_stop se_X5_stop ⟨_, rfl, rfl⟩ dX5_readClause_121 ⟨Nat.le_of_ble_eq_true rfl, Nat.le_of_ble_eq_true rfl⟩ rfl (Nat.le_of_ble_eq_true rfl) ⟨Nat.le_of_ble_eq_true rfl, Nat.le_of_ble_eq_true rfl⟩ hr (c_X5_stop (a := 1) hR0 (by decide) hpl hB) (fun H7 hp7 => ?_)
                  obtain ⟨hR5, hfr⟩ := hp7
                  have hK5 := hK0.kept (H1 := H7) (fun q a c => hfr q (by omega))
                  have hF : ∀ q : Nat, ¬ (r ≤ q ∧ q < r + 2) ∧ ¬ (k0 ≤ q ∧ q < k0 + 5) → H7[q]? = H[q]? := fun q hq => (hfr q (by omega)).trans (hF q hq)
                  refine a_retv dX5_readClause_124 ⟨⟨rfl, ?_⟩, rfl, rfl⟩
                  · rw [hE]
                    exact ⟨hR5, hK5, hF⟩
                · skip
                  omega
              · skip
                refine a_aload_n 1 dX5_readClause_86 rfl rfl ?_
                refine a_aload_n 2 dX5_readClause_87 rfl rfl ?_
                have hE : clF tx L pl (kb, ka, ks, kw, n, nv, kS, kU, kK, kV) = ((triF tx L 999 99 99 pl).2.2.2, (kb, ka, ks, kw, n + 1, nv, upd kS n (nI (triF tx L 999 99 99 pl).1), upd kU n (nI (triF tx L 999 99 99 pl).2.1), upd kK n (nI (triF tx L 999 99 99 pl).2.2.1), kV)) := by
                  simp only [clF]
                  rw [if_neg (by rintro (⟨h1, h2⟩ | ⟨h1, h2⟩ | ⟨h1, h2⟩) <;> first | omega | (simp_all; done)), if_neg (by omega), if_pos ⟨c76, c83⟩]
                refine a_callVv (As := [.ref k0]) (rest := []) (d := 2) (mc := 0) (ms := 0) (ci := 5) l_X5_58 im_X5_readWord se_X5_readWord ⟨_, rfl, rfl⟩ dX5_readClause_88 ⟨Nat.le_of_ble_eq_true rfl, Nat.le_of_ble_eq_true rfl⟩ rfl (Nat.le_of_ble_eq_true rfl) ⟨Nat.le_of_ble_eq_true rfl, Nat.le_of_ble_eq_true rfl⟩ hr (c_X5_readWord hR0 hlt hK0 hap hBk hB (by omega)) (fun H8 hp8 => ?_)
                obtain ⟨hR5, hK5, hfr⟩ := hp8
                have hF : ∀ q : Nat, ¬ (r ≤ q ∧ q < r + 2) ∧ ¬ (k0 ≤ q ∧ q < k0 + 5) → H8[q]? = H[q]? := fun q hq => (hfr q (by omega)).trans (hF q hq)
                refine a_goto 124 dX5_readClause_91 (by decide) ?_
                refine a_retv dX5_readClause_124 ⟨⟨rfl, ?_⟩, rfl, rfl⟩
                · rw [hE]
                  exact ⟨hR5, hK5, hF⟩
          · skip
            omega
        · skip
          omega
  · skip
    refine a_aload_n 2 dX5_readClause_11 rfl rfl ?_
    refine a_get f_X5_41 dX5_readClause_12 hk3 rfl ?_
    refine a_ifneB 47 dX5_readClause_15 (by decide) (fun c15 => ?_) (fun c15 => ?_)
    · skip
      refine a_aload_n 1 dX5_readClause_47 rfl rfl ?_
      refine a_iconst 3 dX5_readClause_48 (by decide) ?_
      refine a_aload_n 1 dX5_readClause_49 rfl rfl ?_
      refine a_get f_X5_19 dX5_readClause_50 hr rfl ?_
      have hE : clF tx L pl (kb, ka, ks, kw, n, nv, kS, kU, kK, kV) = ((3, pl), (kb, ka, ks, kw, n, nv, kS, kU, kK, kV)) := by
        simp only [clF]
        exact if_pos (Or.inl ⟨c8, c15⟩)
      refine a_callVv (As := [.int 3, .int (nI pl)]) (rest := []) (d := 0) (mc := 0) (ms := 0) (ci := 5) l_X5_51 im_X5_stop se_X5_stop ⟨_, rfl, rfl⟩ dX5_readClause_53 ⟨Nat.le_of_ble_eq_true rfl, Nat.le_of_ble_eq_true rfl⟩ rfl (Nat.le_of_ble_eq_true rfl) ⟨Nat.le_of_ble_eq_true rfl, Nat.le_of_ble_eq_true rfl⟩ hr (c_X5_stop (a := 3) hR0 (by decide) hpl hB) (fun H9 hp9 => ?_)
      obtain ⟨hR5, hfr⟩ := hp9
      have hK5 := hK0.kept (H1 := H9) (fun q a c => hfr q (by omega))
      have hF : ∀ q : Nat, ¬ (r ≤ q ∧ q < r + 2) ∧ ¬ (k0 ≤ q ∧ q < k0 + 5) → H9[q]? = H[q]? := fun q hq => (hfr q (by omega)).trans (hF q hq)
      refine a_goto 124 dX5_readClause_56 (by decide) ?_
      refine a_retv dX5_readClause_124 ⟨⟨rfl, ?_⟩, rfl, rfl⟩
      · rw [hE]
        exact ⟨hR5, hK5, hF⟩
    · skip
      refine a_iload_n 0 dX5_readClause_18 rfl rfl ?_
      refine a_bipush 119 dX5_readClause_19 (by decide) ?_
      refine a_icmpneN (a := tx pl) (b := 119) 33 dX5_readClause_21 (by decide) (by omega) (by omega) (fun c21 => ?_) (fun c21 => ?_)
      · skip
        refine a_iload_n 0 dX5_readClause_33 rfl rfl ?_
        refine a_bipush 118 dX5_readClause_34 (by decide) ?_
        refine a_icmpneN (a := tx pl) (b := 118) 59 dX5_readClause_36 (by decide) (by omega) (by omega) (fun c36 => ?_) (fun c36 => ?_)
        · skip
          refine a_iload_n 0 dX5_readClause_59 rfl rfl ?_
          refine a_bipush 98 dX5_readClause_60 (by decide) ?_
          refine a_icmpneN (a := tx pl) (b := 98) 73 dX5_readClause_62 (by decide) (by omega) (by omega) (fun c62 => ?_) (fun c62 => ?_)
          · skip
            omega
          · skip
            refine a_aload_n 1 dX5_readClause_65 rfl rfl ?_
            refine a_aload_n 2 dX5_readClause_66 rfl rfl ?_
            have hE : clF tx L pl (kb, ka, ks, kw, n, nv, kS, kU, kK, kV) = ((triF tx L 99 99 999 pl).2.2.2, (true, nI (triF tx L 99 99 999 pl).1, nI (triF tx L 99 99 999 pl).2.1, nI (triF tx L 99 99 999 pl).2.2.1, n, nv, kS, kU, kK, kV)) := by
              simp only [clF]
              rw [if_neg (by rintro (⟨h1, h2⟩ | ⟨h1, h2⟩ | ⟨h1, h2⟩) <;> first | omega | (simp_all; done)), if_pos c62]
            refine a_callVv (As := [.ref k0]) (rest := []) (d := 2) (mc := 0) (ms := 0) (ci := 5) l_X5_55 im_X5_readBox se_X5_readBox ⟨_, rfl, rfl⟩ dX5_readClause_67 ⟨Nat.le_of_ble_eq_true rfl, Nat.le_of_ble_eq_true rfl⟩ rfl (Nat.le_of_ble_eq_true rfl) ⟨Nat.le_of_ble_eq_true rfl, Nat.le_of_ble_eq_true rfl⟩ hr (c_X5_readBox hR0 hlt hK0 hap hBk hB) (fun H10 hp10 => ?_)
            obtain ⟨hR5, hK5, hfr⟩ := hp10
            have hF : ∀ q : Nat, ¬ (r ≤ q ∧ q < r + 2) ∧ ¬ (k0 ≤ q ∧ q < k0 + 5) → H10[q]? = H[q]? := fun q hq => (hfr q (by omega)).trans (hF q hq)
            refine a_goto 124 dX5_readClause_70 (by decide) ?_
            refine a_retv dX5_readClause_124 ⟨⟨rfl, ?_⟩, rfl, rfl⟩
            · rw [hE]
              exact ⟨hR5, hK5, hF⟩
        · skip
          omega
      · skip
        omega
set_option maxHeartbeats 4000000 in
set_option maxRecDepth 100000 in
theorem c_X5_readInto {G : GT} {B : Nat} {l : Launch} {H : Heap} {r : Nat} {tx : Nat → Nat} {L pl kd : Nat} {k0 : Nat} {kb : Bool} {ka ks kw : Int32} {n nv : Nat} {kS kU kK kV : DD} (hR : Rd G H r tx L pl kd) (hK : Kt G H k0 kb ka ks kw n nv kS kU kK kV) (hap : r + 2 ≤ k0 ∨ k0 + 5 ≤ r) (hBk : B ≤ k0) (hB : B ≤ r) : AM G B l yX5_readInto cX5_readInto 3 (some .int) 4 0 0 [.ref r, .ref k0] H (fun rv H' => rv = some (.int (nI ((P0 tx L).1.1))) ∧ (Rd G H' r tx L (P0 tx L).1.2 (P0 tx L).1.1 ∧ KtK G H' k0 (P0 tx L).2 ∧ ∀ q : Nat, ¬ (r ≤ q ∧ q < r + 2) ∧ ¬ (k0 ≤ q ∧ q < k0 + 5) → H'[q]? = H[q]?)) := by
  have hK0 := hK
  obtain ⟨fS3, fU3, fK3, fV3, hk3, ha3, hb3, hc3, he3, eS3, eU3, eK3, eV3, hn3, hnv3⟩ := hK
  have hR0 := hR
  obtain ⟨ft, hr, ht, et, e8, hL, hpl, hkd⟩ := hR
  have hF : ∀ q : Nat, ¬ (r ≤ q ∧ q < r + 2) ∧ ¬ (k0 ≤ q ∧ q < k0 + 5) → H[q]? = H[q]? := fun _ _ => rfl
  refine AM.ofI (lv := [(0, .ref r), (1, .ref k0)]) (by decide +kernel) (Nat.le_of_ble_eq_true rfl) rfl ?_ (fun _ h => by cases h.1)
  refine a_aload_n 1 dX5_readInto_0 rfl rfl ?_
  refine a_callVv (As := []) (rest := []) (d := 0) (mc := 0) (ms := 0) (ci := 2) l_X5_25 im_X2_empty se_X2_empty ⟨_, rfl, rfl⟩ dX5_readInto_1 ⟨Nat.le_of_ble_eq_true rfl, Nat.le_of_ble_eq_true rfl⟩ rfl (Nat.le_of_ble_eq_true rfl) ⟨Nat.le_of_ble_eq_true rfl, Nat.le_of_ble_eq_true rfl⟩ hk3 (c_X2_empty hK0 hBk) (fun H1 hp1 => ?_)
  obtain ⟨hK1, hfr⟩ := hp1
  have hr := hr.kept (hfr _ (by omega))
  have ht := ht.kept (hfr _ (by omega))
  have hF : ∀ q : Nat, ¬ (r ≤ q ∧ q < r + 2) ∧ ¬ (k0 ≤ q ∧ q < k0 + 5) → H1[q]? = H[q]? := fun q hq => (hfr q (by omega)).trans (hF q hq)
  refine a_aload_n 0 dX5_readInto_4 rfl rfl ?_
  refine a_iconst 0 dX5_readInto_5 (by decide) ?_
  refine a_put f_X5_19 p_X5_19 dX5_readInto_6 hr (Nat.le_of_ble_eq_true rfl) rfl rfl (by omega) (fun H2 hr hz2 hq2 => ?_)
  have hr : Ob G H2 r 5 [.ref (r + 1), .int (nI L), .int 0, .int (nI kd)] := hr
  have ht := ht.kept (hq2 _ (by omega))
  have hF : ∀ q : Nat, ¬ (r ≤ q ∧ q < r + 2) ∧ ¬ (k0 ≤ q ∧ q < k0 + 5) → H2[q]? = H[q]? := fun q hq => (hq2 q (by omega)).trans (hF q hq)
  refine a_aload_n 0 dX5_readInto_9 rfl rfl ?_
  refine a_iconst 0 dX5_readInto_10 (by decide) ?_
  refine a_put f_X5_22 p_X5_22 dX5_readInto_11 hr (Nat.le_of_ble_eq_true rfl) rfl rfl (by omega) (fun H3 hr hz3 hq3 => ?_)
  have hr : Ob G H3 r 5 [.ref (r + 1), .int (nI L), .int 0, .int 0] := hr
  have ht := ht.kept (hq3 _ (by omega))
  have hF : ∀ q : Nat, ¬ (r ≤ q ∧ q < r + 2) ∧ ¬ (k0 ≤ q ∧ q < k0 + 5) → H3[q]? = H[q]? := fun q hq => (hq3 q (by omega)).trans (hF q hq)
  refine a_aload_n 0 dX5_readInto_14 rfl rfl ?_
  have hRz : Rd G H3 r tx L 0 0 := ⟨_, hr, ht, et, e8, hL, by decide, by decide⟩
  have hK2 := hK1.kept (H1 := H3) (fun q a c => by rw [hq3 q (by omega), hq2 q (by omega)])
  refine a_callVv (As := []) (rest := []) (d := 0) (mc := 0) (ms := 0) (ci := 5) l_X5_30 im_X5_skipBlanks se_X5_skipBlanks ⟨_, rfl, rfl⟩ dX5_readInto_15 ⟨Nat.le_of_ble_eq_true rfl, Nat.le_of_ble_eq_true rfl⟩ rfl (Nat.le_of_ble_eq_true rfl) ⟨Nat.le_of_ble_eq_true rfl, Nat.le_of_ble_eq_true rfl⟩ hr (c_X5_skipBlanks hRz hB) (fun H4 hp4 => ?_)
  obtain ⟨hR1, hfr⟩ := hp4
  have hK3 := hK2.kept (H1 := H4) (fun q a c => hfr q (by omega))
  have hK4 : KtK G H4 k0 (kk0 zD zD zD zD) := hK3.zero
  have hF : ∀ q : Nat, ¬ (r ≤ q ∧ q < r + 2) ∧ ¬ (k0 ≤ q ∧ q < k0 + 5) → H4[q]? = H[q]? := fun q hq => (hfr q (by omega)).trans (hF q hq)
  refine a_iconst 0 dX5_readInto_18 (by decide) ?_
  refine a_istore_n (lv' := [(2, .int 0), (0, .ref r), (1, .ref k0)]) dX5_readInto_19 rfl (by decide) rfl ?_
  have L20 : ∀ (fu : Nat) (k : Nat) (Hk : Heap) (kd p : Nat) (K : KK), k ≤ 240 → Rd G Hk r tx L p kd → KtK G Hk k0 K → P0 tx L = paF tx L (240 - k) kd p K → (∀ q : Nat, ¬ (r ≤ q ∧ q < r + 2) ∧ ¬ (k0 ≤ q ∧ q < k0 + 5) → Hk[q]? = H[q]?) → 240 - k < fu → AW G B l { frames := 4, cells := 0, slots := 0, locals := 27 * 4 } yX5_readInto.cls cX5_readInto 3 false (fun rv H' ce' sl' => (rv = some (.int (nI ((P0 tx L).1.1))) ∧ (Rd G H' r tx L (P0 tx L).1.2 (P0 tx L).1.1 ∧ KtK G H' k0 (P0 tx L).2 ∧ ∀ q : Nat, ¬ (r ≤ q ∧ q < r + 2) ∧ ¬ (k0 ≤ q ∧ q < k0 + 5) → H'[q]? = H[q]?)) ∧ ce' = 0 ∧ sl' = 0) 20 [(0, .ref r), (1, .ref k0), (2, .int (nI k))] [] Hk 0 0 := by
    intro fu
    induction fu with
    | zero => intro k Hk kd p K hk hR hK hg hF hm20; exact absurd hm20 (Nat.not_lt_zero _)
    | succ fu ih20 =>
      intro k Hk kd p K hk hR hK hg hF hm20
      obtain ⟨ft, hr, ht, et, e8, hL, hpl, hkd⟩ := id hR
      refine a_iload_n 2 dX5_readInto_20 rfl rfl ?_
      refine a_sipush 240 dX5_readInto_21 (by decide) ?_
      refine a_icmpgeN (a := k) (b := 240) 60 dX5_readInto_24 (by decide) (by omega) (by omega) (fun c24 => ?_) (fun c24 => ?_)
      · skip
        have hE : P0 tx L = ((kd, p), K) := by
          rw [hg]
          rw [show 240 - k = 0 by omega]
          rfl
        refine a_aload_n 0 dX5_readInto_60 rfl rfl ?_
        refine a_get f_X5_22 dX5_readInto_61 hr rfl ?_
        refine a_ret dX5_readInto_64 ⟨⟨ri ?_, ?_⟩, rfl, rfl⟩
        · rw [hE]
        · rw [hE]
          exact ⟨hR, hK, hF⟩
      · skip
        refine a_aload_n 0 dX5_readInto_27 rfl rfl ?_
        refine a_get f_X5_22 dX5_readInto_28 hr rfl ?_
        refine a_ifneN (a := kd) 60 dX5_readInto_31 (by decide) (by omega) (fun c31 => ?_) (fun c31 => ?_)
        · skip
          have hE : P0 tx L = ((kd, p), K) := by
            rw [hg]
            rw [show 240 - k = (240 - (k + 1)) + 1 by omega]
            simp only [paF]
            exact if_neg (fun h => c31 h.1)
          refine a_aload_n 0 dX5_readInto_60 rfl rfl ?_
          refine a_get f_X5_22 dX5_readInto_61 hr rfl ?_
          refine a_ret dX5_readInto_64 ⟨⟨ri ?_, ?_⟩, rfl, rfl⟩
          · rw [hE]
          · rw [hE]
            exact ⟨hR, hK, hF⟩
        · skip
          refine a_aload_n 0 dX5_readInto_34 rfl rfl ?_
          refine a_get f_X5_19 dX5_readInto_35 hr rfl ?_
          refine a_aload_n 0 dX5_readInto_38 rfl rfl ?_
          refine a_get f_X5_15 dX5_readInto_39 hr rfl ?_
          refine a_icmpgeN (a := p) (b := L) 60 dX5_readInto_42 (by decide) (by omega) (by omega) (fun c42 => ?_) (fun c42 => ?_)
          · skip
            have hE : P0 tx L = ((kd, p), K) := by
              rw [hg]
              rw [show 240 - k = (240 - (k + 1)) + 1 by omega]
              simp only [paF]
              exact if_neg (fun h => absurd h.2 (by omega))
            refine a_aload_n 0 dX5_readInto_60 rfl rfl ?_
            refine a_get f_X5_22 dX5_readInto_61 hr rfl ?_
            refine a_ret dX5_readInto_64 ⟨⟨ri ?_, ?_⟩, rfl, rfl⟩
            · rw [hE]
            · rw [hE]
              exact ⟨hR, hK, hF⟩
          · skip
            refine a_aload_n 0 dX5_readInto_45 rfl rfl ?_
            refine a_aload_n 1 dX5_readInto_46 rfl rfl ?_
            refine a_callVv (As := [.ref k0]) (rest := []) (d := 3) (mc := 0) (ms := 0) (ci := 5) l_X5_33 im_X5_readClause se_X5_readClause ⟨_, rfl, rfl⟩ dX5_readInto_47 ⟨Nat.le_of_ble_eq_true rfl, Nat.le_of_ble_eq_true rfl⟩ rfl (Nat.le_of_ble_eq_true rfl) ⟨Nat.le_of_ble_eq_true rfl, Nat.le_of_ble_eq_true rfl⟩ hr (c_X5_readClause (pl := p) (by rw [c31] at hR; exact hR) c42 hK hap hBk hB) (fun H5 hp5 => ?_)
            obtain ⟨hR1, hK1, hfr⟩ := hp5
            obtain ⟨ft, hr, ht, -⟩ := id hR1
            have hF : ∀ q : Nat, ¬ (r ≤ q ∧ q < r + 2) ∧ ¬ (k0 ≤ q ∧ q < k0 + 5) → H5[q]? = H[q]? := fun q hq => (hfr q (by omega)).trans (hF q hq)
            refine a_aload_n 0 dX5_readInto_50 rfl rfl ?_
            refine a_callVv (As := []) (rest := []) (d := 0) (mc := 0) (ms := 0) (ci := 5) l_X5_30 im_X5_skipBlanks se_X5_skipBlanks ⟨_, rfl, rfl⟩ dX5_readInto_51 ⟨Nat.le_of_ble_eq_true rfl, Nat.le_of_ble_eq_true rfl⟩ rfl (Nat.le_of_ble_eq_true rfl) ⟨Nat.le_of_ble_eq_true rfl, Nat.le_of_ble_eq_true rfl⟩ hr (c_X5_skipBlanks hR1 hB) (fun H6 hp6 => ?_)
            obtain ⟨hR2, hfr⟩ := hp6
            have hK2 := hK1.kept (H1 := H6) (fun q a c => hfr q (by omega))
            have hF : ∀ q : Nat, ¬ (r ≤ q ∧ q < r + 2) ∧ ¬ (k0 ≤ q ∧ q < k0 + 5) → H6[q]? = H[q]? := fun q hq => (hfr q (by omega)).trans (hF q hq)
            refine a_iincN (q := 2) (lv' := [(2, .int (nI (k + 1))), (0, .ref r), (1, .ref k0)]) dX5_readInto_54 rfl (by decide) rfl ?_
            refine a_goto 20 dX5_readInto_57 (by decide) ?_
            refine a_sub [1, 2, 0] rfl ?_
            exact ih20 _ _ _ _ _ (by omega) hR2 hK2 (by rw [hg, show 240 - k = (240 - (k + 1)) + 1 by omega]; simp only [paF]; rw [if_pos ⟨c31, c42⟩]) hF (by omega)
  refine a_sub [1, 2, 0] rfl ?_
  exact L20 _ 0 _ _ _ _ (Nat.zero_le _) hR1 hK4 rfl hF (Nat.lt_succ_self _)
set_option maxHeartbeats 4000000 in
set_option maxRecDepth 100000 in
theorem c_X6_kitchen_fault {G : GT} {B : Nat} {l : Launch} {H : Heap} {b : Nat} {tx : Nat → Nat} {L : Nat} {fp : Int32} {kb : Bool} {ka ks kw : Int32} {n nv : Nat} {kK kV dd : DD} {sd nx ct : Nat} {pu : Nat → DD} {sn : Nat} {sw sg : Nat → Nat} {bn : Nat} {bw : Nat → Nat} {bt : DD} {ik : Nat → Bool} {iD : Nat → DD} {iS : Nat → Nat} (hP : (P0 tx L).1.1 ≠ 0) (hX : Bx G H b tx L fp kb ka ks kw n nv kK kV dd sd nx ct pu sn sw sg bn bw bt ik iD iS) (hB : B ≤ b) : AM G B l yX6_kitchen cX6_kitchen 4 (some .int) 5 0 0 [.ref b] H (fun rv H' => rv = some (.int ((-10) - nI (P0 tx L).1.1)) ∧ (Bx G H' b tx 0 (nI (P0 tx L).1.2) kb ka ks kw n nv kK kV dd sd nx ct pu sn sw sg bn bw bt ik iD iS ∧ ∀ q : Nat, ¬ (b ≤ q ∧ q < b + 120) → H'[q]? = H[q]?)) := by
  have hX0 := hX
  obtain ⟨kr, sp, kS, kU, hC, hR2, hK2, hT2, hPs, hSe, hBo, hIm⟩ := hX
  have hC0 := hC
  obtain ⟨hb, hK, hD, hkr⟩ := hC
  have hK0 := hK
  have hN := hD
  unfold bxL at hb
  obtain ⟨fS3, fU3, fK3, fV3, hk3, ha3, hb3, hc3, he3, eS3, eU3, eK3, eV3, hn3, hnv3⟩ := hK
  obtain ⟨fS, fU, fO, hd, hs, hu, ho, eS, eU, eO, hn⟩ := hD
  have hpo := hPs.1
  have hse := hSe
  have hbo := hBo
  obtain ⟨fA, fB, hsp, hsa, hsb, eA, eB, hsN, -⟩ := hse
  obtain ⟨fA2, fB2, hbp, hba, hbb, eA2, eB2, hbN, -⟩ := hbo
  obtain ⟨pl, kd, hR⟩ := id hR2
  obtain ⟨ft, hr, -⟩ := id hR
  obtain ⟨kb9, ka9, ks9, kw9, n9, nv9, kS9, kU9, kK9, kV9, hK9⟩ := id hK2
  have hF : ∀ q : Nat, ¬ (b ≤ q ∧ q < b + 13) → H[q]? = H[q]? := fun _ _ => rfl
  have hJ : ∀ q : Nat, ¬ (b ≤ q ∧ q < b + 3) ∧ ¬ (sp ≤ q ∧ q < sp + 5) → H[q]? = H[q]? := fun _ _ => rfl
  refine AM.ofI (lv := [(0, .ref b)]) (by decide +kernel) (Nat.le_of_ble_eq_true rfl) rfl ?_ (fun _ h => by cases h.1)
  refine a_aload_n 0 dX6_kitchen_0 rfl rfl ?_
  refine a_get f_X6_10 dX6_kitchen_1 hb rfl ?_
  refine a_aload_n 0 dX6_kitchen_4 rfl rfl ?_
  refine a_get f_X6_27 dX6_kitchen_5 hb rfl ?_
  refine a_callVi (As := [.ref sp]) (rest := []) (d := 4) (mc := 0) (ms := 0) (x := nI ((P0 tx L).1.1)) (ci := 5) l_X6_78 im_X5_readInto se_X5_readInto ⟨_, rfl, rfl⟩ dX6_kitchen_8 ⟨Nat.le_of_ble_eq_true rfl, Nat.le_of_ble_eq_true rfl⟩ rfl (Nat.le_of_ble_eq_true rfl) ⟨Nat.le_of_ble_eq_true rfl, Nat.le_of_ble_eq_true rfl⟩ hr (c_X5_readInto hR hK9 (by omega) (by omega) (by omega)) (fun H1 hp1 => ?_)
  obtain ⟨hR5, hK5, hfr⟩ := hp1
  obtain ⟨ft9, hr, -⟩ := id hR5
  have hkd9 : (P0 tx L).1.1 ≤ 3 := hR5.choose_spec.2.2.2.2.2.2
  have hC5 := hC0.kept2 (H1 := H1) (fun q a => hfr q (by omega))
  have hb := hb.kept (hfr _ (by omega))
  have hk3 := hk3.kept (hfr _ (by omega))
  have ha3 := ha3.kept (hfr _ (by omega))
  have hb3 := hb3.kept (hfr _ (by omega))
  have hc3 := hc3.kept (hfr _ (by omega))
  have he3 := he3.kept (hfr _ (by omega))
  have hd := hd.kept (hfr _ (by omega))
  have hs := hs.kept (hfr _ (by omega))
  have hu := hu.kept (hfr _ (by omega))
  have ho := ho.kept (hfr _ (by omega))
  have hpo := hpo.kept (hfr _ (by omega))
  have hsp := hsp.kept (hfr _ (by omega))
  have hbp := hbp.kept (hfr _ (by omega))
  have hF : ∀ q : Nat, ¬ (b ≤ q ∧ q < b + 13) → H1[q]? = H[q]? := fun q hq => (hfr q (by omega)).trans (hF q hq)
  have hJ : ∀ q : Nat, ¬ (b ≤ q ∧ q < b + 3) ∧ ¬ (sp ≤ q ∧ q < sp + 5) → H1[q]? = H[q]? := fun q hq => (hfr q (by omega)).trans (hJ q hq)
  refine a_istore_n (lv' := [(1, .int (nI ((P0 tx L).1.1))), (0, .ref b)]) dX6_kitchen_11 rfl (by decide) rfl ?_
  refine a_aload_n 1 dX6_kitchen_12 rfl rfl ?_
  refine a_iload_n 0 dX6_kitchen_13 rfl rfl ?_
  refine a_ifneN (a := (P0 tx L).1.1) 21 dX6_kitchen_14 (by decide) (by omega) (fun c14 => ?_) (fun c14 => ?_)
  · skip
    refine a_aload_n 1 dX6_kitchen_21 rfl rfl ?_
    refine a_get f_X6_10 dX6_kitchen_22 hb rfl ?_
    refine a_get f_X6_82 dX6_kitchen_25 hr rfl ?_
    refine a_put f_X6_16 p_X6_16 dX6_kitchen_28 hb (Nat.le_of_ble_eq_true rfl) rfl rfl (by omega) (fun H2 hb hz2 hq2 => ?_)
    have hb : Ob G H2 b 6 [.ref (b + 1), .int (nI ((P0 tx L).1.2)), .ref kr, .ref sp, .ref (b + 13), .ref (b + 17), .ref (b + 21), .ref (b + 103), .int (nI sd), .ref (b + 104), .ref (b + 107)] := hb
    have hk3 := hk3.kept (hq2 _ (by omega))
    have ha3 := ha3.kept (hq2 _ (by omega))
    have hb3 := hb3.kept (hq2 _ (by omega))
    have hc3 := hc3.kept (hq2 _ (by omega))
    have he3 := he3.kept (hq2 _ (by omega))
    have hd := hd.kept (hq2 _ (by omega))
    have hs := hs.kept (hq2 _ (by omega))
    have hu := hu.kept (hq2 _ (by omega))
    have ho := ho.kept (hq2 _ (by omega))
    have hpo := hpo.kept (hq2 _ (by omega))
    have hsp := hsp.kept (hq2 _ (by omega))
    have hbp := hbp.kept (hq2 _ (by omega))
    have hr := hr.kept (hq2 _ (by omega))
    have hF : ∀ q : Nat, ¬ (b ≤ q ∧ q < b + 13) → H2[q]? = H[q]? := fun q hq => (hq2 q (by omega)).trans (hF q hq)
    have hJ : ∀ q : Nat, ¬ (b ≤ q ∧ q < b + 3) ∧ ¬ (sp ≤ q ∧ q < sp + 5) → H2[q]? = H[q]? := fun q hq => (hq2 q (by omega)).trans (hJ q hq)
    refine a_aload_n 1 dX6_kitchen_31 rfl rfl ?_
    refine a_get f_X6_10 dX6_kitchen_32 hb rfl ?_
    have hR6 := hR5.kept (H1 := H2) (fun q a c => hq2 q (by omega))
    have hC6 := hC5.box hb hq2
    have hK6 := hK5.kept (H1 := H2) (fun q a c => hq2 q (by omega))
    refine a_callVv (As := []) (rest := []) (d := 0) (mc := 0) (ms := 0) (ci := 5) l_X6_85 im_X5_forget se_X5_forget ⟨_, rfl, rfl⟩ dX6_kitchen_35 ⟨Nat.le_of_ble_eq_true rfl, Nat.le_of_ble_eq_true rfl⟩ rfl (Nat.le_of_ble_eq_true rfl) ⟨Nat.le_of_ble_eq_true rfl, Nat.le_of_ble_eq_true rfl⟩ hr (c_X5_forget hR6 (by omega)) (fun H3 hp3 => ?_)
    obtain ⟨hR7, hfr⟩ := hp3
    have hC7 := hC6.kept (H1 := H3) (fun q a c => hfr q (by omega))
    have hb := hb.kept (hfr _ (by omega))
    have hk3 := hk3.kept (hfr _ (by omega))
    have ha3 := ha3.kept (hfr _ (by omega))
    have hb3 := hb3.kept (hfr _ (by omega))
    have hc3 := hc3.kept (hfr _ (by omega))
    have he3 := he3.kept (hfr _ (by omega))
    have hd := hd.kept (hfr _ (by omega))
    have hs := hs.kept (hfr _ (by omega))
    have hu := hu.kept (hfr _ (by omega))
    have ho := ho.kept (hfr _ (by omega))
    have hpo := hpo.kept (hfr _ (by omega))
    have hsp := hsp.kept (hfr _ (by omega))
    have hbp := hbp.kept (hfr _ (by omega))
    have hF : ∀ q : Nat, ¬ (b ≤ q ∧ q < b + 13) → H3[q]? = H[q]? := fun q hq => (hfr q (by omega)).trans (hF q hq)
    have hJ : ∀ q : Nat, ¬ (b ≤ q ∧ q < b + 3) ∧ ¬ (sp ≤ q ∧ q < sp + 5) → H3[q]? = H[q]? := fun q hq => (hfr q (by omega)).trans (hJ q hq)
    refine a_iload_n 0 dX6_kitchen_38 rfl rfl ?_
    refine a_ifeqN (a := (P0 tx L).1.1) 47 dX6_kitchen_39 (by decide) (by omega) (fun c39 => ?_) (fun c39 => ?_)
    · skip
      exact absurd c39 hP
    · skip
      refine a_bipush (-10) dX6_kitchen_42 (by decide) ?_
      refine a_iload_n 0 dX6_kitchen_44 rfl rfl ?_
      refine a_isub dX6_kitchen_45 ?_
      refine a_ret dX6_kitchen_46 ⟨⟨ri ?_, ?_⟩, rfl, rfl⟩
      · rfl
      · have hK8 := hK6.kept (fun q a c => hfr q (by omega))
        exact ⟨⟨kr, sp, kS, kU, hC7, ⟨_, _, hR7⟩, ⟨_, _, _, _, _, _, _, _, _, _, hK8⟩, hT2.kept (fun q a c => hF q (by omega)), hPs.kept (fun q a c => hF q (by omega)), hSe.kept (fun q a c => hF q (by omega)), hBo.kept (fun q a c => hF q (by omega)), hIm.kept (fun q a => hF q (by omega))⟩, fun q hq => hF q (by omega)⟩
  · skip
    exact absurd c14 hP
set_option maxHeartbeats 4000000 in
set_option maxRecDepth 100000 in
theorem c_X6_kitchen {G : GT} {B : Nat} {l : Launch} {H : Heap} {b : Nat} {tx : Nat → Nat} {L : Nat} {fp : Int32} {kb : Bool} {ka ks kw : Int32} {n nv : Nat} {kK kV dd : DD} {sd nx ct : Nat} {pu : Nat → DD} {sn : Nat} {sw sg : Nat → Nat} {bn : Nat} {bw : Nat → Nat} {bt : DD} {ik : Nat → Bool} {iD : Nat → DD} {iS : Nat → Nat} (hP : (P0 tx L).1.1 = 0) (hX : Bx G H b tx L fp kb ka ks kw n nv kK kV dd sd nx ct pu sn sw sg bn bw bt ik iD iS) (hB : B ≤ b) : AM G B l yX6_kitchen cX6_kitchen 4 (some .int) 5 0 0 [.ref b] H (fun rv H' => rv = some (.int (nI ((P0 tx L).2.2.2.2.2.1))) ∧ (Bx G H' b tx 0 (-1) ((P0 tx L).2.1) ((P0 tx L).2.2.1) ((P0 tx L).2.2.2.1) ((P0 tx L).2.2.2.2.1) ((P0 tx L).2.2.2.2.2.1) ((P0 tx L).2.2.2.2.2.2.1) ((P0 tx L).2.2.2.2.2.2.2.2.2.1) ((P0 tx L).2.2.2.2.2.2.2.2.2.2) (bgF ((P0 tx L).2.2.2.2.2.2.2.1) ((P0 tx L).2.2.2.2.2.2.2.2.1)) sd nx 0 pu 0 sw sg 0 bw bt (fun _ => false) iD iS ∧ ∀ q : Nat, ¬ (b ≤ q ∧ q < b + 120) → H'[q]? = H[q]?)) := by
  have hX0 := hX
  obtain ⟨kr, sp, kS, kU, hC, hR2, hK2, hT2, hPs, hSe, hBo, hIm⟩ := hX
  have hC0 := hC
  obtain ⟨hb, hK, hD, hkr⟩ := hC
  have hK0 := hK
  have hN := hD
  unfold bxL at hb
  obtain ⟨fS3, fU3, fK3, fV3, hk3, ha3, hb3, hc3, he3, eS3, eU3, eK3, eV3, hn3, hnv3⟩ := hK
  obtain ⟨fS, fU, fO, hd, hs, hu, ho, eS, eU, eO, hn⟩ := hD
  have hpo := hPs.1
  have hse := hSe
  have hbo := hBo
  obtain ⟨fA, fB, hsp, hsa, hsb, eA, eB, hsN, -⟩ := hse
  obtain ⟨fA2, fB2, hbp, hba, hbb, eA2, eB2, hbN, -⟩ := hbo
  obtain ⟨pl, kd, hR⟩ := id hR2
  obtain ⟨ft, hr, -⟩ := id hR
  obtain ⟨kb9, ka9, ks9, kw9, n9, nv9, kS9, kU9, kK9, kV9, hK9⟩ := id hK2
  have hF : ∀ q : Nat, ¬ (b ≤ q ∧ q < b + 120) → H[q]? = H[q]? := fun _ _ => rfl
  have hJ : ∀ q : Nat, ¬ (b ≤ q ∧ q < b + 17) → H[q]? = H[q]? := fun _ _ => rfl
  have hM : ∀ q : Nat, ¬ (b ≤ q ∧ q < b + 3) ∧ ¬ (sp ≤ q ∧ q < sp + 5) ∧ ¬ (b + 13 ≤ q ∧ q < b + 17) ∧ ¬ (b + 21 ≤ q ∧ q < b + 103) → H[q]? = H[q]? := fun _ _ => rfl
  refine AM.ofI (lv := [(0, .ref b)]) (by decide +kernel) (Nat.le_of_ble_eq_true rfl) rfl ?_ (fun _ h => by cases h.1)
  refine a_aload_n 0 dX6_kitchen_0 rfl rfl ?_
  refine a_get f_X6_10 dX6_kitchen_1 hb rfl ?_
  refine a_aload_n 0 dX6_kitchen_4 rfl rfl ?_
  refine a_get f_X6_27 dX6_kitchen_5 hb rfl ?_
  refine a_callVi (As := [.ref sp]) (rest := []) (d := 4) (mc := 0) (ms := 0) (x := nI ((P0 tx L).1.1)) (ci := 5) l_X6_78 im_X5_readInto se_X5_readInto ⟨_, rfl, rfl⟩ dX6_kitchen_8 ⟨Nat.le_of_ble_eq_true rfl, Nat.le_of_ble_eq_true rfl⟩ rfl (Nat.le_of_ble_eq_true rfl) ⟨Nat.le_of_ble_eq_true rfl, Nat.le_of_ble_eq_true rfl⟩ hr (c_X5_readInto hR hK9 (by omega) (by omega) (by omega)) (fun H1 hp1 => ?_)
  obtain ⟨hR5, hK5, hfr⟩ := hp1
  obtain ⟨ft9, hr, -⟩ := id hR5
  have hkd9 : (P0 tx L).1.1 ≤ 3 := hR5.choose_spec.2.2.2.2.2.2
  have hC5 := hC0.kept2 (H1 := H1) (fun q a => hfr q (by omega))
  have hb := hb.kept (hfr _ (by omega))
  have hk3 := hk3.kept (hfr _ (by omega))
  have ha3 := ha3.kept (hfr _ (by omega))
  have hb3 := hb3.kept (hfr _ (by omega))
  have hc3 := hc3.kept (hfr _ (by omega))
  have he3 := he3.kept (hfr _ (by omega))
  have hd := hd.kept (hfr _ (by omega))
  have hs := hs.kept (hfr _ (by omega))
  have hu := hu.kept (hfr _ (by omega))
  have ho := ho.kept (hfr _ (by omega))
  have hpo := hpo.kept (hfr _ (by omega))
  have hsp := hsp.kept (hfr _ (by omega))
  have hbp := hbp.kept (hfr _ (by omega))
  have hF : ∀ q : Nat, ¬ (b ≤ q ∧ q < b + 120) → H1[q]? = H[q]? := fun q hq => (hfr q (by omega)).trans (hF q hq)
  have hJ : ∀ q : Nat, ¬ (b ≤ q ∧ q < b + 17) → H1[q]? = H[q]? := fun q hq => (hfr q (by omega)).trans (hJ q hq)
  have hM : ∀ q : Nat, ¬ (b ≤ q ∧ q < b + 3) ∧ ¬ (sp ≤ q ∧ q < sp + 5) ∧ ¬ (b + 13 ≤ q ∧ q < b + 17) ∧ ¬ (b + 21 ≤ q ∧ q < b + 103) → H1[q]? = H[q]? := fun q hq => (hfr q (by omega)).trans (hM q hq)
  refine a_istore_n (lv' := [(1, .int (nI ((P0 tx L).1.1))), (0, .ref b)]) dX6_kitchen_11 rfl (by decide) rfl ?_
  refine a_aload_n 1 dX6_kitchen_12 rfl rfl ?_
  refine a_iload_n 0 dX6_kitchen_13 rfl rfl ?_
  refine a_ifneN (a := (P0 tx L).1.1) 21 dX6_kitchen_14 (by decide) (by omega) (fun c14 => ?_) (fun c14 => ?_)
  · skip
    exact absurd hP c14
  · skip
    refine a_iconst (-1) dX6_kitchen_17 (by decide) ?_
    refine a_goto 28 dX6_kitchen_18 (by decide) ?_
    refine a_put f_X6_16 p_X6_16 dX6_kitchen_28 hb (Nat.le_of_ble_eq_true rfl) rfl rfl (by omega) (fun H2 hb hz2 hq2 => ?_)
    have hb : Ob G H2 b 6 [.ref (b + 1), .int (-1), .ref kr, .ref sp, .ref (b + 13), .ref (b + 17), .ref (b + 21), .ref (b + 103), .int (nI sd), .ref (b + 104), .ref (b + 107)] := hb
    have hk3 := hk3.kept (hq2 _ (by omega))
    have ha3 := ha3.kept (hq2 _ (by omega))
    have hb3 := hb3.kept (hq2 _ (by omega))
    have hc3 := hc3.kept (hq2 _ (by omega))
    have he3 := he3.kept (hq2 _ (by omega))
    have hd := hd.kept (hq2 _ (by omega))
    have hs := hs.kept (hq2 _ (by omega))
    have hu := hu.kept (hq2 _ (by omega))
    have ho := ho.kept (hq2 _ (by omega))
    have hpo := hpo.kept (hq2 _ (by omega))
    have hsp := hsp.kept (hq2 _ (by omega))
    have hbp := hbp.kept (hq2 _ (by omega))
    have hr := hr.kept (hq2 _ (by omega))
    have hF : ∀ q : Nat, ¬ (b ≤ q ∧ q < b + 120) → H2[q]? = H[q]? := fun q hq => (hq2 q (by omega)).trans (hF q hq)
    have hJ : ∀ q : Nat, ¬ (b ≤ q ∧ q < b + 17) → H2[q]? = H[q]? := fun q hq => (hq2 q (by omega)).trans (hJ q hq)
    have hM : ∀ q : Nat, ¬ (b ≤ q ∧ q < b + 3) ∧ ¬ (sp ≤ q ∧ q < sp + 5) ∧ ¬ (b + 13 ≤ q ∧ q < b + 17) ∧ ¬ (b + 21 ≤ q ∧ q < b + 103) → H2[q]? = H[q]? := fun q hq => (hq2 q (by omega)).trans (hM q hq)
    refine a_aload_n 1 dX6_kitchen_31 rfl rfl ?_
    refine a_get f_X6_10 dX6_kitchen_32 hb rfl ?_
    have hR6 := hR5.kept (H1 := H2) (fun q a c => hq2 q (by omega))
    have hC6 := hC5.box hb hq2
    have hK6 := hK5.kept (H1 := H2) (fun q a c => hq2 q (by omega))
    refine a_callVv (As := []) (rest := []) (d := 0) (mc := 0) (ms := 0) (ci := 5) l_X6_85 im_X5_forget se_X5_forget ⟨_, rfl, rfl⟩ dX6_kitchen_35 ⟨Nat.le_of_ble_eq_true rfl, Nat.le_of_ble_eq_true rfl⟩ rfl (Nat.le_of_ble_eq_true rfl) ⟨Nat.le_of_ble_eq_true rfl, Nat.le_of_ble_eq_true rfl⟩ hr (c_X5_forget hR6 (by omega)) (fun H3 hp3 => ?_)
    obtain ⟨hR7, hfr⟩ := hp3
    have hC7 := hC6.kept (H1 := H3) (fun q a c => hfr q (by omega))
    have hb := hb.kept (hfr _ (by omega))
    have hk3 := hk3.kept (hfr _ (by omega))
    have ha3 := ha3.kept (hfr _ (by omega))
    have hb3 := hb3.kept (hfr _ (by omega))
    have hc3 := hc3.kept (hfr _ (by omega))
    have he3 := he3.kept (hfr _ (by omega))
    have hd := hd.kept (hfr _ (by omega))
    have hs := hs.kept (hfr _ (by omega))
    have hu := hu.kept (hfr _ (by omega))
    have ho := ho.kept (hfr _ (by omega))
    have hpo := hpo.kept (hfr _ (by omega))
    have hsp := hsp.kept (hfr _ (by omega))
    have hbp := hbp.kept (hfr _ (by omega))
    have hF : ∀ q : Nat, ¬ (b ≤ q ∧ q < b + 120) → H3[q]? = H[q]? := fun q hq => (hfr q (by omega)).trans (hF q hq)
    have hJ : ∀ q : Nat, ¬ (b ≤ q ∧ q < b + 17) → H3[q]? = H[q]? := fun q hq => (hfr q (by omega)).trans (hJ q hq)
    have hM : ∀ q : Nat, ¬ (b ≤ q ∧ q < b + 3) ∧ ¬ (sp ≤ q ∧ q < sp + 5) ∧ ¬ (b + 13 ≤ q ∧ q < b + 17) ∧ ¬ (b + 21 ≤ q ∧ q < b + 103) → H3[q]? = H[q]? := fun q hq => (hfr q (by omega)).trans (hM q hq)
    refine a_iload_n 0 dX6_kitchen_38 rfl rfl ?_
    refine a_ifeqN (a := (P0 tx L).1.1) 47 dX6_kitchen_39 (by decide) (by omega) (fun c39 => ?_) (fun c39 => ?_)
    · skip
      refine a_aload_n 1 dX6_kitchen_47 rfl rfl ?_
      refine a_get f_X6_27 dX6_kitchen_48 hb rfl ?_
      refine a_astore_n (lv' := [(2, .ref sp), (1, .int (nI ((P0 tx L).1.1))), (0, .ref b)]) dX6_kitchen_51 rfl (by decide) rfl ?_
      have hKs := hK6.kept (H1 := H3) (fun q a c => hfr q (by omega))
      skip
      refine a_aload_n 2 dX6_kitchen_52 rfl rfl ?_
      have hS : ∀ q : Nat, q ≠ b → H3[q]? = H3[q]? := fun _ _ => rfl
      have hQ : ∀ q : Nat, q ≠ b ∧ ¬ (b + 13 ≤ q ∧ q < b + 17) ∧ ¬ (b + 21 ≤ q ∧ q < b + 103) → H3[q]? = H3[q]? := fun _ _ => rfl
      refine a_aload_n 2 dX6_kitchen_53 rfl rfl ?_
      refine a_get f_X6_23 dX6_kitchen_54 hb rfl ?_
      refine a_put f_X6_27 p_X6_27 dX6_kitchen_57 hb (Nat.le_of_ble_eq_true rfl) rfl rfl (by omega) (fun H4 hb hz4 hq4 => ?_)
      have hb : Ob G H4 b 6 [.ref (b + 1), .int (-1), .ref kr, .ref kr, .ref (b + 13), .ref (b + 17), .ref (b + 21), .ref (b + 103), .int (nI sd), .ref (b + 104), .ref (b + 107)] := hb
      have hk3 := hk3.kept (hq4 _ (by omega))
      have ha3 := ha3.kept (hq4 _ (by omega))
      have hb3 := hb3.kept (hq4 _ (by omega))
      have hc3 := hc3.kept (hq4 _ (by omega))
      have he3 := he3.kept (hq4 _ (by omega))
      have hd := hd.kept (hq4 _ (by omega))
      have hs := hs.kept (hq4 _ (by omega))
      have hu := hu.kept (hq4 _ (by omega))
      have ho := ho.kept (hq4 _ (by omega))
      have hpo := hpo.kept (hq4 _ (by omega))
      have hsp := hsp.kept (hq4 _ (by omega))
      have hbp := hbp.kept (hq4 _ (by omega))
      have hF : ∀ q : Nat, ¬ (b ≤ q ∧ q < b + 120) → H4[q]? = H[q]? := fun q hq => (hq4 q (by omega)).trans (hF q hq)
      have hJ : ∀ q : Nat, ¬ (b ≤ q ∧ q < b + 17) → H4[q]? = H[q]? := fun q hq => (hq4 q (by omega)).trans (hJ q hq)
      have hM : ∀ q : Nat, ¬ (b ≤ q ∧ q < b + 3) ∧ ¬ (sp ≤ q ∧ q < sp + 5) ∧ ¬ (b + 13 ≤ q ∧ q < b + 17) ∧ ¬ (b + 21 ≤ q ∧ q < b + 103) → H4[q]? = H[q]? := fun q hq => (hq4 q (by omega)).trans (hM q hq)
      have hS : ∀ q : Nat, q ≠ b → H4[q]? = H3[q]? := fun q hq => (hq4 q (by omega)).trans (hS q hq)
      have hQ : ∀ q : Nat, q ≠ b ∧ ¬ (b + 13 ≤ q ∧ q < b + 17) ∧ ¬ (b + 21 ≤ q ∧ q < b + 103) → H4[q]? = H3[q]? := fun q hq => (hq4 q (by omega)).trans (hQ q hq)
      refine a_aload_n 2 dX6_kitchen_60 rfl rfl ?_
      refine a_aload_n 0 dX6_kitchen_61 rfl rfl ?_
      refine a_put f_X6_23 p_X6_23 dX6_kitchen_62 hb (Nat.le_of_ble_eq_true rfl) rfl rfl (by omega) (fun H5 hb hz5 hq5 => ?_)
      have hb : Ob G H5 b 6 [.ref (b + 1), .int (-1), .ref sp, .ref kr, .ref (b + 13), .ref (b + 17), .ref (b + 21), .ref (b + 103), .int (nI sd), .ref (b + 104), .ref (b + 107)] := hb
      have hk3 := hk3.kept (hq5 _ (by omega))
      have ha3 := ha3.kept (hq5 _ (by omega))
      have hb3 := hb3.kept (hq5 _ (by omega))
      have hc3 := hc3.kept (hq5 _ (by omega))
      have he3 := he3.kept (hq5 _ (by omega))
      have hd := hd.kept (hq5 _ (by omega))
      have hs := hs.kept (hq5 _ (by omega))
      have hu := hu.kept (hq5 _ (by omega))
      have ho := ho.kept (hq5 _ (by omega))
      have hpo := hpo.kept (hq5 _ (by omega))
      have hsp := hsp.kept (hq5 _ (by omega))
      have hbp := hbp.kept (hq5 _ (by omega))
      have hF : ∀ q : Nat, ¬ (b ≤ q ∧ q < b + 120) → H5[q]? = H[q]? := fun q hq => (hq5 q (by omega)).trans (hF q hq)
      have hJ : ∀ q : Nat, ¬ (b ≤ q ∧ q < b + 17) → H5[q]? = H[q]? := fun q hq => (hq5 q (by omega)).trans (hJ q hq)
      have hM : ∀ q : Nat, ¬ (b ≤ q ∧ q < b + 3) ∧ ¬ (sp ≤ q ∧ q < sp + 5) ∧ ¬ (b + 13 ≤ q ∧ q < b + 17) ∧ ¬ (b + 21 ≤ q ∧ q < b + 103) → H5[q]? = H[q]? := fun q hq => (hq5 q (by omega)).trans (hM q hq)
      have hS : ∀ q : Nat, q ≠ b → H5[q]? = H3[q]? := fun q hq => (hq5 q (by omega)).trans (hS q hq)
      have hQ : ∀ q : Nat, q ≠ b ∧ ¬ (b + 13 ≤ q ∧ q < b + 17) ∧ ¬ (b + 21 ≤ q ∧ q < b + 103) → H5[q]? = H3[q]? := fun q hq => (hq5 q (by omega)).trans (hQ q hq)
      refine a_aload_n 2 dX6_kitchen_65 rfl rfl ?_
      refine a_get f_X6_33 dX6_kitchen_66 hb rfl ?_
      refine a_aload_n 2 dX6_kitchen_69 rfl rfl ?_
      refine a_get f_X6_23 dX6_kitchen_70 hb rfl ?_
      have hKs2 := hKs.kept (H1 := H5) (fun q a c => hS q (by omega))
      obtain ⟨fS3, fU3, fK3, fV3, hks, -⟩ := id hKs2
      have hN7 := hC7.2.2.1.kept (H1 := H5) (fun q a c => hS q (by omega))
      refine a_callVv (As := [.ref sp]) (rest := []) (d := 1) (mc := 0) (ms := 0) (ci := 0) l_X6_88 im_X0_begin se_X0_begin ⟨_, rfl, rfl⟩ dX6_kitchen_73 ⟨Nat.le_of_ble_eq_true rfl, Nat.le_of_ble_eq_true rfl⟩ rfl (Nat.le_of_ble_eq_true rfl) ⟨Nat.le_of_ble_eq_true rfl, Nat.le_of_ble_eq_true rfl⟩ hd (c_X0_begin hKs2 (by omega) hN7 (by omega)) (fun H6 hp6 => ?_)
      obtain ⟨hD8, hfr8⟩ := hp6
      have hKs3 := hKs2.kept (H1 := H6) (fun q a c => hfr8 q (by omega))
      have hks := hks.kept (hfr8 _ (by omega))
      have hC8 : Bc G H6 b sp kr (-1) (nI sd) ((P0 tx L).2.1) ((P0 tx L).2.2.1) ((P0 tx L).2.2.2.1) ((P0 tx L).2.2.2.2.1) ((P0 tx L).2.2.2.2.2.1) ((P0 tx L).2.2.2.2.2.2.1) ((P0 tx L).2.2.2.2.2.2.2.1) ((P0 tx L).2.2.2.2.2.2.2.2.1) ((P0 tx L).2.2.2.2.2.2.2.2.2.1) ((P0 tx L).2.2.2.2.2.2.2.2.2.2) (bgF ((P0 tx L).2.2.2.2.2.2.2.1) ((P0 tx L).2.2.2.2.2.2.2.2.1)) := ⟨by unfold bxL; exact hb.kept (hfr8 _ (by omega)), hKs3, hD8, by omega⟩
      have hb := hb.kept (hfr8 _ (by omega))
      have hk3 := hk3.kept (hfr8 _ (by omega))
      have ha3 := ha3.kept (hfr8 _ (by omega))
      have hb3 := hb3.kept (hfr8 _ (by omega))
      have hc3 := hc3.kept (hfr8 _ (by omega))
      have he3 := he3.kept (hfr8 _ (by omega))
      have hpo := hpo.kept (hfr8 _ (by omega))
      have hsp := hsp.kept (hfr8 _ (by omega))
      have hbp := hbp.kept (hfr8 _ (by omega))
      have hF : ∀ q : Nat, ¬ (b ≤ q ∧ q < b + 120) → H6[q]? = H[q]? := fun q hq => (hfr8 q (by omega)).trans (hF q hq)
      have hJ : ∀ q : Nat, ¬ (b ≤ q ∧ q < b + 17) → H6[q]? = H[q]? := fun q hq => (hfr8 q (by omega)).trans (hJ q hq)
      have hM : ∀ q : Nat, ¬ (b ≤ q ∧ q < b + 3) ∧ ¬ (sp ≤ q ∧ q < sp + 5) ∧ ¬ (b + 13 ≤ q ∧ q < b + 17) ∧ ¬ (b + 21 ≤ q ∧ q < b + 103) → H6[q]? = H[q]? := fun q hq => (hfr8 q (by omega)).trans (hM q hq)
      have hQ : ∀ q : Nat, q ≠ b ∧ ¬ (b + 13 ≤ q ∧ q < b + 17) ∧ ¬ (b + 21 ≤ q ∧ q < b + 103) → H6[q]? = H3[q]? := fun q hq => (hfr8 q (by omega)).trans (hQ q hq)
      refine a_aload_n 2 dX6_kitchen_76 rfl rfl ?_
      refine a_get f_X6_43 dX6_kitchen_77 hb rfl ?_
      have hPs8 := hPs.kept (H1 := H6) (fun q a c => hJ q (by omega))
      refine a_callVv (As := []) (rest := []) (d := 0) (mc := 0) (ms := 0) (ci := 4) l_X6_92 im_X4_clear se_X4_clear ⟨_, rfl, rfl⟩ dX6_kitchen_80 ⟨Nat.le_of_ble_eq_true rfl, Nat.le_of_ble_eq_true rfl⟩ rfl (Nat.le_of_ble_eq_true rfl) ⟨Nat.le_of_ble_eq_true rfl, Nat.le_of_ble_eq_true rfl⟩ hpo (c_X4_clear hPs8 (by omega)) (fun H7 hp7 => ?_)
      obtain ⟨hPs9, hfr9⟩ := hp7
      have hC9 := hC8.kept (H1 := H7) (fun q a c => hfr9 q (by omega))
      have hb := hb.kept (hfr9 _ (by omega))
      have hk3 := hk3.kept (hfr9 _ (by omega))
      have ha3 := ha3.kept (hfr9 _ (by omega))
      have hb3 := hb3.kept (hfr9 _ (by omega))
      have hc3 := hc3.kept (hfr9 _ (by omega))
      have he3 := he3.kept (hfr9 _ (by omega))
      have hsp := hsp.kept (hfr9 _ (by omega))
      have hbp := hbp.kept (hfr9 _ (by omega))
      have hF : ∀ q : Nat, ¬ (b ≤ q ∧ q < b + 120) → H7[q]? = H[q]? := fun q hq => (hfr9 q (by omega)).trans (hF q hq)
      have hM : ∀ q : Nat, ¬ (b ≤ q ∧ q < b + 3) ∧ ¬ (sp ≤ q ∧ q < sp + 5) ∧ ¬ (b + 13 ≤ q ∧ q < b + 17) ∧ ¬ (b + 21 ≤ q ∧ q < b + 103) → H7[q]? = H[q]? := fun q hq => (hfr9 q (by omega)).trans (hM q hq)
      have hQ : ∀ q : Nat, q ≠ b ∧ ¬ (b + 13 ≤ q ∧ q < b + 17) ∧ ¬ (b + 21 ≤ q ∧ q < b + 103) → H7[q]? = H3[q]? := fun q hq => (hfr9 q (by omega)).trans (hQ q hq)
      have hR9 : Rd G H7 (b + 1) tx 0 (P0 tx L).1.2 (P0 tx L).1.1 := hR7.kept (fun q a c => hQ q (by omega))
      have hKo9 : K2 G H7 kr := K2.kept ⟨_, _, _, _, _, _, _, _, _, _, hK0⟩ (fun q a c => hM q (by omega))
      have hT9 := hT2.kept (H1 := H7) (fun q a c => hM q (by omega))
      have hSe9 := hSe.kept (H1 := H7) (fun q a c => hM q (by omega))
      have hBo9 := hBo.kept (H1 := H7) (fun q a c => hM q (by omega))
      have hIm9 := hIm.kept (H1 := H7) (fun q a => hM q (by omega))
      obtain ⟨⟨fI, hia, eI⟩, hIi⟩ := hIm9
      refine a_iconst 0 dX6_kitchen_83 (by decide) ?_
      refine a_istore_n (lv' := [(3, .int 0), (2, .ref sp), (1, .int (nI ((P0 tx L).1.1))), (0, .ref b)]) dX6_kitchen_84 rfl (by decide) rfl ?_
      have L85 : ∀ (fu : Nat) (k : Nat) (Hk : Heap), k ≤ 2 → Bc G Hk b sp kr (-1) (nI sd) ((P0 tx L).2.1) ((P0 tx L).2.2.1) ((P0 tx L).2.2.2.1) ((P0 tx L).2.2.2.2.1) ((P0 tx L).2.2.2.2.2.1) ((P0 tx L).2.2.2.2.2.2.1) ((P0 tx L).2.2.2.2.2.2.2.1) ((P0 tx L).2.2.2.2.2.2.2.2.1) ((P0 tx L).2.2.2.2.2.2.2.2.2.1) ((P0 tx L).2.2.2.2.2.2.2.2.2.2) (bgF ((P0 tx L).2.2.2.2.2.2.2.1) ((P0 tx L).2.2.2.2.2.2.2.2.1)) → Rd G Hk (b + 1) tx 0 (P0 tx L).1.2 (P0 tx L).1.1 → K2 G Hk kr → T2 G Hk (b + 17) → (∀ (n' : Nat) (pu' : Nat → DD), Ps G Hk (b + 21) nx 0 n' pu') → Pr G Hk (b + 104) 6 sn (fun i => nI (sw i)) (fun i => nI (sg i)) → Pr G Hk (b + 107) 15 bn (fun i => nI (bw i)) bt → Aq G Hk (b + 103) 4 2 fI → (∀ i, i < 2 → fI i = some (b + 110 + 5 * i)) → (∀ i, i < 2 → ∃ (n' : Nat) (dd' : DD) (dr : Int32) (kp : Bool), Im G Hk (b + 110 + 5 * i) kp dr n' dd' ∧ (i < k → kp = false)) → (∀ q : Nat, ¬ (b ≤ q ∧ q < b + 120) → Hk[q]? = H[q]?) → 2 - k < fu → AW G B l { frames := 5, cells := 0, slots := 0, locals := 27 * 5 } yX6_kitchen.cls cX6_kitchen 4 false (fun rv H' ce' sl' => (rv = some (.int (nI ((P0 tx L).2.2.2.2.2.1))) ∧ (Bx G H' b tx 0 (-1) ((P0 tx L).2.1) ((P0 tx L).2.2.1) ((P0 tx L).2.2.2.1) ((P0 tx L).2.2.2.2.1) ((P0 tx L).2.2.2.2.2.1) ((P0 tx L).2.2.2.2.2.2.1) ((P0 tx L).2.2.2.2.2.2.2.2.2.1) ((P0 tx L).2.2.2.2.2.2.2.2.2.2) (bgF ((P0 tx L).2.2.2.2.2.2.2.1) ((P0 tx L).2.2.2.2.2.2.2.2.1)) sd nx 0 pu 0 sw sg 0 bw bt (fun _ => false) iD iS ∧ ∀ q : Nat, ¬ (b ≤ q ∧ q < b + 120) → H'[q]? = H[q]?)) ∧ ce' = 0 ∧ sl' = 0) 85 [(0, .ref b), (1, .int (nI ((P0 tx L).1.1))), (2, .ref sp), (3, .int (nI k))] [] Hk 0 0 := by
        intro fu
        induction fu with
        | zero => intro k Hk hk hC hR7 hKo hT2 hPs hSe hBo hia eI hIi hF hm85; exact absurd hm85 (Nat.not_lt_zero _)
        | succ fu ih85 =>
          intro k Hk hk hC hR7 hKo hT2 hPs hSe hBo hia eI hIi hF hm85
          obtain ⟨hb, hK1, hD1, -⟩ := id hC
          unfold bxL at hb
          obtain ⟨fS3, fU3, fK3, fV3, hks, -⟩ := id hK1
          obtain ⟨fA, fB, hsp, -⟩ := id hSe
          obtain ⟨fA2, fB2, hbp, -⟩ := id hBo
          have hG : ∀ q : Nat, ¬ (b + 104 ≤ q ∧ q < b + 110) ∧ ¬ (b + 110 + 5 * k ≤ q ∧ q < b + 111 + 5 * k) → Hk[q]? = Hk[q]? := fun _ _ => rfl
          refine a_iload_n 3 dX6_kitchen_85 rfl rfl ?_
          refine a_iconst 2 dX6_kitchen_86 (by decide) ?_
          refine a_icmpgeN (a := k) (b := 2) 106 dX6_kitchen_87 (by decide) (by omega) (by omega) (fun c87 => ?_) (fun c87 => ?_)
          · skip
            refine a_aload_n 0 dX6_kitchen_106 rfl rfl ?_
            refine a_get f_X6_61 dX6_kitchen_107 hb rfl ?_
            refine a_callVv (As := []) (rest := []) (d := 0) (mc := 0) (ms := 0) (ci := 3) l_X6_99 im_X3_clear se_X3_clear ⟨_, rfl, rfl⟩ dX6_kitchen_110 ⟨Nat.le_of_ble_eq_true rfl, Nat.le_of_ble_eq_true rfl⟩ rfl (Nat.le_of_ble_eq_true rfl) ⟨Nat.le_of_ble_eq_true rfl, Nat.le_of_ble_eq_true rfl⟩ hsp (c_X3_clear hSe (by omega)) (fun H8 hp8 => ?_)
            obtain ⟨hSe1, hfr⟩ := hp8
            have hBo1 := hBo.kept (H1 := H8) (fun q a c => hfr q (by omega))
            have hb := hb.kept (hfr _ (by omega))
            have hks := hks.kept (hfr _ (by omega))
            have hbp := hbp.kept (hfr _ (by omega))
            have hia := hia.kept (hfr _ (by omega))
            have hF : ∀ q : Nat, ¬ (b ≤ q ∧ q < b + 120) → H8[q]? = H[q]? := fun q hq => (hfr q (by omega)).trans (hF q hq)
            have hG : ∀ q : Nat, ¬ (b + 104 ≤ q ∧ q < b + 110) ∧ ¬ (b + 110 + 5 * k ≤ q ∧ q < b + 111 + 5 * k) → H8[q]? = Hk[q]? := fun q hq => (hfr q (by omega)).trans (hG q hq)
            refine a_aload_n 0 dX6_kitchen_113 rfl rfl ?_
            refine a_get f_X6_65 dX6_kitchen_114 hb rfl ?_
            refine a_callVv (As := []) (rest := []) (d := 0) (mc := 0) (ms := 0) (ci := 3) l_X6_99 im_X3_clear se_X3_clear ⟨_, rfl, rfl⟩ dX6_kitchen_117 ⟨Nat.le_of_ble_eq_true rfl, Nat.le_of_ble_eq_true rfl⟩ rfl (Nat.le_of_ble_eq_true rfl) ⟨Nat.le_of_ble_eq_true rfl, Nat.le_of_ble_eq_true rfl⟩ hbp (c_X3_clear hBo1 (by omega)) (fun H9 hp9 => ?_)
            obtain ⟨hBo2, hfr2⟩ := hp9
            have hb := hb.kept (hfr2 _ (by omega))
            have hks := hks.kept (hfr2 _ (by omega))
            have hia := hia.kept (hfr2 _ (by omega))
            have hF : ∀ q : Nat, ¬ (b ≤ q ∧ q < b + 120) → H9[q]? = H[q]? := fun q hq => (hfr2 q (by omega)).trans (hF q hq)
            have hG : ∀ q : Nat, ¬ (b + 104 ≤ q ∧ q < b + 110) ∧ ¬ (b + 110 + 5 * k ≤ q ∧ q < b + 111 + 5 * k) → H9[q]? = Hk[q]? := fun q hq => (hfr2 q (by omega)).trans (hG q hq)
            refine a_aload_n 0 dX6_kitchen_120 rfl rfl ?_
            refine a_get f_X6_23 dX6_kitchen_121 hb rfl ?_
            refine a_get f_X6_100 dX6_kitchen_124 hks rfl ?_
            refine a_ret dX6_kitchen_127 ⟨⟨ri ?_, ?_⟩, rfl, rfl⟩
            · rfl
            · have hIm : Im2 G _ b ((P0 tx L).2.2.2.2.2.1) (fun _ => false) iD iS := ⟨⟨fI, hia, eI⟩, fun i hi => by
                obtain ⟨n8, dd8, dr8, kp8, h8, h9⟩ := hIi i hi
                have h9 := h9 (by omega)
                subst h9
                exact ⟨n8, dd8, dr8, h8.kept (fun q a c => hG q (by omega)), fun h => by cases h⟩⟩
              exact ⟨⟨sp, kr, _, _, hC.kept (fun q a c => hG q (by omega)), ⟨_, _, hR7.kept (fun q a c => hG q (by omega))⟩, hKo.kept (fun q a c => hG q (by omega)), hT2.kept (fun q a c => hG q (by omega)), (hPs _ _).kept (fun q a c => hG q (by omega)), (hSe1 _ _).kept (fun q a c => hfr2 q (by omega)), hBo2 _ _, hIm⟩, hF⟩
          · skip
            refine a_aload_n 0 dX6_kitchen_90 rfl rfl ?_
            refine a_get f_X6_49 dX6_kitchen_91 hb rfl ?_
            refine a_iload_n 3 dX6_kitchen_94 rfl rfl ?_
            obtain ⟨n9, dd9, dr, kp, ⟨hio, hiD⟩, -⟩ := hIi k (by omega)
            refine a_aald (t := 4) (C0 := RX1) (x := b + 110 + 5 * k) (fun _ => rfl) dX6_kitchen_95 hia (by omega) (by decide) (eI _ (by omega)) ?_
            refine a_iconst 0 dX6_kitchen_96 (by decide) ?_
            refine a_put f_X6_95 p_X6_95 dX6_kitchen_97 hio (Nat.le_of_ble_eq_true rfl) rfl rfl (by omega) (fun H10 hio hz10 hq10 => ?_)
            have hio : Ob G H10 (b + 110 + 5 * k) 1 [.int 0, .ref (b + 110 + 5 * k + 1), .int dr] := hio
            have hb := hb.kept (hq10 _ (by omega))
            have hks := hks.kept (hq10 _ (by omega))
            have hsp := hsp.kept (hq10 _ (by omega))
            have hbp := hbp.kept (hq10 _ (by omega))
            have hia := hia.kept (hq10 _ (by omega))
            have hF : ∀ q : Nat, ¬ (b ≤ q ∧ q < b + 120) → H10[q]? = H[q]? := fun q hq => (hq10 q (by omega)).trans (hF q hq)
            have hG : ∀ q : Nat, ¬ (b + 104 ≤ q ∧ q < b + 110) ∧ ¬ (b + 110 + 5 * k ≤ q ∧ q < b + 111 + 5 * k) → H10[q]? = Hk[q]? := fun q hq => (hq10 q (by omega)).trans (hG q hq)
            have hCn := hC.kept (H1 := H10) (fun q a c => hq10 q (by omega))
            have hR7n := hR7.kept (H1 := H10) (fun q a c => hq10 q (by omega))
            have hKon := hKo.kept (H1 := H10) (fun q a c => hq10 q (by omega))
            have hT2n := hT2.kept (H1 := H10) (fun q a c => hq10 q (by omega))
            have hSen := hSe.kept (H1 := H10) (fun q a c => hq10 q (by omega))
            have hBon := hBo.kept (H1 := H10) (fun q a c => hq10 q (by omega))
            have hPsn : ∀ (n' : Nat) (pu' : Nat → DD), Ps G H10 (b + 21) nx 0 n' pu' := fun n' pu' => (hPs n' pu').kept (fun q a c => hq10 q (by omega))
            have hIin : ∀ i, i < 2 → ∃ (n' : Nat) (dd' : DD) (dr : Int32) (kp : Bool), Im G H10 (b + 110 + 5 * i) kp dr n' dd' ∧ (i < k + 1 → kp = false) := by
              intro i hi
              by_cases e : i = k
              · subst e
                exact ⟨n9, dd9, dr, false, ⟨hio, hiD.kept (fun q a c => hq10 q (by omega))⟩, fun _ => rfl⟩
              · obtain ⟨n8, dd8, dr8, kp8, h8, h9⟩ := hIi i hi
                exact ⟨n8, dd8, dr8, kp8, h8.kept (fun q a c => hq10 q (by omega)), fun h => h9 (by omega)⟩
            refine a_iincN (q := 3) (lv' := [(3, .int (nI (k + 1))), (0, .ref b), (1, .int (nI ((P0 tx L).1.1))), (2, .ref sp)]) dX6_kitchen_100 rfl (by decide) rfl ?_
            refine a_goto 85 dX6_kitchen_103 (by decide) ?_
            refine a_sub [1, 2, 3, 0] rfl ?_
            exact ih85 _ _ (by omega) hCn hR7n hKon hT2n hPsn hSen hBon hia eI hIin hF (by omega)
      refine a_sub [3, 2, 1, 0] rfl ?_
      exact L85 _ 0 _ (Nat.zero_le _) hC9 hR9 hKo9 hT9 hPs9 hSe9 hBo9 hia eI (fun i hi => by obtain ⟨n8, dd8, dr8, h8, -⟩ := hIi i hi; exact ⟨n8, dd8, dr8, _, h8, fun h => absurd h (Nat.not_lt_zero _)⟩) hF (Nat.lt_succ_self _)
    · skip
      exact absurd hP c39
