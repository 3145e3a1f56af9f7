/-! ===== BEGIN both sides at once ===== -/
/-- a BeansBox at b, its reference behind it, both in one state -/
def SS (G : GT) (H : Heap) (b : Nat) : Prop := ∃ (tx : Nat → Nat) (L : Nat) (fp : Int32) (kb : Bool) (ka ks kw : Int32) (n nv : Nat) (kK kV dd : DD) (sd nx ct : Nat) (pu : Nat → DD) (sn : Nat) (sw sg : Nat → Nat) (bn : Nat) (bw : Nat → Nat) (bt : DD) (ik : Nat → Bool) (iD : Nat → DD) (iS : Nat → Nat), Bx G H b tx L fp kb ka ks kw n nv kK kV dd sd nx ct pu sn sw sg bn bw bt ik iD iS ∧ Mx G H (b + 120) tx L fp kb ka ks kw n nv kK kV dd sd nx ct pu sn sw sg bn bw bt ik iD iS ∧ Iv n nv kK kV dd sd nx ct pu sn sw bn bw ik iD iS
/-- a call of the one, then of the other: one answer, and again one state -/
def Tw (G : GT) (B : Nat) (l : Launch) (b : Nat) (y1 : MethodName) (c1 : ByteArray) (n1 d1 : Nat) (y2 : MethodName) (c2 : ByteArray) (n2 d2 : Nat) (As : List Value) (H : Heap) : Prop :=
  ∃ (r : Int32) (fs : List Value), Ob G H b 6 fs ∧ AM G B l y1 c1 n1 (some .int) d1 0 0 (.ref b :: As) H (fun rv H1 => rv = some (.int r) ∧ ((∃ fs2 : List Value, Ob G H1 (b + 120) 7 fs2) ∧ AM G B l y2 c2 n2 (some .int) d2 0 0 (.ref (b + 120) :: As) H1 (fun rv2 H2 => rv2 = some (.int r) ∧ SS G H2 b)))
section TW
variable {G : GT} {B : Nat} {l : Launch} {H : Heap} {b : Nat} {y1 y2 : MethodName} {c1 c2 : ByteArray} {n1 d1 n2 d2 : Nat} {As : List Value}
variable {tx : Nat → Nat} {L : Nat} {fp : Int32} {kb : Bool} {ka ks kw : Int32} {n nv : Nat} {kK kV dd : DD} {sd nx ct : Nat} {pu : Nat → DD} {sn : Nat} {sw sg : Nat → Nat} {bn : Nat} {bw : Nat → Nat} {bt : DD} {ik : Nat → Bool} {iD : Nat → DD} {iS : Nat → Nat}
theorem tw_c {tx' : Nat → Nat} {L' : Nat} {fp' : Int32} {kb' : Bool} {ka' ks' kw' : Int32} {n' nv' : Nat} {kK' kV' dd' : DD} {sd' nx' ct' : Nat} {pu' : Nat → DD} {sn' : Nat} {sw' sg' : Nat → Nat} {bn' : Nat} {bw' : Nat → Nat} {bt' : DD} {ik' : Nat → Bool} {iD' : Nat → DD} {iS' : Nat → Nat} {r : Int32} (hX : Bx G H b tx L fp kb ka ks kw n nv kK kV dd sd nx ct pu sn sw sg bn bw bt ik iD iS) (hM : Mx G H (b + 120) tx L fp kb ka ks kw n nv kK kV dd sd nx ct pu sn sw sg bn bw bt ik iD iS) (h1 : AM G B l y1 c1 n1 (some .int) d1 0 0 (.ref b :: As) H (fun rv H' => rv = some (.int r) ∧ (Bx G H' b tx' L' fp' kb' ka' ks' kw' n' nv' kK' kV' dd' sd' nx' ct' pu' sn' sw' sg' bn' bw' bt' ik' iD' iS' ∧ ∀ q : Nat, ¬ (b ≤ q ∧ q < b + 120) → H'[q]? = H[q]?)))
    (h2 : ∀ H1 : Heap, Mx G H1 (b + 120) tx L fp kb ka ks kw n nv kK kV dd sd nx ct pu sn sw sg bn bw bt ik iD iS → AM G B l y2 c2 n2 (some .int) d2 0 0 (.ref (b + 120) :: As) H1 (fun rv H' => rv = some (.int r) ∧ (Mx G H' (b + 120) tx' L' fp' kb' ka' ks' kw' n' nv' kK' kV' dd' sd' nx' ct' pu' sn' sw' sg' bn' bw' bt' ik' iD' iS' ∧ ∀ q : Nat, ¬ (b + 120 ≤ q ∧ q < b + 120 + 15) → H'[q]? = H1[q]?))) (hI : Iv n' nv' kK' kV' dd' sd' nx' ct' pu' sn' sw' bn' bw' ik' iD' iS') : Tw G B l b y1 c1 n1 d1 y2 c2 n2 d2 As H := by
  obtain ⟨_, _, _, _, hC, -⟩ := id hX
  refine ⟨r, _, hC.1, h1.mono fun v H1 q => ?_⟩
  obtain ⟨e, hB1, hf⟩ := q
  have hM1 := hM.kept (H1 := H1) (fun q a c => hf q (by omega))
  obtain ⟨_, _, _, _, _, hm, -⟩ := id hM1
  refine ⟨e, ⟨_, hm.1⟩, (h2 H1 hM1).mono fun v2 H2 q => ?_⟩
  obtain ⟨e2, hM2, hf2⟩ := q
  exact ⟨e2, _, _, _, _, _, _, _, _, _, _, _, _, _, _, _, _, _, _, _, _, _, _, _, _, _, hB1.kept (fun q a c => hf2 q (by omega)), hM2, hI⟩
theorem am_q {y : MethodName} {c : ByteArray} {nL d : Nat} {av : List Value} {r : Int32} {Φ : Heap → Prop} {Rg : Nat → Prop} (hX : Φ H) (h : AM G B l y c nL (some .int) d 0 0 av H (fun rv H' => rv = some (.int r) ∧ H' = H)) : AM G B l y c nL (some .int) d 0 0 av H (fun rv H' => rv = some (.int r) ∧ (Φ H' ∧ ∀ q : Nat, Rg q → H'[q]? = H[q]?)) :=
  h.mono fun v H' q => ⟨q.1, by rw [q.2]; exact hX, fun _ _ => by rw [q.2]⟩
theorem tw_q {r : Int32} (hX : Bx G H b tx L fp kb ka ks kw n nv kK kV dd sd nx ct pu sn sw sg bn bw bt ik iD iS) (hM : Mx G H (b + 120) tx L fp kb ka ks kw n nv kK kV dd sd nx ct pu sn sw sg bn bw bt ik iD iS) (hI : Iv n nv kK kV dd sd nx ct pu sn sw bn bw ik iD iS) (h1 : AM G B l y1 c1 n1 (some .int) d1 0 0 (.ref b :: As) H (fun rv H' => rv = some (.int r) ∧ H' = H))
    (h2 : ∀ H1 : Heap, Mx G H1 (b + 120) tx L fp kb ka ks kw n nv kK kV dd sd nx ct pu sn sw sg bn bw bt ik iD iS → AM G B l y2 c2 n2 (some .int) d2 0 0 (.ref (b + 120) :: As) H1 (fun rv H' => rv = some (.int r) ∧ H' = H1)) : Tw G B l b y1 c1 n1 d1 y2 c2 n2 d2 As H :=
  tw_c hX hM (am_q (Φ := fun H' => Bx G H' b tx L fp kb ka ks kw n nv kK kV dd sd nx ct pu sn sw sg bn bw bt ik iD iS) hX h1) (fun H1 hm => am_q (Φ := fun H' => Mx G H' (b + 120) tx L fp kb ka ks kw n nv kK kV dd sd nx ct pu sn sw sg bn bw bt ik iD iS) hm (h2 H1 hm)) hI
theorem bx_t2 {y : MethodName} {c : ByteArray} {nL d : Nat} {av : List Value} {r : Int32} (hX : Bx G H b tx L fp kb ka ks kw n nv kK kV dd sd nx ct pu sn sw sg bn bw bt ik iD iS) (h : AM G B l y c nL (some .int) d 0 0 av H (fun rv H' => rv = some (.int r) ∧ ((∃ td : DD, Dd G H' (b + 17) n td) ∧ ∀ q : Nat, ¬ (b + 17 ≤ q ∧ q < b + 21) → H'[q]? = H[q]?))) : AM G B l y c nL (some .int) d 0 0 av H (fun rv H' => rv = some (.int r) ∧ (Bx G H' b tx L fp kb ka ks kw n nv kK kV dd sd nx ct pu sn sw sg bn bw bt ik iD iS ∧ ∀ q : Nat, ¬ (b ≤ q ∧ q < b + 120) → H'[q]? = H[q]?)) := by
  refine h.mono fun v H1 q => ?_
  obtain ⟨e, ⟨td, hD⟩, hq⟩ := q
  obtain ⟨kr, sp, kS, kU, g1, g2, g3, g4, g5, g6, g7, g8⟩ := hX
  have hk := g1.2.2.2
  exact ⟨e, ⟨kr, sp, kS, kU, g1.kept (fun q a c => hq q (by omega)), g2.kept (fun q a c => hq q (by omega)), g3.kept (fun q a c => hq q (by omega)), ⟨_, _, hD⟩, g5.kept (fun q a c => hq q (by omega)), g6.kept (fun q a c => hq q (by omega)), g7.kept (fun q a c => hq q (by omega)), g8.kept (fun q a => hq q (by omega))⟩, fun q a => hq q (by omega)⟩
theorem mx_c {y : MethodName} {c : ByteArray} {nL d a : Nat} {av : List Value} {r ra rf rw rx : Int32} {ir : Bool} (hT : Mt G H a tx L) (hU : Mu G H (a + 9) nx ct n pu) (hS : Mp G H (a + 10) 12 sn (fun i => nI (sw i)) (fun i => nI (sg i))) (hK9 : Mp G H (a + 11) 30 bn (fun i => nI (bw i)) bt) (hJ9 : Mk G H a n ik iD iS) (h : AM G B l y c nL (some .int) d 0 0 av H (fun rv H' => rv = some (.int r) ∧ (Mc G H' a L fp ra rf rw rx ir kb n nv ct nx sd sn bn ka ks kw kK kV dd ∧ ∀ q : Nat, q ≠ a + 8 → H'[q]? = H[q]?))) : AM G B l y c nL (some .int) d 0 0 av H (fun rv H' => rv = some (.int r) ∧ (Mx G H' a tx L fp kb ka ks kw n nv kK kV dd sd nx ct pu sn sw sg bn bw bt ik iD iS ∧ ∀ q : Nat, ¬ (a ≤ q ∧ q < a + 15) → H'[q]? = H[q]?)) := by
  refine h.mono fun v H1 q => ?_
  obtain ⟨e, hM, hq⟩ := q
  exact ⟨e, ⟨ra, rf, rw, rx, ir, hM, hT.kept (fun q a c => hq q (by omega)), hU.kept (hq _ (by omega)), hS.kept (hq _ (by omega)), hK9.kept (hq _ (by omega)), hJ9.kept (fun q a c => hq q (by omega))⟩, fun q a => hq q (by omega)⟩
end TW
set_option maxHeartbeats 1000000 in
theorem j_feed {G : GT} {B : Nat} {l : Launch} {H : Heap} {b : Nat} {x : Int32} (hB : B ≤ b) (hS : SS G H b) : Tw G B l b yX6_feed cX6_feed 2 1 yX7_feed cX7_feed 2 1 [.int x] H := by
  obtain ⟨tx, L, fp, kb, ka, ks, kw, n, nv, kK, kV, dd, sd, nx, ct, pu, sn, sw, sg, bn, bw, bt, ik, iD, iS, hX, hM, hI⟩ := hS
  obtain ⟨kr, sp, kS, kU, hC, hR2, hK2, hT2, hPs, hSe, hBo, hIm⟩ := id hX
  obtain ⟨hn8, hnv4, hnx, hct, ⟨hR, hg26⟩, hV, hRK, hPu, hSw, hBw, hIi, hsd⟩ := id hI
  have hn31 : n < 2 ^ 31 := by omega
  have hnv31 : nv < 2 ^ 31 := by omega
  have hB2 : B ≤ b + 120 := by omega
  rcases e : wIx (255 + 1) x with _ | _
  · exact tw_q hX hM hI (c_X6_feed_out (ix_out (by decide) e) hX hB) (fun H1 hm => by obtain ⟨ra, rf, rw, rx, ir, hMc, hT, hU, hMs, hK9, hJ9⟩ := id hm; exact c_X7_feed_out (ix_out (by decide) e) hm hB2)
  · obtain ⟨k, hk, rfl, -, -⟩ := ix_in (by decide) e
    by_cases hL : L < 240
    · exact tw_c hX hM (c_X6_feed (by omega) hL hX hB) (fun H1 hm => c_X7_feed (by omega) hL hm hB2) hI
    · have hL2 : L = 240 := by
        obtain ⟨_, _, _, _, _, -, ⟨-, -, -, -, h, -⟩, -⟩ := hM
        omega
      exact tw_c hX hM (c_X6_feed_full (by omega) hL2 hX hB) (fun H1 hm => am_q (Φ := fun H' => Mx G H' (b + 120) tx L fp kb ka ks kw n nv kK kV dd sd nx ct pu sn sw sg bn bw bt ik iD iS) hm (c_X7_feed_full (by omega) hL2 hm hB2)) hI
set_option maxHeartbeats 1000000 in
theorem j_kitchen {G : GT} {B : Nat} {l : Launch} {H : Heap} {b : Nat} (hB : B ≤ b) (hS : SS G H b) : Tw G B l b yX6_kitchen cX6_kitchen 4 5 yX7_kitchen cX7_kitchen 3 6 [] H := by
  obtain ⟨tx, L, fp, kb, ka, ks, kw, n, nv, kK, kV, dd, sd, nx, ct, pu, sn, sw, sg, bn, bw, bt, ik, iD, iS, hX, hM, hI⟩ := hS
  obtain ⟨kr, sp, kS, kU, hC, hR2, hK2, hT2, hPs, hSe, hBo, hIm⟩ := id hX
  obtain ⟨hn8, hnv4, hnx, hct, ⟨hR, hg26⟩, hV, hRK, hPu, hSw, hBw, hIi, hsd⟩ := id hI
  have hn31 : n < 2 ^ 31 := by omega
  have hnv31 : nv < 2 ^ 31 := by omega
  have hB2 : B ≤ b + 120 := by omega
  by_cases hP : (P0 tx L).1.1 = 0
  · have h1 := fun B l hB => c_X6_kitchen (B := B) (l := l) hP hX hB
    have h2 := P0_ok hP
    obtain ⟨X, e⟩ : ∃ X, P0 tx L = X := ⟨_, rfl⟩
    obtain ⟨⟨kd, pl⟩, kb2, ka2, ks2, kw2, n2, v2, kS2, kU2, kK2, kV2⟩ := X
    rw [e] at hP h1 h2
    dsimp only at hP h1 h2
    subst hP
    exact tw_c hX hM (h1 B l hB) (fun H1 hm => c_X7_kitchen e hm hB2) (iv_kit hI h2)
  · exact tw_c hX hM (c_X6_kitchen_fault hP hX hB) (fun H1 hm => c_X7_kitchen_fault hP hm hB2) hI
set_option maxHeartbeats 1000000 in
theorem j_fault {G : GT} {B : Nat} {l : Launch} {H : Heap} {b : Nat} (hB : B ≤ b) (hS : SS G H b) : Tw G B l b yX6_fault cX6_fault 1 0 yX7_fault cX7_fault 1 0 [] H := by
  obtain ⟨tx, L, fp, kb, ka, ks, kw, n, nv, kK, kV, dd, sd, nx, ct, pu, sn, sw, sg, bn, bw, bt, ik, iD, iS, hX, hM, hI⟩ := hS
  obtain ⟨kr, sp, kS, kU, hC, hR2, hK2, hT2, hPs, hSe, hBo, hIm⟩ := id hX
  obtain ⟨hn8, hnv4, hnx, hct, ⟨hR, hg26⟩, hV, hRK, hPu, hSw, hBw, hIi, hsd⟩ := id hI
  have hn31 : n < 2 ^ 31 := by omega
  have hnv31 : nv < 2 ^ 31 := by omega
  have hB2 : B ≤ b + 120 := by omega
  exact tw_q hX hM hI (c_X6_fault hC) (fun H1 hm => by obtain ⟨ra, rf, rw, rx, ir, hMc, hT, hU, hMs, hK9, hJ9⟩ := id hm; exact c_X7_fault hMc)
set_option maxHeartbeats 1000000 in
theorem j_told {G : GT} {B : Nat} {l : Launch} {H : Heap} {b : Nat} {x : Int32} (hB : B ≤ b) (hS : SS G H b) : Tw G B l b yX6_told cX6_told 2 2 yX7_told cX7_told 2 1 [.int x] H := by
  obtain ⟨tx, L, fp, kb, ka, ks, kw, n, nv, kK, kV, dd, sd, nx, ct, pu, sn, sw, sg, bn, bw, bt, ik, iD, iS, hX, hM, hI⟩ := hS
  obtain ⟨kr, sp, kS, kU, hC, hR2, hK2, hT2, hPs, hSe, hBo, hIm⟩ := id hX
  obtain ⟨hn8, hnv4, hnx, hct, ⟨hR, hg26⟩, hV, hRK, hPu, hSw, hBw, hIi, hsd⟩ := id hI
  have hn31 : n < 2 ^ 31 := by omega
  have hnv31 : nv < 2 ^ 31 := by omega
  have hB2 : B ≤ b + 120 := by omega
  exact tw_q hX hM hI (c_X6_told hX hB) (fun H1 hm => by obtain ⟨ra, rf, rw, rx, ir, hMc, hT, hU, hMs, hK9, hJ9⟩ := id hm; exact c_X7_told hm hB2)
set_option maxHeartbeats 1000000 in
theorem j_word {G : GT} {B : Nat} {l : Launch} {H : Heap} {b : Nat} {x : Int32} {y : Int32} (hB : B ≤ b) (hS : SS G H b) : Tw G B l b yX6_word cX6_word 3 1 yX7_word cX7_word 3 2 [.int x, .int y] H := by
  obtain ⟨tx, L, fp, kb, ka, ks, kw, n, nv, kK, kV, dd, sd, nx, ct, pu, sn, sw, sg, bn, bw, bt, ik, iD, iS, hX, hM, hI⟩ := hS
  obtain ⟨kr, sp, kS, kU, hC, hR2, hK2, hT2, hPs, hSe, hBo, hIm⟩ := id hX
  obtain ⟨hn8, hnv4, hnx, hct, ⟨hR, hg26⟩, hV, hRK, hPu, hSw, hBw, hIi, hsd⟩ := id hI
  have hn31 : n < 2 ^ 31 := by omega
  have hnv31 : nv < 2 ^ 31 := by omega
  have hB2 : B ≤ b + 120 := by omega
  rcases e : wIx n x with _ | _
  · exact tw_q hX hM hI (c_X6_word_unk e hC) (fun H1 hm => by obtain ⟨ra, rf, rw, rx, ir, hMc, hT, hU, hMs, hK9, hJ9⟩ := id hm; exact c_X7_word_unk e hMc)
  · obtain ⟨w, hw, rfl⟩ := wIx_of hn31 e
    exact tw_q hX hM hI (c_X6_word hw hC) (fun H1 hm => by obtain ⟨ra, rf, rw, rx, ir, hMc, hT, hU, hMs, hK9, hJ9⟩ := id hm; exact c_X7_word hw hMc)
set_option maxHeartbeats 1000000 in
theorem j_voice {G : GT} {B : Nat} {l : Launch} {H : Heap} {b : Nat} {x : Int32} (hB : B ≤ b) (hS : SS G H b) : Tw G B l b yX6_voice cX6_voice 2 1 yX7_voice cX7_voice 2 2 [.int x] H := by
  obtain ⟨tx, L, fp, kb, ka, ks, kw, n, nv, kK, kV, dd, sd, nx, ct, pu, sn, sw, sg, bn, bw, bt, ik, iD, iS, hX, hM, hI⟩ := hS
  obtain ⟨kr, sp, kS, kU, hC, hR2, hK2, hT2, hPs, hSe, hBo, hIm⟩ := id hX
  obtain ⟨hn8, hnv4, hnx, hct, ⟨hR, hg26⟩, hV, hRK, hPu, hSw, hBw, hIi, hsd⟩ := id hI
  have hn31 : n < 2 ^ 31 := by omega
  have hnv31 : nv < 2 ^ 31 := by omega
  have hB2 : B ≤ b + 120 := by omega
  rcases e : wIx nv x with _ | _
  · exact tw_q hX hM hI (c_X6_voice_unk e hC) (fun H1 hm => by obtain ⟨ra, rf, rw, rx, ir, hMc, hT, hU, hMs, hK9, hJ9⟩ := id hm; exact c_X7_voice_unk e hMc)
  · obtain ⟨v, hv, rfl⟩ := wIx_of hnv31 e
    exact tw_q hX hM hI (c_X6_voice hv hC) (fun H1 hm => by obtain ⟨ra, rf, rw, rx, ir, hMc, hT, hU, hMs, hK9, hJ9⟩ := id hm; exact c_X7_voice hv hMc)
set_option maxHeartbeats 1000000 in
theorem j_hear {G : GT} {B : Nat} {l : Launch} {H : Heap} {b : Nat} {x : Int32} (hB : B ≤ b) (hS : SS G H b) : Tw G B l b yX6_hear cX6_hear 2 7 yX7_hear cX7_hear 2 7 [.int x] H := by
  obtain ⟨tx, L, fp, kb, ka, ks, kw, n, nv, kK, kV, dd, sd, nx, ct, pu, sn, sw, sg, bn, bw, bt, ik, iD, iS, hX, hM, hI⟩ := hS
  obtain ⟨kr, sp, kS, kU, hC, hR2, hK2, hT2, hPs, hSe, hBo, hIm⟩ := id hX
  obtain ⟨hn8, hnv4, hnx, hct, ⟨hR, hg26⟩, hV, hRK, hPu, hSw, hBw, hIi, hsd⟩ := id hI
  have hn31 : n < 2 ^ 31 := by omega
  have hnv31 : nv < 2 ^ 31 := by omega
  have hB2 : B ≤ b + 120 := by omega
  rcases e : wIx 1000 x with _ | _
  · exact tw_q hX hM hI (c_X6_hear_out e hX hB) (fun H1 hm => by obtain ⟨ra, rf, rw, rx, ir, hMc, hT, hU, hMs, hK9, hJ9⟩ := id hm; exact c_X7_hear_out e hm hB2)
  · obtain ⟨c, hc, rfl⟩ := wIx_of (by decide) e
    by_cases hn0 : n = 0
    · exact tw_q hX hM hI (c_X6_hear_not e hn0 hX hB) (fun H1 hm => by obtain ⟨ra, rf, rw, rx, ir, hMc, hT, hU, hMs, hK9, hJ9⟩ := id hm; exact c_X7_hear_not e hn0 hm hB2)
    · by_cases hh : dd 24 ≤ 9000
      · obtain ⟨g, hg, eg⟩ := gu_ok hR hc (by omega)
        exact tw_c hX hM (c_X6_hear e (by omega) hh eg hg hX hB) (fun H1 hm => c_X7_hear hR hc hRK hh eg hg hm hB2) (iv_push hI (dw_hr hn8 ⟨hR, hg26⟩ hg) hsd)
      · exact tw_q hX hM hI (c_X6_hear_full e (by omega) hh hX hB) (fun H1 hm => by obtain ⟨ra, rf, rw, rx, ir, hMc, hT, hU, hMs, hK9, hJ9⟩ := id hm; exact c_X7_hear_full e (by omega) hh hm hB2)
set_option maxHeartbeats 1000000 in
theorem j_takeBack {G : GT} {B : Nat} {l : Launch} {H : Heap} {b : Nat} {x : Int32} (hB : B ≤ b) (hS : SS G H b) : Tw G B l b yX6_takeBack cX6_takeBack 2 3 yX7_takeBack cX7_takeBack 2 2 [.int x] H := by
  obtain ⟨tx, L, fp, kb, ka, ks, kw, n, nv, kK, kV, dd, sd, nx, ct, pu, sn, sw, sg, bn, bw, bt, ik, iD, iS, hX, hM, hI⟩ := hS
  obtain ⟨kr, sp, kS, kU, hC, hR2, hK2, hT2, hPs, hSe, hBo, hIm⟩ := id hX
  obtain ⟨hn8, hnv4, hnx, hct, ⟨hR, hg26⟩, hV, hRK, hPu, hSw, hBw, hIi, hsd⟩ := id hI
  have hn31 : n < 2 ^ 31 := by omega
  have hnv31 : nv < 2 ^ 31 := by omega
  have hB2 : B ≤ b + 120 := by omega
  rcases e : wIx n x with _ | _
  · exact tw_q hX hM hI (c_X6_takeBack_unk e hX hB) (fun H1 hm => by obtain ⟨ra, rf, rw, rx, ir, hMc, hT, hU, hMs, hK9, hJ9⟩ := id hm; exact c_X7_takeBack_unk e hm hB2)
  · obtain ⟨w, hw, rfl⟩ := wIx_of hn31 e
    rcases hg26 with h | ⟨g, hg, eg⟩
    · exact tw_q hX hM hI (c_X6_takeBack_not hw (Or.inl h) hX hB) (fun H1 hm => by obtain ⟨ra, rf, rw, rx, ir, hMc, hT, hU, hMs, hK9, hJ9⟩ := id hm; exact c_X7_takeBack_not hw (Or.inl h) hm hB2)
    · by_cases hgw : g = w
      · subst hgw
        exact tw_q hX hM hI (c_X6_takeBack_not hw (Or.inr eg) hX hB) (fun H1 hm => by obtain ⟨ra, rf, rw, rx, ir, hMc, hT, hU, hMs, hK9, hJ9⟩ := id hm; exact c_X7_takeBack_not hw (Or.inr eg) hm hB2)
      · exact tw_c hX hM (c_X6_takeBack hw eg hg hgw hX hB) (fun H1 hm => c_X7_takeBack hw eg hg hgw hR hm hB2) (iv_push hI (dw_cr hn8 ⟨hR, Or.inr ⟨g, hg, eg⟩⟩ hg hw) hsd)
set_option maxHeartbeats 1000000 in
theorem j_letBe {G : GT} {B : Nat} {l : Launch} {H : Heap} {b : Nat} (hB : B ≤ b) (hS : SS G H b) : Tw G B l b yX6_letBe cX6_letBe 2 3 yX7_letBe cX7_letBe 1 2 [] H := by
  obtain ⟨tx, L, fp, kb, ka, ks, kw, n, nv, kK, kV, dd, sd, nx, ct, pu, sn, sw, sg, bn, bw, bt, ik, iD, iS, hX, hM, hI⟩ := hS
  obtain ⟨kr, sp, kS, kU, hC, hR2, hK2, hT2, hPs, hSe, hBo, hIm⟩ := id hX
  obtain ⟨hn8, hnv4, hnx, hct, ⟨hR, hg26⟩, hV, hRK, hPu, hSw, hBw, hIi, hsd⟩ := id hI
  have hn31 : n < 2 ^ 31 := by omega
  have hnv31 : nv < 2 ^ 31 := by omega
  have hB2 : B ≤ b + 120 := by omega
  rcases hg26 with h | ⟨g, hg, eg⟩
  · exact tw_q hX hM hI (c_X6_letBe_not h hX hB) (fun H1 hm => by obtain ⟨ra, rf, rw, rx, ir, hMc, hT, hU, hMs, hK9, hJ9⟩ := id hm; exact c_X7_letBe_not h hm hB2)
  · exact tw_c hX hM (c_X6_letBe eg hg hX hB) (fun H1 hm => c_X7_letBe eg hg hm hB2) (iv_push hI (dw_cf hn8 ⟨hR, Or.inr ⟨g, hg, eg⟩⟩ hg) hsd)
set_option maxHeartbeats 1000000 in
theorem j_call {G : GT} {B : Nat} {l : Launch} {H : Heap} {b : Nat} {x : Int32} {y : Int32} (hB : B ≤ b) (hS : SS G H b) : Tw G B l b yX6_call cX6_call 4 3 yX7_call cX7_call 4 2 [.int x, .int y] H := by
  obtain ⟨tx, L, fp, kb, ka, ks, kw, n, nv, kK, kV, dd, sd, nx, ct, pu, sn, sw, sg, bn, bw, bt, ik, iD, iS, hX, hM, hI⟩ := hS
  obtain ⟨kr, sp, kS, kU, hC, hR2, hK2, hT2, hPs, hSe, hBo, hIm⟩ := id hX
  obtain ⟨hn8, hnv4, hnx, hct, ⟨hR, hg26⟩, hV, hRK, hPu, hSw, hBw, hIi, hsd⟩ := id hI
  have hn31 : n < 2 ^ 31 := by omega
  have hnv31 : nv < 2 ^ 31 := by omega
  have hB2 : B ≤ b + 120 := by omega
  rcases e : wIx n x with _ | _
  · exact tw_q hX hM hI (c_X6_call_unk e hX hB) (fun H1 hm => by obtain ⟨ra, rf, rw, rx, ir, hMc, hT, hU, hMs, hK9, hJ9⟩ := id hm; exact c_X7_call_unk e hm hB2)
  · obtain ⟨w, hw, rfl⟩ := wIx_of hn31 e
    rcases e2 : wIx 1000 y with _ | _
    · exact tw_q hX hM hI (c_X6_call_out hw e2 hX hB) (fun H1 hm => by obtain ⟨ra, rf, rw, rx, ir, hMc, hT, hU, hMs, hK9, hJ9⟩ := id hm; exact c_X7_call_out hw e2 hm hB2)
    · obtain ⟨c, hc, rfl⟩ := wIx_of (by decide) e2
      exact tw_c hX hM (c_X6_call hw e2 hX hB) (fun H1 hm => c_X7_call hw e2 hm hB2) (iv_push hI (dw_up hn8 ⟨hR, hg26⟩ hw hc) hsd)
set_option maxHeartbeats 1000000 in
theorem j_drift {G : GT} {B : Nat} {l : Launch} {H : Heap} {b : Nat} {x : Int32} (hB : B ≤ b) (hS : SS G H b) : Tw G B l b yX6_drift cX6_drift 5 7 yX7_drift cX7_drift 5 7 [.int x] H := by
  obtain ⟨tx, L, fp, kb, ka, ks, kw, n, nv, kK, kV, dd, sd, nx, ct, pu, sn, sw, sg, bn, bw, bt, ik, iD, iS, hX, hM, hI⟩ := hS
  obtain ⟨kr, sp, kS, kU, hC, hR2, hK2, hT2, hPs, hSe, hBo, hIm⟩ := id hX
  obtain ⟨hn8, hnv4, hnx, hct, ⟨hR, hg26⟩, hV, hRK, hPu, hSw, hBw, hIi, hsd⟩ := id hI
  have hn31 : n < 2 ^ 31 := by omega
  have hnv31 : nv < 2 ^ 31 := by omega
  have hB2 : B ≤ b + 120 := by omega
  rcases e : wIx (60 + 1) x with _ | _
  · have hq : x < 1 ∨ ¬ x ≤ 60 := (ix_out (by decide) e).imp (fun h => Int32.lt_trans h (by decide)) id
    exact tw_q hX hM hI (c_X6_drift_out hq hX hB) (fun H1 hm => by obtain ⟨ra, rf, rw, rx, ir, hMc, hT, hU, hMs, hK9, hJ9⟩ := id hm; exact c_X7_drift_out hq hm hB2)
  · obtain ⟨m, hm, rfl, -, -⟩ := ix_in (by decide) e
    by_cases hm0 : m = 0
    · subst hm0
      exact tw_q hX hM hI (c_X6_drift_out (Or.inl (by decide)) hX hB) (fun H1 hm => by obtain ⟨ra, rf, rw, rx, ir, hMc, hT, hU, hMs, hK9, hJ9⟩ := id hm; exact c_X7_drift_out (Or.inl (by decide)) hm hB2)
    · have hm1 : 1 ≤ m := by omega
      have hm2 : m ≤ 60 := hm
      rcases hkb : kb with _ | _
      · subst hkb
        exact tw_q hX hM hI (c_X6_drift_not hm1 hm2 rfl hX hB) (fun H1 hm => by obtain ⟨ra, rf, rw, rx, ir, hMc, hT, hU, hMs, hK9, hJ9⟩ := id hm; exact c_X7_drift_not hm1 hm2 rfl hm hB2)
      · by_cases hh : dd 24 ≤ 9000
        · by_cases hz : n = 0 ∨ nv = 0
          · exact tw_c hX hM (c_X6_drift_empty hm1 hm2 hkb hh hz hX hB) (fun H1 hm => c_X7_drift_empty hm1 hm2 hkb hh hz hm hB2) (iv_push hI ⟨hR, hg26⟩ hsd)
          · have hdf := df_ok (kK := kK) (ka := ka) (ks := ks) hn8 (by omega) (by omega) hV ⟨hR, hg26⟩ hsd m
            exact tw_c hX hM (c_X6_drift hm1 hm2 hkb hh (by omega) (by omega) hsd hR hV hX hB) (fun H1 hm => c_X7_drift hm1 hm2 hkb hh (by omega) (by omega) hsd hR hV hRK hm hB2) (iv_push hI hdf.1 hdf.2)
        · exact tw_q hX hM hI (c_X6_drift_full hm1 hm2 hkb hh hX hB) (fun H1 hm => by obtain ⟨ra, rf, rw, rx, ir, hMc, hT, hU, hMs, hK9, hJ9⟩ := id hm; exact c_X7_drift_full hm1 hm2 hkb hh hm hB2)
set_option maxHeartbeats 1000000 in
theorem j_undo {G : GT} {B : Nat} {l : Launch} {H : Heap} {b : Nat} (hB : B ≤ b) (hS : SS G H b) : Tw G B l b yX6_undo cX6_undo 1 3 yX7_undo cX7_undo 2 0 [] H := by
  obtain ⟨tx, L, fp, kb, ka, ks, kw, n, nv, kK, kV, dd, sd, nx, ct, pu, sn, sw, sg, bn, bw, bt, ik, iD, iS, hX, hM, hI⟩ := hS
  obtain ⟨kr, sp, kS, kU, hC, hR2, hK2, hT2, hPs, hSe, hBo, hIm⟩ := id hX
  obtain ⟨hn8, hnv4, hnx, hct, ⟨hR, hg26⟩, hV, hRK, hPu, hSw, hBw, hIi, hsd⟩ := id hI
  have hn31 : n < 2 ^ 31 := by omega
  have hnv31 : nv < 2 ^ 31 := by omega
  have hB2 : B ≤ b + 120 := by omega
  by_cases hc : ct = 0
  · exact tw_q hX hM hI (c_X6_undo_not hc hX hB) (fun H1 hm => by obtain ⟨ra, rf, rw, rx, ir, hMc, hT, hU, hMs, hK9, hJ9⟩ := id hm; exact c_X7_undo_not hc hm hB2)
  · have hc0 : 0 < ct := by omega
    exact tw_c hX hM (c_X6_undo hc0 hX hB) (fun H1 hm => c_X7_undo hc0 hm hB2) (iv_undo hI hc0)
set_option maxHeartbeats 1000000 in
theorem j_guess {G : GT} {B : Nat} {l : Launch} {H : Heap} {b : Nat} {x : Int32} (hB : B ≤ b) (hS : SS G H b) : Tw G B l b yX6_guess cX6_guess 2 4 yX7_guess cX7_guess 2 4 [.int x] H := by
  obtain ⟨tx, L, fp, kb, ka, ks, kw, n, nv, kK, kV, dd, sd, nx, ct, pu, sn, sw, sg, bn, bw, bt, ik, iD, iS, hX, hM, hI⟩ := hS
  obtain ⟨kr, sp, kS, kU, hC, hR2, hK2, hT2, hPs, hSe, hBo, hIm⟩ := id hX
  obtain ⟨hn8, hnv4, hnx, hct, ⟨hR, hg26⟩, hV, hRK, hPu, hSw, hBw, hIi, hsd⟩ := id hI
  have hn31 : n < 2 ^ 31 := by omega
  have hnv31 : nv < 2 ^ 31 := by omega
  have hB2 : B ≤ b + 120 := by omega
  rcases e : wIx 1000 x with _ | _
  · exact tw_q hX hM hI (c_X6_guess_out e hC) (fun H1 hm => by obtain ⟨ra, rf, rw, rx, ir, hMc, hT, hU, hMs, hK9, hJ9⟩ := id hm; exact c_X7_guess_out e hMc)
  · exact tw_q hX hM hI (c_X6_guess e hC) (fun H1 hm => by obtain ⟨ra, rf, rw, rx, ir, hMc, hT, hU, hMs, hK9, hJ9⟩ := id hm; exact c_X7_guess e hMc)
set_option maxHeartbeats 1000000 in
theorem j_sure {G : GT} {B : Nat} {l : Launch} {H : Heap} {b : Nat} {x : Int32} {y : Int32} (hB : B ≤ b) (hS : SS G H b) : Tw G B l b yX6_sure cX6_sure 3 4 yX7_sure cX7_sure 3 4 [.int x, .int y] H := by
  obtain ⟨tx, L, fp, kb, ka, ks, kw, n, nv, kK, kV, dd, sd, nx, ct, pu, sn, sw, sg, bn, bw, bt, ik, iD, iS, hX, hM, hI⟩ := hS
  obtain ⟨kr, sp, kS, kU, hC, hR2, hK2, hT2, hPs, hSe, hBo, hIm⟩ := id hX
  obtain ⟨hn8, hnv4, hnx, hct, ⟨hR, hg26⟩, hV, hRK, hPu, hSw, hBw, hIi, hsd⟩ := id hI
  have hn31 : n < 2 ^ 31 := by omega
  have hnv31 : nv < 2 ^ 31 := by omega
  have hB2 : B ≤ b + 120 := by omega
  rcases e : wIx n x with _ | _
  · exact tw_q hX hM hI (c_X6_sure_unk e hC) (fun H1 hm => by obtain ⟨ra, rf, rw, rx, ir, hMc, hT, hU, hMs, hK9, hJ9⟩ := id hm; exact c_X7_sure_unk e hMc)
  · obtain ⟨w, hw, rfl⟩ := wIx_of hn31 e
    rcases e2 : wIx 1000 y with _ | _
    · exact tw_q hX hM hI (c_X6_sure_out hw e2 hC) (fun H1 hm => by obtain ⟨ra, rf, rw, rx, ir, hMc, hT, hU, hMs, hK9, hJ9⟩ := id hm; exact c_X7_sure_out hw e2 hMc)
    · obtain ⟨c, hc, rfl⟩ := wIx_of (by decide) e2
      exact tw_q hX hM hI (c_X6_sure hw e2 hC) (fun H1 hm => by obtain ⟨ra, rf, rw, rx, ir, hMc, hT, hU, hMs, hK9, hJ9⟩ := id hm; exact c_X7_sure hw hR hc hMc)
set_option maxHeartbeats 1000000 in
theorem j_rule {G : GT} {B : Nat} {l : Launch} {H : Heap} {b : Nat} {x : Int32} (hB : B ≤ b) (hS : SS G H b) : Tw G B l b yX6_rule cX6_rule 2 6 yX7_rule cX7_rule 2 6 [.int x] H := by
  obtain ⟨tx, L, fp, kb, ka, ks, kw, n, nv, kK, kV, dd, sd, nx, ct, pu, sn, sw, sg, bn, bw, bt, ik, iD, iS, hX, hM, hI⟩ := hS
  obtain ⟨kr, sp, kS, kU, hC, hR2, hK2, hT2, hPs, hSe, hBo, hIm⟩ := id hX
  obtain ⟨hn8, hnv4, hnx, hct, ⟨hR, hg26⟩, hV, hRK, hPu, hSw, hBw, hIi, hsd⟩ := id hI
  have hn31 : n < 2 ^ 31 := by omega
  have hnv31 : nv < 2 ^ 31 := by omega
  have hB2 : B ≤ b + 120 := by omega
  rcases e : wIx 1000 x with _ | _
  · exact tw_q hX hM hI (c_X6_rule_out e hC) (fun H1 hm => by obtain ⟨ra, rf, rw, rx, ir, hMc, hT, hU, hMs, hK9, hJ9⟩ := id hm; exact c_X7_rule_out e hMc)
  · obtain ⟨c, hc, rfl⟩ := wIx_of (by decide) e
    by_cases hn0 : n = 0
    · exact tw_q hX hM hI (c_X6_rule_not e hn0 hC) (fun H1 hm => by obtain ⟨ra, rf, rw, rx, ir, hMc, hT, hU, hMs, hK9, hJ9⟩ := id hm; exact c_X7_rule_not e hn0 hMc)
    · have hn1 : 0 < n := by omega
      exact tw_q hX hM hI (c_X6_rule e hn1 hC) (fun H1 hm => by obtain ⟨ra, rf, rw, rx, ir, hMc, hT, hU, hMs, hK9, hJ9⟩ := id hm; exact c_X7_rule hn1 hR hc hRK hMc)
set_option maxHeartbeats 1000000 in
theorem j_worth {G : GT} {B : Nat} {l : Launch} {H : Heap} {b : Nat} {x : Int32} {y : Int32} (hB : B ≤ b) (hS : SS G H b) : Tw G B l b yX6_worth cX6_worth 3 5 yX7_worth cX7_worth 3 5 [.int x, .int y] H := by
  obtain ⟨tx, L, fp, kb, ka, ks, kw, n, nv, kK, kV, dd, sd, nx, ct, pu, sn, sw, sg, bn, bw, bt, ik, iD, iS, hX, hM, hI⟩ := hS
  obtain ⟨kr, sp, kS, kU, hC, hR2, hK2, hT2, hPs, hSe, hBo, hIm⟩ := id hX
  obtain ⟨hn8, hnv4, hnx, hct, ⟨hR, hg26⟩, hV, hRK, hPu, hSw, hBw, hIi, hsd⟩ := id hI
  have hn31 : n < 2 ^ 31 := by omega
  have hnv31 : nv < 2 ^ 31 := by omega
  have hB2 : B ≤ b + 120 := by omega
  rcases e : wIx 1000 x with _ | _
  · exact tw_q hX hM hI (c_X6_worth_out (Or.inl e) hC) (fun H1 hm => by obtain ⟨ra, rf, rw, rx, ir, hMc, hT, hU, hMs, hK9, hJ9⟩ := id hm; exact c_X7_worth_out (Or.inl e) hMc)
  · obtain ⟨c, hc, rfl⟩ := wIx_of (by decide) e
    rcases e2 : wIx (2 + 1) y with _ | _
    · have hq := ix_out (by decide) e2
      exact tw_q hX hM hI (c_X6_worth_out (Or.inr hq) hC) (fun H1 hm => by obtain ⟨ra, rf, rw, rx, ir, hMc, hT, hU, hMs, hK9, hJ9⟩ := id hm; exact c_X7_worth_out (Or.inr hq) hMc)
    · obtain ⟨q, hq, rfl, hq1, hq2⟩ := ix_in (by decide) e2
      by_cases hn0 : n = 0
      · exact tw_q hX hM hI (c_X6_worth_not e hq1 hq2 hn0 hC) (fun H1 hm => by obtain ⟨ra, rf, rw, rx, ir, hMc, hT, hU, hMs, hK9, hJ9⟩ := id hm; exact c_X7_worth_not e hq hn0 hMc)
      · have hn1 : 0 < n := by omega
        exact tw_q hX hM hI (c_X6_worth e hq1 hq2 hn1 hC) (fun H1 hm => by obtain ⟨ra, rf, rw, rx, ir, hMc, hT, hU, hMs, hK9, hJ9⟩ := id hm; exact c_X7_worth hq hn1 hR hc hRK hMc)
set_option maxHeartbeats 1000000 in
theorem j_said {G : GT} {B : Nat} {l : Launch} {H : Heap} {b : Nat} {x : Int32} {y : Int32} (hB : B ≤ b) (hS : SS G H b) : Tw G B l b yX6_said cX6_said 3 2 yX7_said cX7_said 3 2 [.int x, .int y] H := by
  obtain ⟨tx, L, fp, kb, ka, ks, kw, n, nv, kK, kV, dd, sd, nx, ct, pu, sn, sw, sg, bn, bw, bt, ik, iD, iS, hX, hM, hI⟩ := hS
  obtain ⟨kr, sp, kS, kU, hC, hR2, hK2, hT2, hPs, hSe, hBo, hIm⟩ := id hX
  obtain ⟨hn8, hnv4, hnx, hct, ⟨hR, hg26⟩, hV, hRK, hPu, hSw, hBw, hIi, hsd⟩ := id hI
  have hn31 : n < 2 ^ 31 := by omega
  have hnv31 : nv < 2 ^ 31 := by omega
  have hB2 : B ≤ b + 120 := by omega
  rcases e : wIx n x with _ | _
  · have hq : wIx n x = false ∨ wIx nv y = false := Or.inl e
    exact tw_q hX hM hI (c_X6_said_unk hq hC) (fun H1 hm => by obtain ⟨ra, rf, rw, rx, ir, hMc, hT, hU, hMs, hK9, hJ9⟩ := id hm; exact c_X7_said_unk hq hMc)
  · rcases e2 : wIx nv y with _ | _
    · have hq : wIx n x = false ∨ wIx nv y = false := Or.inr e2
      exact tw_q hX hM hI (c_X6_said_unk hq hC) (fun H1 hm => by obtain ⟨ra, rf, rw, rx, ir, hMc, hT, hU, hMs, hK9, hJ9⟩ := id hm; exact c_X7_said_unk hq hMc)
    · obtain ⟨w, hw, rfl⟩ := wIx_of hn31 e
      obtain ⟨v, hv, rfl⟩ := wIx_of hnv31 e2
      exact tw_q hX hM hI (c_X6_said hw hv hC) (fun H1 hm => by obtain ⟨ra, rf, rw, rx, ir, hMc, hT, hU, hMs, hK9, hJ9⟩ := id hm; exact c_X7_said hw hv hMc)
set_option maxHeartbeats 1000000 in
theorem j_misheard {G : GT} {B : Nat} {l : Launch} {H : Heap} {b : Nat} {x : Int32} (hB : B ≤ b) (hS : SS G H b) : Tw G B l b yX6_misheard cX6_misheard 5 5 yX7_misheard cX7_misheard 6 4 [.int x] H := by
  obtain ⟨tx, L, fp, kb, ka, ks, kw, n, nv, kK, kV, dd, sd, nx, ct, pu, sn, sw, sg, bn, bw, bt, ik, iD, iS, hX, hM, hI⟩ := hS
  obtain ⟨kr, sp, kS, kU, hC, hR2, hK2, hT2, hPs, hSe, hBo, hIm⟩ := id hX
  obtain ⟨hn8, hnv4, hnx, hct, ⟨hR, hg26⟩, hV, hRK, hPu, hSw, hBw, hIi, hsd⟩ := id hI
  have hn31 : n < 2 ^ 31 := by omega
  have hnv31 : nv < 2 ^ 31 := by omega
  have hB2 : B ≤ b + 120 := by omega
  exact tw_q hX hM hI (c_X6_misheard hC) (fun H1 hm => by obtain ⟨ra, rf, rw, rx, ir, hMc, hT, hU, hMs, hK9, hJ9⟩ := id hm; exact c_X7_misheard hMc)
set_option maxHeartbeats 1000000 in
theorem j_who {G : GT} {B : Nat} {l : Launch} {H : Heap} {b : Nat} {x : Int32} (hB : B ≤ b) (hS : SS G H b) : Tw G B l b yX6_who cX6_who 4 3 yX7_who cX7_who 4 3 [.int x] H := by
  obtain ⟨tx, L, fp, kb, ka, ks, kw, n, nv, kK, kV, dd, sd, nx, ct, pu, sn, sw, sg, bn, bw, bt, ik, iD, iS, hX, hM, hI⟩ := hS
  obtain ⟨kr, sp, kS, kU, hC, hR2, hK2, hT2, hPs, hSe, hBo, hIm⟩ := id hX
  obtain ⟨hn8, hnv4, hnx, hct, ⟨hR, hg26⟩, hV, hRK, hPu, hSw, hBw, hIi, hsd⟩ := id hI
  have hn31 : n < 2 ^ 31 := by omega
  have hnv31 : nv < 2 ^ 31 := by omega
  have hB2 : B ≤ b + 120 := by omega
  rcases e : wIx 1000 x with _ | _
  · exact tw_q hX hM hI (c_X6_who_out e hC) (fun H1 hm => by obtain ⟨ra, rf, rw, rx, ir, hMc, hT, hU, hMs, hK9, hJ9⟩ := id hm; exact c_X7_who_out e hMc)
  · exact tw_q hX hM hI (c_X6_who e hC) (fun H1 hm => by obtain ⟨ra, rf, rw, rx, ir, hMc, hT, hU, hMs, hK9, hJ9⟩ := id hm; exact c_X7_who e hMc)
set_option maxHeartbeats 1000000 in
theorem j_meant {G : GT} {B : Nat} {l : Launch} {H : Heap} {b : Nat} {x : Int32} {y : Int32} (hB : B ≤ b) (hS : SS G H b) : Tw G B l b yX6_meant cX6_meant 3 3 yX7_meant cX7_meant 3 3 [.int x, .int y] H := by
  obtain ⟨tx, L, fp, kb, ka, ks, kw, n, nv, kK, kV, dd, sd, nx, ct, pu, sn, sw, sg, bn, bw, bt, ik, iD, iS, hX, hM, hI⟩ := hS
  obtain ⟨kr, sp, kS, kU, hC, hR2, hK2, hT2, hPs, hSe, hBo, hIm⟩ := id hX
  obtain ⟨hn8, hnv4, hnx, hct, ⟨hR, hg26⟩, hV, hRK, hPu, hSw, hBw, hIi, hsd⟩ := id hI
  have hn31 : n < 2 ^ 31 := by omega
  have hnv31 : nv < 2 ^ 31 := by omega
  have hB2 : B ≤ b + 120 := by omega
  rcases e : wIx nv x with _ | _
  · exact tw_q hX hM hI (c_X6_meant_unk e hC) (fun H1 hm => by obtain ⟨ra, rf, rw, rx, ir, hMc, hT, hU, hMs, hK9, hJ9⟩ := id hm; exact c_X7_meant_unk e hMc)
  · obtain ⟨v, hv, rfl⟩ := wIx_of hnv31 e
    rcases e2 : wIx 1000 y with _ | _
    · exact tw_q hX hM hI (c_X6_meant_out hv e2 hC) (fun H1 hm => by obtain ⟨ra, rf, rw, rx, ir, hMc, hT, hU, hMs, hK9, hJ9⟩ := id hm; exact c_X7_meant_out hv e2 hMc)
    · exact tw_q hX hM hI (c_X6_meant hv e2 hC) (fun H1 hm => by obtain ⟨ra, rf, rw, rx, ir, hMc, hT, hU, hMs, hK9, hJ9⟩ := id hm; exact c_X7_meant hv e2 hMc)
set_option maxHeartbeats 1000000 in
theorem j_alike {G : GT} {B : Nat} {l : Launch} {H : Heap} {b : Nat} {x : Int32} {y : Int32} (hB : B ≤ b) (hS : SS G H b) : Tw G B l b yX6_alike cX6_alike 6 2 yX7_alike cX7_alike 7 2 [.int x, .int y] H := by
  obtain ⟨tx, L, fp, kb, ka, ks, kw, n, nv, kK, kV, dd, sd, nx, ct, pu, sn, sw, sg, bn, bw, bt, ik, iD, iS, hX, hM, hI⟩ := hS
  obtain ⟨kr, sp, kS, kU, hC, hR2, hK2, hT2, hPs, hSe, hBo, hIm⟩ := id hX
  obtain ⟨hn8, hnv4, hnx, hct, ⟨hR, hg26⟩, hV, hRK, hPu, hSw, hBw, hIi, hsd⟩ := id hI
  have hn31 : n < 2 ^ 31 := by omega
  have hnv31 : nv < 2 ^ 31 := by omega
  have hB2 : B ≤ b + 120 := by omega
  rcases e : wIx 28 x with _ | _
  · exact tw_q hX hM hI (c_X6_alike_out e hC) (fun H1 hm => by obtain ⟨ra, rf, rw, rx, ir, hMc, hT, hU, hMs, hK9, hJ9⟩ := id hm; exact c_X7_alike_out e hMc)
  · exact tw_q hX hM hI (c_X6_alike e hC) (fun H1 hm => by obtain ⟨ra, rf, rw, rx, ir, hMc, hT, hU, hMs, hK9, hJ9⟩ := id hm; exact c_X7_alike e hMc)
set_option maxHeartbeats 1000000 in
theorem j_wake {G : GT} {B : Nat} {l : Launch} {H : Heap} {b : Nat} {x : Int32} (hB : B ≤ b) (hS : SS G H b) : Tw G B l b yX6_wake cX6_wake 6 3 yX7_wake cX7_wake 8 2 [.int x] H := by
  obtain ⟨tx, L, fp, kb, ka, ks, kw, n, nv, kK, kV, dd, sd, nx, ct, pu, sn, sw, sg, bn, bw, bt, ik, iD, iS, hX, hM, hI⟩ := hS
  obtain ⟨kr, sp, kS, kU, hC, hR2, hK2, hT2, hPs, hSe, hBo, hIm⟩ := id hX
  obtain ⟨hn8, hnv4, hnx, hct, ⟨hR, hg26⟩, hV, hRK, hPu, hSw, hBw, hIi, hsd⟩ := id hI
  have hn31 : n < 2 ^ 31 := by omega
  have hnv31 : nv < 2 ^ 31 := by omega
  have hB2 : B ≤ b + 120 := by omega
  by_cases h0 : x = 0
  · exact tw_q hX hM hI (c_X6_wake (Or.inl h0) hC) (fun H1 hm => by obtain ⟨ra, rf, rw, rx, ir, hMc, hT, hU, hMs, hK9, hJ9⟩ := id hm; exact c_X7_wake (Or.inl h0) hR hMc)
  · by_cases h1 : x = 1
    · exact tw_q hX hM hI (c_X6_wake (Or.inr h1) hC) (fun H1 hm => by obtain ⟨ra, rf, rw, rx, ir, hMc, hT, hU, hMs, hK9, hJ9⟩ := id hm; exact c_X7_wake (Or.inr h1) hR hMc)
    · exact tw_q hX hM hI (c_X6_wake_out h0 h1 hC) (fun H1 hm => by obtain ⟨ra, rf, rw, rx, ir, hMc, hT, hU, hMs, hK9, hJ9⟩ := id hm; exact c_X7_wake_out h0 h1 hMc)
set_option maxHeartbeats 1000000 in
theorem j_falsely {G : GT} {B : Nat} {l : Launch} {H : Heap} {b : Nat} {x : Int32} {y : Int32} (hB : B ≤ b) (hS : SS G H b) : Tw G B l b yX6_falsely cX6_falsely 5 2 yX7_falsely cX7_falsely 5 2 [.int x, .int y] H := by
  obtain ⟨tx, L, fp, kb, ka, ks, kw, n, nv, kK, kV, dd, sd, nx, ct, pu, sn, sw, sg, bn, bw, bt, ik, iD, iS, hX, hM, hI⟩ := hS
  obtain ⟨kr, sp, kS, kU, hC, hR2, hK2, hT2, hPs, hSe, hBo, hIm⟩ := id hX
  obtain ⟨hn8, hnv4, hnx, hct, ⟨hR, hg26⟩, hV, hRK, hPu, hSw, hBw, hIi, hsd⟩ := id hI
  have hn31 : n < 2 ^ 31 := by omega
  have hnv31 : nv < 2 ^ 31 := by omega
  have hB2 : B ≤ b + 120 := by omega
  rcases e : wIx nv x with _ | _
  · exact tw_q hX hM hI (c_X6_falsely_unk e hC) (fun H1 hm => by obtain ⟨ra, rf, rw, rx, ir, hMc, hT, hU, hMs, hK9, hJ9⟩ := id hm; exact c_X7_falsely_unk e hMc)
  · obtain ⟨v, hv, rfl⟩ := wIx_of hnv31 e
    rcases e2 : wIx 28 y with _ | _
    · exact tw_q hX hM hI (c_X6_falsely_out hv e2 hC) (fun H1 hm => by obtain ⟨ra, rf, rw, rx, ir, hMc, hT, hU, hMs, hK9, hJ9⟩ := id hm; exact c_X7_falsely_out hv e2 hMc)
    · exact tw_q hX hM hI (c_X6_falsely hv e2 hC) (fun H1 hm => by obtain ⟨ra, rf, rw, rx, ir, hMc, hT, hU, hMs, hK9, hJ9⟩ := id hm; exact c_X7_falsely hv e2 hMc)
set_option maxHeartbeats 1000000 in
theorem j_needs {G : GT} {B : Nat} {l : Launch} {H : Heap} {b : Nat} {x : Int32} {y : Int32} {z : Int32} (hB : B ≤ b) (hS : SS G H b) : Tw G B l b yX6_needs cX6_needs 6 6 yX7_needs cX7_needs 8 6 [.int x, .int y, .int z] H := by
  obtain ⟨tx, L, fp, kb, ka, ks, kw, n, nv, kK, kV, dd, sd, nx, ct, pu, sn, sw, sg, bn, bw, bt, ik, iD, iS, hX, hM, hI⟩ := hS
  obtain ⟨kr, sp, kS, kU, hC, hR2, hK2, hT2, hPs, hSe, hBo, hIm⟩ := id hX
  obtain ⟨hn8, hnv4, hnx, hct, ⟨hR, hg26⟩, hV, hRK, hPu, hSw, hBw, hIi, hsd⟩ := id hI
  have hn31 : n < 2 ^ 31 := by omega
  have hnv31 : nv < 2 ^ 31 := by omega
  have hB2 : B ≤ b + 120 := by omega
  rcases e : wIx n x with _ | _
  · have hq : wIx n x = false ∨ wIx nv y = false := Or.inl e
    exact tw_q hX hM hI (c_X6_needs_unk hq hC) (fun H1 hm => by obtain ⟨ra, rf, rw, rx, ir, hMc, hT, hU, hMs, hK9, hJ9⟩ := id hm; exact c_X7_needs_unk hq hMc)
  · rcases e2 : wIx nv y with _ | _
    · have hq : wIx n x = false ∨ wIx nv y = false := Or.inr e2
      exact tw_q hX hM hI (c_X6_needs_unk hq hC) (fun H1 hm => by obtain ⟨ra, rf, rw, rx, ir, hMc, hT, hU, hMs, hK9, hJ9⟩ := id hm; exact c_X7_needs_unk hq hMc)
    · obtain ⟨w, hw, rfl⟩ := wIx_of hn31 e
      obtain ⟨v, hv, rfl⟩ := wIx_of hnv31 e2
      by_cases h0 : z = 0 ∨ z = 1
      · obtain ⟨tn, td0, hTd⟩ := id hT2
        exact tw_c hX hM (bx_t2 hX (c_X6_needs hw hv h0 hC hTd hB)) (fun H1 hm => by obtain ⟨ra, rf, rw, rx, ir, hMc, hT, hU, hMs, hK9, hJ9⟩ := id hm; exact mx_c hT hU hMs hK9 hJ9 (c_X7_needs hw hv h0 hR hV hRK hMc hB2)) hI
      · exact tw_q hX hM hI (c_X6_needs_out hw hv (fun h => h0 (Or.inl h)) (fun h => h0 (Or.inr h)) hC) (fun H1 hm => by obtain ⟨ra, rf, rw, rx, ir, hMc, hT, hU, hMs, hK9, hJ9⟩ := id hm; exact c_X7_needs_out hw hv (fun h => h0 (Or.inl h)) (fun h => h0 (Or.inr h)) hMc)
set_option maxHeartbeats 1000000 in
theorem j_bestCalled {G : GT} {B : Nat} {l : Launch} {H : Heap} {b : Nat} {x : Int32} {y : Int32} (hB : B ≤ b) (hS : SS G H b) : Tw G B l b yX6_bestCalled cX6_bestCalled 11 5 yX7_bestCalled cX7_bestCalled 8 5 [.int x, .int y] H := by
  obtain ⟨tx, L, fp, kb, ka, ks, kw, n, nv, kK, kV, dd, sd, nx, ct, pu, sn, sw, sg, bn, bw, bt, ik, iD, iS, hX, hM, hI⟩ := hS
  obtain ⟨kr, sp, kS, kU, hC, hR2, hK2, hT2, hPs, hSe, hBo, hIm⟩ := id hX
  obtain ⟨hn8, hnv4, hnx, hct, ⟨hR, hg26⟩, hV, hRK, hPu, hSw, hBw, hIi, hsd⟩ := id hI
  have hn31 : n < 2 ^ 31 := by omega
  have hnv31 : nv < 2 ^ 31 := by omega
  have hB2 : B ≤ b + 120 := by omega
  rcases e : wIx n x with _ | _
  · exact tw_q hX hM hI (c_X6_bestCalled_unk e hC) (fun H1 hm => by obtain ⟨ra, rf, rw, rx, ir, hMc, hT, hU, hMs, hK9, hJ9⟩ := id hm; exact c_X7_bestCalled_unk e hMc)
  · obtain ⟨w, hw, rfl⟩ := wIx_of hn31 e
    by_cases h0 : y = 0 ∨ y = 1
    · obtain ⟨tn, td0, hTd⟩ := id hT2
      exact tw_c hX hM (bx_t2 hX (c_X6_bestCalled hw h0 hC hTd hB)) (fun H1 hm => by obtain ⟨ra, rf, rw, rx, ir, hMc, hT, hU, hMs, hK9, hJ9⟩ := id hm; exact mx_c hT hU hMs hK9 hJ9 (c_X7_bestCalled hw h0 hR hMc hB2)) hI
    · exact tw_q hX hM hI (c_X6_bestCalled_out hw (fun h => h0 (Or.inl h)) (fun h => h0 (Or.inr h)) hC) (fun H1 hm => by obtain ⟨ra, rf, rw, rx, ir, hMc, hT, hU, hMs, hK9, hJ9⟩ := id hm; exact c_X7_bestCalled_out hw (fun h => h0 (Or.inl h)) (fun h => h0 (Or.inr h)) hMc)
set_option maxHeartbeats 1000000 in
theorem j_asks {G : GT} {B : Nat} {l : Launch} {H : Heap} {b : Nat} {x : Int32} (hB : B ≤ b) (hS : SS G H b) : Tw G B l b yX6_asks cX6_asks 4 0 yX7_asks cX7_asks 4 1 [.int x] H := by
  obtain ⟨tx, L, fp, kb, ka, ks, kw, n, nv, kK, kV, dd, sd, nx, ct, pu, sn, sw, sg, bn, bw, bt, ik, iD, iS, hX, hM, hI⟩ := hS
  obtain ⟨kr, sp, kS, kU, hC, hR2, hK2, hT2, hPs, hSe, hBo, hIm⟩ := id hX
  obtain ⟨hn8, hnv4, hnx, hct, ⟨hR, hg26⟩, hV, hRK, hPu, hSw, hBw, hIi, hsd⟩ := id hI
  have hn31 : n < 2 ^ 31 := by omega
  have hnv31 : nv < 2 ^ 31 := by omega
  have hB2 : B ≤ b + 120 := by omega
  rcases e : wIx (9999 + 1) x with _ | _
  · exact tw_q hX hM hI (c_X6_asks_out (ix_out (by decide) e) hC) (fun H1 hm => by obtain ⟨ra, rf, rw, rx, ir, hMc, hT, hU, hMs, hK9, hJ9⟩ := id hm; exact c_X7_asks_out (ix_out (by decide) e) hMc)
  · obtain ⟨k, hk, -, h1, h2⟩ := ix_in (by decide) e
    exact tw_q hX hM hI (c_X6_asks h1 h2 hC) (fun H1 hm => by obtain ⟨ra, rf, rw, rx, ir, hMc, hT, hU, hMs, hK9, hJ9⟩ := id hm; exact c_X7_asks h1 h2 hMc)
set_option maxHeartbeats 1000000 in
theorem j_waked {G : GT} {B : Nat} {l : Launch} {H : Heap} {b : Nat} {x : Int32} {y : Int32} (hB : B ≤ b) (hS : SS G H b) : Tw G B l b yX6_waked cX6_waked 6 0 yX7_waked cX7_waked 6 1 [.int x, .int y] H := by
  obtain ⟨tx, L, fp, kb, ka, ks, kw, n, nv, kK, kV, dd, sd, nx, ct, pu, sn, sw, sg, bn, bw, bt, ik, iD, iS, hX, hM, hI⟩ := hS
  obtain ⟨kr, sp, kS, kU, hC, hR2, hK2, hT2, hPs, hSe, hBo, hIm⟩ := id hX
  obtain ⟨hn8, hnv4, hnx, hct, ⟨hR, hg26⟩, hV, hRK, hPu, hSw, hBw, hIi, hsd⟩ := id hI
  have hn31 : n < 2 ^ 31 := by omega
  have hnv31 : nv < 2 ^ 31 := by omega
  have hB2 : B ≤ b + 120 := by omega
  rcases e : wIx (60 + 1) x with _ | _
  · have hq : x < 0 ∨ ¬ x ≤ 60 ∨ y < 0 ∨ ¬ y ≤ 100 := (ix_out (by decide) e).imp id Or.inl
    exact tw_q hX hM hI (c_X6_waked_out hq) (fun H1 hm => by obtain ⟨ra, rf, rw, rx, ir, hMc, hT, hU, hMs, hK9, hJ9⟩ := id hm; exact c_X7_waked_out hq hMc)
  · rcases e2 : wIx (100 + 1) y with _ | _
    · have hq : x < 0 ∨ ¬ x ≤ 60 ∨ y < 0 ∨ ¬ y ≤ 100 := Or.inr (Or.inr (ix_out (by decide) e2))
      exact tw_q hX hM hI (c_X6_waked_out hq) (fun H1 hm => by obtain ⟨ra, rf, rw, rx, ir, hMc, hT, hU, hMs, hK9, hJ9⟩ := id hm; exact c_X7_waked_out hq hMc)
    · obtain ⟨j, hj, rfl, -, -⟩ := ix_in (by decide) e
      obtain ⟨k, hk, -, h1, h2⟩ := ix_in (by decide) e2
      exact tw_q hX hM hI (c_X6_waked hj h1 h2) (fun H1 hm => by obtain ⟨ra, rf, rw, rx, ir, hMc, hT, hU, hMs, hK9, hJ9⟩ := id hm; exact c_X7_waked hj h1 h2 hMc)
set_option maxHeartbeats 1000000 in
theorem j_see {G : GT} {B : Nat} {l : Launch} {H : Heap} {b : Nat} {x : Int32} {y : Int32} (hB : B ≤ b) (hS : SS G H b) : Tw G B l b yX6_see cX6_see 3 1 yX7_see cX7_see 3 2 [.int x, .int y] H := by
  obtain ⟨tx, L, fp, kb, ka, ks, kw, n, nv, kK, kV, dd, sd, nx, ct, pu, sn, sw, sg, bn, bw, bt, ik, iD, iS, hX, hM, hI⟩ := hS
  obtain ⟨kr, sp, kS, kU, hC, hR2, hK2, hT2, hPs, hSe, hBo, hIm⟩ := id hX
  obtain ⟨hn8, hnv4, hnx, hct, ⟨hR, hg26⟩, hV, hRK, hPu, hSw, hBw, hIi, hsd⟩ := id hI
  have hn31 : n < 2 ^ 31 := by omega
  have hnv31 : nv < 2 ^ 31 := by omega
  have hB2 : B ≤ b + 120 := by omega
  rcases e : wIx n x with _ | _
  · have hq : wIx n x = false ∨ wIx n y = false := Or.inl e
    exact tw_q hX hM hI (c_X6_see_unk hq hX hB) (fun H1 hm => by obtain ⟨ra, rf, rw, rx, ir, hMc, hT, hU, hMs, hK9, hJ9⟩ := id hm; exact c_X7_see_unk hq hm hB2)
  · rcases e2 : wIx n y with _ | _
    · have hq : wIx n x = false ∨ wIx n y = false := Or.inr e2
      exact tw_q hX hM hI (c_X6_see_unk hq hX hB) (fun H1 hm => by obtain ⟨ra, rf, rw, rx, ir, hMc, hT, hU, hMs, hK9, hJ9⟩ := id hm; exact c_X7_see_unk hq hm hB2)
    · obtain ⟨w, hw, rfl⟩ := wIx_of hn31 e
      obtain ⟨g, hg, rfl⟩ := wIx_of hn31 e2
      have hs6 : sn ≤ 6 := by
        obtain ⟨_, _, -, -, -, -, -, h, -⟩ := hSe
        exact h
      by_cases hlt : sn < 6
      · exact tw_c hX hM (c_X6_see hw hg hlt hX hB) (fun H1 hm => c_X7_see hw hg hlt hm hB2) (iv_see hI hw)
      · have he : sn = 6 := by omega
        exact tw_c hX hM (c_X6_see_full hw hg he hX hB) (fun H1 hm => am_q (Φ := fun H' => Mx G H' (b + 120) tx L fp kb ka ks kw n nv kK kV dd sd nx ct pu sn sw sg bn bw bt ik iD iS) hm (c_X7_see_full hw hg he hm hB2)) hI
set_option maxHeartbeats 1000000 in
theorem j_speaker {G : GT} {B : Nat} {l : Launch} {H : Heap} {b : Nat} (hB : B ≤ b) (hS : SS G H b) : Tw G B l b yX6_speaker cX6_speaker 3 6 yX7_speaker cX7_speaker 5 4 [] H := by
  obtain ⟨tx, L, fp, kb, ka, ks, kw, n, nv, kK, kV, dd, sd, nx, ct, pu, sn, sw, sg, bn, bw, bt, ik, iD, iS, hX, hM, hI⟩ := hS
  obtain ⟨kr, sp, kS, kU, hC, hR2, hK2, hT2, hPs, hSe, hBo, hIm⟩ := id hX
  obtain ⟨hn8, hnv4, hnx, hct, ⟨hR, hg26⟩, hV, hRK, hPu, hSw, hBw, hIi, hsd⟩ := id hI
  have hn31 : n < 2 ^ 31 := by omega
  have hnv31 : nv < 2 ^ 31 := by omega
  have hB2 : B ≤ b + 120 := by omega
  exact tw_q hX hM hI (c_X6_speaker hSe hSw hC) (fun H1 hm => by obtain ⟨ra, rf, rw, rx, ir, hMc, hT, hU, hMs, hK9, hJ9⟩ := id hm; exact c_X7_speaker hMs hSw hMc)
set_option maxHeartbeats 1000000 in
theorem j_sayNext {G : GT} {B : Nat} {l : Launch} {H : Heap} {b : Nat} (hB : B ≤ b) (hS : SS G H b) : Tw G B l b yX6_sayNext cX6_sayNext 6 7 yX7_sayNext cX7_sayNext 6 5 [] H := by
  obtain ⟨tx, L, fp, kb, ka, ks, kw, n, nv, kK, kV, dd, sd, nx, ct, pu, sn, sw, sg, bn, bw, bt, ik, iD, iS, hX, hM, hI⟩ := hS
  obtain ⟨kr, sp, kS, kU, hC, hR2, hK2, hT2, hPs, hSe, hBo, hIm⟩ := id hX
  obtain ⟨hn8, hnv4, hnx, hct, ⟨hR, hg26⟩, hV, hRK, hPu, hSw, hBw, hIi, hsd⟩ := id hI
  have hn31 : n < 2 ^ 31 := by omega
  have hnv31 : nv < 2 ^ 31 := by omega
  have hB2 : B ≤ b + 120 := by omega
  exact tw_q hX hM hI (c_X6_sayNext hSe hSw hC) (fun H1 hm => by obtain ⟨ra, rf, rw, rx, ir, hMc, hT, hU, hMs, hK9, hJ9⟩ := id hm; exact c_X7_sayNext hMs hSw hMc)
set_option maxHeartbeats 1000000 in
theorem j_write {G : GT} {B : Nat} {l : Launch} {H : Heap} {b : Nat} {x : Int32} {y : Int32} (hB : B ≤ b) (hS : SS G H b) : Tw G B l b yX6_write cX6_write 3 1 yX7_write cX7_write 3 2 [.int x, .int y] H := by
  obtain ⟨tx, L, fp, kb, ka, ks, kw, n, nv, kK, kV, dd, sd, nx, ct, pu, sn, sw, sg, bn, bw, bt, ik, iD, iS, hX, hM, hI⟩ := hS
  obtain ⟨kr, sp, kS, kU, hC, hR2, hK2, hT2, hPs, hSe, hBo, hIm⟩ := id hX
  obtain ⟨hn8, hnv4, hnx, hct, ⟨hR, hg26⟩, hV, hRK, hPu, hSw, hBw, hIi, hsd⟩ := id hI
  have hn31 : n < 2 ^ 31 := by omega
  have hnv31 : nv < 2 ^ 31 := by omega
  have hB2 : B ≤ b + 120 := by omega
  rcases e : wIx n x with _ | _
  · exact tw_q hX hM hI (c_X6_write_unk e hX hB) (fun H1 hm => by obtain ⟨ra, rf, rw, rx, ir, hMc, hT, hU, hMs, hK9, hJ9⟩ := id hm; exact c_X7_write_unk e hm hB2)
  · obtain ⟨w, hw, rfl⟩ := wIx_of hn31 e
    rcases e2 : wIx (99 + 1) y with _ | _
    · have hq := ix_out (by decide) e2
      exact tw_q hX hM hI (c_X6_write_out hw hq hX hB) (fun H1 hm => by obtain ⟨ra, rf, rw, rx, ir, hMc, hT, hU, hMs, hK9, hJ9⟩ := id hm; exact c_X7_write_out hw hq hm hB2)
    · obtain ⟨k, hk, -, h1, h2⟩ := ix_in (by decide) e2
      have hs6 : bn ≤ 15 := by
        obtain ⟨_, _, -, -, -, -, -, h, -⟩ := hBo
        exact h
      by_cases hlt : bn < 15
      · exact tw_c hX hM (c_X6_write hw h1 h2 hlt hX hB) (fun H1 hm => c_X7_write hw h1 h2 hlt hm hB2) (iv_write hI hw)
      · have he : bn = 15 := by omega
        exact tw_c hX hM (c_X6_write_full hw h1 h2 he hX hB) (fun H1 hm => am_q (Φ := fun H' => Mx G H' (b + 120) tx L fp kb ka ks kw n nv kK kV dd sd nx ct pu sn sw sg bn bw bt ik iD iS) hm (c_X7_write_full hw h1 h2 he hm hB2)) hI
set_option maxHeartbeats 1000000 in
theorem j_tear {G : GT} {B : Nat} {l : Launch} {H : Heap} {b : Nat} (hB : B ≤ b) (hS : SS G H b) : Tw G B l b yX6_tear cX6_tear 2 1 yX7_tear cX7_tear 2 0 [] H := by
  obtain ⟨tx, L, fp, kb, ka, ks, kw, n, nv, kK, kV, dd, sd, nx, ct, pu, sn, sw, sg, bn, bw, bt, ik, iD, iS, hX, hM, hI⟩ := hS
  obtain ⟨kr, sp, kS, kU, hC, hR2, hK2, hT2, hPs, hSe, hBo, hIm⟩ := id hX
  obtain ⟨hn8, hnv4, hnx, hct, ⟨hR, hg26⟩, hV, hRK, hPu, hSw, hBw, hIi, hsd⟩ := id hI
  have hn31 : n < 2 ^ 31 := by omega
  have hnv31 : nv < 2 ^ 31 := by omega
  have hB2 : B ≤ b + 120 := by omega
  exact tw_c hX hM (c_X6_tear hX hB) (fun H1 hm => c_X7_tear hm hB2) (iv_tear hI)
set_option maxHeartbeats 1000000 in
theorem j_judge {G : GT} {B : Nat} {l : Launch} {H : Heap} {b : Nat} (hB : B ≤ b) (hS : SS G H b) : Tw G B l b yX6_judge cX6_judge 3 1 yX7_judge cX7_judge 3 0 [] H := by
  obtain ⟨tx, L, fp, kb, ka, ks, kw, n, nv, kK, kV, dd, sd, nx, ct, pu, sn, sw, sg, bn, bw, bt, ik, iD, iS, hX, hM, hI⟩ := hS
  obtain ⟨kr, sp, kS, kU, hC, hR2, hK2, hT2, hPs, hSe, hBo, hIm⟩ := id hX
  obtain ⟨hn8, hnv4, hnx, hct, ⟨hR, hg26⟩, hV, hRK, hPu, hSw, hBw, hIi, hsd⟩ := id hI
  have hn31 : n < 2 ^ 31 := by omega
  have hnv31 : nv < 2 ^ 31 := by omega
  have hB2 : B ≤ b + 120 := by omega
  exact tw_q hX hM hI (c_X6_judge hBo hBw hC) (fun H1 hm => by obtain ⟨ra, rf, rw, rx, ir, hMc, hT, hU, hMs, hK9, hJ9⟩ := id hm; exact c_X7_judge hK9 hBw hMc)
set_option maxHeartbeats 1000000 in
theorem j_seed {G : GT} {B : Nat} {l : Launch} {H : Heap} {b : Nat} {x : Int32} (hB : B ≤ b) (hS : SS G H b) : Tw G B l b yX6_seed cX6_seed 3 0 yX7_seed cX7_seed 3 0 [.int x] H := by
  obtain ⟨tx, L, fp, kb, ka, ks, kw, n, nv, kK, kV, dd, sd, nx, ct, pu, sn, sw, sg, bn, bw, bt, ik, iD, iS, hX, hM, hI⟩ := hS
  obtain ⟨kr, sp, kS, kU, hC, hR2, hK2, hT2, hPs, hSe, hBo, hIm⟩ := id hX
  obtain ⟨hn8, hnv4, hnx, hct, ⟨hR, hg26⟩, hV, hRK, hPu, hSw, hBw, hIi, hsd⟩ := id hI
  have hn31 : n < 2 ^ 31 := by omega
  have hnv31 : nv < 2 ^ 31 := by omega
  have hB2 : B ≤ b + 120 := by omega
  by_cases hx : x < 0
  · exact tw_q hX hM hI (c_X6_seed_out hx hX hB) (fun H1 hm => by obtain ⟨ra, rf, rw, rx, ir, hMc, hT, hU, hMs, hK9, hJ9⟩ := id hm; exact c_X7_seed_out hx hm hB2)
  · obtain ⟨v, hv, rfl⟩ := nI_of hx
    exact tw_c hX hM (c_X6_seed hv hX hB) (fun H1 hm => c_X7_seed hv hsd hm hB2) (iv_seed hI hv)
set_option maxHeartbeats 1000000 in
theorem j_keep {G : GT} {B : Nat} {l : Launch} {H : Heap} {b : Nat} {x : Int32} (hB : B ≤ b) (hS : SS G H b) : Tw G B l b yX6_keep cX6_keep 2 2 yX7_keep cX7_keep 3 1 [.int x] H := by
  obtain ⟨tx, L, fp, kb, ka, ks, kw, n, nv, kK, kV, dd, sd, nx, ct, pu, sn, sw, sg, bn, bw, bt, ik, iD, iS, hX, hM, hI⟩ := hS
  obtain ⟨kr, sp, kS, kU, hC, hR2, hK2, hT2, hPs, hSe, hBo, hIm⟩ := id hX
  obtain ⟨hn8, hnv4, hnx, hct, ⟨hR, hg26⟩, hV, hRK, hPu, hSw, hBw, hIi, hsd⟩ := id hI
  have hn31 : n < 2 ^ 31 := by omega
  have hnv31 : nv < 2 ^ 31 := by omega
  have hB2 : B ≤ b + 120 := by omega
  rcases e : wIx 2 x with _ | _
  · exact tw_q hX hM hI (c_X6_keep_unk e hX hB) (fun H1 hm => by obtain ⟨ra, rf, rw, rx, ir, hMc, hT, hU, hMs, hK9, hJ9⟩ := id hm; exact c_X7_keep_unk e hm hB2)
  · obtain ⟨i, hi, rfl⟩ := wIx_of (by decide) e
    exact tw_c hX hM (c_X6_keep hi hX hB) (fun H1 hm => c_X7_keep hi hm hB2) (iv_keep hI)
set_option maxHeartbeats 1000000 in
theorem j_goBack {G : GT} {B : Nat} {l : Launch} {H : Heap} {b : Nat} {x : Int32} (hB : B ≤ b) (hS : SS G H b) : Tw G B l b yX6_goBack cX6_goBack 2 2 yX7_goBack cX7_goBack 3 1 [.int x] H := by
  obtain ⟨tx, L, fp, kb, ka, ks, kw, n, nv, kK, kV, dd, sd, nx, ct, pu, sn, sw, sg, bn, bw, bt, ik, iD, iS, hX, hM, hI⟩ := hS
  obtain ⟨kr, sp, kS, kU, hC, hR2, hK2, hT2, hPs, hSe, hBo, hIm⟩ := id hX
  obtain ⟨hn8, hnv4, hnx, hct, ⟨hR, hg26⟩, hV, hRK, hPu, hSw, hBw, hIi, hsd⟩ := id hI
  have hn31 : n < 2 ^ 31 := by omega
  have hnv31 : nv < 2 ^ 31 := by omega
  have hB2 : B ≤ b + 120 := by omega
  rcases e : wIx 2 x with _ | _
  · exact tw_q hX hM hI (c_X6_goBack_unk e hX hB) (fun H1 hm => by obtain ⟨ra, rf, rw, rx, ir, hMc, hT, hU, hMs, hK9, hJ9⟩ := id hm; exact c_X7_goBack_unk e hm hB2)
  · obtain ⟨i, hi, rfl⟩ := wIx_of (by decide) e
    rcases hk : ik i with _ | _
    · exact tw_q hX hM hI (c_X6_goBack_not hi hk hX hB) (fun H1 hm => by obtain ⟨ra, rf, rw, rx, ir, hMc, hT, hU, hMs, hK9, hJ9⟩ := id hm; exact c_X7_goBack_not hi hk hm hB2)
    · exact tw_c hX hM (c_X6_goBack hi hk hX hB) (fun H1 hm => c_X7_goBack hi hk hm hB2) (iv_back hI hi hk)
/-! ===== END ===== -/
