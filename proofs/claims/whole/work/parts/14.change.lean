/-! ===== BEGIN the whole of a BeansBox, 120 cells from b on ===== -/
theorem Bc.kept {G : GT} {H H1 : Heap} {b kr sp : Nat} {fp dr : Int32} {kb : Bool} {ka ks kw : Int32} {n nv : Nat} {kS kU kK kV dd : DD} (h : Bc G H b kr sp fp dr kb ka ks kw n nv kS kU kK kV dd) (hq : ∀ q, b ≤ q → (q = b ∨ b + 3 ≤ q) ∧ q < b + 17 → H1[q]? = H[q]?) : Bc G H1 b kr sp fp dr kb ka ks kw n nv kS kU kK kV dd :=
  ⟨h.1.kept (hq _ (by omega) (by omega)), h.2.1.kept (fun q a c => hq q (by rcases h.2.2.2 with ⟨e, -⟩ | ⟨e, -⟩ <;> omega) (by rcases h.2.2.2 with ⟨e, -⟩ | ⟨e, -⟩ <;> omega)), h.2.2.1.kept (fun q a c => hq q (by omega) (by omega)), h.2.2.2⟩
/-- what is so is another -/
theorem Bc.now {G : GT} {H H1 : Heap} {b kr sp : Nat} {fp dr : Int32} {kb : Bool} {ka ks kw : Int32} {n nv : Nat} {kS kU kK kV dd dd' : DD} (h : Bc G H b kr sp fp dr kb ka ks kw n nv kS kU kK kV dd) (hD : Dd G H1 (b + 13) n dd') (hq : ∀ q, b ≤ q → q < b + 13 → H1[q]? = H[q]?) : Bc G H1 b kr sp fp dr kb ka ks kw n nv kS kU kK kV dd' :=
  ⟨h.1.kept (hq _ (by omega) (by omega)), h.2.1.kept (fun q a c => hq q (by rcases h.2.2.2 with ⟨e, -⟩ | ⟨e, -⟩ <;> omega) (by rcases h.2.2.2 with ⟨e, -⟩ | ⟨e, -⟩ <;> omega)), hD, h.2.2.2⟩
/-- a field of the box is another -/
theorem Bc.box {G : GT} {H H1 : Heap} {b kr sp : Nat} {fp fp' dr dr' : Int32} {kb : Bool} {ka ks kw : Int32} {n nv : Nat} {kS kU kK kV dd : DD} (h : Bc G H b kr sp fp dr kb ka ks kw n nv kS kU kK kV dd) (hb : Ob G H1 b 6 (bxL b kr sp fp' dr')) (hq : ∀ q, q ≠ b → H1[q]? = H[q]?) : Bc G H1 b kr sp fp' dr' kb ka ks kw n nv kS kU kK kV dd :=
  ⟨hb, h.2.1.kept (fun q a c => hq q (by rcases h.2.2.2 with ⟨e, -⟩ | ⟨e, -⟩ <;> omega)), h.2.2.1.kept (fun q a c => hq q (by omega)), h.2.2.2⟩
def R2 (G : GT) (H : Heap) (r : Nat) (tx : Nat → Nat) (L : Nat) : Prop := ∃ pl kd, Rd G H r tx L pl kd
theorem R2.kept {G : GT} {H H1 : Heap} {r : Nat} {tx : Nat → Nat} {L : Nat} (h : R2 G H r tx L) (hq : ∀ q, r ≤ q → q < r + 2 → H1[q]? = H[q]?) : R2 G H1 r tx L := by
  obtain ⟨pl, kd, h⟩ := h
  exact ⟨pl, kd, h.kept hq⟩
def K2 (G : GT) (H : Heap) (k : Nat) : Prop := ∃ (kb : Bool) (ka ks kw : Int32) (n nv : Nat) (kS kU kK kV : DD), Kt G H k kb ka ks kw n nv kS kU kK kV
theorem K2.kept {G : GT} {H H1 : Heap} {k : Nat} (h : K2 G H k) (hq : ∀ q, k ≤ q → q < k + 5 → H1[q]? = H[q]?) : K2 G H1 k := by
  obtain ⟨a, b, c, d, e, f, g, i, j, m, h⟩ := h
  exact ⟨a, b, c, d, e, f, g, i, j, m, h.kept hq⟩
def T2 (G : GT) (H : Heap) (t : Nat) : Prop := ∃ (n : Nat) (dd : DD), Dd G H t n dd
theorem T2.kept {G : GT} {H H1 : Heap} {t : Nat} (h : T2 G H t) (hq : ∀ q, t ≤ q → q < t + 4 → H1[q]? = H[q]?) : T2 G H1 t := by
  obtain ⟨n, dd, h⟩ := h
  exact ⟨n, dd, h.kept hq⟩
def Im2 (G : GT) (H : Heap) (b n : Nat) (ik : Nat → Bool) (iD : Nat → DD) (iS : Nat → Nat) : Prop := (∃ fI : Nat → Option Nat, Aq G H (b + 103) 4 2 fI ∧ ∀ i, i < 2 → fI i = some (b + 110 + 5 * i)) ∧ ∀ i, i < 2 → ∃ (n' : Nat) (dd' : DD) (dr : Int32), Im G H (b + 110 + 5 * i) (ik i) dr n' dd' ∧ (ik i = true → n' = n ∧ dd' = iD i ∧ dr = nI (iS i))
theorem Im2.kept {G : GT} {H H1 : Heap} {b n : Nat} {ik : Nat → Bool} {iD : Nat → DD} {iS : Nat → Nat} (h : Im2 G H b n ik iD iS) (hq : ∀ q, (q = b + 103 ∨ b + 110 ≤ q ∧ q < b + 120) → H1[q]? = H[q]?) : Im2 G H1 b n ik iD iS := by
  obtain ⟨⟨fI, h1, h2⟩, h3⟩ := h
  refine ⟨⟨fI, h1.kept (hq _ (Or.inl rfl)), h2⟩, fun i hi => ?_⟩
  obtain ⟨n', dd', dr, g1, g2⟩ := h3 i hi
  exact ⟨n', dd', dr, g1.kept (fun q a c => hq q (Or.inr (by omega))), g2⟩
def Bx (G : GT) (H : Heap) (b : Nat) (tx : Nat → Nat) (L : Nat) (fp : Int32) (kb : Bool) (ka ks kw : Int32) (n nv : Nat) (kK kV dd : DD) (sd nx ct : Nat) (pu : Nat → DD) (sn : Nat) (sw sg : Nat → Nat) (bn : Nat) (bw : Nat → Nat) (bt : DD) (ik : Nat → Bool) (iD : Nat → DD) (iS : Nat → Nat) : Prop :=
  ∃ (kr sp : Nat) (kS kU : DD), Bc G H b kr sp fp (nI sd) kb ka ks kw n nv kS kU kK kV dd ∧ R2 G H (b + 1) tx L ∧ K2 G H sp ∧ T2 G H (b + 17) ∧ Ps G H (b + 21) nx ct n pu ∧ Pr G H (b + 104) 6 sn (fun i => nI (sw i)) (fun i => nI (sg i)) ∧ Pr G H (b + 107) 15 bn (fun i => nI (bw i)) bt ∧ Im2 G H b n ik iD iS
theorem upd_upd {f : Nat → Int32} {k : Nat} {x y : Int32} : upd (upd f k x) k y = upd f k y := by
  funext j
  simp only [upd]
  split <;> rfl
/-! ===== END ===== -/

set_option maxHeartbeats 4000000 in
set_option maxRecDepth 100000 in
theorem c_X6_needs {G : GT} {B : Nat} {l : Launch} {H : Heap} {b kr sp : Nat} {fp dr : Int32} {kb : Bool} {ka ks kw : Int32} {n nv : Nat} {kS kU kK kV dd : DD} {w : Nat} (hw : w < n) {v : Nat} (hv : v < nv) {what : Int32} (hq : what = 0 ∨ what = 1) (hC : Bc G H b kr sp fp dr kb ka ks kw n nv kS kU kK kV dd) {tn : Nat} {td0 : DD} (hT : Dd G H (b + 17) tn td0) (hB : B ≤ b) : AM G B l yX6_needs cX6_needs 6 (some .int) 6 0 0 [.ref b, .int (nI w), .int (nI v), .int what] H (fun rv H' => rv = some (.int (ndF n dd kK kV ka ks w v what 100 0)) ∧ ((∃ td : DD, Dd G H' (b + 17) n td) ∧ ∀ q : Nat, ¬ (b + 17 ≤ q ∧ q < b + 21) → H'[q]? = H[q]?)) := by
  have hC0 := hC
  obtain ⟨hb, hK, hD, hkr⟩ := hC
  have hK0 := hK
  have hN := hD
  unfold bxL at hb
  obtain ⟨fS3, fU3, fK3, fV3, hk3, ha3, hb3, hc3, he3, eS3, eU3, eK3, eV3, hn3, hnv3⟩ := hK
  obtain ⟨fS, fU, fO, hd, hs, hu, ho, eS, eU, eO, hn⟩ := hD
  have hT0 := hT
  obtain ⟨fS4, fU4, fO4, hd4, hs4, hu4, ho4, eS4, eU4, eO4, hn4⟩ := hT
  have hF : ∀ q : Nat, ¬ (b + 17 ≤ q ∧ q < b + 21) → H[q]? = H[q]? := fun _ _ => rfl
  refine AM.ofI (lv := [(0, .ref b), (1, .int (nI w)), (2, .int (nI v)), (3, .int what)]) (by decide +kernel) (Nat.le_of_ble_eq_true rfl) rfl ?_ (fun _ h => by cases h.1)
  refine a_aload_n 0 dX6_needs_0 rfl rfl ?_
  refine a_iload_n 1 dX6_needs_1 rfl rfl ?_
  refine a_callVp (As := [.int (nI w)]) (rest := []) (d := 0) (mc := 0) (ms := 0) (x := bI (wIx n (nI w))) (ci := 6) l_X6_131 im_X6_isWord se_X6_isWord ⟨_, rfl, rfl⟩ dX6_needs_2 ⟨Nat.le_of_ble_eq_true rfl, Nat.le_of_ble_eq_true rfl⟩ rfl (Nat.le_of_ble_eq_true rfl) ⟨Nat.le_of_ble_eq_true rfl, Nat.le_of_ble_eq_true rfl⟩ hb (c_X6_isWord hC0) ?_
  refine a_ifeqB 16 dX6_needs_5 (by decide) (fun c5 => ?_) (fun c5 => ?_)
  · skip
    exact absurd c5 (by rw [wIx_nI hw (by omega)]; decide)
  · skip
    refine a_aload_n 0 dX6_needs_8 rfl rfl ?_
    refine a_iload_n 2 dX6_needs_9 rfl rfl ?_
    refine a_callVp (As := [.int (nI v)]) (rest := []) (d := 0) (mc := 0) (ms := 0) (x := bI (wIx nv (nI v))) (ci := 6) l_X6_148 im_X6_isVoice se_X6_isVoice ⟨_, rfl, rfl⟩ dX6_needs_10 ⟨Nat.le_of_ble_eq_true rfl, Nat.le_of_ble_eq_true rfl⟩ rfl (Nat.le_of_ble_eq_true rfl) ⟨Nat.le_of_ble_eq_true rfl, Nat.le_of_ble_eq_true rfl⟩ hb (c_X6_isVoice hC0) ?_
    refine a_ifneB 19 dX6_needs_13 (by decide) (fun c13 => ?_) (fun c13 => ?_)
    · skip
      refine a_iload_n 3 dX6_needs_19 rfl rfl ?_
      refine a_ifeq 31 dX6_needs_20 (by decide) (fun c20 => ?_) (fun c20 => ?_)
      · skip
        refine a_aload_n 0 dX6_needs_31 rfl rfl ?_
        refine a_iload_n 1 dX6_needs_32 rfl rfl ?_
        refine a_iload_n 2 dX6_needs_33 rfl rfl ?_
        refine a_callVp (As := [.int (nI w), .int (nI v)]) (rest := []) (d := 1) (mc := 0) (ms := 0) (x := spF dd kV w v) (ci := 6) l_X6_182 im_X6_spoken se_X6_spoken ⟨_, rfl, rfl⟩ dX6_needs_34 ⟨Nat.le_of_ble_eq_true rfl, Nat.le_of_ble_eq_true rfl⟩ rfl (Nat.le_of_ble_eq_true rfl) ⟨Nat.le_of_ble_eq_true rfl, Nat.le_of_ble_eq_true rfl⟩ hb (c_X6_spoken hw hv hC0) ?_
        refine a_istore (lv' := [(4, .int (spF dd kV w v)), (0, .ref b), (1, .int (nI w)), (2, .int (nI v)), (3, .int what)]) dX6_needs_37 (by decide) rfl ?_
        refine a_aload_n 1 dX6_needs_39 rfl rfl ?_
        refine a_get f_X6_37 dX6_needs_40 hb rfl ?_
        refine a_aload_n 1 dX6_needs_43 rfl rfl ?_
        refine a_get f_X6_33 dX6_needs_44 hb rfl ?_
        refine a_callVv (As := [.ref (b + 13)]) (rest := []) (d := 1) (mc := 0) (ms := 0) (ci := 0) l_X6_219 im_X0_copy se_X0_copy ⟨_, rfl, rfl⟩ dX6_needs_47 ⟨Nat.le_of_ble_eq_true rfl, Nat.le_of_ble_eq_true rfl⟩ rfl (Nat.le_of_ble_eq_true rfl) ⟨Nat.le_of_ble_eq_true rfl, Nat.le_of_ble_eq_true rfl⟩ hd4 (c_X0_copy hN (by omega) hT0 (by omega)) (fun H4 hp4 => ?_)
        obtain ⟨hT, hfr⟩ := hp4
        have hC := hC0.kept (H1 := H4) (fun q a c => hfr q (by omega))
        have hb := hb.kept (hfr _ (by omega))
        have hk3 := hk3.kept (hfr _ (by omega))
        have ha3 := ha3.kept (hfr _ (by omega))
        have hb3 := hb3.kept (hfr _ (by omega))
        have hc3 := hc3.kept (hfr _ (by omega))
        have he3 := he3.kept (hfr _ (by omega))
        have hd := hd.kept (hfr _ (by omega))
        have hs := hs.kept (hfr _ (by omega))
        have hu := hu.kept (hfr _ (by omega))
        have ho := ho.kept (hfr _ (by omega))
        have hF : ∀ q : Nat, ¬ (b + 17 ≤ q ∧ q < b + 21) → H4[q]? = H[q]? := fun q hq => (hfr q (by omega)).trans (hF q hq)
        refine a_iconst 0 dX6_needs_50 (by decide) ?_
        refine a_istore (lv' := [(5, .int 0), (4, .int (spF dd kV w v)), (0, .ref b), (1, .int (nI w)), (2, .int (nI v)), (3, .int what)]) dX6_needs_51 (by decide) rfl ?_
        have L53 : ∀ (fu : Nat) (u : Nat) (Hk : Heap) (x : Int32), u ≤ 100 → ndF n dd kK kV ka ks w v what 100 0 = ndF n dd kK kV ka ks w v what (100 - u) u → Bc G Hk b kr sp fp dr kb ka ks kw n nv kS kU kK kV dd → Dd G Hk (b + 17) n (upd dd (8 + w) x) → (∀ q : Nat, ¬ (b + 17 ≤ q ∧ q < b + 21) → Hk[q]? = H[q]?) → 100 - u < fu → AW G B l { frames := 6, cells := 0, slots := 0, locals := 27 * 6 } yX6_needs.cls cX6_needs 6 false (fun rv H' ce' sl' => (rv = some (.int (ndF n dd kK kV ka ks w v what 100 0)) ∧ ((∃ td : DD, Dd G H' (b + 17) n td) ∧ ∀ q : Nat, ¬ (b + 17 ≤ q ∧ q < b + 21) → H'[q]? = H[q]?)) ∧ ce' = 0 ∧ sl' = 0) 53 [(0, .ref b), (1, .int (nI w)), (2, .int (nI v)), (3, .int what), (4, .int (spF dd kV w v)), (5, .int (nI u))] [] Hk 0 0 := by
          intro fu
          induction fu with
          | zero => intro u Hk x hk hh hC hT hF hm53; exact absurd hm53 (Nat.not_lt_zero _)
          | succ fu ih53 =>
            intro u Hk x hk hh hC hT hF hm53
            have hC0 := hC
            obtain ⟨hb, hK, hD, -⟩ := hC
            have hN := hD
            unfold bxL at hb
            obtain ⟨fS3, fU3, fK3, fV3, hk3, ha3, hb3, hc3, he3, eS3, eU3, eK3, eV3, hn3, hnv3⟩ := hK
            obtain ⟨fS, fU, fO, hd, hs, hu, ho, eS, eU, eO, hn⟩ := hD
            obtain ⟨fS4, fU4, fO4, hd4, hs4, hu4, ho4, eS4, eU4, eO4, hn4⟩ := hT
            have hG : ∀ q : Nat, ¬ (b + 17 ≤ q ∧ q < b + 21) → Hk[q]? = Hk[q]? := fun _ _ => rfl
            refine a_iload 5 dX6_needs_53 rfl ?_
            refine a_bipush 99 dX6_needs_55 (by decide) ?_
            refine a_icmpgtN (a := u) (b := 99) 110 dX6_needs_57 (by decide) (by omega) (by omega) (fun c57 => ?_) (fun c57 => ?_)
            · skip
              refine a_iconst (-1) dX6_needs_110 (by decide) ?_
              refine a_ret dX6_needs_111 ⟨⟨ri ?_, ?_⟩, rfl, rfl⟩
              · rw [hh, show 100 - u = 0 by omega]
                rfl
              · exact ⟨⟨_, Dd.mk' hd4 hs4 hu4 ho4 hn4 rfl rfl rfl eS4 eU4 eO4⟩, hF⟩
            · skip
              refine a_aload_n 0 dX6_needs_60 rfl rfl ?_
              refine a_get f_X6_37 dX6_needs_61 hb rfl ?_
              refine a_get f_X6_139 dX6_needs_64 hd4 rfl ?_
              refine a_iload_n 1 dX6_needs_67 rfl rfl ?_
              refine a_iload 5 dX6_needs_68 rfl ?_
              refine a_iastN (j := w) dX6_needs_70 hu4 (by omega) (by decide) (by omega) (fun H5 hu4 hz5 hq5 => ?_)
              have hu4 : Ai G H5 (b + 17 + 2) 8 (upd fU4 w (nI u)) := hu4
              have hb := hb.kept (hq5 _ (by omega))
              have hk3 := hk3.kept (hq5 _ (by omega))
              have ha3 := ha3.kept (hq5 _ (by omega))
              have hb3 := hb3.kept (hq5 _ (by omega))
              have hc3 := hc3.kept (hq5 _ (by omega))
              have he3 := he3.kept (hq5 _ (by omega))
              have hd := hd.kept (hq5 _ (by omega))
              have hs := hs.kept (hq5 _ (by omega))
              have hu := hu.kept (hq5 _ (by omega))
              have ho := ho.kept (hq5 _ (by omega))
              have hd4 := hd4.kept (hq5 _ (by omega))
              have hs4 := hs4.kept (hq5 _ (by omega))
              have ho4 := ho4.kept (hq5 _ (by omega))
              have hF : ∀ q : Nat, ¬ (b + 17 ≤ q ∧ q < b + 21) → H5[q]? = H[q]? := fun q hq => (hq5 q (by omega)).trans (hF q hq)
              have hG : ∀ q : Nat, ¬ (b + 17 ≤ q ∧ q < b + 21) → H5[q]? = Hk[q]? := fun q hq => (hq5 q (by omega)).trans (hG q hq)
              have hD4 : Dd G H5 (b + 17) n (upd dd (8 + w) (nI u)) := by
                refine Dd.mk' hd4 hs4 hu4 ho4 hn4 ?_ ?_ ?_ ?_ ?_ ?_
                all_goals try intro i hi
                all_goals try dsimp only
                all_goals simp only [upd]
                all_goals repeat' split
                all_goals first | omega | rfl | contradiction | exact (eS4 _ (by assumption)).trans (by simp only [upd]; rw [if_neg (by omega)]) | exact (eU4 _ (by assumption)).trans (by simp only [upd]; rw [if_neg (by omega)]) | exact (eO4 _ (by assumption)).trans (by simp only [upd]; rw [if_neg (by omega)])
              have hC2 := hC0.kept (H1 := H5) (fun q a c => hG q (by omega))
              refine a_aload_n 0 dX6_needs_71 rfl rfl ?_
              refine a_get f_X6_37 dX6_needs_72 hb rfl ?_
              refine a_iload 4 dX6_needs_75 rfl ?_
              refine a_callVp (As := [.int (spF dd kV w v)]) (rest := []) (d := 3) (mc := 0) (ms := 0) (x := guF n (upd dd (8 + w) (nI u)) (spF dd kV w v)) (ci := 0) l_X6_193 im_X0_strongest se_X0_strongest ⟨_, rfl, rfl⟩ dX6_needs_77 ⟨Nat.le_of_ble_eq_true rfl, Nat.le_of_ble_eq_true rfl⟩ rfl (Nat.le_of_ble_eq_true rfl) ⟨Nat.le_of_ble_eq_true rfl, Nat.le_of_ble_eq_true rfl⟩ hd4 (c_X0_strongest hD4) ?_
              refine a_iload_n 1 dX6_needs_80 rfl rfl ?_
              refine a_icmpne 104 dX6_needs_81 (by decide) (fun c81 => ?_) (fun c81 => ?_)
              · skip
                refine a_iincN (q := 5) (lv' := [(5, .int (nI (u + 1))), (0, .ref b), (1, .int (nI w)), (2, .int (nI v)), (3, .int what), (4, .int (spF dd kV w v))]) dX6_needs_104 rfl (by decide) rfl ?_
                refine a_goto 53 dX6_needs_107 (by decide) ?_
                refine a_sub [1, 2, 3, 4, 5, 0] rfl ?_
                exact ih53 _ _ _ (by omega) (by rw [hh, show 100 - u = (100 - (u + 1)) + 1 by omega]; simp only [ndF]; rw [if_neg (fun h => c81 h.1)]) hC2 hD4 hF (by omega)
              · skip
                refine a_iload_n 3 dX6_needs_84 rfl rfl ?_
                refine a_ifeq 101 dX6_needs_85 (by decide) (fun c85 => ?_) (fun c85 => ?_)
                · skip
                  refine a_iload 5 dX6_needs_101 rfl ?_
                  refine a_ret dX6_needs_103 ⟨⟨ri ?_, ?_⟩, rfl, rfl⟩
                  · rw [hh, show 100 - u = (100 - (u + 1)) + 1 by omega]
                    simp only [ndF]
                    rw [if_pos ⟨c81, Or.inl c85⟩]
                  · exact ⟨⟨_, hD4⟩, hF⟩
                · skip
                  refine a_aload_n 0 dX6_needs_88 rfl rfl ?_
                  refine a_aload_n 0 dX6_needs_89 rfl rfl ?_
                  refine a_get f_X6_37 dX6_needs_90 hb rfl ?_
                  refine a_iload 4 dX6_needs_93 rfl ?_
                  refine a_callVp (As := [.ref (b + 17), .int (spF dd kV w v)]) (rest := []) (d := 5) (mc := 0) (ms := 0) (x := ruF n (upd dd (8 + w) (nI u)) kK ka ks (spF dd kV w v)) (ci := 6) l_X6_199 im_X6_cheapest se_X6_cheapest ⟨_, rfl, rfl⟩ dX6_needs_95 ⟨Nat.le_of_ble_eq_true rfl, Nat.le_of_ble_eq_true rfl⟩ rfl (Nat.le_of_ble_eq_true rfl) ⟨Nat.le_of_ble_eq_true rfl, Nat.le_of_ble_eq_true rfl⟩ hb (c_X6_cheapest hD4 hC2) ?_
                  refine a_ifne 104 dX6_needs_98 (by decide) (fun c98 => ?_) (fun c98 => ?_)
                  · skip
                    refine a_iincN (q := 5) (lv' := [(5, .int (nI (u + 1))), (0, .ref b), (1, .int (nI w)), (2, .int (nI v)), (3, .int what), (4, .int (spF dd kV w v))]) dX6_needs_104 rfl (by decide) rfl ?_
                    refine a_goto 53 dX6_needs_107 (by decide) ?_
                    refine a_sub [1, 2, 3, 4, 5, 0] rfl ?_
                    exact ih53 _ _ _ (by omega) (by rw [hh, show 100 - u = (100 - (u + 1)) + 1 by omega]; simp only [ndF]; rw [if_neg (fun h => h.2.elim c85 c98)]) hC2 hD4 hF (by omega)
                  · skip
                    refine a_iload 5 dX6_needs_101 rfl ?_
                    refine a_ret dX6_needs_103 ⟨⟨ri ?_, ?_⟩, rfl, rfl⟩
                    · rw [hh, show 100 - u = (100 - (u + 1)) + 1 by omega]
                      simp only [ndF]
                      rw [if_pos ⟨c81, Or.inr c98⟩]
                    · exact ⟨⟨_, hD4⟩, hF⟩
        refine a_sub [2, 3, 4, 5, 1, 0] rfl ?_
        exact L53 _ 0 _ (dd (8 + w)) (Nat.zero_le _) rfl hC (hT.congr (fun i hi => ⟨by simp only [upd]; rw [if_neg (by omega)], by simp only [upd]; split; { next e => rw [show i = w by omega] }; { rfl }, by simp only [upd]; rw [if_neg (by omega)]⟩) (by simp only [upd]; rw [if_neg (by omega)]) (by simp only [upd]; rw [if_neg (by omega)]) (by simp only [upd]; rw [if_neg (by omega)])) hF (Nat.lt_succ_self _)
      · skip
        refine a_iload_n 3 dX6_needs_23 rfl rfl ?_
        refine a_iconst 1 dX6_needs_24 (by decide) ?_
        refine a_icmpeq 31 dX6_needs_25 (by decide) (fun c25 => ?_) (fun c25 => ?_)
        · skip
          refine a_aload_n 0 dX6_needs_31 rfl rfl ?_
          refine a_iload_n 1 dX6_needs_32 rfl rfl ?_
          refine a_iload_n 2 dX6_needs_33 rfl rfl ?_
          refine a_callVp (As := [.int (nI w), .int (nI v)]) (rest := []) (d := 1) (mc := 0) (ms := 0) (x := spF dd kV w v) (ci := 6) l_X6_182 im_X6_spoken se_X6_spoken ⟨_, rfl, rfl⟩ dX6_needs_34 ⟨Nat.le_of_ble_eq_true rfl, Nat.le_of_ble_eq_true rfl⟩ rfl (Nat.le_of_ble_eq_true rfl) ⟨Nat.le_of_ble_eq_true rfl, Nat.le_of_ble_eq_true rfl⟩ hb (c_X6_spoken hw hv hC0) ?_
          refine a_istore (lv' := [(4, .int (spF dd kV w v)), (0, .ref b), (1, .int (nI w)), (2, .int (nI v)), (3, .int what)]) dX6_needs_37 (by decide) rfl ?_
          refine a_aload_n 1 dX6_needs_39 rfl rfl ?_
          refine a_get f_X6_37 dX6_needs_40 hb rfl ?_
          refine a_aload_n 1 dX6_needs_43 rfl rfl ?_
          refine a_get f_X6_33 dX6_needs_44 hb rfl ?_
          refine a_callVv (As := [.ref (b + 13)]) (rest := []) (d := 1) (mc := 0) (ms := 0) (ci := 0) l_X6_219 im_X0_copy se_X0_copy ⟨_, rfl, rfl⟩ dX6_needs_47 ⟨Nat.le_of_ble_eq_true rfl, Nat.le_of_ble_eq_true rfl⟩ rfl (Nat.le_of_ble_eq_true rfl) ⟨Nat.le_of_ble_eq_true rfl, Nat.le_of_ble_eq_true rfl⟩ hd4 (c_X0_copy hN (by omega) hT0 (by omega)) (fun H9 hp9 => ?_)
          obtain ⟨hT, hfr⟩ := hp9
          have hC := hC0.kept (H1 := H9) (fun q a c => hfr q (by omega))
          have hb := hb.kept (hfr _ (by omega))
          have hk3 := hk3.kept (hfr _ (by omega))
          have ha3 := ha3.kept (hfr _ (by omega))
          have hb3 := hb3.kept (hfr _ (by omega))
          have hc3 := hc3.kept (hfr _ (by omega))
          have he3 := he3.kept (hfr _ (by omega))
          have hd := hd.kept (hfr _ (by omega))
          have hs := hs.kept (hfr _ (by omega))
          have hu := hu.kept (hfr _ (by omega))
          have ho := ho.kept (hfr _ (by omega))
          have hF : ∀ q : Nat, ¬ (b + 17 ≤ q ∧ q < b + 21) → H9[q]? = H[q]? := fun q hq => (hfr q (by omega)).trans (hF q hq)
          refine a_iconst 0 dX6_needs_50 (by decide) ?_
          refine a_istore (lv' := [(5, .int 0), (4, .int (spF dd kV w v)), (0, .ref b), (1, .int (nI w)), (2, .int (nI v)), (3, .int what)]) dX6_needs_51 (by decide) rfl ?_
          have L53 : ∀ (fu : Nat) (u : Nat) (Hk : Heap) (x : Int32), u ≤ 100 → ndF n dd kK kV ka ks w v what 100 0 = ndF n dd kK kV ka ks w v what (100 - u) u → Bc G Hk b kr sp fp dr kb ka ks kw n nv kS kU kK kV dd → Dd G Hk (b + 17) n (upd dd (8 + w) x) → (∀ q : Nat, ¬ (b + 17 ≤ q ∧ q < b + 21) → Hk[q]? = H[q]?) → 100 - u < fu → AW G B l { frames := 6, cells := 0, slots := 0, locals := 27 * 6 } yX6_needs.cls cX6_needs 6 false (fun rv H' ce' sl' => (rv = some (.int (ndF n dd kK kV ka ks w v what 100 0)) ∧ ((∃ td : DD, Dd G H' (b + 17) n td) ∧ ∀ q : Nat, ¬ (b + 17 ≤ q ∧ q < b + 21) → H'[q]? = H[q]?)) ∧ ce' = 0 ∧ sl' = 0) 53 [(0, .ref b), (1, .int (nI w)), (2, .int (nI v)), (3, .int what), (4, .int (spF dd kV w v)), (5, .int (nI u))] [] Hk 0 0 := by
            intro fu
            induction fu with
            | zero => intro u Hk x hk hh hC hT hF hm53; exact absurd hm53 (Nat.not_lt_zero _)
            | succ fu ih53 =>
              intro u Hk x hk hh hC hT hF hm53
              have hC0 := hC
              obtain ⟨hb, hK, hD, -⟩ := hC
              have hN := hD
              unfold bxL at hb
              obtain ⟨fS3, fU3, fK3, fV3, hk3, ha3, hb3, hc3, he3, eS3, eU3, eK3, eV3, hn3, hnv3⟩ := hK
              obtain ⟨fS, fU, fO, hd, hs, hu, ho, eS, eU, eO, hn⟩ := hD
              obtain ⟨fS4, fU4, fO4, hd4, hs4, hu4, ho4, eS4, eU4, eO4, hn4⟩ := hT
              have hG : ∀ q : Nat, ¬ (b + 17 ≤ q ∧ q < b + 21) → Hk[q]? = Hk[q]? := fun _ _ => rfl
              refine a_iload 5 dX6_needs_53 rfl ?_
              refine a_bipush 99 dX6_needs_55 (by decide) ?_
              refine a_icmpgtN (a := u) (b := 99) 110 dX6_needs_57 (by decide) (by omega) (by omega) (fun c57 => ?_) (fun c57 => ?_)
              · skip
                refine a_iconst (-1) dX6_needs_110 (by decide) ?_
                refine a_ret dX6_needs_111 ⟨⟨ri ?_, ?_⟩, rfl, rfl⟩
                · rw [hh, show 100 - u = 0 by omega]
                  rfl
                · exact ⟨⟨_, Dd.mk' hd4 hs4 hu4 ho4 hn4 rfl rfl rfl eS4 eU4 eO4⟩, hF⟩
              · skip
                refine a_aload_n 0 dX6_needs_60 rfl rfl ?_
                refine a_get f_X6_37 dX6_needs_61 hb rfl ?_
                refine a_get f_X6_139 dX6_needs_64 hd4 rfl ?_
                refine a_iload_n 1 dX6_needs_67 rfl rfl ?_
                refine a_iload 5 dX6_needs_68 rfl ?_
                refine a_iastN (j := w) dX6_needs_70 hu4 (by omega) (by decide) (by omega) (fun H10 hu4 hz10 hq10 => ?_)
                have hu4 : Ai G H10 (b + 17 + 2) 8 (upd fU4 w (nI u)) := hu4
                have hb := hb.kept (hq10 _ (by omega))
                have hk3 := hk3.kept (hq10 _ (by omega))
                have ha3 := ha3.kept (hq10 _ (by omega))
                have hb3 := hb3.kept (hq10 _ (by omega))
                have hc3 := hc3.kept (hq10 _ (by omega))
                have he3 := he3.kept (hq10 _ (by omega))
                have hd := hd.kept (hq10 _ (by omega))
                have hs := hs.kept (hq10 _ (by omega))
                have hu := hu.kept (hq10 _ (by omega))
                have ho := ho.kept (hq10 _ (by omega))
                have hd4 := hd4.kept (hq10 _ (by omega))
                have hs4 := hs4.kept (hq10 _ (by omega))
                have ho4 := ho4.kept (hq10 _ (by omega))
                have hF : ∀ q : Nat, ¬ (b + 17 ≤ q ∧ q < b + 21) → H10[q]? = H[q]? := fun q hq => (hq10 q (by omega)).trans (hF q hq)
                have hG : ∀ q : Nat, ¬ (b + 17 ≤ q ∧ q < b + 21) → H10[q]? = Hk[q]? := fun q hq => (hq10 q (by omega)).trans (hG q hq)
                have hD4 : Dd G H10 (b + 17) n (upd dd (8 + w) (nI u)) := by
                  refine Dd.mk' hd4 hs4 hu4 ho4 hn4 ?_ ?_ ?_ ?_ ?_ ?_
                  all_goals try intro i hi
                  all_goals try dsimp only
                  all_goals simp only [upd]
                  all_goals repeat' split
                  all_goals first | omega | rfl | contradiction | exact (eS4 _ (by assumption)).trans (by simp only [upd]; rw [if_neg (by omega)]) | exact (eU4 _ (by assumption)).trans (by simp only [upd]; rw [if_neg (by omega)]) | exact (eO4 _ (by assumption)).trans (by simp only [upd]; rw [if_neg (by omega)])
                have hC2 := hC0.kept (H1 := H10) (fun q a c => hG q (by omega))
                refine a_aload_n 0 dX6_needs_71 rfl rfl ?_
                refine a_get f_X6_37 dX6_needs_72 hb rfl ?_
                refine a_iload 4 dX6_needs_75 rfl ?_
                refine a_callVp (As := [.int (spF dd kV w v)]) (rest := []) (d := 3) (mc := 0) (ms := 0) (x := guF n (upd dd (8 + w) (nI u)) (spF dd kV w v)) (ci := 0) l_X6_193 im_X0_strongest se_X0_strongest ⟨_, rfl, rfl⟩ dX6_needs_77 ⟨Nat.le_of_ble_eq_true rfl, Nat.le_of_ble_eq_true rfl⟩ rfl (Nat.le_of_ble_eq_true rfl) ⟨Nat.le_of_ble_eq_true rfl, Nat.le_of_ble_eq_true rfl⟩ hd4 (c_X0_strongest hD4) ?_
                refine a_iload_n 1 dX6_needs_80 rfl rfl ?_
                refine a_icmpne 104 dX6_needs_81 (by decide) (fun c81 => ?_) (fun c81 => ?_)
                · skip
                  refine a_iincN (q := 5) (lv' := [(5, .int (nI (u + 1))), (0, .ref b), (1, .int (nI w)), (2, .int (nI v)), (3, .int what), (4, .int (spF dd kV w v))]) dX6_needs_104 rfl (by decide) rfl ?_
                  refine a_goto 53 dX6_needs_107 (by decide) ?_
                  refine a_sub [1, 2, 3, 4, 5, 0] rfl ?_
                  exact ih53 _ _ _ (by omega) (by rw [hh, show 100 - u = (100 - (u + 1)) + 1 by omega]; simp only [ndF]; rw [if_neg (fun h => c81 h.1)]) hC2 hD4 hF (by omega)
                · skip
                  refine a_iload_n 3 dX6_needs_84 rfl rfl ?_
                  refine a_ifeq 101 dX6_needs_85 (by decide) (fun c85 => ?_) (fun c85 => ?_)
                  · skip
                    refine a_iload 5 dX6_needs_101 rfl ?_
                    refine a_ret dX6_needs_103 ⟨⟨ri ?_, ?_⟩, rfl, rfl⟩
                    · rw [hh, show 100 - u = (100 - (u + 1)) + 1 by omega]
                      simp only [ndF]
                      rw [if_pos ⟨c81, Or.inl c85⟩]
                    · exact ⟨⟨_, hD4⟩, hF⟩
                  · skip
                    refine a_aload_n 0 dX6_needs_88 rfl rfl ?_
                    refine a_aload_n 0 dX6_needs_89 rfl rfl ?_
                    refine a_get f_X6_37 dX6_needs_90 hb rfl ?_
                    refine a_iload 4 dX6_needs_93 rfl ?_
                    refine a_callVp (As := [.ref (b + 17), .int (spF dd kV w v)]) (rest := []) (d := 5) (mc := 0) (ms := 0) (x := ruF n (upd dd (8 + w) (nI u)) kK ka ks (spF dd kV w v)) (ci := 6) l_X6_199 im_X6_cheapest se_X6_cheapest ⟨_, rfl, rfl⟩ dX6_needs_95 ⟨Nat.le_of_ble_eq_true rfl, Nat.le_of_ble_eq_true rfl⟩ rfl (Nat.le_of_ble_eq_true rfl) ⟨Nat.le_of_ble_eq_true rfl, Nat.le_of_ble_eq_true rfl⟩ hb (c_X6_cheapest hD4 hC2) ?_
                    refine a_ifne 104 dX6_needs_98 (by decide) (fun c98 => ?_) (fun c98 => ?_)
                    · skip
                      refine a_iincN (q := 5) (lv' := [(5, .int (nI (u + 1))), (0, .ref b), (1, .int (nI w)), (2, .int (nI v)), (3, .int what), (4, .int (spF dd kV w v))]) dX6_needs_104 rfl (by decide) rfl ?_
                      refine a_goto 53 dX6_needs_107 (by decide) ?_
                      refine a_sub [1, 2, 3, 4, 5, 0] rfl ?_
                      exact ih53 _ _ _ (by omega) (by rw [hh, show 100 - u = (100 - (u + 1)) + 1 by omega]; simp only [ndF]; rw [if_neg (fun h => h.2.elim c85 c98)]) hC2 hD4 hF (by omega)
                    · skip
                      refine a_iload 5 dX6_needs_101 rfl ?_
                      refine a_ret dX6_needs_103 ⟨⟨ri ?_, ?_⟩, rfl, rfl⟩
                      · rw [hh, show 100 - u = (100 - (u + 1)) + 1 by omega]
                        simp only [ndF]
                        rw [if_pos ⟨c81, Or.inr c98⟩]
                      · exact ⟨⟨_, hD4⟩, hF⟩
          refine a_sub [2, 3, 4, 5, 1, 0] rfl ?_
          exact L53 _ 0 _ (dd (8 + w)) (Nat.zero_le _) rfl hC (hT.congr (fun i hi => ⟨by simp only [upd]; rw [if_neg (by omega)], by simp only [upd]; split; { next e => rw [show i = w by omega] }; { rfl }, by simp only [upd]; rw [if_neg (by omega)]⟩) (by simp only [upd]; rw [if_neg (by omega)]) (by simp only [upd]; rw [if_neg (by omega)]) (by simp only [upd]; rw [if_neg (by omega)])) hF (Nat.lt_succ_self _)
        · skip
          exact (hq.elim c20 c25).elim
    · skip
      exact absurd c13 (by rw [wIx_nI hv (by omega)]; decide)
set_option maxHeartbeats 4000000 in
set_option maxRecDepth 100000 in
theorem c_X6_needs_unk {G : GT} {B : Nat} {l : Launch} {H : Heap} {b kr sp : Nat} {fp dr : Int32} {kb : Bool} {ka ks kw : Int32} {n nv : Nat} {kS kU kK kV dd : DD} {w v what : Int32} (hq : wIx n w = false ∨ wIx nv v = false) (hC : Bc G H b kr sp fp dr kb ka ks kw n nv kS kU kK kV dd) : AM G B l yX6_needs cX6_needs 6 (some .int) 6 0 0 [.ref b, .int w, .int v, .int what] H (fun rv H' => rv = some (.int (-1000000001)) ∧ (H' = H)) := by
  have hC0 := hC
  obtain ⟨hb, hK, hD, hkr⟩ := hC
  have hK0 := hK
  have hN := hD
  unfold bxL at hb
  obtain ⟨fS3, fU3, fK3, fV3, hk3, ha3, hb3, hc3, he3, eS3, eU3, eK3, eV3, hn3, hnv3⟩ := hK
  obtain ⟨fS, fU, fO, hd, hs, hu, ho, eS, eU, eO, hn⟩ := hD
  refine AM.ofI (lv := [(0, .ref b), (1, .int w), (2, .int v), (3, .int what)]) (by decide +kernel) (Nat.le_of_ble_eq_true rfl) rfl ?_ (fun _ h => by cases h.1)
  refine a_aload_n 0 dX6_needs_0 rfl rfl ?_
  refine a_iload_n 1 dX6_needs_1 rfl rfl ?_
  refine a_callVp (As := [.int w]) (rest := []) (d := 0) (mc := 0) (ms := 0) (x := bI (wIx n w)) (ci := 6) l_X6_131 im_X6_isWord se_X6_isWord ⟨_, rfl, rfl⟩ dX6_needs_2 ⟨Nat.le_of_ble_eq_true rfl, Nat.le_of_ble_eq_true rfl⟩ rfl (Nat.le_of_ble_eq_true rfl) ⟨Nat.le_of_ble_eq_true rfl, Nat.le_of_ble_eq_true rfl⟩ hb (c_X6_isWord hC0) ?_
  refine a_ifeqB 16 dX6_needs_5 (by decide) (fun c5 => ?_) (fun c5 => ?_)
  · skip
    refine a_ldc (-1000000001) k_X6_134 dX6_needs_16 ?_
    refine a_ret dX6_needs_18 ⟨⟨ri ?_, ?_⟩, rfl, rfl⟩
    · rfl
    · rfl
  · skip
    refine a_aload_n 0 dX6_needs_8 rfl rfl ?_
    refine a_iload_n 2 dX6_needs_9 rfl rfl ?_
    refine a_callVp (As := [.int v]) (rest := []) (d := 0) (mc := 0) (ms := 0) (x := bI (wIx nv v)) (ci := 6) l_X6_148 im_X6_isVoice se_X6_isVoice ⟨_, rfl, rfl⟩ dX6_needs_10 ⟨Nat.le_of_ble_eq_true rfl, Nat.le_of_ble_eq_true rfl⟩ rfl (Nat.le_of_ble_eq_true rfl) ⟨Nat.le_of_ble_eq_true rfl, Nat.le_of_ble_eq_true rfl⟩ hb (c_X6_isVoice hC0) ?_
    refine a_ifneB 19 dX6_needs_13 (by decide) (fun c13 => ?_) (fun c13 => ?_)
    · skip
      rcases hq with h | h
      · exact absurd c5 (by rw [h]; decide)
      · exact absurd c13 (by rw [h]; decide)
    · skip
      refine a_ldc (-1000000001) k_X6_134 dX6_needs_16 ?_
      refine a_ret dX6_needs_18 ⟨⟨ri ?_, ?_⟩, rfl, rfl⟩
      · rfl
      · rfl
set_option maxHeartbeats 4000000 in
set_option maxRecDepth 100000 in
theorem c_X6_needs_out {G : GT} {B : Nat} {l : Launch} {H : Heap} {b kr sp : Nat} {fp dr : Int32} {kb : Bool} {ka ks kw : Int32} {n nv : Nat} {kS kU kK kV dd : DD} {w : Nat} (hw : w < n) {v : Nat} (hv : v < nv) {what : Int32} (hq : ¬ what = 0) (hq1 : ¬ what = 1) (hC : Bc G H b kr sp fp dr kb ka ks kw n nv kS kU kK kV dd) : AM G B l yX6_needs cX6_needs 6 (some .int) 6 0 0 [.ref b, .int (nI w), .int (nI v), .int what] H (fun rv H' => rv = some (.int (-1000000002)) ∧ (H' = H)) := by
  have hC0 := hC
  obtain ⟨hb, hK, hD, hkr⟩ := hC
  have hK0 := hK
  have hN := hD
  unfold bxL at hb
  obtain ⟨fS3, fU3, fK3, fV3, hk3, ha3, hb3, hc3, he3, eS3, eU3, eK3, eV3, hn3, hnv3⟩ := hK
  obtain ⟨fS, fU, fO, hd, hs, hu, ho, eS, eU, eO, hn⟩ := hD
  refine AM.ofI (lv := [(0, .ref b), (1, .int (nI w)), (2, .int (nI v)), (3, .int what)]) (by decide +kernel) (Nat.le_of_ble_eq_true rfl) rfl ?_ (fun _ h => by cases h.1)
  refine a_aload_n 0 dX6_needs_0 rfl rfl ?_
  refine a_iload_n 1 dX6_needs_1 rfl rfl ?_
  refine a_callVp (As := [.int (nI w)]) (rest := []) (d := 0) (mc := 0) (ms := 0) (x := bI (wIx n (nI w))) (ci := 6) l_X6_131 im_X6_isWord se_X6_isWord ⟨_, rfl, rfl⟩ dX6_needs_2 ⟨Nat.le_of_ble_eq_true rfl, Nat.le_of_ble_eq_true rfl⟩ rfl (Nat.le_of_ble_eq_true rfl) ⟨Nat.le_of_ble_eq_true rfl, Nat.le_of_ble_eq_true rfl⟩ hb (c_X6_isWord hC0) ?_
  refine a_ifeqB 16 dX6_needs_5 (by decide) (fun c5 => ?_) (fun c5 => ?_)
  · skip
    exact absurd c5 (by rw [wIx_nI hw (by omega)]; decide)
  · skip
    refine a_aload_n 0 dX6_needs_8 rfl rfl ?_
    refine a_iload_n 2 dX6_needs_9 rfl rfl ?_
    refine a_callVp (As := [.int (nI v)]) (rest := []) (d := 0) (mc := 0) (ms := 0) (x := bI (wIx nv (nI v))) (ci := 6) l_X6_148 im_X6_isVoice se_X6_isVoice ⟨_, rfl, rfl⟩ dX6_needs_10 ⟨Nat.le_of_ble_eq_true rfl, Nat.le_of_ble_eq_true rfl⟩ rfl (Nat.le_of_ble_eq_true rfl) ⟨Nat.le_of_ble_eq_true rfl, Nat.le_of_ble_eq_true rfl⟩ hb (c_X6_isVoice hC0) ?_
    refine a_ifneB 19 dX6_needs_13 (by decide) (fun c13 => ?_) (fun c13 => ?_)
    · skip
      refine a_iload_n 3 dX6_needs_19 rfl rfl ?_
      refine a_ifeq 31 dX6_needs_20 (by decide) (fun c20 => ?_) (fun c20 => ?_)
      · skip
        exact absurd c20 (hq)
      · skip
        refine a_iload_n 3 dX6_needs_23 rfl rfl ?_
        refine a_iconst 1 dX6_needs_24 (by decide) ?_
        refine a_icmpeq 31 dX6_needs_25 (by decide) (fun c25 => ?_) (fun c25 => ?_)
        · skip
          exact absurd c25 (hq1)
        · skip
          refine a_ldc (-1000000002) k_X6_69 dX6_needs_28 ?_
          refine a_ret dX6_needs_30 ⟨⟨ri ?_, ?_⟩, rfl, rfl⟩
          · rfl
          · rfl
    · skip
      exact absurd c13 (by rw [wIx_nI hv (by omega)]; decide)
set_option maxHeartbeats 4000000 in
set_option maxRecDepth 100000 in
theorem c_X6_bestCalled {G : GT} {B : Nat} {l : Launch} {H : Heap} {b kr sp : Nat} {fp dr : Int32} {kb : Bool} {ka ks kw : Int32} {n nv : Nat} {kS kU kK kV dd : DD} {w : Nat} (hw : w < n) {what : Int32} (hq : what = 0 ∨ what = 1) (hC : Bc G H b kr sp fp dr kb ka ks kw n nv kS kU kK kV dd) {tn : Nat} {td0 : DD} (hT : Dd G H (b + 17) tn td0) (hB : B ≤ b) : AM G B l yX6_bestCalled cX6_bestCalled 11 (some .int) 5 0 0 [.ref b, .int (nI w), .int what] H (fun rv H' => rv = some (.int (if what = 0 then (bcS n nv dd kV w 1000).1 else nI (bcS n nv dd kV w 1000).2.2)) ∧ ((∃ td : DD, Dd G H' (b + 17) n td) ∧ ∀ q : Nat, ¬ (b + 17 ≤ q ∧ q < b + 21) → H'[q]? = H[q]?)) := by
  have hC0 := hC
  obtain ⟨hb, hK, hD, hkr⟩ := hC
  have hK0 := hK
  have hN := hD
  unfold bxL at hb
  obtain ⟨fS3, fU3, fK3, fV3, hk3, ha3, hb3, hc3, he3, eS3, eU3, eK3, eV3, hn3, hnv3⟩ := hK
  obtain ⟨fS, fU, fO, hd, hs, hu, ho, eS, eU, eO, hn⟩ := hD
  have hT0 := hT
  obtain ⟨fS4, fU4, fO4, hd4, hs4, hu4, ho4, eS4, eU4, eO4, hn4⟩ := hT
  have hF : ∀ q : Nat, ¬ (b + 17 ≤ q ∧ q < b + 21) → H[q]? = H[q]? := fun _ _ => rfl
  refine AM.ofI (lv := [(0, .ref b), (1, .int (nI w)), (2, .int what)]) (by decide +kernel) (Nat.le_of_ble_eq_true rfl) rfl ?_ (fun _ h => by cases h.1)
  refine a_aload_n 0 dX6_bestCalled_0 rfl rfl ?_
  refine a_iload_n 1 dX6_bestCalled_1 rfl rfl ?_
  refine a_callVp (As := [.int (nI w)]) (rest := []) (d := 0) (mc := 0) (ms := 0) (x := bI (wIx n (nI w))) (ci := 6) l_X6_131 im_X6_isWord se_X6_isWord ⟨_, rfl, rfl⟩ dX6_bestCalled_2 ⟨Nat.le_of_ble_eq_true rfl, Nat.le_of_ble_eq_true rfl⟩ rfl (Nat.le_of_ble_eq_true rfl) ⟨Nat.le_of_ble_eq_true rfl, Nat.le_of_ble_eq_true rfl⟩ hb (c_X6_isWord hC0) ?_
  refine a_ifneB 11 dX6_bestCalled_5 (by decide) (fun c5 => ?_) (fun c5 => ?_)
  · skip
    refine a_iload_n 2 dX6_bestCalled_11 rfl rfl ?_
    refine a_ifeq 23 dX6_bestCalled_12 (by decide) (fun c12 => ?_) (fun c12 => ?_)
    · skip
      refine a_aload_n 0 dX6_bestCalled_23 rfl rfl ?_
      refine a_get f_X6_37 dX6_bestCalled_24 hb rfl ?_
      refine a_aload_n 0 dX6_bestCalled_27 rfl rfl ?_
      refine a_get f_X6_33 dX6_bestCalled_28 hb rfl ?_
      refine a_callVv (As := [.ref (b + 13)]) (rest := []) (d := 1) (mc := 0) (ms := 0) (ci := 0) l_X6_219 im_X0_copy se_X0_copy ⟨_, rfl, rfl⟩ dX6_bestCalled_31 ⟨Nat.le_of_ble_eq_true rfl, Nat.le_of_ble_eq_true rfl⟩ rfl (Nat.le_of_ble_eq_true rfl) ⟨Nat.le_of_ble_eq_true rfl, Nat.le_of_ble_eq_true rfl⟩ hd4 (c_X0_copy hN (by omega) hT0 (by omega)) (fun H2 hp2 => ?_)
      obtain ⟨hT, hfr⟩ := hp2
      have hC := hC0.kept (H1 := H2) (fun q a c => hfr q (by omega))
      have hb := hb.kept (hfr _ (by omega))
      have hk3 := hk3.kept (hfr _ (by omega))
      have ha3 := ha3.kept (hfr _ (by omega))
      have hb3 := hb3.kept (hfr _ (by omega))
      have hc3 := hc3.kept (hfr _ (by omega))
      have he3 := he3.kept (hfr _ (by omega))
      have hd := hd.kept (hfr _ (by omega))
      have hs := hs.kept (hfr _ (by omega))
      have hu := hu.kept (hfr _ (by omega))
      have ho := ho.kept (hfr _ (by omega))
      have hF : ∀ q : Nat, ¬ (b + 17 ≤ q ∧ q < b + 21) → H2[q]? = H[q]? := fun q hq => (hfr q (by omega)).trans (hF q hq)
      refine a_aload_n 0 dX6_bestCalled_34 rfl rfl ?_
      refine a_get f_X6_33 dX6_bestCalled_35 hb rfl ?_
      refine a_get f_X6_135 dX6_bestCalled_38 hd rfl ?_
      refine a_iload_n 1 dX6_bestCalled_41 rfl rfl ?_
      refine a_ialdN (j := w) dX6_bestCalled_42 hs (by omega) (by decide) ?_
      refine a_toeq (dd w) (eS _ (by omega)) ?_
      refine a_istore_n (lv' := [(3, .int (dd w)), (0, .ref b), (1, .int (nI w)), (2, .int what)]) dX6_bestCalled_43 rfl (by decide) rfl ?_
      refine a_iload_n 0 dX6_bestCalled_44 rfl rfl ?_
      refine a_istore (lv' := [(4, .int (dd w)), (3, .int (dd w)), (0, .ref b), (1, .int (nI w)), (2, .int what)]) dX6_bestCalled_45 (by decide) rfl ?_
      refine a_iconst 0 dX6_bestCalled_47 (by decide) ?_
      refine a_istore (lv' := [(5, .int 0), (4, .int (dd w)), (3, .int (dd w)), (0, .ref b), (1, .int (nI w)), (2, .int what)]) dX6_bestCalled_48 (by decide) rfl ?_
      refine a_aload_n 3 dX6_bestCalled_50 rfl rfl ?_
      refine a_iload_n 4 dX6_bestCalled_51 rfl rfl ?_
      refine a_iload_n 2 dX6_bestCalled_52 rfl rfl ?_
      refine a_iconst 0 dX6_bestCalled_53 (by decide) ?_
      have con := c_X6_voicesHeardRight (l := l) (nd := 0) (s := dd w) hT hw (by omega) hC hB
      refine a_callVi (As := [.int (nI w), .int (dd w), .int 0]) (rest := []) (d := 4) (mc := 0) (ms := 0) (x := nI (vhF n nv (upd dd w (dd w)) kV w (dd w) 0 nv 0 0)) (ci := 6) l_X6_222 im_X6_voicesHeardRight se_X6_voicesHeardRight ⟨_, rfl, rfl⟩ dX6_bestCalled_54 ⟨Nat.le_of_ble_eq_true rfl, Nat.le_of_ble_eq_true rfl⟩ rfl (Nat.le_of_ble_eq_true rfl) ⟨Nat.le_of_ble_eq_true rfl, Nat.le_of_ble_eq_true rfl⟩ hb (con) (fun H3 hp3 => ?_)
      obtain ⟨hT, hfr⟩ := hp3
      have hC := hC.kept (H1 := H3) (fun q a c => hfr q (by omega))
      have hb := hb.kept (hfr _ (by omega))
      have hk3 := hk3.kept (hfr _ (by omega))
      have ha3 := ha3.kept (hfr _ (by omega))
      have hb3 := hb3.kept (hfr _ (by omega))
      have hc3 := hc3.kept (hfr _ (by omega))
      have he3 := he3.kept (hfr _ (by omega))
      have hd := hd.kept (hfr _ (by omega))
      have hs := hs.kept (hfr _ (by omega))
      have hu := hu.kept (hfr _ (by omega))
      have ho := ho.kept (hfr _ (by omega))
      have hF : ∀ q : Nat, ¬ (b + 17 ≤ q ∧ q < b + 21) → H3[q]? = H[q]? := fun q hq => (hfr q (by omega)).trans (hF q hq)
      refine a_istore (lv' := [(6, .int (nI (vhF n nv (upd dd w (dd w)) kV w (dd w) 0 nv 0 0))), (5, .int 0), (4, .int (dd w)), (3, .int (dd w)), (0, .ref b), (1, .int (nI w)), (2, .int what)]) dX6_bestCalled_57 (by decide) rfl ?_
      refine a_iconst 0 dX6_bestCalled_59 (by decide) ?_
      refine a_istore (lv' := [(7, .int 0), (6, .int (nI (vhF n nv (upd dd w (dd w)) kV w (dd w) 0 nv 0 0))), (5, .int 0), (4, .int (dd w)), (3, .int (dd w)), (0, .ref b), (1, .int (nI w)), (2, .int what)]) dX6_bestCalled_60 (by decide) rfl ?_
      have L62 : ∀ (fu : Nat) (k : Nat) (Hk : Heap) (x r fa : Int32) (m : Nat), k ≤ 1000 → bcS n nv dd kV w k = (r, fa, m) → Bc G Hk b kr sp fp dr kb ka ks kw n nv kS kU kK kV dd → Dd G Hk (b + 17) n (upd dd w x) → (∀ q : Nat, ¬ (b + 17 ≤ q ∧ q < b + 21) → Hk[q]? = H[q]?) → 1000 - k < fu → AW G B l { frames := 5, cells := 0, slots := 0, locals := 27 * 5 } yX6_bestCalled.cls cX6_bestCalled 11 false (fun rv H' ce' sl' => (rv = some (.int (if what = 0 then (bcS n nv dd kV w 1000).1 else nI (bcS n nv dd kV w 1000).2.2)) ∧ ((∃ td : DD, Dd G H' (b + 17) n td) ∧ ∀ q : Nat, ¬ (b + 17 ≤ q ∧ q < b + 21) → H'[q]? = H[q]?)) ∧ ce' = 0 ∧ sl' = 0) 62 [(0, .ref b), (1, .int (nI w)), (2, .int what), (3, .int (dd w)), (4, .int r), (5, .int fa), (6, .int (nI m)), (7, .int (nI k))] [] Hk 0 0 := by
        intro fu
        induction fu with
        | zero => intro k Hk x r fa m hk hg hC hT hF hm62; exact absurd hm62 (Nat.not_lt_zero _)
        | succ fu ih62 =>
          intro k Hk x r fa m hk hg hC hT hF hm62
          have hC1 := hC
          have hC0 := hC
          obtain ⟨hb, hK, hD, -⟩ := hC1
          have hN := hD
          unfold bxL at hb
          obtain ⟨fS3, fU3, fK3, fV3, hk3, ha3, hb3, hc3, he3, eS3, eU3, eK3, eV3, hn3, hnv3⟩ := hK
          obtain ⟨fS, fU, fO, hd, hs, hu, ho, eS, eU, eO, hn⟩ := hD
          have hml := bcS_le (n := n) (nv := nv) (dd := dd) (kV := kV) (w := w) (k := k)
          rw [hg] at hml
          have hml : m ≤ nv := hml
          refine a_iload 7 dX6_bestCalled_62 rfl ?_
          refine a_sipush 1000 dX6_bestCalled_64 (by decide) ?_
          refine a_icmpgeN (a := k) (b := 1000) 132 dX6_bestCalled_67 (by decide) (by omega) (by omega) (fun c67 => ?_) (fun c67 => ?_)
          · skip
            refine a_iload_n 2 dX6_bestCalled_132 rfl rfl ?_
            refine a_ifne 141 dX6_bestCalled_133 (by decide) (fun c133 => ?_) (fun c133 => ?_)
            · skip
              refine a_iload 6 dX6_bestCalled_141 rfl ?_
              refine a_ret dX6_bestCalled_143 ⟨⟨ri ?_, ?_⟩, rfl, rfl⟩
              · have e : 1000 = k := by omega
                rw [e, hg]
                rw [if_neg c133]
              · exact ⟨⟨_, hT⟩, hF⟩
            · skip
              refine a_iload 4 dX6_bestCalled_136 rfl ?_
              refine a_goto 143 dX6_bestCalled_138 (by decide) ?_
              refine a_ret dX6_bestCalled_143 ⟨⟨ri ?_, ?_⟩, rfl, rfl⟩
              · have e : 1000 = k := by omega
                rw [e, hg]
                rw [if_pos c133]
              · exact ⟨⟨_, hT⟩, hF⟩
          · skip
            refine a_iload_n 3 dX6_bestCalled_70 rfl rfl ?_
            refine a_iload 7 dX6_bestCalled_71 rfl ?_
            refine a_callSp (As := [.int (dd w), .int (nI k)]) (rest := []) (d := 1) (mc := 0) (ms := 0) (x := apF (dd w) (nI k)) l_X6_172 st_X6_apart dX6_bestCalled_73 ⟨Nat.le_of_ble_eq_true rfl, Nat.le_of_ble_eq_true rfl⟩ rfl (Nat.le_of_ble_eq_true rfl) ⟨Nat.le_of_ble_eq_true rfl, Nat.le_of_ble_eq_true rfl⟩ (c_X6_apart) ?_
            refine a_istore (lv' := [(8, .int (apF (dd w) (nI k))), (0, .ref b), (1, .int (nI w)), (2, .int what), (3, .int (dd w)), (4, .int r), (5, .int fa), (6, .int (nI m)), (7, .int (nI k))]) dX6_bestCalled_76 (by decide) rfl ?_
            refine a_iload 0 dX6_bestCalled_78 rfl ?_
            refine a_iload 6 dX6_bestCalled_80 rfl ?_
            refine a_icmpge 90 dX6_bestCalled_82 (by decide) (fun c82 => ?_) (fun c82 => ?_)
            · skip
              refine a_iload 7 dX6_bestCalled_90 rfl ?_
              refine a_iconst 1 dX6_bestCalled_92 (by decide) ?_
              refine a_iaddN (a := m) (b := 1) dX6_bestCalled_93 ?_
              refine a_istore (lv' := [(9, .int (nI (m + 1))), (8, .int (apF (dd w) (nI k))), (0, .ref b), (1, .int (nI w)), (2, .int what), (3, .int (dd w)), (4, .int r), (5, .int fa), (6, .int (nI m)), (7, .int (nI k))]) dX6_bestCalled_94 (by decide) rfl ?_
              refine a_aload_n 2 dX6_bestCalled_96 rfl rfl ?_
              refine a_iload_n 3 dX6_bestCalled_97 rfl rfl ?_
              refine a_iload 9 dX6_bestCalled_98 rfl ?_
              refine a_iload 0 dX6_bestCalled_100 rfl ?_
              have con := c_X6_voicesHeardRight (l := l) (nd := m + 1) (s := nI k) hT hw (by omega) hC hB
              rw [upd_upd] at con
              refine a_callVi (As := [.int (nI w), .int (nI k), .int (nI (m + 1))]) (rest := []) (d := 4) (mc := 0) (ms := 0) (x := nI (vhF n nv (upd dd w (nI k)) kV w (nI k) (m + 1) nv 0 0)) (ci := 6) l_X6_222 im_X6_voicesHeardRight se_X6_voicesHeardRight ⟨_, rfl, rfl⟩ dX6_bestCalled_102 ⟨Nat.le_of_ble_eq_true rfl, Nat.le_of_ble_eq_true rfl⟩ rfl (Nat.le_of_ble_eq_true rfl) ⟨Nat.le_of_ble_eq_true rfl, Nat.le_of_ble_eq_true rfl⟩ hb (con) (fun H5 hp5 => ?_)
              obtain ⟨hT, hfr⟩ := hp5
              have hC := hC.kept (H1 := H5) (fun q a c => hfr q (by omega))
              have hb := hb.kept (hfr _ (by omega))
              have hk3 := hk3.kept (hfr _ (by omega))
              have ha3 := ha3.kept (hfr _ (by omega))
              have hb3 := hb3.kept (hfr _ (by omega))
              have hc3 := hc3.kept (hfr _ (by omega))
              have he3 := he3.kept (hfr _ (by omega))
              have hd := hd.kept (hfr _ (by omega))
              have hs := hs.kept (hfr _ (by omega))
              have hu := hu.kept (hfr _ (by omega))
              have ho := ho.kept (hfr _ (by omega))
              have hF : ∀ q : Nat, ¬ (b + 17 ≤ q ∧ q < b + 21) → H5[q]? = H[q]? := fun q hq => (hfr q (by omega)).trans (hF q hq)
              refine a_istore (lv' := [(10, .int (nI (vhF n nv (upd dd w (nI k)) kV w (nI k) (m + 1) nv 0 0))), (9, .int (nI (m + 1))), (8, .int (apF (dd w) (nI k))), (0, .ref b), (1, .int (nI w)), (2, .int what), (3, .int (dd w)), (4, .int r), (5, .int fa), (6, .int (nI m)), (7, .int (nI k))]) dX6_bestCalled_105 (by decide) rfl ?_
              refine a_iload 0 dX6_bestCalled_107 rfl ?_
              refine a_iload 1 dX6_bestCalled_109 rfl ?_
              have hvl : vhF n nv (upd dd w (nI k)) kV w (nI k) (m + 1) nv 0 0 ≤ nv := vhF_le (Nat.le_refl 0) (Nat.zero_le _)
              refine a_icmpltN (a := vhF n nv (upd dd w (nI k)) kV w (nI k) (m + 1) nv 0 0) (b := m + 1) 126 dX6_bestCalled_111 (by decide) (by omega) (by omega) (fun c111 => ?_) (fun c111 => ?_)
              · skip
                refine a_iincN (q := 10) (lv' := [(7, .int (nI (k + 1))), (10, .int (nI (vhF n nv (upd dd w (nI k)) kV w (nI k) (m + 1) nv 0 0))), (9, .int (nI (m + 1))), (8, .int (apF (dd w) (nI k))), (0, .ref b), (1, .int (nI w)), (2, .int what), (3, .int (dd w)), (4, .int r), (5, .int fa), (6, .int (nI m))]) dX6_bestCalled_126 rfl (by decide) rfl ?_
                refine a_goto 62 dX6_bestCalled_129 (by decide) ?_
                refine a_sub [4, 5, 6, 7, 8, 9, 10, 0] rfl ?_
                exact ih62 _ _ _ _ _ _ (by omega) (by simp only [bcS, hg]; rw [if_neg (Int32.not_lt.mpr c82)]; exact if_neg (Nat.not_le.mpr c111)) hC hT hF (by omega)
              · skip
                refine a_iload 10 dX6_bestCalled_114 rfl ?_
                refine a_istore (lv' := [(4, .int (nI k)), (10, .int (nI (vhF n nv (upd dd w (nI k)) kV w (nI k) (m + 1) nv 0 0))), (9, .int (nI (m + 1))), (8, .int (apF (dd w) (nI k))), (0, .ref b), (1, .int (nI w)), (2, .int what), (3, .int (dd w)), (5, .int fa), (6, .int (nI m)), (7, .int (nI k))]) dX6_bestCalled_116 (by decide) rfl ?_
                refine a_iload 3 dX6_bestCalled_118 rfl ?_
                refine a_istore (lv' := [(5, .int (apF (dd w) (nI k))), (4, .int (nI k)), (10, .int (nI (vhF n nv (upd dd w (nI k)) kV w (nI k) (m + 1) nv 0 0))), (9, .int (nI (m + 1))), (8, .int (apF (dd w) (nI k))), (0, .ref b), (1, .int (nI w)), (2, .int what), (3, .int (dd w)), (6, .int (nI m)), (7, .int (nI k))]) dX6_bestCalled_120 (by decide) rfl ?_
                refine a_iload 2 dX6_bestCalled_122 rfl ?_
                refine a_istore (lv' := [(6, .int (nI (vhF n nv (upd dd w (nI k)) kV w (nI k) (m + 1) nv 0 0))), (5, .int (apF (dd w) (nI k))), (4, .int (nI k)), (10, .int (nI (vhF n nv (upd dd w (nI k)) kV w (nI k) (m + 1) nv 0 0))), (9, .int (nI (m + 1))), (8, .int (apF (dd w) (nI k))), (0, .ref b), (1, .int (nI w)), (2, .int what), (3, .int (dd w)), (7, .int (nI k))]) dX6_bestCalled_124 (by decide) rfl ?_
                refine a_iincN (q := 10) (lv' := [(7, .int (nI (k + 1))), (6, .int (nI (vhF n nv (upd dd w (nI k)) kV w (nI k) (m + 1) nv 0 0))), (5, .int (apF (dd w) (nI k))), (4, .int (nI k)), (10, .int (nI (vhF n nv (upd dd w (nI k)) kV w (nI k) (m + 1) nv 0 0))), (9, .int (nI (m + 1))), (8, .int (apF (dd w) (nI k))), (0, .ref b), (1, .int (nI w)), (2, .int what), (3, .int (dd w))]) dX6_bestCalled_126 rfl (by decide) rfl ?_
                refine a_goto 62 dX6_bestCalled_129 (by decide) ?_
                refine a_sub [7, 8, 9, 10, 3, 2, 1, 0] rfl ?_
                exact ih62 _ _ _ _ _ _ (by omega) (by simp only [bcS, hg]; rw [if_neg (Int32.not_lt.mpr c82)]; exact if_pos c111) hC hT hF (by omega)
            · skip
              refine a_iload 7 dX6_bestCalled_85 rfl ?_
              refine a_goto 94 dX6_bestCalled_87 (by decide) ?_
              refine a_istore (lv' := [(9, .int (nI m)), (8, .int (apF (dd w) (nI k))), (0, .ref b), (1, .int (nI w)), (2, .int what), (3, .int (dd w)), (4, .int r), (5, .int fa), (6, .int (nI m)), (7, .int (nI k))]) dX6_bestCalled_94 (by decide) rfl ?_
              refine a_aload_n 2 dX6_bestCalled_96 rfl rfl ?_
              refine a_iload_n 3 dX6_bestCalled_97 rfl rfl ?_
              refine a_iload 9 dX6_bestCalled_98 rfl ?_
              refine a_iload 0 dX6_bestCalled_100 rfl ?_
              have con := c_X6_voicesHeardRight (l := l) (nd := m) (s := nI k) hT hw (by omega) hC hB
              rw [upd_upd] at con
              refine a_callVi (As := [.int (nI w), .int (nI k), .int (nI m)]) (rest := []) (d := 4) (mc := 0) (ms := 0) (x := nI (vhF n nv (upd dd w (nI k)) kV w (nI k) m nv 0 0)) (ci := 6) l_X6_222 im_X6_voicesHeardRight se_X6_voicesHeardRight ⟨_, rfl, rfl⟩ dX6_bestCalled_102 ⟨Nat.le_of_ble_eq_true rfl, Nat.le_of_ble_eq_true rfl⟩ rfl (Nat.le_of_ble_eq_true rfl) ⟨Nat.le_of_ble_eq_true rfl, Nat.le_of_ble_eq_true rfl⟩ hb (con) (fun H6 hp6 => ?_)
              obtain ⟨hT, hfr⟩ := hp6
              have hC := hC.kept (H1 := H6) (fun q a c => hfr q (by omega))
              have hb := hb.kept (hfr _ (by omega))
              have hk3 := hk3.kept (hfr _ (by omega))
              have ha3 := ha3.kept (hfr _ (by omega))
              have hb3 := hb3.kept (hfr _ (by omega))
              have hc3 := hc3.kept (hfr _ (by omega))
              have he3 := he3.kept (hfr _ (by omega))
              have hd := hd.kept (hfr _ (by omega))
              have hs := hs.kept (hfr _ (by omega))
              have hu := hu.kept (hfr _ (by omega))
              have ho := ho.kept (hfr _ (by omega))
              have hF : ∀ q : Nat, ¬ (b + 17 ≤ q ∧ q < b + 21) → H6[q]? = H[q]? := fun q hq => (hfr q (by omega)).trans (hF q hq)
              refine a_istore (lv' := [(10, .int (nI (vhF n nv (upd dd w (nI k)) kV w (nI k) m nv 0 0))), (9, .int (nI m)), (8, .int (apF (dd w) (nI k))), (0, .ref b), (1, .int (nI w)), (2, .int what), (3, .int (dd w)), (4, .int r), (5, .int fa), (6, .int (nI m)), (7, .int (nI k))]) dX6_bestCalled_105 (by decide) rfl ?_
              refine a_iload 0 dX6_bestCalled_107 rfl ?_
              refine a_iload 1 dX6_bestCalled_109 rfl ?_
              have hvl : vhF n nv (upd dd w (nI k)) kV w (nI k) m nv 0 0 ≤ nv := vhF_le (Nat.le_refl 0) (Nat.zero_le _)
              refine a_icmpltN (a := vhF n nv (upd dd w (nI k)) kV w (nI k) m nv 0 0) (b := m) 126 dX6_bestCalled_111 (by decide) (by omega) (by omega) (fun c111 => ?_) (fun c111 => ?_)
              · skip
                refine a_iincN (q := 10) (lv' := [(7, .int (nI (k + 1))), (10, .int (nI (vhF n nv (upd dd w (nI k)) kV w (nI k) m nv 0 0))), (9, .int (nI m)), (8, .int (apF (dd w) (nI k))), (0, .ref b), (1, .int (nI w)), (2, .int what), (3, .int (dd w)), (4, .int r), (5, .int fa), (6, .int (nI m))]) dX6_bestCalled_126 rfl (by decide) rfl ?_
                refine a_goto 62 dX6_bestCalled_129 (by decide) ?_
                refine a_sub [4, 5, 6, 7, 8, 9, 10, 0] rfl ?_
                exact ih62 _ _ _ _ _ _ (by omega) (by simp only [bcS, hg]; rw [if_pos (Int32.not_le.mp c82)]; exact if_neg (Nat.not_le.mpr c111)) hC hT hF (by omega)
              · skip
                refine a_iload 10 dX6_bestCalled_114 rfl ?_
                refine a_istore (lv' := [(4, .int (nI k)), (10, .int (nI (vhF n nv (upd dd w (nI k)) kV w (nI k) m nv 0 0))), (9, .int (nI m)), (8, .int (apF (dd w) (nI k))), (0, .ref b), (1, .int (nI w)), (2, .int what), (3, .int (dd w)), (5, .int fa), (6, .int (nI m)), (7, .int (nI k))]) dX6_bestCalled_116 (by decide) rfl ?_
                refine a_iload 3 dX6_bestCalled_118 rfl ?_
                refine a_istore (lv' := [(5, .int (apF (dd w) (nI k))), (4, .int (nI k)), (10, .int (nI (vhF n nv (upd dd w (nI k)) kV w (nI k) m nv 0 0))), (9, .int (nI m)), (8, .int (apF (dd w) (nI k))), (0, .ref b), (1, .int (nI w)), (2, .int what), (3, .int (dd w)), (6, .int (nI m)), (7, .int (nI k))]) dX6_bestCalled_120 (by decide) rfl ?_
                refine a_iload 2 dX6_bestCalled_122 rfl ?_
                refine a_istore (lv' := [(6, .int (nI (vhF n nv (upd dd w (nI k)) kV w (nI k) m nv 0 0))), (5, .int (apF (dd w) (nI k))), (4, .int (nI k)), (10, .int (nI (vhF n nv (upd dd w (nI k)) kV w (nI k) m nv 0 0))), (9, .int (nI m)), (8, .int (apF (dd w) (nI k))), (0, .ref b), (1, .int (nI w)), (2, .int what), (3, .int (dd w)), (7, .int (nI k))]) dX6_bestCalled_124 (by decide) rfl ?_
                refine a_iincN (q := 10) (lv' := [(7, .int (nI (k + 1))), (6, .int (nI (vhF n nv (upd dd w (nI k)) kV w (nI k) m nv 0 0))), (5, .int (apF (dd w) (nI k))), (4, .int (nI k)), (10, .int (nI (vhF n nv (upd dd w (nI k)) kV w (nI k) m nv 0 0))), (9, .int (nI m)), (8, .int (apF (dd w) (nI k))), (0, .ref b), (1, .int (nI w)), (2, .int what), (3, .int (dd w))]) dX6_bestCalled_126 rfl (by decide) rfl ?_
                refine a_goto 62 dX6_bestCalled_129 (by decide) ?_
                refine a_sub [7, 8, 9, 10, 3, 2, 1, 0] rfl ?_
                exact ih62 _ _ _ _ _ _ (by omega) (by simp only [bcS, hg]; rw [if_pos (Int32.not_le.mp c82)]; exact if_pos c111) hC hT hF (by omega)
      refine a_sub [5, 6, 7, 4, 3, 2, 1, 0] rfl ?_
      exact L62 _ 0 _ (dd w) _ _ _ (Nat.zero_le _) rfl hC hT hF (Nat.lt_succ_self _)
    · skip
      refine a_iload_n 2 dX6_bestCalled_15 rfl rfl ?_
      refine a_iconst 1 dX6_bestCalled_16 (by decide) ?_
      refine a_icmpeq 23 dX6_bestCalled_17 (by decide) (fun c17 => ?_) (fun c17 => ?_)
      · skip
        refine a_aload_n 0 dX6_bestCalled_23 rfl rfl ?_
        refine a_get f_X6_37 dX6_bestCalled_24 hb rfl ?_
        refine a_aload_n 0 dX6_bestCalled_27 rfl rfl ?_
        refine a_get f_X6_33 dX6_bestCalled_28 hb rfl ?_
        refine a_callVv (As := [.ref (b + 13)]) (rest := []) (d := 1) (mc := 0) (ms := 0) (ci := 0) l_X6_219 im_X0_copy se_X0_copy ⟨_, rfl, rfl⟩ dX6_bestCalled_31 ⟨Nat.le_of_ble_eq_true rfl, Nat.le_of_ble_eq_true rfl⟩ rfl (Nat.le_of_ble_eq_true rfl) ⟨Nat.le_of_ble_eq_true rfl, Nat.le_of_ble_eq_true rfl⟩ hd4 (c_X0_copy hN (by omega) hT0 (by omega)) (fun H7 hp7 => ?_)
        obtain ⟨hT, hfr⟩ := hp7
        have hC := hC0.kept (H1 := H7) (fun q a c => hfr q (by omega))
        have hb := hb.kept (hfr _ (by omega))
        have hk3 := hk3.kept (hfr _ (by omega))
        have ha3 := ha3.kept (hfr _ (by omega))
        have hb3 := hb3.kept (hfr _ (by omega))
        have hc3 := hc3.kept (hfr _ (by omega))
        have he3 := he3.kept (hfr _ (by omega))
        have hd := hd.kept (hfr _ (by omega))
        have hs := hs.kept (hfr _ (by omega))
        have hu := hu.kept (hfr _ (by omega))
        have ho := ho.kept (hfr _ (by omega))
        have hF : ∀ q : Nat, ¬ (b + 17 ≤ q ∧ q < b + 21) → H7[q]? = H[q]? := fun q hq => (hfr q (by omega)).trans (hF q hq)
        refine a_aload_n 0 dX6_bestCalled_34 rfl rfl ?_
        refine a_get f_X6_33 dX6_bestCalled_35 hb rfl ?_
        refine a_get f_X6_135 dX6_bestCalled_38 hd rfl ?_
        refine a_iload_n 1 dX6_bestCalled_41 rfl rfl ?_
        refine a_ialdN (j := w) dX6_bestCalled_42 hs (by omega) (by decide) ?_
        refine a_toeq (dd w) (eS _ (by omega)) ?_
        refine a_istore_n (lv' := [(3, .int (dd w)), (0, .ref b), (1, .int (nI w)), (2, .int what)]) dX6_bestCalled_43 rfl (by decide) rfl ?_
        refine a_iload_n 0 dX6_bestCalled_44 rfl rfl ?_
        refine a_istore (lv' := [(4, .int (dd w)), (3, .int (dd w)), (0, .ref b), (1, .int (nI w)), (2, .int what)]) dX6_bestCalled_45 (by decide) rfl ?_
        refine a_iconst 0 dX6_bestCalled_47 (by decide) ?_
        refine a_istore (lv' := [(5, .int 0), (4, .int (dd w)), (3, .int (dd w)), (0, .ref b), (1, .int (nI w)), (2, .int what)]) dX6_bestCalled_48 (by decide) rfl ?_
        refine a_aload_n 3 dX6_bestCalled_50 rfl rfl ?_
        refine a_iload_n 4 dX6_bestCalled_51 rfl rfl ?_
        refine a_iload_n 2 dX6_bestCalled_52 rfl rfl ?_
        refine a_iconst 0 dX6_bestCalled_53 (by decide) ?_
        have con := c_X6_voicesHeardRight (l := l) (nd := 0) (s := dd w) hT hw (by omega) hC hB
        refine a_callVi (As := [.int (nI w), .int (dd w), .int 0]) (rest := []) (d := 4) (mc := 0) (ms := 0) (x := nI (vhF n nv (upd dd w (dd w)) kV w (dd w) 0 nv 0 0)) (ci := 6) l_X6_222 im_X6_voicesHeardRight se_X6_voicesHeardRight ⟨_, rfl, rfl⟩ dX6_bestCalled_54 ⟨Nat.le_of_ble_eq_true rfl, Nat.le_of_ble_eq_true rfl⟩ rfl (Nat.le_of_ble_eq_true rfl) ⟨Nat.le_of_ble_eq_true rfl, Nat.le_of_ble_eq_true rfl⟩ hb (con) (fun H8 hp8 => ?_)
        obtain ⟨hT, hfr⟩ := hp8
        have hC := hC.kept (H1 := H8) (fun q a c => hfr q (by omega))
        have hb := hb.kept (hfr _ (by omega))
        have hk3 := hk3.kept (hfr _ (by omega))
        have ha3 := ha3.kept (hfr _ (by omega))
        have hb3 := hb3.kept (hfr _ (by omega))
        have hc3 := hc3.kept (hfr _ (by omega))
        have he3 := he3.kept (hfr _ (by omega))
        have hd := hd.kept (hfr _ (by omega))
        have hs := hs.kept (hfr _ (by omega))
        have hu := hu.kept (hfr _ (by omega))
        have ho := ho.kept (hfr _ (by omega))
        have hF : ∀ q : Nat, ¬ (b + 17 ≤ q ∧ q < b + 21) → H8[q]? = H[q]? := fun q hq => (hfr q (by omega)).trans (hF q hq)
        refine a_istore (lv' := [(6, .int (nI (vhF n nv (upd dd w (dd w)) kV w (dd w) 0 nv 0 0))), (5, .int 0), (4, .int (dd w)), (3, .int (dd w)), (0, .ref b), (1, .int (nI w)), (2, .int what)]) dX6_bestCalled_57 (by decide) rfl ?_
        refine a_iconst 0 dX6_bestCalled_59 (by decide) ?_
        refine a_istore (lv' := [(7, .int 0), (6, .int (nI (vhF n nv (upd dd w (dd w)) kV w (dd w) 0 nv 0 0))), (5, .int 0), (4, .int (dd w)), (3, .int (dd w)), (0, .ref b), (1, .int (nI w)), (2, .int what)]) dX6_bestCalled_60 (by decide) rfl ?_
        have L62 : ∀ (fu : Nat) (k : Nat) (Hk : Heap) (x r fa : Int32) (m : Nat), k ≤ 1000 → bcS n nv dd kV w k = (r, fa, m) → Bc G Hk b kr sp fp dr kb ka ks kw n nv kS kU kK kV dd → Dd G Hk (b + 17) n (upd dd w x) → (∀ q : Nat, ¬ (b + 17 ≤ q ∧ q < b + 21) → Hk[q]? = H[q]?) → 1000 - k < fu → AW G B l { frames := 5, cells := 0, slots := 0, locals := 27 * 5 } yX6_bestCalled.cls cX6_bestCalled 11 false (fun rv H' ce' sl' => (rv = some (.int (if what = 0 then (bcS n nv dd kV w 1000).1 else nI (bcS n nv dd kV w 1000).2.2)) ∧ ((∃ td : DD, Dd G H' (b + 17) n td) ∧ ∀ q : Nat, ¬ (b + 17 ≤ q ∧ q < b + 21) → H'[q]? = H[q]?)) ∧ ce' = 0 ∧ sl' = 0) 62 [(0, .ref b), (1, .int (nI w)), (2, .int what), (3, .int (dd w)), (4, .int r), (5, .int fa), (6, .int (nI m)), (7, .int (nI k))] [] Hk 0 0 := by
          intro fu
          induction fu with
          | zero => intro k Hk x r fa m hk hg hC hT hF hm62; exact absurd hm62 (Nat.not_lt_zero _)
          | succ fu ih62 =>
            intro k Hk x r fa m hk hg hC hT hF hm62
            have hC1 := hC
            have hC0 := hC
            obtain ⟨hb, hK, hD, -⟩ := hC1
            have hN := hD
            unfold bxL at hb
            obtain ⟨fS3, fU3, fK3, fV3, hk3, ha3, hb3, hc3, he3, eS3, eU3, eK3, eV3, hn3, hnv3⟩ := hK
            obtain ⟨fS, fU, fO, hd, hs, hu, ho, eS, eU, eO, hn⟩ := hD
            have hml := bcS_le (n := n) (nv := nv) (dd := dd) (kV := kV) (w := w) (k := k)
            rw [hg] at hml
            have hml : m ≤ nv := hml
            refine a_iload 7 dX6_bestCalled_62 rfl ?_
            refine a_sipush 1000 dX6_bestCalled_64 (by decide) ?_
            refine a_icmpgeN (a := k) (b := 1000) 132 dX6_bestCalled_67 (by decide) (by omega) (by omega) (fun c67 => ?_) (fun c67 => ?_)
            · skip
              refine a_iload_n 2 dX6_bestCalled_132 rfl rfl ?_
              refine a_ifne 141 dX6_bestCalled_133 (by decide) (fun c133 => ?_) (fun c133 => ?_)
              · skip
                refine a_iload 6 dX6_bestCalled_141 rfl ?_
                refine a_ret dX6_bestCalled_143 ⟨⟨ri ?_, ?_⟩, rfl, rfl⟩
                · have e : 1000 = k := by omega
                  rw [e, hg]
                  rw [if_neg c133]
                · exact ⟨⟨_, hT⟩, hF⟩
              · skip
                refine a_iload 4 dX6_bestCalled_136 rfl ?_
                refine a_goto 143 dX6_bestCalled_138 (by decide) ?_
                refine a_ret dX6_bestCalled_143 ⟨⟨ri ?_, ?_⟩, rfl, rfl⟩
                · have e : 1000 = k := by omega
                  rw [e, hg]
                  rw [if_pos c133]
                · exact ⟨⟨_, hT⟩, hF⟩
            · skip
              refine a_iload_n 3 dX6_bestCalled_70 rfl rfl ?_
              refine a_iload 7 dX6_bestCalled_71 rfl ?_
              refine a_callSp (As := [.int (dd w), .int (nI k)]) (rest := []) (d := 1) (mc := 0) (ms := 0) (x := apF (dd w) (nI k)) l_X6_172 st_X6_apart dX6_bestCalled_73 ⟨Nat.le_of_ble_eq_true rfl, Nat.le_of_ble_eq_true rfl⟩ rfl (Nat.le_of_ble_eq_true rfl) ⟨Nat.le_of_ble_eq_true rfl, Nat.le_of_ble_eq_true rfl⟩ (c_X6_apart) ?_
              refine a_istore (lv' := [(8, .int (apF (dd w) (nI k))), (0, .ref b), (1, .int (nI w)), (2, .int what), (3, .int (dd w)), (4, .int r), (5, .int fa), (6, .int (nI m)), (7, .int (nI k))]) dX6_bestCalled_76 (by decide) rfl ?_
              refine a_iload 0 dX6_bestCalled_78 rfl ?_
              refine a_iload 6 dX6_bestCalled_80 rfl ?_
              refine a_icmpge 90 dX6_bestCalled_82 (by decide) (fun c82 => ?_) (fun c82 => ?_)
              · skip
                refine a_iload 7 dX6_bestCalled_90 rfl ?_
                refine a_iconst 1 dX6_bestCalled_92 (by decide) ?_
                refine a_iaddN (a := m) (b := 1) dX6_bestCalled_93 ?_
                refine a_istore (lv' := [(9, .int (nI (m + 1))), (8, .int (apF (dd w) (nI k))), (0, .ref b), (1, .int (nI w)), (2, .int what), (3, .int (dd w)), (4, .int r), (5, .int fa), (6, .int (nI m)), (7, .int (nI k))]) dX6_bestCalled_94 (by decide) rfl ?_
                refine a_aload_n 2 dX6_bestCalled_96 rfl rfl ?_
                refine a_iload_n 3 dX6_bestCalled_97 rfl rfl ?_
                refine a_iload 9 dX6_bestCalled_98 rfl ?_
                refine a_iload 0 dX6_bestCalled_100 rfl ?_
                have con := c_X6_voicesHeardRight (l := l) (nd := m + 1) (s := nI k) hT hw (by omega) hC hB
                rw [upd_upd] at con
                refine a_callVi (As := [.int (nI w), .int (nI k), .int (nI (m + 1))]) (rest := []) (d := 4) (mc := 0) (ms := 0) (x := nI (vhF n nv (upd dd w (nI k)) kV w (nI k) (m + 1) nv 0 0)) (ci := 6) l_X6_222 im_X6_voicesHeardRight se_X6_voicesHeardRight ⟨_, rfl, rfl⟩ dX6_bestCalled_102 ⟨Nat.le_of_ble_eq_true rfl, Nat.le_of_ble_eq_true rfl⟩ rfl (Nat.le_of_ble_eq_true rfl) ⟨Nat.le_of_ble_eq_true rfl, Nat.le_of_ble_eq_true rfl⟩ hb (con) (fun H10 hp10 => ?_)
                obtain ⟨hT, hfr⟩ := hp10
                have hC := hC.kept (H1 := H10) (fun q a c => hfr q (by omega))
                have hb := hb.kept (hfr _ (by omega))
                have hk3 := hk3.kept (hfr _ (by omega))
                have ha3 := ha3.kept (hfr _ (by omega))
                have hb3 := hb3.kept (hfr _ (by omega))
                have hc3 := hc3.kept (hfr _ (by omega))
                have he3 := he3.kept (hfr _ (by omega))
                have hd := hd.kept (hfr _ (by omega))
                have hs := hs.kept (hfr _ (by omega))
                have hu := hu.kept (hfr _ (by omega))
                have ho := ho.kept (hfr _ (by omega))
                have hF : ∀ q : Nat, ¬ (b + 17 ≤ q ∧ q < b + 21) → H10[q]? = H[q]? := fun q hq => (hfr q (by omega)).trans (hF q hq)
                refine a_istore (lv' := [(10, .int (nI (vhF n nv (upd dd w (nI k)) kV w (nI k) (m + 1) nv 0 0))), (9, .int (nI (m + 1))), (8, .int (apF (dd w) (nI k))), (0, .ref b), (1, .int (nI w)), (2, .int what), (3, .int (dd w)), (4, .int r), (5, .int fa), (6, .int (nI m)), (7, .int (nI k))]) dX6_bestCalled_105 (by decide) rfl ?_
                refine a_iload 0 dX6_bestCalled_107 rfl ?_
                refine a_iload 1 dX6_bestCalled_109 rfl ?_
                have hvl : vhF n nv (upd dd w (nI k)) kV w (nI k) (m + 1) nv 0 0 ≤ nv := vhF_le (Nat.le_refl 0) (Nat.zero_le _)
                refine a_icmpltN (a := vhF n nv (upd dd w (nI k)) kV w (nI k) (m + 1) nv 0 0) (b := m + 1) 126 dX6_bestCalled_111 (by decide) (by omega) (by omega) (fun c111 => ?_) (fun c111 => ?_)
                · skip
                  refine a_iincN (q := 10) (lv' := [(7, .int (nI (k + 1))), (10, .int (nI (vhF n nv (upd dd w (nI k)) kV w (nI k) (m + 1) nv 0 0))), (9, .int (nI (m + 1))), (8, .int (apF (dd w) (nI k))), (0, .ref b), (1, .int (nI w)), (2, .int what), (3, .int (dd w)), (4, .int r), (5, .int fa), (6, .int (nI m))]) dX6_bestCalled_126 rfl (by decide) rfl ?_
                  refine a_goto 62 dX6_bestCalled_129 (by decide) ?_
                  refine a_sub [4, 5, 6, 7, 8, 9, 10, 0] rfl ?_
                  exact ih62 _ _ _ _ _ _ (by omega) (by simp only [bcS, hg]; rw [if_neg (Int32.not_lt.mpr c82)]; exact if_neg (Nat.not_le.mpr c111)) hC hT hF (by omega)
                · skip
                  refine a_iload 10 dX6_bestCalled_114 rfl ?_
                  refine a_istore (lv' := [(4, .int (nI k)), (10, .int (nI (vhF n nv (upd dd w (nI k)) kV w (nI k) (m + 1) nv 0 0))), (9, .int (nI (m + 1))), (8, .int (apF (dd w) (nI k))), (0, .ref b), (1, .int (nI w)), (2, .int what), (3, .int (dd w)), (5, .int fa), (6, .int (nI m)), (7, .int (nI k))]) dX6_bestCalled_116 (by decide) rfl ?_
                  refine a_iload 3 dX6_bestCalled_118 rfl ?_
                  refine a_istore (lv' := [(5, .int (apF (dd w) (nI k))), (4, .int (nI k)), (10, .int (nI (vhF n nv (upd dd w (nI k)) kV w (nI k) (m + 1) nv 0 0))), (9, .int (nI (m + 1))), (8, .int (apF (dd w) (nI k))), (0, .ref b), (1, .int (nI w)), (2, .int what), (3, .int (dd w)), (6, .int (nI m)), (7, .int (nI k))]) dX6_bestCalled_120 (by decide) rfl ?_
                  refine a_iload 2 dX6_bestCalled_122 rfl ?_
                  refine a_istore (lv' := [(6, .int (nI (vhF n nv (upd dd w (nI k)) kV w (nI k) (m + 1) nv 0 0))), (5, .int (apF (dd w) (nI k))), (4, .int (nI k)), (10, .int (nI (vhF n nv (upd dd w (nI k)) kV w (nI k) (m + 1) nv 0 0))), (9, .int (nI (m + 1))), (8, .int (apF (dd w) (nI k))), (0, .ref b), (1, .int (nI w)), (2, .int what), (3, .int (dd w)), (7, .int (nI k))]) dX6_bestCalled_124 (by decide) rfl ?_
                  refine a_iincN (q := 10) (lv' := [(7, .int (nI (k + 1))), (6, .int (nI (vhF n nv (upd dd w (nI k)) kV w (nI k) (m + 1) nv 0 0))), (5, .int (apF (dd w) (nI k))), (4, .int (nI k)), (10, .int (nI (vhF n nv (upd dd w (nI k)) kV w (nI k) (m + 1) nv 0 0))), (9, .int (nI (m + 1))), (8, .int (apF (dd w) (nI k))), (0, .ref b), (1, .int (nI w)), (2, .int what), (3, .int (dd w))]) dX6_bestCalled_126 rfl (by decide) rfl ?_
                  refine a_goto 62 dX6_bestCalled_129 (by decide) ?_
                  refine a_sub [7, 8, 9, 10, 3, 2, 1, 0] rfl ?_
                  exact ih62 _ _ _ _ _ _ (by omega) (by simp only [bcS, hg]; rw [if_neg (Int32.not_lt.mpr c82)]; exact if_pos c111) hC hT hF (by omega)
              · skip
                refine a_iload 7 dX6_bestCalled_85 rfl ?_
                refine a_goto 94 dX6_bestCalled_87 (by decide) ?_
                refine a_istore (lv' := [(9, .int (nI m)), (8, .int (apF (dd w) (nI k))), (0, .ref b), (1, .int (nI w)), (2, .int what), (3, .int (dd w)), (4, .int r), (5, .int fa), (6, .int (nI m)), (7, .int (nI k))]) dX6_bestCalled_94 (by decide) rfl ?_
                refine a_aload_n 2 dX6_bestCalled_96 rfl rfl ?_
                refine a_iload_n 3 dX6_bestCalled_97 rfl rfl ?_
                refine a_iload 9 dX6_bestCalled_98 rfl ?_
                refine a_iload 0 dX6_bestCalled_100 rfl ?_
                have con := c_X6_voicesHeardRight (l := l) (nd := m) (s := nI k) hT hw (by omega) hC hB
                rw [upd_upd] at con
                refine a_callVi (As := [.int (nI w), .int (nI k), .int (nI m)]) (rest := []) (d := 4) (mc := 0) (ms := 0) (x := nI (vhF n nv (upd dd w (nI k)) kV w (nI k) m nv 0 0)) (ci := 6) l_X6_222 im_X6_voicesHeardRight se_X6_voicesHeardRight ⟨_, rfl, rfl⟩ dX6_bestCalled_102 ⟨Nat.le_of_ble_eq_true rfl, Nat.le_of_ble_eq_true rfl⟩ rfl (Nat.le_of_ble_eq_true rfl) ⟨Nat.le_of_ble_eq_true rfl, Nat.le_of_ble_eq_true rfl⟩ hb (con) (fun H11 hp11 => ?_)
                obtain ⟨hT, hfr⟩ := hp11
                have hC := hC.kept (H1 := H11) (fun q a c => hfr q (by omega))
                have hb := hb.kept (hfr _ (by omega))
                have hk3 := hk3.kept (hfr _ (by omega))
                have ha3 := ha3.kept (hfr _ (by omega))
                have hb3 := hb3.kept (hfr _ (by omega))
                have hc3 := hc3.kept (hfr _ (by omega))
                have he3 := he3.kept (hfr _ (by omega))
                have hd := hd.kept (hfr _ (by omega))
                have hs := hs.kept (hfr _ (by omega))
                have hu := hu.kept (hfr _ (by omega))
                have ho := ho.kept (hfr _ (by omega))
                have hF : ∀ q : Nat, ¬ (b + 17 ≤ q ∧ q < b + 21) → H11[q]? = H[q]? := fun q hq => (hfr q (by omega)).trans (hF q hq)
                refine a_istore (lv' := [(10, .int (nI (vhF n nv (upd dd w (nI k)) kV w (nI k) m nv 0 0))), (9, .int (nI m)), (8, .int (apF (dd w) (nI k))), (0, .ref b), (1, .int (nI w)), (2, .int what), (3, .int (dd w)), (4, .int r), (5, .int fa), (6, .int (nI m)), (7, .int (nI k))]) dX6_bestCalled_105 (by decide) rfl ?_
                refine a_iload 0 dX6_bestCalled_107 rfl ?_
                refine a_iload 1 dX6_bestCalled_109 rfl ?_
                have hvl : vhF n nv (upd dd w (nI k)) kV w (nI k) m nv 0 0 ≤ nv := vhF_le (Nat.le_refl 0) (Nat.zero_le _)
                refine a_icmpltN (a := vhF n nv (upd dd w (nI k)) kV w (nI k) m nv 0 0) (b := m) 126 dX6_bestCalled_111 (by decide) (by omega) (by omega) (fun c111 => ?_) (fun c111 => ?_)
                · skip
                  refine a_iincN (q := 10) (lv' := [(7, .int (nI (k + 1))), (10, .int (nI (vhF n nv (upd dd w (nI k)) kV w (nI k) m nv 0 0))), (9, .int (nI m)), (8, .int (apF (dd w) (nI k))), (0, .ref b), (1, .int (nI w)), (2, .int what), (3, .int (dd w)), (4, .int r), (5, .int fa), (6, .int (nI m))]) dX6_bestCalled_126 rfl (by decide) rfl ?_
                  refine a_goto 62 dX6_bestCalled_129 (by decide) ?_
                  refine a_sub [4, 5, 6, 7, 8, 9, 10, 0] rfl ?_
                  exact ih62 _ _ _ _ _ _ (by omega) (by simp only [bcS, hg]; rw [if_pos (Int32.not_le.mp c82)]; exact if_neg (Nat.not_le.mpr c111)) hC hT hF (by omega)
                · skip
                  refine a_iload 10 dX6_bestCalled_114 rfl ?_
                  refine a_istore (lv' := [(4, .int (nI k)), (10, .int (nI (vhF n nv (upd dd w (nI k)) kV w (nI k) m nv 0 0))), (9, .int (nI m)), (8, .int (apF (dd w) (nI k))), (0, .ref b), (1, .int (nI w)), (2, .int what), (3, .int (dd w)), (5, .int fa), (6, .int (nI m)), (7, .int (nI k))]) dX6_bestCalled_116 (by decide) rfl ?_
                  refine a_iload 3 dX6_bestCalled_118 rfl ?_
                  refine a_istore (lv' := [(5, .int (apF (dd w) (nI k))), (4, .int (nI k)), (10, .int (nI (vhF n nv (upd dd w (nI k)) kV w (nI k) m nv 0 0))), (9, .int (nI m)), (8, .int (apF (dd w) (nI k))), (0, .ref b), (1, .int (nI w)), (2, .int what), (3, .int (dd w)), (6, .int (nI m)), (7, .int (nI k))]) dX6_bestCalled_120 (by decide) rfl ?_
                  refine a_iload 2 dX6_bestCalled_122 rfl ?_
                  refine a_istore (lv' := [(6, .int (nI (vhF n nv (upd dd w (nI k)) kV w (nI k) m nv 0 0))), (5, .int (apF (dd w) (nI k))), (4, .int (nI k)), (10, .int (nI (vhF n nv (upd dd w (nI k)) kV w (nI k) m nv 0 0))), (9, .int (nI m)), (8, .int (apF (dd w) (nI k))), (0, .ref b), (1, .int (nI w)), (2, .int what), (3, .int (dd w)), (7, .int (nI k))]) dX6_bestCalled_124 (by decide) rfl ?_
                  refine a_iincN (q := 10) (lv' := [(7, .int (nI (k + 1))), (6, .int (nI (vhF n nv (upd dd w (nI k)) kV w (nI k) m nv 0 0))), (5, .int (apF (dd w) (nI k))), (4, .int (nI k)), (10, .int (nI (vhF n nv (upd dd w (nI k)) kV w (nI k) m nv 0 0))), (9, .int (nI m)), (8, .int (apF (dd w) (nI k))), (0, .ref b), (1, .int (nI w)), (2, .int what), (3, .int (dd w))]) dX6_bestCalled_126 rfl (by decide) rfl ?_
                  refine a_goto 62 dX6_bestCalled_129 (by decide) ?_
                  refine a_sub [7, 8, 9, 10, 3, 2, 1, 0] rfl ?_
                  exact ih62 _ _ _ _ _ _ (by omega) (by simp only [bcS, hg]; rw [if_pos (Int32.not_le.mp c82)]; exact if_pos c111) hC hT hF (by omega)
        refine a_sub [5, 6, 7, 4, 3, 2, 1, 0] rfl ?_
        exact L62 _ 0 _ (dd w) _ _ _ (Nat.zero_le _) rfl hC hT hF (Nat.lt_succ_self _)
      · skip
        exact (hq.elim c12 c17).elim
  · skip
    exact absurd c5 (by rw [wIx_nI hw (by omega)]; decide)
set_option maxHeartbeats 4000000 in
set_option maxRecDepth 100000 in
theorem c_X6_bestCalled_unk {G : GT} {B : Nat} {l : Launch} {H : Heap} {b kr sp : Nat} {fp dr : Int32} {kb : Bool} {ka ks kw : Int32} {n nv : Nat} {kS kU kK kV dd : DD} {w : Int32} (hw : wIx n w = false) {what : Int32} (hC : Bc G H b kr sp fp dr kb ka ks kw n nv kS kU kK kV dd) : AM G B l yX6_bestCalled cX6_bestCalled 11 (some .int) 5 0 0 [.ref b, .int w, .int what] H (fun rv H' => rv = some (.int (-1000000001)) ∧ (H' = H)) := by
  have hC0 := hC
  obtain ⟨hb, hK, hD, hkr⟩ := hC
  have hK0 := hK
  have hN := hD
  unfold bxL at hb
  obtain ⟨fS3, fU3, fK3, fV3, hk3, ha3, hb3, hc3, he3, eS3, eU3, eK3, eV3, hn3, hnv3⟩ := hK
  obtain ⟨fS, fU, fO, hd, hs, hu, ho, eS, eU, eO, hn⟩ := hD
  refine AM.ofI (lv := [(0, .ref b), (1, .int w), (2, .int what)]) (by decide +kernel) (Nat.le_of_ble_eq_true rfl) rfl ?_ (fun _ h => by cases h.1)
  refine a_aload_n 0 dX6_bestCalled_0 rfl rfl ?_
  refine a_iload_n 1 dX6_bestCalled_1 rfl rfl ?_
  refine a_callVp (As := [.int w]) (rest := []) (d := 0) (mc := 0) (ms := 0) (x := bI (wIx n w)) (ci := 6) l_X6_131 im_X6_isWord se_X6_isWord ⟨_, rfl, rfl⟩ dX6_bestCalled_2 ⟨Nat.le_of_ble_eq_true rfl, Nat.le_of_ble_eq_true rfl⟩ rfl (Nat.le_of_ble_eq_true rfl) ⟨Nat.le_of_ble_eq_true rfl, Nat.le_of_ble_eq_true rfl⟩ hb (c_X6_isWord hC0) ?_
  refine a_ifneB 11 dX6_bestCalled_5 (by decide) (fun c5 => ?_) (fun c5 => ?_)
  · skip
    exact absurd c5 (by rw [hw]; decide)
  · skip
    refine a_ldc (-1000000001) k_X6_134 dX6_bestCalled_8 ?_
    refine a_ret dX6_bestCalled_10 ⟨⟨ri ?_, ?_⟩, rfl, rfl⟩
    · rfl
    · rfl
set_option maxHeartbeats 4000000 in
set_option maxRecDepth 100000 in
theorem c_X6_bestCalled_out {G : GT} {B : Nat} {l : Launch} {H : Heap} {b kr sp : Nat} {fp dr : Int32} {kb : Bool} {ka ks kw : Int32} {n nv : Nat} {kS kU kK kV dd : DD} {w : Nat} (hw : w < n) {what : Int32} (hq : ¬ what = 0) (hq1 : ¬ what = 1) (hC : Bc G H b kr sp fp dr kb ka ks kw n nv kS kU kK kV dd) : AM G B l yX6_bestCalled cX6_bestCalled 11 (some .int) 5 0 0 [.ref b, .int (nI w), .int what] H (fun rv H' => rv = some (.int (-1000000002)) ∧ (H' = H)) := by
  have hC0 := hC
  obtain ⟨hb, hK, hD, hkr⟩ := hC
  have hK0 := hK
  have hN := hD
  unfold bxL at hb
  obtain ⟨fS3, fU3, fK3, fV3, hk3, ha3, hb3, hc3, he3, eS3, eU3, eK3, eV3, hn3, hnv3⟩ := hK
  obtain ⟨fS, fU, fO, hd, hs, hu, ho, eS, eU, eO, hn⟩ := hD
  refine AM.ofI (lv := [(0, .ref b), (1, .int (nI w)), (2, .int what)]) (by decide +kernel) (Nat.le_of_ble_eq_true rfl) rfl ?_ (fun _ h => by cases h.1)
  refine a_aload_n 0 dX6_bestCalled_0 rfl rfl ?_
  refine a_iload_n 1 dX6_bestCalled_1 rfl rfl ?_
  refine a_callVp (As := [.int (nI w)]) (rest := []) (d := 0) (mc := 0) (ms := 0) (x := bI (wIx n (nI w))) (ci := 6) l_X6_131 im_X6_isWord se_X6_isWord ⟨_, rfl, rfl⟩ dX6_bestCalled_2 ⟨Nat.le_of_ble_eq_true rfl, Nat.le_of_ble_eq_true rfl⟩ rfl (Nat.le_of_ble_eq_true rfl) ⟨Nat.le_of_ble_eq_true rfl, Nat.le_of_ble_eq_true rfl⟩ hb (c_X6_isWord hC0) ?_
  refine a_ifneB 11 dX6_bestCalled_5 (by decide) (fun c5 => ?_) (fun c5 => ?_)
  · skip
    refine a_iload_n 2 dX6_bestCalled_11 rfl rfl ?_
    refine a_ifeq 23 dX6_bestCalled_12 (by decide) (fun c12 => ?_) (fun c12 => ?_)
    · skip
      exact absurd c12 (hq)
    · skip
      refine a_iload_n 2 dX6_bestCalled_15 rfl rfl ?_
      refine a_iconst 1 dX6_bestCalled_16 (by decide) ?_
      refine a_icmpeq 23 dX6_bestCalled_17 (by decide) (fun c17 => ?_) (fun c17 => ?_)
      · skip
        exact absurd c17 (hq1)
      · skip
        refine a_ldc (-1000000002) k_X6_69 dX6_bestCalled_20 ?_
        refine a_ret dX6_bestCalled_22 ⟨⟨ri ?_, ?_⟩, rfl, rfl⟩
        · rfl
        · rfl
  · skip
    exact absurd c5 (by rw [wIx_nI hw (by omega)]; decide)
set_option maxHeartbeats 4000000 in
set_option maxRecDepth 100000 in
theorem c_X6_hear {G : GT} {B : Nat} {l : Launch} {H : Heap} {b : Nat} {tx : Nat → Nat} {L : Nat} {fp : Int32} {kb : Bool} {ka ks kw : Int32} {n nv : Nat} {kK kV dd : DD} {sd nx ct : Nat} {pu : Nat → DD} {sn : Nat} {sw sg : Nat → Nat} {bn : Nat} {bw : Nat → Nat} {bt : DD} {ik : Nat → Bool} {iD : Nat → DD} {iS : Nat → Nat} {s : Int32} (hsn : wIx 1000 s = true) (hn0 : 0 < n) (hh : dd 24 ≤ 9000) {g : Nat} (hg : guF n dd s = nI g) (hgn : g < n) (hX : Bx G H b tx L fp kb ka ks kw n nv kK kV dd sd nx ct pu sn sw sg bn bw bt ik iD iS) (hB : B ≤ b) : AM G B l yX6_hear cX6_hear 2 (some .int) 7 0 0 [.ref b, .int s] H (fun rv H' => rv = some (.int (ruF n dd kK ka ks s)) ∧ (Bx G H' b tx L fp kb ka ks kw n nv kK kV (hrF dd g (ruF n dd kK ka ks s)) sd ((nx + 1) % 20) (min (ct + 1) 20) (fun i => if i = nx then dd else pu i) sn sw sg bn bw bt ik iD iS ∧ ∀ q : Nat, ¬ (b ≤ q ∧ q < b + 120) → H'[q]? = H[q]?)) := by
  have hX0 := hX
  obtain ⟨kr, sp, kS, kU, hC, hR2, hK2, hT2, hPs, hSe, hBo, hIm⟩ := hX
  have hC0 := hC
  obtain ⟨hb, hK, hD, hkr⟩ := hC
  have hK0 := hK
  have hN := hD
  unfold bxL at hb
  obtain ⟨fS3, fU3, fK3, fV3, hk3, ha3, hb3, hc3, he3, eS3, eU3, eK3, eV3, hn3, hnv3⟩ := hK
  obtain ⟨fS, fU, fO, hd, hs, hu, ho, eS, eU, eO, hn⟩ := hD
  have hpo := hPs.1
  have hse := hSe
  have hbo := hBo
  obtain ⟨fA, fB, hsp, hsa, hsb, eA, eB, hsN, -⟩ := hse
  obtain ⟨fA2, fB2, hbp, hba, hbb, eA2, eB2, hbN, -⟩ := hbo
  have hF : ∀ q : Nat, ¬ (b + 13 ≤ q ∧ q < b + 17) ∧ ¬ (b + 21 ≤ q ∧ q < b + 103) → H[q]? = H[q]? := fun _ _ => rfl
  refine AM.ofI (lv := [(0, .ref b), (1, .int s)]) (by decide +kernel) (Nat.le_of_ble_eq_true rfl) rfl ?_ (fun _ h => by cases h.1)
  refine a_iload_n 1 dX6_hear_0 rfl rfl ?_
  refine a_callSp (As := [.int s]) (rest := []) (d := 0) (mc := 0) (ms := 0) (x := bI (wIx 1000 s)) l_X6_154 st_X6_isSound dX6_hear_1 ⟨Nat.le_of_ble_eq_true rfl, Nat.le_of_ble_eq_true rfl⟩ rfl (Nat.le_of_ble_eq_true rfl) ⟨Nat.le_of_ble_eq_true rfl, Nat.le_of_ble_eq_true rfl⟩ (c_X6_isSound) ?_
  refine a_ifneB 10 dX6_hear_4 (by decide) (fun c4 => ?_) (fun c4 => ?_)
  · skip
    refine a_aload_n 0 dX6_hear_10 rfl rfl ?_
    refine a_get f_X6_23 dX6_hear_11 hb rfl ?_
    refine a_get f_X6_100 dX6_hear_14 hk3 rfl ?_
    refine a_ifneN (a := n) 23 dX6_hear_17 (by decide) (by omega) (fun c17 => ?_) (fun c17 => ?_)
    · skip
      refine a_aload_n 0 dX6_hear_23 rfl rfl ?_
      refine a_get f_X6_33 dX6_hear_24 hb rfl ?_
      refine a_get f_X6_115 dX6_hear_27 hd rfl ?_
      refine a_sipush 9000 dX6_hear_30 (by decide) ?_
      refine a_icmple 39 dX6_hear_33 (by decide) (fun c33 => ?_) (fun c33 => ?_)
      · skip
        refine a_aload_n 0 dX6_hear_39 rfl rfl ?_
        refine a_get f_X6_43 dX6_hear_40 hb rfl ?_
        refine a_aload_n 0 dX6_hear_43 rfl rfl ?_
        refine a_get f_X6_33 dX6_hear_44 hb rfl ?_
        refine a_callVv (As := [.ref (b + 13)]) (rest := []) (d := 2) (mc := 0) (ms := 0) (ci := 4) l_X6_158 im_X4_push se_X4_push ⟨_, rfl, rfl⟩ dX6_hear_47 ⟨Nat.le_of_ble_eq_true rfl, Nat.le_of_ble_eq_true rfl⟩ rfl (Nat.le_of_ble_eq_true rfl) ⟨Nat.le_of_ble_eq_true rfl, Nat.le_of_ble_eq_true rfl⟩ hpo (c_X4_push hN (by omega) hPs (by omega)) (fun H2 hp2 => ?_)
        obtain ⟨hPs1, hfr⟩ := hp2
        have hC1 := hC0.kept (H1 := H2) (fun q a c => hfr q (by omega))
        have hN1 := hC1.2.2.1
        have hb := hb.kept (hfr _ (by omega))
        have hk3 := hk3.kept (hfr _ (by omega))
        have ha3 := ha3.kept (hfr _ (by omega))
        have hb3 := hb3.kept (hfr _ (by omega))
        have hc3 := hc3.kept (hfr _ (by omega))
        have he3 := he3.kept (hfr _ (by omega))
        have hd := hd.kept (hfr _ (by omega))
        have hs := hs.kept (hfr _ (by omega))
        have hu := hu.kept (hfr _ (by omega))
        have ho := ho.kept (hfr _ (by omega))
        have hsp := hsp.kept (hfr _ (by omega))
        have hbp := hbp.kept (hfr _ (by omega))
        have hF : ∀ q : Nat, ¬ (b + 13 ≤ q ∧ q < b + 17) ∧ ¬ (b + 21 ≤ q ∧ q < b + 103) → H2[q]? = H[q]? := fun q hq => (hfr q (by omega)).trans (hF q hq)
        refine a_aload_n 0 dX6_hear_50 rfl rfl ?_
        refine a_iload_n 1 dX6_hear_51 rfl rfl ?_
        refine a_callVi (As := [.int s]) (rest := []) (d := 6) (mc := 0) (ms := 0) (x := ruF n dd kK ka ks s) (ci := 6) l_X6_162 im_X6_takeIn se_X6_takeIn ⟨_, rfl, rfl⟩ dX6_hear_52 ⟨Nat.le_of_ble_eq_true rfl, Nat.le_of_ble_eq_true rfl⟩ rfl (Nat.le_of_ble_eq_true rfl) ⟨Nat.le_of_ble_eq_true rfl, Nat.le_of_ble_eq_true rfl⟩ hb (c_X6_takeIn hC1 hg hgn hB) (fun H3 hp3 => ?_)
        obtain ⟨hD3, hfr2⟩ := hp3
        have hC3 := hC1.now hD3 (fun q a c => hfr2 q (by omega))
        have hF : ∀ q : Nat, ¬ (b + 13 ≤ q ∧ q < b + 17) ∧ ¬ (b + 21 ≤ q ∧ q < b + 103) → H3[q]? = H[q]? := fun q hq => (hfr2 q (by omega)).trans (hF q hq)
        refine a_ret dX6_hear_55 ⟨⟨ri ?_, ?_⟩, rfl, rfl⟩
        · rfl
        · exact ⟨⟨kr, sp, kS, kU, hC3, hR2.kept (fun q a c => hF q (by omega)), hK2.kept (fun q a c => hF q (by omega)), hT2.kept (fun q a c => hF q (by omega)), hPs1.kept (fun q a c => hfr2 q (by omega)), hSe.kept (fun q a c => hF q (by omega)), hBo.kept (fun q a c => hF q (by omega)), hIm.kept (fun q a => hF q (by omega))⟩, fun q hq => hF q (by omega)⟩
      · skip
        exact absurd hh c33
    · skip
      omega
  · skip
    exact absurd c4 (by rw [hsn]; decide)
set_option maxHeartbeats 4000000 in
set_option maxRecDepth 100000 in
theorem c_X6_hear_out {G : GT} {B : Nat} {l : Launch} {H : Heap} {b : Nat} {tx : Nat → Nat} {L : Nat} {fp : Int32} {kb : Bool} {ka ks kw : Int32} {n nv : Nat} {kK kV dd : DD} {sd nx ct : Nat} {pu : Nat → DD} {sn : Nat} {sw sg : Nat → Nat} {bn : Nat} {bw : Nat → Nat} {bt : DD} {ik : Nat → Bool} {iD : Nat → DD} {iS : Nat → Nat} {s : Int32} (hsn : wIx 1000 s = false) (hX : Bx G H b tx L fp kb ka ks kw n nv kK kV dd sd nx ct pu sn sw sg bn bw bt ik iD iS) (hB : B ≤ b) : AM G B l yX6_hear cX6_hear 2 (some .int) 7 0 0 [.ref b, .int s] H (fun rv H' => rv = some (.int (-1000000002)) ∧ (H' = H)) := by
  have hX0 := hX
  obtain ⟨kr, sp, kS, kU, hC, hR2, hK2, hT2, hPs, hSe, hBo, hIm⟩ := hX
  have hC0 := hC
  obtain ⟨hb, hK, hD, hkr⟩ := hC
  have hK0 := hK
  have hN := hD
  unfold bxL at hb
  obtain ⟨fS3, fU3, fK3, fV3, hk3, ha3, hb3, hc3, he3, eS3, eU3, eK3, eV3, hn3, hnv3⟩ := hK
  obtain ⟨fS, fU, fO, hd, hs, hu, ho, eS, eU, eO, hn⟩ := hD
  have hpo := hPs.1
  have hse := hSe
  have hbo := hBo
  obtain ⟨fA, fB, hsp, hsa, hsb, eA, eB, hsN, -⟩ := hse
  obtain ⟨fA2, fB2, hbp, hba, hbb, eA2, eB2, hbN, -⟩ := hbo
  refine AM.ofI (lv := [(0, .ref b), (1, .int s)]) (by decide +kernel) (Nat.le_of_ble_eq_true rfl) rfl ?_ (fun _ h => by cases h.1)
  refine a_iload_n 1 dX6_hear_0 rfl rfl ?_
  refine a_callSp (As := [.int s]) (rest := []) (d := 0) (mc := 0) (ms := 0) (x := bI (wIx 1000 s)) l_X6_154 st_X6_isSound dX6_hear_1 ⟨Nat.le_of_ble_eq_true rfl, Nat.le_of_ble_eq_true rfl⟩ rfl (Nat.le_of_ble_eq_true rfl) ⟨Nat.le_of_ble_eq_true rfl, Nat.le_of_ble_eq_true rfl⟩ (c_X6_isSound) ?_
  refine a_ifneB 10 dX6_hear_4 (by decide) (fun c4 => ?_) (fun c4 => ?_)
  · skip
    exact absurd c4 (by rw [hsn]; decide)
  · skip
    refine a_ldc (-1000000002) k_X6_69 dX6_hear_7 ?_
    refine a_ret dX6_hear_9 ⟨⟨ri ?_, ?_⟩, rfl, rfl⟩
    · rfl
    · rfl
set_option maxHeartbeats 4000000 in
set_option maxRecDepth 100000 in
theorem c_X6_hear_not {G : GT} {B : Nat} {l : Launch} {H : Heap} {b : Nat} {tx : Nat → Nat} {L : Nat} {fp : Int32} {kb : Bool} {ka ks kw : Int32} {n nv : Nat} {kK kV dd : DD} {sd nx ct : Nat} {pu : Nat → DD} {sn : Nat} {sw sg : Nat → Nat} {bn : Nat} {bw : Nat → Nat} {bt : DD} {ik : Nat → Bool} {iD : Nat → DD} {iS : Nat → Nat} {s : Int32} (hsn : wIx 1000 s = true) (hn0 : n = 0) (hX : Bx G H b tx L fp kb ka ks kw n nv kK kV dd sd nx ct pu sn sw sg bn bw bt ik iD iS) (hB : B ≤ b) : AM G B l yX6_hear cX6_hear 2 (some .int) 7 0 0 [.ref b, .int s] H (fun rv H' => rv = some (.int (-1000000003)) ∧ (H' = H)) := by
  have hX0 := hX
  obtain ⟨kr, sp, kS, kU, hC, hR2, hK2, hT2, hPs, hSe, hBo, hIm⟩ := hX
  have hC0 := hC
  obtain ⟨hb, hK, hD, hkr⟩ := hC
  have hK0 := hK
  have hN := hD
  unfold bxL at hb
  obtain ⟨fS3, fU3, fK3, fV3, hk3, ha3, hb3, hc3, he3, eS3, eU3, eK3, eV3, hn3, hnv3⟩ := hK
  obtain ⟨fS, fU, fO, hd, hs, hu, ho, eS, eU, eO, hn⟩ := hD
  have hpo := hPs.1
  have hse := hSe
  have hbo := hBo
  obtain ⟨fA, fB, hsp, hsa, hsb, eA, eB, hsN, -⟩ := hse
  obtain ⟨fA2, fB2, hbp, hba, hbb, eA2, eB2, hbN, -⟩ := hbo
  refine AM.ofI (lv := [(0, .ref b), (1, .int s)]) (by decide +kernel) (Nat.le_of_ble_eq_true rfl) rfl ?_ (fun _ h => by cases h.1)
  refine a_iload_n 1 dX6_hear_0 rfl rfl ?_
  refine a_callSp (As := [.int s]) (rest := []) (d := 0) (mc := 0) (ms := 0) (x := bI (wIx 1000 s)) l_X6_154 st_X6_isSound dX6_hear_1 ⟨Nat.le_of_ble_eq_true rfl, Nat.le_of_ble_eq_true rfl⟩ rfl (Nat.le_of_ble_eq_true rfl) ⟨Nat.le_of_ble_eq_true rfl, Nat.le_of_ble_eq_true rfl⟩ (c_X6_isSound) ?_
  refine a_ifneB 10 dX6_hear_4 (by decide) (fun c4 => ?_) (fun c4 => ?_)
  · skip
    refine a_aload_n 0 dX6_hear_10 rfl rfl ?_
    refine a_get f_X6_23 dX6_hear_11 hb rfl ?_
    refine a_get f_X6_100 dX6_hear_14 hk3 rfl ?_
    refine a_ifneN (a := n) 23 dX6_hear_17 (by decide) (by omega) (fun c17 => ?_) (fun c17 => ?_)
    · skip
      omega
    · skip
      refine a_ldc (-1000000003) k_X6_157 dX6_hear_20 ?_
      refine a_ret dX6_hear_22 ⟨⟨ri ?_, ?_⟩, rfl, rfl⟩
      · rfl
      · rfl
  · skip
    exact absurd c4 (by rw [hsn]; decide)
set_option maxHeartbeats 4000000 in
set_option maxRecDepth 100000 in
theorem c_X6_hear_full {G : GT} {B : Nat} {l : Launch} {H : Heap} {b : Nat} {tx : Nat → Nat} {L : Nat} {fp : Int32} {kb : Bool} {ka ks kw : Int32} {n nv : Nat} {kK kV dd : DD} {sd nx ct : Nat} {pu : Nat → DD} {sn : Nat} {sw sg : Nat → Nat} {bn : Nat} {bw : Nat → Nat} {bt : DD} {ik : Nat → Bool} {iD : Nat → DD} {iS : Nat → Nat} {s : Int32} (hsn : wIx 1000 s = true) (hn0 : 0 < n) (hh : ¬ dd 24 ≤ 9000) (hX : Bx G H b tx L fp kb ka ks kw n nv kK kV dd sd nx ct pu sn sw sg bn bw bt ik iD iS) (hB : B ≤ b) : AM G B l yX6_hear cX6_hear 2 (some .int) 7 0 0 [.ref b, .int s] H (fun rv H' => rv = some (.int (-1000000004)) ∧ (H' = H)) := by
  have hX0 := hX
  obtain ⟨kr, sp, kS, kU, hC, hR2, hK2, hT2, hPs, hSe, hBo, hIm⟩ := hX
  have hC0 := hC
  obtain ⟨hb, hK, hD, hkr⟩ := hC
  have hK0 := hK
  have hN := hD
  unfold bxL at hb
  obtain ⟨fS3, fU3, fK3, fV3, hk3, ha3, hb3, hc3, he3, eS3, eU3, eK3, eV3, hn3, hnv3⟩ := hK
  obtain ⟨fS, fU, fO, hd, hs, hu, ho, eS, eU, eO, hn⟩ := hD
  have hpo := hPs.1
  have hse := hSe
  have hbo := hBo
  obtain ⟨fA, fB, hsp, hsa, hsb, eA, eB, hsN, -⟩ := hse
  obtain ⟨fA2, fB2, hbp, hba, hbb, eA2, eB2, hbN, -⟩ := hbo
  refine AM.ofI (lv := [(0, .ref b), (1, .int s)]) (by decide +kernel) (Nat.le_of_ble_eq_true rfl) rfl ?_ (fun _ h => by cases h.1)
  refine a_iload_n 1 dX6_hear_0 rfl rfl ?_
  refine a_callSp (As := [.int s]) (rest := []) (d := 0) (mc := 0) (ms := 0) (x := bI (wIx 1000 s)) l_X6_154 st_X6_isSound dX6_hear_1 ⟨Nat.le_of_ble_eq_true rfl, Nat.le_of_ble_eq_true rfl⟩ rfl (Nat.le_of_ble_eq_true rfl) ⟨Nat.le_of_ble_eq_true rfl, Nat.le_of_ble_eq_true rfl⟩ (c_X6_isSound) ?_
  refine a_ifneB 10 dX6_hear_4 (by decide) (fun c4 => ?_) (fun c4 => ?_)
  · skip
    refine a_aload_n 0 dX6_hear_10 rfl rfl ?_
    refine a_get f_X6_23 dX6_hear_11 hb rfl ?_
    refine a_get f_X6_100 dX6_hear_14 hk3 rfl ?_
    refine a_ifneN (a := n) 23 dX6_hear_17 (by decide) (by omega) (fun c17 => ?_) (fun c17 => ?_)
    · skip
      refine a_aload_n 0 dX6_hear_23 rfl rfl ?_
      refine a_get f_X6_33 dX6_hear_24 hb rfl ?_
      refine a_get f_X6_115 dX6_hear_27 hd rfl ?_
      refine a_sipush 9000 dX6_hear_30 (by decide) ?_
      refine a_icmple 39 dX6_hear_33 (by decide) (fun c33 => ?_) (fun c33 => ?_)
      · skip
        exact absurd c33 (hh)
      · skip
        refine a_ldc (-1000000004) k_X6_77 dX6_hear_36 ?_
        refine a_ret dX6_hear_38 ⟨⟨ri ?_, ?_⟩, rfl, rfl⟩
        · rfl
        · rfl
    · skip
      omega
  · skip
    exact absurd c4 (by rw [hsn]; decide)
set_option maxHeartbeats 4000000 in
set_option maxRecDepth 100000 in
theorem c_X6_takeBack {G : GT} {B : Nat} {l : Launch} {H : Heap} {b : Nat} {tx : Nat → Nat} {L : Nat} {fp : Int32} {kb : Bool} {ka ks kw : Int32} {n nv : Nat} {kK kV dd : DD} {sd nx ct : Nat} {pu : Nat → DD} {sn : Nat} {sw sg : Nat → Nat} {bn : Nat} {bw : Nat → Nat} {bt : DD} {ik : Nat → Bool} {iD : Nat → DD} {iS : Nat → Nat} {w : Nat} (hw : w < n) {g : Nat} (hk : dd 26 = nI g) (hgn : g < n) (hgw : g ≠ w) (hX : Bx G H b tx L fp kb ka ks kw n nv kK kV dd sd nx ct pu sn sw sg bn bw bt ik iD iS) (hB : B ≤ b) : AM G B l yX6_takeBack cX6_takeBack 2 (some .int) 3 0 0 [.ref b, .int (nI w)] H (fun rv H' => rv = some (.int (crF dd g w (8 + w))) ∧ (Bx G H' b tx L fp kb ka ks kw n nv kK kV (crF dd g w) sd ((nx + 1) % 20) (min (ct + 1) 20) (fun i => if i = nx then dd else pu i) sn sw sg bn bw bt ik iD iS ∧ ∀ q : Nat, ¬ (b ≤ q ∧ q < b + 120) → H'[q]? = H[q]?)) := by
  have hX0 := hX
  obtain ⟨kr, sp, kS, kU, hC, hR2, hK2, hT2, hPs, hSe, hBo, hIm⟩ := hX
  have hC0 := hC
  obtain ⟨hb, hK, hD, hkr⟩ := hC
  have hK0 := hK
  have hN := hD
  unfold bxL at hb
  obtain ⟨fS3, fU3, fK3, fV3, hk3, ha3, hb3, hc3, he3, eS3, eU3, eK3, eV3, hn3, hnv3⟩ := hK
  obtain ⟨fS, fU, fO, hd, hs, hu, ho, eS, eU, eO, hn⟩ := hD
  have hpo := hPs.1
  have hse := hSe
  have hbo := hBo
  obtain ⟨fA, fB, hsp, hsa, hsb, eA, eB, hsN, -⟩ := hse
  obtain ⟨fA2, fB2, hbp, hba, hbb, eA2, eB2, hbN, -⟩ := hbo
  have hF : ∀ q : Nat, ¬ (b + 13 ≤ q ∧ q < b + 17) ∧ ¬ (b + 21 ≤ q ∧ q < b + 103) → H[q]? = H[q]? := fun _ _ => rfl
  refine AM.ofI (lv := [(0, .ref b), (1, .int (nI w))]) (by decide +kernel) (Nat.le_of_ble_eq_true rfl) rfl ?_ (fun _ h => by cases h.1)
  refine a_aload_n 0 dX6_takeBack_0 rfl rfl ?_
  refine a_iload_n 1 dX6_takeBack_1 rfl rfl ?_
  refine a_callVp (As := [.int (nI w)]) (rest := []) (d := 0) (mc := 0) (ms := 0) (x := bI (wIx n (nI w))) (ci := 6) l_X6_131 im_X6_isWord se_X6_isWord ⟨_, rfl, rfl⟩ dX6_takeBack_2 ⟨Nat.le_of_ble_eq_true rfl, Nat.le_of_ble_eq_true rfl⟩ rfl (Nat.le_of_ble_eq_true rfl) ⟨Nat.le_of_ble_eq_true rfl, Nat.le_of_ble_eq_true rfl⟩ hb (c_X6_isWord hC0) ?_
  refine a_ifneB 11 dX6_takeBack_5 (by decide) (fun c5 => ?_) (fun c5 => ?_)
  · skip
    refine a_aload_n 0 dX6_takeBack_11 rfl rfl ?_
    refine a_get f_X6_33 dX6_takeBack_12 hb rfl ?_
    refine a_get f_X6_121 dX6_takeBack_15 hd rfl ?_
    refine a_iconst (-1) dX6_takeBack_18 (by decide) ?_
    refine a_icmpeq 33 dX6_takeBack_19 (by decide) (fun c19 => ?_) (fun c19 => ?_)
    · skip
      exact absurd c19 (by rw [hk]; exact nI_nm1 _ (by omega))
    · skip
      refine a_aload_n 0 dX6_takeBack_22 rfl rfl ?_
      refine a_get f_X6_33 dX6_takeBack_23 hb rfl ?_
      refine a_get f_X6_121 dX6_takeBack_26 hd rfl ?_
      refine a_iload_n 1 dX6_takeBack_29 rfl rfl ?_
      refine a_icmpne 36 dX6_takeBack_30 (by decide) (fun c30 => ?_) (fun c30 => ?_)
      · skip
        refine a_aload_n 0 dX6_takeBack_36 rfl rfl ?_
        refine a_get f_X6_43 dX6_takeBack_37 hb rfl ?_
        refine a_aload_n 0 dX6_takeBack_40 rfl rfl ?_
        refine a_get f_X6_33 dX6_takeBack_41 hb rfl ?_
        refine a_callVv (As := [.ref (b + 13)]) (rest := []) (d := 2) (mc := 0) (ms := 0) (ci := 4) l_X6_158 im_X4_push se_X4_push ⟨_, rfl, rfl⟩ dX6_takeBack_44 ⟨Nat.le_of_ble_eq_true rfl, Nat.le_of_ble_eq_true rfl⟩ rfl (Nat.le_of_ble_eq_true rfl) ⟨Nat.le_of_ble_eq_true rfl, Nat.le_of_ble_eq_true rfl⟩ hpo (c_X4_push hN (by omega) hPs (by omega)) (fun H2 hp2 => ?_)
        obtain ⟨hPs1, hfr⟩ := hp2
        have hC1 := hC0.kept (H1 := H2) (fun q a c => hfr q (by omega))
        have hN1 := hC1.2.2.1
        have hb := hb.kept (hfr _ (by omega))
        have hk3 := hk3.kept (hfr _ (by omega))
        have ha3 := ha3.kept (hfr _ (by omega))
        have hb3 := hb3.kept (hfr _ (by omega))
        have hc3 := hc3.kept (hfr _ (by omega))
        have he3 := he3.kept (hfr _ (by omega))
        have hd := hd.kept (hfr _ (by omega))
        have hs := hs.kept (hfr _ (by omega))
        have hu := hu.kept (hfr _ (by omega))
        have ho := ho.kept (hfr _ (by omega))
        have hsp := hsp.kept (hfr _ (by omega))
        have hbp := hbp.kept (hfr _ (by omega))
        have hF : ∀ q : Nat, ¬ (b + 13 ≤ q ∧ q < b + 17) ∧ ¬ (b + 21 ≤ q ∧ q < b + 103) → H2[q]? = H[q]? := fun q hq => (hfr q (by omega)).trans (hF q hq)
        refine a_aload_n 0 dX6_takeBack_47 rfl rfl ?_
        refine a_get f_X6_33 dX6_takeBack_48 hb rfl ?_
        refine a_iload_n 1 dX6_takeBack_51 rfl rfl ?_
        refine a_callVv (As := [.int (nI w)]) (rest := []) (d := 2) (mc := 0) (ms := 0) (ci := 0) l_X6_166 im_X0_correctTo se_X0_correctTo ⟨_, rfl, rfl⟩ dX6_takeBack_52 ⟨Nat.le_of_ble_eq_true rfl, Nat.le_of_ble_eq_true rfl⟩ rfl (Nat.le_of_ble_eq_true rfl) ⟨Nat.le_of_ble_eq_true rfl, Nat.le_of_ble_eq_true rfl⟩ hd (c_X0_correctTo hN1 hk hgn hw hgw (by omega)) (fun H3 hp3 => ?_)
        obtain ⟨hD3, hfr2⟩ := hp3
        have hC3 := hC1.now hD3 (fun q a c => hfr2 q (by omega))
        obtain ⟨fS, fU, fO, hd, hs, hu, ho, eS, eU, eO, -⟩ := hD3
        have hb := hb.kept (hfr2 _ (by omega))
        have hk3 := hk3.kept (hfr2 _ (by omega))
        have ha3 := ha3.kept (hfr2 _ (by omega))
        have hb3 := hb3.kept (hfr2 _ (by omega))
        have hc3 := hc3.kept (hfr2 _ (by omega))
        have he3 := he3.kept (hfr2 _ (by omega))
        have hsp := hsp.kept (hfr2 _ (by omega))
        have hbp := hbp.kept (hfr2 _ (by omega))
        have hF : ∀ q : Nat, ¬ (b + 13 ≤ q ∧ q < b + 17) ∧ ¬ (b + 21 ≤ q ∧ q < b + 103) → H3[q]? = H[q]? := fun q hq => (hfr2 q (by omega)).trans (hF q hq)
        refine a_aload_n 0 dX6_takeBack_55 rfl rfl ?_
        refine a_get f_X6_33 dX6_takeBack_56 hb rfl ?_
        refine a_get f_X6_139 dX6_takeBack_59 hd rfl ?_
        refine a_iload_n 1 dX6_takeBack_62 rfl rfl ?_
        refine a_ialdN (j := w) dX6_takeBack_63 hu (by omega) (by decide) ?_
        refine a_toeq (crF dd g w (8 + w)) (eU _ (by omega)) ?_
        refine a_ret dX6_takeBack_64 ⟨⟨ri ?_, ?_⟩, rfl, rfl⟩
        · rfl
        · exact ⟨⟨kr, sp, kS, kU, hC3, hR2.kept (fun q a c => hF q (by omega)), hK2.kept (fun q a c => hF q (by omega)), hT2.kept (fun q a c => hF q (by omega)), hPs1.kept (fun q a c => hfr2 q (by omega)), hSe.kept (fun q a c => hF q (by omega)), hBo.kept (fun q a c => hF q (by omega)), hIm.kept (fun q a => hF q (by omega))⟩, fun q hq => hF q (by omega)⟩
      · skip
        exact absurd c30 (by rw [hk]; exact fun h => hgw ((nI_eq (by omega) (by omega)).mp h))
  · skip
    exact absurd c5 (by rw [wIx_nI hw (by omega)]; decide)
set_option maxHeartbeats 4000000 in
set_option maxRecDepth 100000 in
theorem c_X6_takeBack_unk {G : GT} {B : Nat} {l : Launch} {H : Heap} {b : Nat} {tx : Nat → Nat} {L : Nat} {fp : Int32} {kb : Bool} {ka ks kw : Int32} {n nv : Nat} {kK kV dd : DD} {sd nx ct : Nat} {pu : Nat → DD} {sn : Nat} {sw sg : Nat → Nat} {bn : Nat} {bw : Nat → Nat} {bt : DD} {ik : Nat → Bool} {iD : Nat → DD} {iS : Nat → Nat} {w : Int32} (hw : wIx n w = false) (hX : Bx G H b tx L fp kb ka ks kw n nv kK kV dd sd nx ct pu sn sw sg bn bw bt ik iD iS) (hB : B ≤ b) : AM G B l yX6_takeBack cX6_takeBack 2 (some .int) 3 0 0 [.ref b, .int w] H (fun rv H' => rv = some (.int (-1000000001)) ∧ (H' = H)) := by
  have hX0 := hX
  obtain ⟨kr, sp, kS, kU, hC, hR2, hK2, hT2, hPs, hSe, hBo, hIm⟩ := hX
  have hC0 := hC
  obtain ⟨hb, hK, hD, hkr⟩ := hC
  have hK0 := hK
  have hN := hD
  unfold bxL at hb
  obtain ⟨fS3, fU3, fK3, fV3, hk3, ha3, hb3, hc3, he3, eS3, eU3, eK3, eV3, hn3, hnv3⟩ := hK
  obtain ⟨fS, fU, fO, hd, hs, hu, ho, eS, eU, eO, hn⟩ := hD
  have hpo := hPs.1
  have hse := hSe
  have hbo := hBo
  obtain ⟨fA, fB, hsp, hsa, hsb, eA, eB, hsN, -⟩ := hse
  obtain ⟨fA2, fB2, hbp, hba, hbb, eA2, eB2, hbN, -⟩ := hbo
  refine AM.ofI (lv := [(0, .ref b), (1, .int w)]) (by decide +kernel) (Nat.le_of_ble_eq_true rfl) rfl ?_ (fun _ h => by cases h.1)
  refine a_aload_n 0 dX6_takeBack_0 rfl rfl ?_
  refine a_iload_n 1 dX6_takeBack_1 rfl rfl ?_
  refine a_callVp (As := [.int w]) (rest := []) (d := 0) (mc := 0) (ms := 0) (x := bI (wIx n w)) (ci := 6) l_X6_131 im_X6_isWord se_X6_isWord ⟨_, rfl, rfl⟩ dX6_takeBack_2 ⟨Nat.le_of_ble_eq_true rfl, Nat.le_of_ble_eq_true rfl⟩ rfl (Nat.le_of_ble_eq_true rfl) ⟨Nat.le_of_ble_eq_true rfl, Nat.le_of_ble_eq_true rfl⟩ hb (c_X6_isWord hC0) ?_
  refine a_ifneB 11 dX6_takeBack_5 (by decide) (fun c5 => ?_) (fun c5 => ?_)
  · skip
    exact absurd c5 (by rw [hw]; decide)
  · skip
    refine a_ldc (-1000000001) k_X6_134 dX6_takeBack_8 ?_
    refine a_ret dX6_takeBack_10 ⟨⟨ri ?_, ?_⟩, rfl, rfl⟩
    · rfl
    · rfl
set_option maxHeartbeats 4000000 in
set_option maxRecDepth 100000 in
theorem c_X6_takeBack_not {G : GT} {B : Nat} {l : Launch} {H : Heap} {b : Nat} {tx : Nat → Nat} {L : Nat} {fp : Int32} {kb : Bool} {ka ks kw : Int32} {n nv : Nat} {kK kV dd : DD} {sd nx ct : Nat} {pu : Nat → DD} {sn : Nat} {sw sg : Nat → Nat} {bn : Nat} {bw : Nat → Nat} {bt : DD} {ik : Nat → Bool} {iD : Nat → DD} {iS : Nat → Nat} {w : Nat} (hw : w < n) (hk : dd 26 = -1 ∨ dd 26 = nI w) (hX : Bx G H b tx L fp kb ka ks kw n nv kK kV dd sd nx ct pu sn sw sg bn bw bt ik iD iS) (hB : B ≤ b) : AM G B l yX6_takeBack cX6_takeBack 2 (some .int) 3 0 0 [.ref b, .int (nI w)] H (fun rv H' => rv = some (.int (-1000000003)) ∧ (H' = H)) := by
  have hX0 := hX
  obtain ⟨kr, sp, kS, kU, hC, hR2, hK2, hT2, hPs, hSe, hBo, hIm⟩ := hX
  have hC0 := hC
  obtain ⟨hb, hK, hD, hkr⟩ := hC
  have hK0 := hK
  have hN := hD
  unfold bxL at hb
  obtain ⟨fS3, fU3, fK3, fV3, hk3, ha3, hb3, hc3, he3, eS3, eU3, eK3, eV3, hn3, hnv3⟩ := hK
  obtain ⟨fS, fU, fO, hd, hs, hu, ho, eS, eU, eO, hn⟩ := hD
  have hpo := hPs.1
  have hse := hSe
  have hbo := hBo
  obtain ⟨fA, fB, hsp, hsa, hsb, eA, eB, hsN, -⟩ := hse
  obtain ⟨fA2, fB2, hbp, hba, hbb, eA2, eB2, hbN, -⟩ := hbo
  refine AM.ofI (lv := [(0, .ref b), (1, .int (nI w))]) (by decide +kernel) (Nat.le_of_ble_eq_true rfl) rfl ?_ (fun _ h => by cases h.1)
  refine a_aload_n 0 dX6_takeBack_0 rfl rfl ?_
  refine a_iload_n 1 dX6_takeBack_1 rfl rfl ?_
  refine a_callVp (As := [.int (nI w)]) (rest := []) (d := 0) (mc := 0) (ms := 0) (x := bI (wIx n (nI w))) (ci := 6) l_X6_131 im_X6_isWord se_X6_isWord ⟨_, rfl, rfl⟩ dX6_takeBack_2 ⟨Nat.le_of_ble_eq_true rfl, Nat.le_of_ble_eq_true rfl⟩ rfl (Nat.le_of_ble_eq_true rfl) ⟨Nat.le_of_ble_eq_true rfl, Nat.le_of_ble_eq_true rfl⟩ hb (c_X6_isWord hC0) ?_
  refine a_ifneB 11 dX6_takeBack_5 (by decide) (fun c5 => ?_) (fun c5 => ?_)
  · skip
    refine a_aload_n 0 dX6_takeBack_11 rfl rfl ?_
    refine a_get f_X6_33 dX6_takeBack_12 hb rfl ?_
    refine a_get f_X6_121 dX6_takeBack_15 hd rfl ?_
    refine a_iconst (-1) dX6_takeBack_18 (by decide) ?_
    refine a_icmpeq 33 dX6_takeBack_19 (by decide) (fun c19 => ?_) (fun c19 => ?_)
    · skip
      refine a_ldc (-1000000003) k_X6_157 dX6_takeBack_33 ?_
      refine a_ret dX6_takeBack_35 ⟨⟨ri ?_, ?_⟩, rfl, rfl⟩
      · rfl
      · rfl
    · skip
      refine a_aload_n 0 dX6_takeBack_22 rfl rfl ?_
      refine a_get f_X6_33 dX6_takeBack_23 hb rfl ?_
      refine a_get f_X6_121 dX6_takeBack_26 hd rfl ?_
      refine a_iload_n 1 dX6_takeBack_29 rfl rfl ?_
      refine a_icmpne 36 dX6_takeBack_30 (by decide) (fun c30 => ?_) (fun c30 => ?_)
      · skip
        exact (hk.elim c19 c30).elim
      · skip
        refine a_ldc (-1000000003) k_X6_157 dX6_takeBack_33 ?_
        refine a_ret dX6_takeBack_35 ⟨⟨ri ?_, ?_⟩, rfl, rfl⟩
        · rfl
        · rfl
  · skip
    exact absurd c5 (by rw [wIx_nI hw (by omega)]; decide)
set_option maxHeartbeats 4000000 in
set_option maxRecDepth 100000 in
theorem c_X6_letBe {G : GT} {B : Nat} {l : Launch} {H : Heap} {b : Nat} {tx : Nat → Nat} {L : Nat} {fp : Int32} {kb : Bool} {ka ks kw : Int32} {n nv : Nat} {kK kV dd : DD} {sd nx ct : Nat} {pu : Nat → DD} {sn : Nat} {sw sg : Nat → Nat} {bn : Nat} {bw : Nat → Nat} {bt : DD} {ik : Nat → Bool} {iD : Nat → DD} {iS : Nat → Nat} {g : Nat} (hk : dd 26 = nI g) (hgn : g < n) (hX : Bx G H b tx L fp kb ka ks kw n nv kK kV dd sd nx ct pu sn sw sg bn bw bt ik iD iS) (hB : B ≤ b) : AM G B l yX6_letBe cX6_letBe 2 (some .int) 3 0 0 [.ref b] H (fun rv H' => rv = some (.int (cfF dd g (8 + g))) ∧ (Bx G H' b tx L fp kb ka ks kw n nv kK kV (cfF dd g) sd ((nx + 1) % 20) (min (ct + 1) 20) (fun i => if i = nx then dd else pu i) sn sw sg bn bw bt ik iD iS ∧ ∀ q : Nat, ¬ (b ≤ q ∧ q < b + 120) → H'[q]? = H[q]?)) := by
  have hX0 := hX
  obtain ⟨kr, sp, kS, kU, hC, hR2, hK2, hT2, hPs, hSe, hBo, hIm⟩ := hX
  have hC0 := hC
  obtain ⟨hb, hK, hD, hkr⟩ := hC
  have hK0 := hK
  have hN := hD
  unfold bxL at hb
  obtain ⟨fS3, fU3, fK3, fV3, hk3, ha3, hb3, hc3, he3, eS3, eU3, eK3, eV3, hn3, hnv3⟩ := hK
  obtain ⟨fS, fU, fO, hd, hs, hu, ho, eS, eU, eO, hn⟩ := hD
  have hpo := hPs.1
  have hse := hSe
  have hbo := hBo
  obtain ⟨fA, fB, hsp, hsa, hsb, eA, eB, hsN, -⟩ := hse
  obtain ⟨fA2, fB2, hbp, hba, hbb, eA2, eB2, hbN, -⟩ := hbo
  have hF : ∀ q : Nat, ¬ (b + 13 ≤ q ∧ q < b + 17) ∧ ¬ (b + 21 ≤ q ∧ q < b + 103) → H[q]? = H[q]? := fun _ _ => rfl
  refine AM.ofI (lv := [(0, .ref b)]) (by decide +kernel) (Nat.le_of_ble_eq_true rfl) rfl ?_ (fun _ h => by cases h.1)
  refine a_aload_n 0 dX6_letBe_0 rfl rfl ?_
  refine a_get f_X6_33 dX6_letBe_1 hb rfl ?_
  refine a_get f_X6_121 dX6_letBe_4 hd rfl ?_
  rw [hk]
  refine a_istore_n (lv' := [(1, .int (nI g)), (0, .ref b)]) dX6_letBe_7 rfl (by decide) rfl ?_
  refine a_aload_n 1 dX6_letBe_8 rfl rfl ?_
  refine a_iload_n 0 dX6_letBe_9 rfl rfl ?_
  refine a_callVp (As := [.int (nI g)]) (rest := []) (d := 0) (mc := 0) (ms := 0) (x := bI (wIx n (nI g))) (ci := 6) l_X6_131 im_X6_isWord se_X6_isWord ⟨_, rfl, rfl⟩ dX6_letBe_10 ⟨Nat.le_of_ble_eq_true rfl, Nat.le_of_ble_eq_true rfl⟩ rfl (Nat.le_of_ble_eq_true rfl) ⟨Nat.le_of_ble_eq_true rfl, Nat.le_of_ble_eq_true rfl⟩ hb (c_X6_isWord hC0) ?_
  refine a_ifneB 19 dX6_letBe_13 (by decide) (fun c13 => ?_) (fun c13 => ?_)
  · skip
    refine a_aload_n 1 dX6_letBe_19 rfl rfl ?_
    refine a_get f_X6_43 dX6_letBe_20 hb rfl ?_
    refine a_aload_n 1 dX6_letBe_23 rfl rfl ?_
    refine a_get f_X6_33 dX6_letBe_24 hb rfl ?_
    refine a_callVv (As := [.ref (b + 13)]) (rest := []) (d := 2) (mc := 0) (ms := 0) (ci := 4) l_X6_158 im_X4_push se_X4_push ⟨_, rfl, rfl⟩ dX6_letBe_27 ⟨Nat.le_of_ble_eq_true rfl, Nat.le_of_ble_eq_true rfl⟩ rfl (Nat.le_of_ble_eq_true rfl) ⟨Nat.le_of_ble_eq_true rfl, Nat.le_of_ble_eq_true rfl⟩ hpo (c_X4_push hN (by omega) hPs (by omega)) (fun H2 hp2 => ?_)
    obtain ⟨hPs1, hfr⟩ := hp2
    have hC1 := hC0.kept (H1 := H2) (fun q a c => hfr q (by omega))
    have hN1 := hC1.2.2.1
    have hb := hb.kept (hfr _ (by omega))
    have hk3 := hk3.kept (hfr _ (by omega))
    have ha3 := ha3.kept (hfr _ (by omega))
    have hb3 := hb3.kept (hfr _ (by omega))
    have hc3 := hc3.kept (hfr _ (by omega))
    have he3 := he3.kept (hfr _ (by omega))
    have hd := hd.kept (hfr _ (by omega))
    have hs := hs.kept (hfr _ (by omega))
    have hu := hu.kept (hfr _ (by omega))
    have ho := ho.kept (hfr _ (by omega))
    have hsp := hsp.kept (hfr _ (by omega))
    have hbp := hbp.kept (hfr _ (by omega))
    have hF : ∀ q : Nat, ¬ (b + 13 ≤ q ∧ q < b + 17) ∧ ¬ (b + 21 ≤ q ∧ q < b + 103) → H2[q]? = H[q]? := fun q hq => (hfr q (by omega)).trans (hF q hq)
    refine a_aload_n 1 dX6_letBe_30 rfl rfl ?_
    refine a_get f_X6_33 dX6_letBe_31 hb rfl ?_
    refine a_callVv (As := []) (rest := []) (d := 1) (mc := 0) (ms := 0) (ci := 0) l_X6_169 im_X0_confirm se_X0_confirm ⟨_, rfl, rfl⟩ dX6_letBe_34 ⟨Nat.le_of_ble_eq_true rfl, Nat.le_of_ble_eq_true rfl⟩ rfl (Nat.le_of_ble_eq_true rfl) ⟨Nat.le_of_ble_eq_true rfl, Nat.le_of_ble_eq_true rfl⟩ hd (c_X0_confirm hN1 hk hgn (by omega)) (fun H3 hp3 => ?_)
    obtain ⟨hD3, hfr2⟩ := hp3
    have hC3 := hC1.now hD3 (fun q a c => hfr2 q (by omega))
    obtain ⟨fS, fU, fO, hd, hs, hu, ho, eS, eU, eO, -⟩ := hD3
    have hb := hb.kept (hfr2 _ (by omega))
    have hk3 := hk3.kept (hfr2 _ (by omega))
    have ha3 := ha3.kept (hfr2 _ (by omega))
    have hb3 := hb3.kept (hfr2 _ (by omega))
    have hc3 := hc3.kept (hfr2 _ (by omega))
    have he3 := he3.kept (hfr2 _ (by omega))
    have hsp := hsp.kept (hfr2 _ (by omega))
    have hbp := hbp.kept (hfr2 _ (by omega))
    have hF : ∀ q : Nat, ¬ (b + 13 ≤ q ∧ q < b + 17) ∧ ¬ (b + 21 ≤ q ∧ q < b + 103) → H3[q]? = H[q]? := fun q hq => (hfr2 q (by omega)).trans (hF q hq)
    refine a_aload_n 1 dX6_letBe_37 rfl rfl ?_
    refine a_get f_X6_33 dX6_letBe_38 hb rfl ?_
    refine a_get f_X6_139 dX6_letBe_41 hd rfl ?_
    refine a_iload_n 0 dX6_letBe_44 rfl rfl ?_
    refine a_ialdN (j := g) dX6_letBe_45 hu (by omega) (by decide) ?_
    refine a_toeq (cfF dd g (8 + g)) (eU _ (by omega)) ?_
    refine a_ret dX6_letBe_46 ⟨⟨ri ?_, ?_⟩, rfl, rfl⟩
    · rfl
    · exact ⟨⟨kr, sp, kS, kU, hC3, hR2.kept (fun q a c => hF q (by omega)), hK2.kept (fun q a c => hF q (by omega)), hT2.kept (fun q a c => hF q (by omega)), hPs1.kept (fun q a c => hfr2 q (by omega)), hSe.kept (fun q a c => hF q (by omega)), hBo.kept (fun q a c => hF q (by omega)), hIm.kept (fun q a => hF q (by omega))⟩, fun q hq => hF q (by omega)⟩
  · skip
    exact absurd c13 (by rw [wIx_nI hgn (by omega)]; decide)
set_option maxHeartbeats 4000000 in
set_option maxRecDepth 100000 in
theorem c_X6_letBe_not {G : GT} {B : Nat} {l : Launch} {H : Heap} {b : Nat} {tx : Nat → Nat} {L : Nat} {fp : Int32} {kb : Bool} {ka ks kw : Int32} {n nv : Nat} {kK kV dd : DD} {sd nx ct : Nat} {pu : Nat → DD} {sn : Nat} {sw sg : Nat → Nat} {bn : Nat} {bw : Nat → Nat} {bt : DD} {ik : Nat → Bool} {iD : Nat → DD} {iS : Nat → Nat} (hk : dd 26 = -1) (hX : Bx G H b tx L fp kb ka ks kw n nv kK kV dd sd nx ct pu sn sw sg bn bw bt ik iD iS) (hB : B ≤ b) : AM G B l yX6_letBe cX6_letBe 2 (some .int) 3 0 0 [.ref b] H (fun rv H' => rv = some (.int (-1000000003)) ∧ (H' = H)) := by
  have hX0 := hX
  obtain ⟨kr, sp, kS, kU, hC, hR2, hK2, hT2, hPs, hSe, hBo, hIm⟩ := hX
  have hC0 := hC
  obtain ⟨hb, hK, hD, hkr⟩ := hC
  have hK0 := hK
  have hN := hD
  unfold bxL at hb
  obtain ⟨fS3, fU3, fK3, fV3, hk3, ha3, hb3, hc3, he3, eS3, eU3, eK3, eV3, hn3, hnv3⟩ := hK
  obtain ⟨fS, fU, fO, hd, hs, hu, ho, eS, eU, eO, hn⟩ := hD
  have hpo := hPs.1
  have hse := hSe
  have hbo := hBo
  obtain ⟨fA, fB, hsp, hsa, hsb, eA, eB, hsN, -⟩ := hse
  obtain ⟨fA2, fB2, hbp, hba, hbb, eA2, eB2, hbN, -⟩ := hbo
  refine AM.ofI (lv := [(0, .ref b)]) (by decide +kernel) (Nat.le_of_ble_eq_true rfl) rfl ?_ (fun _ h => by cases h.1)
  refine a_aload_n 0 dX6_letBe_0 rfl rfl ?_
  refine a_get f_X6_33 dX6_letBe_1 hb rfl ?_
  refine a_get f_X6_121 dX6_letBe_4 hd rfl ?_
  refine a_istore_n (lv' := [(1, .int (dd 26)), (0, .ref b)]) dX6_letBe_7 rfl (by decide) rfl ?_
  refine a_aload_n 1 dX6_letBe_8 rfl rfl ?_
  refine a_iload_n 0 dX6_letBe_9 rfl rfl ?_
  refine a_callVp (As := [.int (dd 26)]) (rest := []) (d := 0) (mc := 0) (ms := 0) (x := bI (wIx n (dd 26))) (ci := 6) l_X6_131 im_X6_isWord se_X6_isWord ⟨_, rfl, rfl⟩ dX6_letBe_10 ⟨Nat.le_of_ble_eq_true rfl, Nat.le_of_ble_eq_true rfl⟩ rfl (Nat.le_of_ble_eq_true rfl) ⟨Nat.le_of_ble_eq_true rfl, Nat.le_of_ble_eq_true rfl⟩ hb (c_X6_isWord hC0) ?_
  refine a_ifneB 19 dX6_letBe_13 (by decide) (fun c13 => ?_) (fun c13 => ?_)
  · skip
    exact absurd c13 (by rw [hk, wIx_f1 (by decide)]; decide)
  · skip
    refine a_ldc (-1000000003) k_X6_157 dX6_letBe_16 ?_
    refine a_ret dX6_letBe_18 ⟨⟨ri ?_, ?_⟩, rfl, rfl⟩
    · rfl
    · rfl
set_option maxHeartbeats 4000000 in
set_option maxRecDepth 100000 in
theorem c_X6_call {G : GT} {B : Nat} {l : Launch} {H : Heap} {b : Nat} {tx : Nat → Nat} {L : Nat} {fp : Int32} {kb : Bool} {ka ks kw : Int32} {n nv : Nat} {kK kV dd : DD} {sd nx ct : Nat} {pu : Nat → DD} {sn : Nat} {sw sg : Nat → Nat} {bn : Nat} {bw : Nat → Nat} {bt : DD} {ik : Nat → Bool} {iD : Nat → DD} {iS : Nat → Nat} {w : Nat} (hw : w < n) {s : Int32} (hsn : wIx 1000 s = true) (hX : Bx G H b tx L fp kb ka ks kw n nv kK kV dd sd nx ct pu sn sw sg bn bw bt ik iD iS) (hB : B ≤ b) : AM G B l yX6_call cX6_call 4 (some .int) 3 0 0 [.ref b, .int (nI w), .int s] H (fun rv H' => rv = some (.int (apF (dd w) s)) ∧ (Bx G H' b tx L fp kb ka ks kw n nv kK kV (upd dd w s) sd ((nx + 1) % 20) (min (ct + 1) 20) (fun i => if i = nx then dd else pu i) sn sw sg bn bw bt ik iD iS ∧ ∀ q : Nat, ¬ (b ≤ q ∧ q < b + 120) → H'[q]? = H[q]?)) := by
  have hX0 := hX
  obtain ⟨kr, sp, kS, kU, hC, hR2, hK2, hT2, hPs, hSe, hBo, hIm⟩ := hX
  have hC0 := hC
  obtain ⟨hb, hK, hD, hkr⟩ := hC
  have hK0 := hK
  have hN := hD
  unfold bxL at hb
  obtain ⟨fS3, fU3, fK3, fV3, hk3, ha3, hb3, hc3, he3, eS3, eU3, eK3, eV3, hn3, hnv3⟩ := hK
  obtain ⟨fS, fU, fO, hd, hs, hu, ho, eS, eU, eO, hn⟩ := hD
  have hpo := hPs.1
  have hse := hSe
  have hbo := hBo
  obtain ⟨fA, fB, hsp, hsa, hsb, eA, eB, hsN, -⟩ := hse
  obtain ⟨fA2, fB2, hbp, hba, hbb, eA2, eB2, hbN, -⟩ := hbo
  have hF : ∀ q : Nat, ¬ (b + 13 ≤ q ∧ q < b + 17) ∧ ¬ (b + 21 ≤ q ∧ q < b + 103) → H[q]? = H[q]? := fun _ _ => rfl
  refine AM.ofI (lv := [(0, .ref b), (1, .int (nI w)), (2, .int s)]) (by decide +kernel) (Nat.le_of_ble_eq_true rfl) rfl ?_ (fun _ h => by cases h.1)
  refine a_aload_n 0 dX6_call_0 rfl rfl ?_
  refine a_iload_n 1 dX6_call_1 rfl rfl ?_
  refine a_callVp (As := [.int (nI w)]) (rest := []) (d := 0) (mc := 0) (ms := 0) (x := bI (wIx n (nI w))) (ci := 6) l_X6_131 im_X6_isWord se_X6_isWord ⟨_, rfl, rfl⟩ dX6_call_2 ⟨Nat.le_of_ble_eq_true rfl, Nat.le_of_ble_eq_true rfl⟩ rfl (Nat.le_of_ble_eq_true rfl) ⟨Nat.le_of_ble_eq_true rfl, Nat.le_of_ble_eq_true rfl⟩ hb (c_X6_isWord hC0) ?_
  refine a_ifneB 11 dX6_call_5 (by decide) (fun c5 => ?_) (fun c5 => ?_)
  · skip
    refine a_iload_n 2 dX6_call_11 rfl rfl ?_
    refine a_callSp (As := [.int s]) (rest := []) (d := 0) (mc := 0) (ms := 0) (x := bI (wIx 1000 s)) l_X6_154 st_X6_isSound dX6_call_12 ⟨Nat.le_of_ble_eq_true rfl, Nat.le_of_ble_eq_true rfl⟩ rfl (Nat.le_of_ble_eq_true rfl) ⟨Nat.le_of_ble_eq_true rfl, Nat.le_of_ble_eq_true rfl⟩ (c_X6_isSound) ?_
    refine a_ifneB 21 dX6_call_15 (by decide) (fun c15 => ?_) (fun c15 => ?_)
    · skip
      refine a_aload_n 0 dX6_call_21 rfl rfl ?_
      refine a_get f_X6_43 dX6_call_22 hb rfl ?_
      refine a_aload_n 0 dX6_call_25 rfl rfl ?_
      refine a_get f_X6_33 dX6_call_26 hb rfl ?_
      refine a_callVv (As := [.ref (b + 13)]) (rest := []) (d := 2) (mc := 0) (ms := 0) (ci := 4) l_X6_158 im_X4_push se_X4_push ⟨_, rfl, rfl⟩ dX6_call_29 ⟨Nat.le_of_ble_eq_true rfl, Nat.le_of_ble_eq_true rfl⟩ rfl (Nat.le_of_ble_eq_true rfl) ⟨Nat.le_of_ble_eq_true rfl, Nat.le_of_ble_eq_true rfl⟩ hpo (c_X4_push hN (by omega) hPs (by omega)) (fun H3 hp3 => ?_)
      obtain ⟨hPs1, hfr⟩ := hp3
      have hC1 := hC0.kept (H1 := H3) (fun q a c => hfr q (by omega))
      have hN1 := hC1.2.2.1
      have hb := hb.kept (hfr _ (by omega))
      have hk3 := hk3.kept (hfr _ (by omega))
      have ha3 := ha3.kept (hfr _ (by omega))
      have hb3 := hb3.kept (hfr _ (by omega))
      have hc3 := hc3.kept (hfr _ (by omega))
      have he3 := he3.kept (hfr _ (by omega))
      have hd := hd.kept (hfr _ (by omega))
      have hs := hs.kept (hfr _ (by omega))
      have hu := hu.kept (hfr _ (by omega))
      have ho := ho.kept (hfr _ (by omega))
      have hsp := hsp.kept (hfr _ (by omega))
      have hbp := hbp.kept (hfr _ (by omega))
      have hF : ∀ q : Nat, ¬ (b + 13 ≤ q ∧ q < b + 17) ∧ ¬ (b + 21 ≤ q ∧ q < b + 103) → H3[q]? = H[q]? := fun q hq => (hfr q (by omega)).trans (hF q hq)
      refine a_aload_n 0 dX6_call_32 rfl rfl ?_
      refine a_get f_X6_33 dX6_call_33 hb rfl ?_
      refine a_get f_X6_135 dX6_call_36 hd rfl ?_
      refine a_iload_n 1 dX6_call_39 rfl rfl ?_
      refine a_ialdN (j := w) dX6_call_40 hs (by omega) (by decide) ?_
      refine a_toeq (dd w) (eS _ (by omega)) ?_
      refine a_iload_n 2 dX6_call_41 rfl rfl ?_
      refine a_callSp (As := [.int (dd w), .int s]) (rest := []) (d := 1) (mc := 0) (ms := 0) (x := apF (dd w) s) l_X6_172 st_X6_apart dX6_call_42 ⟨Nat.le_of_ble_eq_true rfl, Nat.le_of_ble_eq_true rfl⟩ rfl (Nat.le_of_ble_eq_true rfl) ⟨Nat.le_of_ble_eq_true rfl, Nat.le_of_ble_eq_true rfl⟩ (c_X6_apart) ?_
      refine a_istore_n (lv' := [(3, .int (apF (dd w) s)), (0, .ref b), (1, .int (nI w)), (2, .int s)]) dX6_call_45 rfl (by decide) rfl ?_
      refine a_aload_n 1 dX6_call_46 rfl rfl ?_
      refine a_get f_X6_33 dX6_call_47 hb rfl ?_
      refine a_get f_X6_135 dX6_call_50 hd rfl ?_
      refine a_iload_n 2 dX6_call_53 rfl rfl ?_
      refine a_iload_n 3 dX6_call_54 rfl rfl ?_
      refine a_iastN (j := w) dX6_call_55 hs (by omega) (by decide) (by omega) (fun H5 hs hz5 hq5 => ?_)
      have hs : Ai G H5 (b + 13 + 1) 8 (upd fS w s) := hs
      have hb := hb.kept (hq5 _ (by omega))
      have hk3 := hk3.kept (hq5 _ (by omega))
      have ha3 := ha3.kept (hq5 _ (by omega))
      have hb3 := hb3.kept (hq5 _ (by omega))
      have hc3 := hc3.kept (hq5 _ (by omega))
      have he3 := he3.kept (hq5 _ (by omega))
      have hd := hd.kept (hq5 _ (by omega))
      have hu := hu.kept (hq5 _ (by omega))
      have ho := ho.kept (hq5 _ (by omega))
      have hsp := hsp.kept (hq5 _ (by omega))
      have hbp := hbp.kept (hq5 _ (by omega))
      have hF : ∀ q : Nat, ¬ (b + 13 ≤ q ∧ q < b + 17) ∧ ¬ (b + 21 ≤ q ∧ q < b + 103) → H5[q]? = H[q]? := fun q hq => (hq5 q (by omega)).trans (hF q hq)
      refine a_iload_n 0 dX6_call_56 rfl rfl ?_
      have hD3 : Dd G H5 (b + 13) n (upd dd w s) := by
        refine Dd.mk' hd hs hu ho hn ?_ ?_ ?_ ?_ ?_ ?_
        all_goals try intro i hi
        all_goals simp only [upd]
        all_goals repeat' split
        all_goals first | omega | rfl | contradiction | exact eS _ (by assumption) | exact eU _ (by assumption) | exact eO _ (by assumption)
      refine a_ret dX6_call_57 ⟨⟨ri ?_, ?_⟩, rfl, rfl⟩
      · rfl
      · exact ⟨⟨kr, sp, kS, kU, hC1.now hD3 (fun q a c => hq5 q (by omega)), hR2.kept (fun q a c => hF q (by omega)), hK2.kept (fun q a c => hF q (by omega)), hT2.kept (fun q a c => hF q (by omega)), hPs1.kept (fun q a c => hq5 q (by omega)), hSe.kept (fun q a c => hF q (by omega)), hBo.kept (fun q a c => hF q (by omega)), hIm.kept (fun q a => hF q (by omega))⟩, fun q hq => hF q (by omega)⟩
    · skip
      exact absurd c15 (by rw [hsn]; decide)
  · skip
    exact absurd c5 (by rw [wIx_nI hw (by omega)]; decide)
set_option maxHeartbeats 4000000 in
set_option maxRecDepth 100000 in
theorem c_X6_call_unk {G : GT} {B : Nat} {l : Launch} {H : Heap} {b : Nat} {tx : Nat → Nat} {L : Nat} {fp : Int32} {kb : Bool} {ka ks kw : Int32} {n nv : Nat} {kK kV dd : DD} {sd nx ct : Nat} {pu : Nat → DD} {sn : Nat} {sw sg : Nat → Nat} {bn : Nat} {bw : Nat → Nat} {bt : DD} {ik : Nat → Bool} {iD : Nat → DD} {iS : Nat → Nat} {w : Int32} (hw : wIx n w = false) {s : Int32} (hX : Bx G H b tx L fp kb ka ks kw n nv kK kV dd sd nx ct pu sn sw sg bn bw bt ik iD iS) (hB : B ≤ b) : AM G B l yX6_call cX6_call 4 (some .int) 3 0 0 [.ref b, .int w, .int s] H (fun rv H' => rv = some (.int (-1000000001)) ∧ (H' = H)) := by
  have hX0 := hX
  obtain ⟨kr, sp, kS, kU, hC, hR2, hK2, hT2, hPs, hSe, hBo, hIm⟩ := hX
  have hC0 := hC
  obtain ⟨hb, hK, hD, hkr⟩ := hC
  have hK0 := hK
  have hN := hD
  unfold bxL at hb
  obtain ⟨fS3, fU3, fK3, fV3, hk3, ha3, hb3, hc3, he3, eS3, eU3, eK3, eV3, hn3, hnv3⟩ := hK
  obtain ⟨fS, fU, fO, hd, hs, hu, ho, eS, eU, eO, hn⟩ := hD
  have hpo := hPs.1
  have hse := hSe
  have hbo := hBo
  obtain ⟨fA, fB, hsp, hsa, hsb, eA, eB, hsN, -⟩ := hse
  obtain ⟨fA2, fB2, hbp, hba, hbb, eA2, eB2, hbN, -⟩ := hbo
  refine AM.ofI (lv := [(0, .ref b), (1, .int w), (2, .int s)]) (by decide +kernel) (Nat.le_of_ble_eq_true rfl) rfl ?_ (fun _ h => by cases h.1)
  refine a_aload_n 0 dX6_call_0 rfl rfl ?_
  refine a_iload_n 1 dX6_call_1 rfl rfl ?_
  refine a_callVp (As := [.int w]) (rest := []) (d := 0) (mc := 0) (ms := 0) (x := bI (wIx n w)) (ci := 6) l_X6_131 im_X6_isWord se_X6_isWord ⟨_, rfl, rfl⟩ dX6_call_2 ⟨Nat.le_of_ble_eq_true rfl, Nat.le_of_ble_eq_true rfl⟩ rfl (Nat.le_of_ble_eq_true rfl) ⟨Nat.le_of_ble_eq_true rfl, Nat.le_of_ble_eq_true rfl⟩ hb (c_X6_isWord hC0) ?_
  refine a_ifneB 11 dX6_call_5 (by decide) (fun c5 => ?_) (fun c5 => ?_)
  · skip
    exact absurd c5 (by rw [hw]; decide)
  · skip
    refine a_ldc (-1000000001) k_X6_134 dX6_call_8 ?_
    refine a_ret dX6_call_10 ⟨⟨ri ?_, ?_⟩, rfl, rfl⟩
    · rfl
    · rfl
set_option maxHeartbeats 4000000 in
set_option maxRecDepth 100000 in
theorem c_X6_call_out {G : GT} {B : Nat} {l : Launch} {H : Heap} {b : Nat} {tx : Nat → Nat} {L : Nat} {fp : Int32} {kb : Bool} {ka ks kw : Int32} {n nv : Nat} {kK kV dd : DD} {sd nx ct : Nat} {pu : Nat → DD} {sn : Nat} {sw sg : Nat → Nat} {bn : Nat} {bw : Nat → Nat} {bt : DD} {ik : Nat → Bool} {iD : Nat → DD} {iS : Nat → Nat} {w : Nat} (hw : w < n) {s : Int32} (hsn : wIx 1000 s = false) (hX : Bx G H b tx L fp kb ka ks kw n nv kK kV dd sd nx ct pu sn sw sg bn bw bt ik iD iS) (hB : B ≤ b) : AM G B l yX6_call cX6_call 4 (some .int) 3 0 0 [.ref b, .int (nI w), .int s] H (fun rv H' => rv = some (.int (-1000000002)) ∧ (H' = H)) := by
  have hX0 := hX
  obtain ⟨kr, sp, kS, kU, hC, hR2, hK2, hT2, hPs, hSe, hBo, hIm⟩ := hX
  have hC0 := hC
  obtain ⟨hb, hK, hD, hkr⟩ := hC
  have hK0 := hK
  have hN := hD
  unfold bxL at hb
  obtain ⟨fS3, fU3, fK3, fV3, hk3, ha3, hb3, hc3, he3, eS3, eU3, eK3, eV3, hn3, hnv3⟩ := hK
  obtain ⟨fS, fU, fO, hd, hs, hu, ho, eS, eU, eO, hn⟩ := hD
  have hpo := hPs.1
  have hse := hSe
  have hbo := hBo
  obtain ⟨fA, fB, hsp, hsa, hsb, eA, eB, hsN, -⟩ := hse
  obtain ⟨fA2, fB2, hbp, hba, hbb, eA2, eB2, hbN, -⟩ := hbo
  refine AM.ofI (lv := [(0, .ref b), (1, .int (nI w)), (2, .int s)]) (by decide +kernel) (Nat.le_of_ble_eq_true rfl) rfl ?_ (fun _ h => by cases h.1)
  refine a_aload_n 0 dX6_call_0 rfl rfl ?_
  refine a_iload_n 1 dX6_call_1 rfl rfl ?_
  refine a_callVp (As := [.int (nI w)]) (rest := []) (d := 0) (mc := 0) (ms := 0) (x := bI (wIx n (nI w))) (ci := 6) l_X6_131 im_X6_isWord se_X6_isWord ⟨_, rfl, rfl⟩ dX6_call_2 ⟨Nat.le_of_ble_eq_true rfl, Nat.le_of_ble_eq_true rfl⟩ rfl (Nat.le_of_ble_eq_true rfl) ⟨Nat.le_of_ble_eq_true rfl, Nat.le_of_ble_eq_true rfl⟩ hb (c_X6_isWord hC0) ?_
  refine a_ifneB 11 dX6_call_5 (by decide) (fun c5 => ?_) (fun c5 => ?_)
  · skip
    refine a_iload_n 2 dX6_call_11 rfl rfl ?_
    refine a_callSp (As := [.int s]) (rest := []) (d := 0) (mc := 0) (ms := 0) (x := bI (wIx 1000 s)) l_X6_154 st_X6_isSound dX6_call_12 ⟨Nat.le_of_ble_eq_true rfl, Nat.le_of_ble_eq_true rfl⟩ rfl (Nat.le_of_ble_eq_true rfl) ⟨Nat.le_of_ble_eq_true rfl, Nat.le_of_ble_eq_true rfl⟩ (c_X6_isSound) ?_
    refine a_ifneB 21 dX6_call_15 (by decide) (fun c15 => ?_) (fun c15 => ?_)
    · skip
      exact absurd c15 (by rw [hsn]; decide)
    · skip
      refine a_ldc (-1000000002) k_X6_69 dX6_call_18 ?_
      refine a_ret dX6_call_20 ⟨⟨ri ?_, ?_⟩, rfl, rfl⟩
      · rfl
      · rfl
  · skip
    exact absurd c5 (by rw [wIx_nI hw (by omega)]; decide)
