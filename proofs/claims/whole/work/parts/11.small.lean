/-! ===== BEGIN pairs, the past, images, the reader's state ===== -/
def Pr (G : GT) (H : Heap) (p cap ct : Nat) (P Q : DD) : Prop := ∃ fA fB : DD, Ob G H p 3 [.ref (p + 1), .ref (p + 2), .int (nI ct)] ∧ Ai G H (p + 1) cap fA ∧ Ai G H (p + 2) cap fB ∧ (∀ i, i < ct → fA i = P i) ∧ (∀ i, i < ct → fB i = Q i) ∧ ct ≤ cap ∧ cap ≤ 16
theorem Pr.kept {G : GT} {H H1 : Heap} {p cap ct : Nat} {P Q : DD} (h : Pr G H p cap ct P Q) (hq : ∀ q, p ≤ q → q < p + 3 → H1[q]? = H[q]?) : Pr G H1 p cap ct P Q := by
  obtain ⟨fA, fB, h1, h2, h3, h4⟩ := h
  exact ⟨fA, fB, h1.kept (hq _ (by omega) (by omega)), h2.kept (hq _ (by omega) (by omega)), h3.kept (hq _ (by omega) (by omega)), h4⟩
/-- the entry i of the ring is one that can be undone -/
def vld (nx ct i : Nat) : Prop := (nx + 19 - i) % 20 < ct
def Ps (G : GT) (H : Heap) (p nx ct n : Nat) (pu : Nat → DD) : Prop := Ob G H p 4 [.ref (p + 1), .int (nI nx), .int (nI ct)] ∧ (∃ fR : Nat → Option Nat, Aq G H (p + 1) 3 20 fR ∧ ∀ i, i < 20 → fR i = some (p + 2 + 4 * i)) ∧ (∀ i, i < 20 → ∃ (n' : Nat) (dd' : DD), Dd G H (p + 2 + 4 * i) n' dd' ∧ (vld nx ct i → n' = n ∧ dd' = pu i)) ∧ nx < 20 ∧ ct ≤ 20
theorem Ps.kept {G : GT} {H H1 : Heap} {p nx ct n : Nat} {pu : Nat → DD} (h : Ps G H p nx ct n pu) (hq : ∀ q, p ≤ q → q < p + 82 → H1[q]? = H[q]?) : Ps G H1 p nx ct n pu := by
  obtain ⟨h1, ⟨fR, h2, h3⟩, h4, h5⟩ := h
  refine ⟨h1.kept (hq _ (by omega) (by omega)), ⟨fR, h2.kept (hq _ (by omega) (by omega)), h3⟩, fun i hi => ?_, h5⟩
  obtain ⟨n', dd', g1, g2⟩ := h4 i hi
  exact ⟨n', dd', g1.kept (fun q a b => hq q (by omega) (by omega)), g2⟩
/-- an image, 5 cells -/
def Im (G : GT) (H : Heap) (q : Nat) (kp : Bool) (dr : Int32) (n : Nat) (dd : DD) : Prop := Ob G H q 1 [.int (bI kp), .ref (q + 1), .int dr] ∧ Dd G H (q + 1) n dd
theorem Im.kept {G : GT} {H H1 : Heap} {p : Nat} {kp : Bool} {dr : Int32} {n : Nat} {dd : DD} (h : Im G H p kp dr n dd) (hq : ∀ q, p ≤ q → q < p + 5 → H1[q]? = H[q]?) : Im G H1 p kp dr n dd :=
  ⟨h.1.kept (hq _ (by omega) (by omega)), h.2.kept (fun q a b => hq q (by omega) (by omega))⟩
/-- the reader: its text is tx, L letters -/
def Rd (G : GT) (H : Heap) (r : Nat) (tx : Nat → Nat) (L pl kd : Nat) : Prop := ∃ f : DD, Ob G H r 5 [.ref (r + 1), .int (nI L), .int (nI pl), .int (nI kd)] ∧ Ai G H (r + 1) 240 f ∧ (∀ i, i < L → f i = nI (tx i)) ∧ (∀ i, i < L → tx i < 256) ∧ L ≤ 240 ∧ pl ≤ 240 ∧ kd ≤ 3
theorem Rd.kept {G : GT} {H H1 : Heap} {r : Nat} {tx : Nat → Nat} {L pl kd : Nat} (h : Rd G H r tx L pl kd) (hq : ∀ q, r ≤ q → q < r + 2 → H1[q]? = H[q]?) : Rd G H1 r tx L pl kd := by
  obtain ⟨f, h1, h2, h3⟩ := h
  exact ⟨f, h1.kept (hq _ (by omega) (by omega)), h2.kept (hq _ (by omega) (by omega)), h3⟩
/-! ===== END ===== -/

set_option maxHeartbeats 4000000 in
set_option maxRecDepth 100000 in
theorem c_X2_init {G : GT} {B : Nat} {l : Launch} {H : Heap} {k0 : Nat} (hk3 : Ob G H k0 2 [.int 0, .int 0, .int 0, .int 0, .int 0, .int 0, .null, .null, .null, .null]) (hsz : H.size = k0 + 1) (hB : B ≤ k0) : AM G B l yX2_init cX2_init 1 none 1 4 28 [.ref k0] H (fun v H' => v = none ∧ ((∀ kS kU kK kV : DD, Kt G H' k0 false 0 0 0 0 0 kS kU kK kV) ∧ H'.size = k0 + 5 ∧ ∀ q : Nat, q < k0 → H'[q]? = H[q]?)) := by
  have hZ : H.size = k0 + 1 := hsz
  have hF : ∀ q : Nat, q < k0 → H[q]? = H[q]? := fun _ _ => rfl
  refine AM.ofV (lv := [(0, .ref k0)]) (by decide +kernel) (ini := true) (fun _ => rfl) (Nat.le_of_ble_eq_true rfl) rfl ?_ (fun _ _ h => h.1)
  refine a_aload_n 0 dX2_init_0 rfl rfl ?_
  refine a_objI oi_X2_3 dX2_init_1 (Nat.le_of_ble_eq_true rfl) (Nat.le_of_ble_eq_true rfl) ?_
  refine a_aload_n 0 dX2_init_4 rfl rfl ?_
  refine a_iconst 0 dX2_init_5 (by decide) ?_
  refine a_put f_X2_9 p_X2_9 dX2_init_6 hk3 (Nat.le_of_ble_eq_true rfl) rfl rfl (by omega) (fun H1 hk3 hz1 hq1 => ?_)
  have hk3 : Ob G H1 k0 2 [.int 0, .int 0, .int 0, .int 0, .int 0, .int 0, .null, .null, .null, .null] := hk3
  have hF : ∀ q : Nat, q < k0 → H1[q]? = H[q]? := fun q hq => (hq1 q (by omega)).trans (hF q hq)
  refine a_aload_n 0 dX2_init_9 rfl rfl ?_
  refine a_iconst 0 dX2_init_10 (by decide) ?_
  refine a_put f_X2_15 p_X2_15 dX2_init_11 hk3 (Nat.le_of_ble_eq_true rfl) rfl rfl (by omega) (fun H2 hk3 hz2 hq2 => ?_)
  have hk3 : Ob G H2 k0 2 [.int 0, .int 0, .int 0, .int 0, .int 0, .int 0, .null, .null, .null, .null] := hk3
  have hF : ∀ q : Nat, q < k0 → H2[q]? = H[q]? := fun q hq => (hq2 q (by omega)).trans (hF q hq)
  refine a_aload_n 0 dX2_init_14 rfl rfl ?_
  refine a_iconst 0 dX2_init_15 (by decide) ?_
  refine a_put f_X2_19 p_X2_19 dX2_init_16 hk3 (Nat.le_of_ble_eq_true rfl) rfl rfl (by omega) (fun H3 hk3 hz3 hq3 => ?_)
  have hk3 : Ob G H3 k0 2 [.int 0, .int 0, .int 0, .int 0, .int 0, .int 0, .null, .null, .null, .null] := hk3
  have hF : ∀ q : Nat, q < k0 → H3[q]? = H[q]? := fun q hq => (hq3 q (by omega)).trans (hF q hq)
  refine a_aload_n 0 dX2_init_19 rfl rfl ?_
  refine a_iconst 0 dX2_init_20 (by decide) ?_
  refine a_put f_X2_22 p_X2_22 dX2_init_21 hk3 (Nat.le_of_ble_eq_true rfl) rfl rfl (by omega) (fun H4 hk3 hz4 hq4 => ?_)
  have hk3 : Ob G H4 k0 2 [.int 0, .int 0, .int 0, .int 0, .int 0, .int 0, .null, .null, .null, .null] := hk3
  have hF : ∀ q : Nat, q < k0 → H4[q]? = H[q]? := fun q hq => (hq4 q (by omega)).trans (hF q hq)
  refine a_aload_n 0 dX2_init_24 rfl rfl ?_
  refine a_iconst 0 dX2_init_25 (by decide) ?_
  refine a_put f_X2_25 p_X2_25 dX2_init_26 hk3 (Nat.le_of_ble_eq_true rfl) rfl rfl (by omega) (fun H5 hk3 hz5 hq5 => ?_)
  have hk3 : Ob G H5 k0 2 [.int 0, .int 0, .int 0, .int 0, .int 0, .int 0, .null, .null, .null, .null] := hk3
  have hF : ∀ q : Nat, q < k0 → H5[q]? = H[q]? := fun q hq => (hq5 q (by omega)).trans (hF q hq)
  refine a_aload_n 0 dX2_init_29 rfl rfl ?_
  refine a_iconst 0 dX2_init_30 (by decide) ?_
  refine a_put f_X2_28 p_X2_28 dX2_init_31 hk3 (Nat.le_of_ble_eq_true rfl) rfl rfl (by omega) (fun H6 hk3 hz6 hq6 => ?_)
  have hk3 : Ob G H6 k0 2 [.int 0, .int 0, .int 0, .int 0, .int 0, .int 0, .null, .null, .null, .null] := hk3
  have hF : ∀ q : Nat, q < k0 → H6[q]? = H[q]? := fun q hq => (hq6 q (by omega)).trans (hF q hq)
  refine a_aload_n 0 dX2_init_34 rfl rfl ?_
  refine a_bipush 8 dX2_init_35 (by decide) ?_
  refine a_newI (n := 8) ac_I dX2_init_37 (by decide) (Nat.le_of_ble_eq_true rfl) (Nat.le_of_ble_eq_true rfl) (fun H7 ha3 hz7 hq7 => ?_)
  have hA7 : H6.size = k0 + 1 := by omega
  rw [hA7] at ha3 hz7 hq7
  rw [hA7]
  have hk3 := hk3.kept (hq7 _ (by omega))
  have hZ : H7.size = k0 + 1 + 1 := hz7
  have hF : ∀ q : Nat, q < k0 → H7[q]? = H[q]? := fun q hq => (hq7 q (by omega)).trans (hF q hq)
  refine a_put f_X2_31 p_X2_31 dX2_init_39 hk3 (Nat.le_of_ble_eq_true rfl) rfl rfl (by omega) (fun H8 hk3 hz8 hq8 => ?_)
  have hk3 : Ob G H8 k0 2 [.int 0, .int 0, .int 0, .int 0, .int 0, .int 0, .ref (k0 + 1), .null, .null, .null] := hk3
  have ha3 := ha3.kept (hq8 _ (by omega))
  have hF : ∀ q : Nat, q < k0 → H8[q]? = H[q]? := fun q hq => (hq8 q (by omega)).trans (hF q hq)
  refine a_aload_n 0 dX2_init_42 rfl rfl ?_
  refine a_bipush 8 dX2_init_43 (by decide) ?_
  refine a_newI (n := 8) ac_I dX2_init_45 (by decide) (Nat.le_of_ble_eq_true rfl) (Nat.le_of_ble_eq_true rfl) (fun H9 hb3 hz9 hq9 => ?_)
  have hA9 : H8.size = k0 + 2 := by omega
  rw [hA9] at hb3 hz9 hq9
  rw [hA9]
  have hk3 := hk3.kept (hq9 _ (by omega))
  have ha3 := ha3.kept (hq9 _ (by omega))
  have hZ : H9.size = k0 + 2 + 1 := hz9
  have hF : ∀ q : Nat, q < k0 → H9[q]? = H[q]? := fun q hq => (hq9 q (by omega)).trans (hF q hq)
  refine a_put f_X2_35 p_X2_35 dX2_init_47 hk3 (Nat.le_of_ble_eq_true rfl) rfl rfl (by omega) (fun H10 hk3 hz10 hq10 => ?_)
  have hk3 : Ob G H10 k0 2 [.int 0, .int 0, .int 0, .int 0, .int 0, .int 0, .ref (k0 + 1), .ref (k0 + 2), .null, .null] := hk3
  have ha3 := ha3.kept (hq10 _ (by omega))
  have hb3 := hb3.kept (hq10 _ (by omega))
  have hF : ∀ q : Nat, q < k0 → H10[q]? = H[q]? := fun q hq => (hq10 q (by omega)).trans (hF q hq)
  refine a_aload_n 0 dX2_init_50 rfl rfl ?_
  refine a_bipush 8 dX2_init_51 (by decide) ?_
  refine a_newI (n := 8) ac_I dX2_init_53 (by decide) (Nat.le_of_ble_eq_true rfl) (Nat.le_of_ble_eq_true rfl) (fun H11 hc3 hz11 hq11 => ?_)
  have hA11 : H10.size = k0 + 3 := by omega
  rw [hA11] at hc3 hz11 hq11
  rw [hA11]
  have hk3 := hk3.kept (hq11 _ (by omega))
  have ha3 := ha3.kept (hq11 _ (by omega))
  have hb3 := hb3.kept (hq11 _ (by omega))
  have hZ : H11.size = k0 + 3 + 1 := hz11
  have hF : ∀ q : Nat, q < k0 → H11[q]? = H[q]? := fun q hq => (hq11 q (by omega)).trans (hF q hq)
  refine a_put f_X2_38 p_X2_38 dX2_init_55 hk3 (Nat.le_of_ble_eq_true rfl) rfl rfl (by omega) (fun H12 hk3 hz12 hq12 => ?_)
  have hk3 : Ob G H12 k0 2 [.int 0, .int 0, .int 0, .int 0, .int 0, .int 0, .ref (k0 + 1), .ref (k0 + 2), .ref (k0 + 3), .null] := hk3
  have ha3 := ha3.kept (hq12 _ (by omega))
  have hb3 := hb3.kept (hq12 _ (by omega))
  have hc3 := hc3.kept (hq12 _ (by omega))
  have hF : ∀ q : Nat, q < k0 → H12[q]? = H[q]? := fun q hq => (hq12 q (by omega)).trans (hF q hq)
  refine a_aload_n 0 dX2_init_58 rfl rfl ?_
  refine a_iconst 4 dX2_init_59 (by decide) ?_
  refine a_newI (n := 4) ac_I dX2_init_60 (by decide) (Nat.le_of_ble_eq_true rfl) (Nat.le_of_ble_eq_true rfl) (fun H13 he3 hz13 hq13 => ?_)
  have hA13 : H12.size = k0 + 4 := by omega
  rw [hA13] at he3 hz13 hq13
  rw [hA13]
  have hk3 := hk3.kept (hq13 _ (by omega))
  have ha3 := ha3.kept (hq13 _ (by omega))
  have hb3 := hb3.kept (hq13 _ (by omega))
  have hc3 := hc3.kept (hq13 _ (by omega))
  have hZ : H13.size = k0 + 4 + 1 := hz13
  have hF : ∀ q : Nat, q < k0 → H13[q]? = H[q]? := fun q hq => (hq13 q (by omega)).trans (hF q hq)
  refine a_put f_X2_41 p_X2_41 dX2_init_62 hk3 (Nat.le_of_ble_eq_true rfl) rfl rfl (by omega) (fun H14 hk3 hz14 hq14 => ?_)
  have hk3 : Ob G H14 k0 2 [.int 0, .int 0, .int 0, .int 0, .int 0, .int 0, .ref (k0 + 1), .ref (k0 + 2), .ref (k0 + 3), .ref (k0 + 4)] := hk3
  have ha3 := ha3.kept (hq14 _ (by omega))
  have hb3 := hb3.kept (hq14 _ (by omega))
  have hc3 := hc3.kept (hq14 _ (by omega))
  have he3 := he3.kept (hq14 _ (by omega))
  have hF : ∀ q : Nat, q < k0 → H14[q]? = H[q]? := fun q hq => (hq14 q (by omega)).trans (hF q hq)
  refine a_retv dX2_init_65 ⟨⟨rfl, ?_⟩, rfl, rfl⟩
  · exact ⟨fun kS kU kK kV => ⟨_, _, _, _, hk3, ha3, hb3, hc3, he3, fun i hi => absurd hi (Nat.not_lt_zero _), fun i hi => absurd hi (Nat.not_lt_zero _), fun i hi => absurd hi (Nat.not_lt_zero _), fun i hi => absurd hi (Nat.not_lt_zero _), by decide, by decide⟩, by omega, hF⟩
set_option maxHeartbeats 4000000 in
set_option maxRecDepth 100000 in
theorem c_X2_empty {G : GT} {B : Nat} {l : Launch} {H : Heap} {k0 : Nat} {kb : Bool} {ka ks kw : Int32} {n nv : Nat} {kS kU kK kV : DD} (hK : Kt G H k0 kb ka ks kw n nv kS kU kK kV) (hB : B ≤ k0) : AM G B l yX2_empty cX2_empty 1 none 0 0 0 [.ref k0] H (fun v H' => v = none ∧ (Kt G H' k0 false 0 0 0 0 0 kS kU kK kV ∧ ∀ q : Nat, ¬ (k0 ≤ q ∧ q < k0 + 5) → H'[q]? = H[q]?)) := by
  obtain ⟨fS3, fU3, fK3, fV3, hk3, ha3, hb3, hc3, he3, eS3, eU3, eK3, eV3, hn3, hnv3⟩ := hK
  have hF : ∀ q : Nat, ¬ (k0 ≤ q ∧ q < k0 + 5) → H[q]? = H[q]? := fun _ _ => rfl
  refine AM.ofV (lv := [(0, .ref k0)]) (by decide +kernel) (ini := false) (fun h => by cases h) (Nat.le_of_ble_eq_true rfl) rfl ?_ (fun _ _ h => h.1)
  refine a_aload_n 0 dX2_empty_0 rfl rfl ?_
  refine a_iconst 0 dX2_empty_1 (by decide) ?_
  refine a_put f_X2_9 p_X2_9 dX2_empty_2 hk3 (Nat.le_of_ble_eq_true rfl) rfl rfl (by omega) (fun H1 hk3 hz1 hq1 => ?_)
  have hk3 : Ob G H1 k0 2 [.int 0, .int ka, .int ks, .int kw, .int (nI n), .int (nI nv), .ref (k0 + 1), .ref (k0 + 2), .ref (k0 + 3), .ref (k0 + 4)] := hk3
  have ha3 := ha3.kept (hq1 _ (by omega))
  have hb3 := hb3.kept (hq1 _ (by omega))
  have hc3 := hc3.kept (hq1 _ (by omega))
  have he3 := he3.kept (hq1 _ (by omega))
  have hF : ∀ q : Nat, ¬ (k0 ≤ q ∧ q < k0 + 5) → H1[q]? = H[q]? := fun q hq => (hq1 q (by omega)).trans (hF q hq)
  refine a_aload_n 0 dX2_empty_5 rfl rfl ?_
  refine a_iconst 0 dX2_empty_6 (by decide) ?_
  refine a_put f_X2_15 p_X2_15 dX2_empty_7 hk3 (Nat.le_of_ble_eq_true rfl) rfl rfl (by omega) (fun H2 hk3 hz2 hq2 => ?_)
  have hk3 : Ob G H2 k0 2 [.int 0, .int 0, .int ks, .int kw, .int (nI n), .int (nI nv), .ref (k0 + 1), .ref (k0 + 2), .ref (k0 + 3), .ref (k0 + 4)] := hk3
  have ha3 := ha3.kept (hq2 _ (by omega))
  have hb3 := hb3.kept (hq2 _ (by omega))
  have hc3 := hc3.kept (hq2 _ (by omega))
  have he3 := he3.kept (hq2 _ (by omega))
  have hF : ∀ q : Nat, ¬ (k0 ≤ q ∧ q < k0 + 5) → H2[q]? = H[q]? := fun q hq => (hq2 q (by omega)).trans (hF q hq)
  refine a_aload_n 0 dX2_empty_10 rfl rfl ?_
  refine a_iconst 0 dX2_empty_11 (by decide) ?_
  refine a_put f_X2_19 p_X2_19 dX2_empty_12 hk3 (Nat.le_of_ble_eq_true rfl) rfl rfl (by omega) (fun H3 hk3 hz3 hq3 => ?_)
  have hk3 : Ob G H3 k0 2 [.int 0, .int 0, .int 0, .int kw, .int (nI n), .int (nI nv), .ref (k0 + 1), .ref (k0 + 2), .ref (k0 + 3), .ref (k0 + 4)] := hk3
  have ha3 := ha3.kept (hq3 _ (by omega))
  have hb3 := hb3.kept (hq3 _ (by omega))
  have hc3 := hc3.kept (hq3 _ (by omega))
  have he3 := he3.kept (hq3 _ (by omega))
  have hF : ∀ q : Nat, ¬ (k0 ≤ q ∧ q < k0 + 5) → H3[q]? = H[q]? := fun q hq => (hq3 q (by omega)).trans (hF q hq)
  refine a_aload_n 0 dX2_empty_15 rfl rfl ?_
  refine a_iconst 0 dX2_empty_16 (by decide) ?_
  refine a_put f_X2_22 p_X2_22 dX2_empty_17 hk3 (Nat.le_of_ble_eq_true rfl) rfl rfl (by omega) (fun H4 hk3 hz4 hq4 => ?_)
  have hk3 : Ob G H4 k0 2 [.int 0, .int 0, .int 0, .int 0, .int (nI n), .int (nI nv), .ref (k0 + 1), .ref (k0 + 2), .ref (k0 + 3), .ref (k0 + 4)] := hk3
  have ha3 := ha3.kept (hq4 _ (by omega))
  have hb3 := hb3.kept (hq4 _ (by omega))
  have hc3 := hc3.kept (hq4 _ (by omega))
  have he3 := he3.kept (hq4 _ (by omega))
  have hF : ∀ q : Nat, ¬ (k0 ≤ q ∧ q < k0 + 5) → H4[q]? = H[q]? := fun q hq => (hq4 q (by omega)).trans (hF q hq)
  refine a_aload_n 0 dX2_empty_20 rfl rfl ?_
  refine a_iconst 0 dX2_empty_21 (by decide) ?_
  refine a_put f_X2_25 p_X2_25 dX2_empty_22 hk3 (Nat.le_of_ble_eq_true rfl) rfl rfl (by omega) (fun H5 hk3 hz5 hq5 => ?_)
  have hk3 : Ob G H5 k0 2 [.int 0, .int 0, .int 0, .int 0, .int 0, .int (nI nv), .ref (k0 + 1), .ref (k0 + 2), .ref (k0 + 3), .ref (k0 + 4)] := hk3
  have ha3 := ha3.kept (hq5 _ (by omega))
  have hb3 := hb3.kept (hq5 _ (by omega))
  have hc3 := hc3.kept (hq5 _ (by omega))
  have he3 := he3.kept (hq5 _ (by omega))
  have hF : ∀ q : Nat, ¬ (k0 ≤ q ∧ q < k0 + 5) → H5[q]? = H[q]? := fun q hq => (hq5 q (by omega)).trans (hF q hq)
  refine a_aload_n 0 dX2_empty_25 rfl rfl ?_
  refine a_iconst 0 dX2_empty_26 (by decide) ?_
  refine a_put f_X2_28 p_X2_28 dX2_empty_27 hk3 (Nat.le_of_ble_eq_true rfl) rfl rfl (by omega) (fun H6 hk3 hz6 hq6 => ?_)
  have hk3 : Ob G H6 k0 2 [.int 0, .int 0, .int 0, .int 0, .int 0, .int 0, .ref (k0 + 1), .ref (k0 + 2), .ref (k0 + 3), .ref (k0 + 4)] := hk3
  have ha3 := ha3.kept (hq6 _ (by omega))
  have hb3 := hb3.kept (hq6 _ (by omega))
  have hc3 := hc3.kept (hq6 _ (by omega))
  have he3 := he3.kept (hq6 _ (by omega))
  have hF : ∀ q : Nat, ¬ (k0 ≤ q ∧ q < k0 + 5) → H6[q]? = H[q]? := fun q hq => (hq6 q (by omega)).trans (hF q hq)
  refine a_retv dX2_empty_30 ⟨⟨rfl, ?_⟩, rfl, rfl⟩
  · exact ⟨⟨_, _, _, _, hk3, ha3, hb3, hc3, he3, fun i hi => absurd hi (Nat.not_lt_zero _), fun i hi => absurd hi (Nat.not_lt_zero _), fun i hi => absurd hi (Nat.not_lt_zero _), fun i hi => absurd hi (Nat.not_lt_zero _), by decide, by decide⟩, hF⟩
set_option maxHeartbeats 4000000 in
set_option maxRecDepth 100000 in
theorem c_X2_setBox {G : GT} {B : Nat} {l : Launch} {H : Heap} {k0 : Nat} {kb : Bool} {ka ks kw : Int32} {n nv : Nat} {kS kU kK kV : DD} {a s w : Int32} (hK : Kt G H k0 kb ka ks kw n nv kS kU kK kV) (hB : B ≤ k0) : AM G B l yX2_setBox cX2_setBox 4 none 0 0 0 [.ref k0, .int a, .int s, .int w] H (fun v H' => v = none ∧ (Kt G H' k0 true a s w n nv kS kU kK kV ∧ ∀ q : Nat, ¬ (k0 ≤ q ∧ q < k0 + 5) → H'[q]? = H[q]?)) := by
  obtain ⟨fS3, fU3, fK3, fV3, hk3, ha3, hb3, hc3, he3, eS3, eU3, eK3, eV3, hn3, hnv3⟩ := hK
  have hF : ∀ q : Nat, ¬ (k0 ≤ q ∧ q < k0 + 5) → H[q]? = H[q]? := fun _ _ => rfl
  refine AM.ofV (lv := [(0, .ref k0), (1, .int a), (2, .int s), (3, .int w)]) (by decide +kernel) (ini := false) (fun h => by cases h) (Nat.le_of_ble_eq_true rfl) rfl ?_ (fun _ _ h => h.1)
  refine a_aload_n 0 dX2_setBox_0 rfl rfl ?_
  refine a_iconst 1 dX2_setBox_1 (by decide) ?_
  refine a_put f_X2_9 p_X2_9 dX2_setBox_2 hk3 (Nat.le_of_ble_eq_true rfl) rfl rfl (by omega) (fun H1 hk3 hz1 hq1 => ?_)
  have hk3 : Ob G H1 k0 2 [.int 1, .int ka, .int ks, .int kw, .int (nI n), .int (nI nv), .ref (k0 + 1), .ref (k0 + 2), .ref (k0 + 3), .ref (k0 + 4)] := hk3
  have ha3 := ha3.kept (hq1 _ (by omega))
  have hb3 := hb3.kept (hq1 _ (by omega))
  have hc3 := hc3.kept (hq1 _ (by omega))
  have he3 := he3.kept (hq1 _ (by omega))
  have hF : ∀ q : Nat, ¬ (k0 ≤ q ∧ q < k0 + 5) → H1[q]? = H[q]? := fun q hq => (hq1 q (by omega)).trans (hF q hq)
  refine a_aload_n 0 dX2_setBox_5 rfl rfl ?_
  refine a_iload_n 1 dX2_setBox_6 rfl rfl ?_
  refine a_put f_X2_15 p_X2_15 dX2_setBox_7 hk3 (Nat.le_of_ble_eq_true rfl) rfl rfl (by omega) (fun H2 hk3 hz2 hq2 => ?_)
  have hk3 : Ob G H2 k0 2 [.int 1, .int a, .int ks, .int kw, .int (nI n), .int (nI nv), .ref (k0 + 1), .ref (k0 + 2), .ref (k0 + 3), .ref (k0 + 4)] := hk3
  have ha3 := ha3.kept (hq2 _ (by omega))
  have hb3 := hb3.kept (hq2 _ (by omega))
  have hc3 := hc3.kept (hq2 _ (by omega))
  have he3 := he3.kept (hq2 _ (by omega))
  have hF : ∀ q : Nat, ¬ (k0 ≤ q ∧ q < k0 + 5) → H2[q]? = H[q]? := fun q hq => (hq2 q (by omega)).trans (hF q hq)
  refine a_aload_n 0 dX2_setBox_10 rfl rfl ?_
  refine a_iload_n 2 dX2_setBox_11 rfl rfl ?_
  refine a_put f_X2_19 p_X2_19 dX2_setBox_12 hk3 (Nat.le_of_ble_eq_true rfl) rfl rfl (by omega) (fun H3 hk3 hz3 hq3 => ?_)
  have hk3 : Ob G H3 k0 2 [.int 1, .int a, .int s, .int kw, .int (nI n), .int (nI nv), .ref (k0 + 1), .ref (k0 + 2), .ref (k0 + 3), .ref (k0 + 4)] := hk3
  have ha3 := ha3.kept (hq3 _ (by omega))
  have hb3 := hb3.kept (hq3 _ (by omega))
  have hc3 := hc3.kept (hq3 _ (by omega))
  have he3 := he3.kept (hq3 _ (by omega))
  have hF : ∀ q : Nat, ¬ (k0 ≤ q ∧ q < k0 + 5) → H3[q]? = H[q]? := fun q hq => (hq3 q (by omega)).trans (hF q hq)
  refine a_aload_n 0 dX2_setBox_15 rfl rfl ?_
  refine a_iload_n 3 dX2_setBox_16 rfl rfl ?_
  refine a_put f_X2_22 p_X2_22 dX2_setBox_17 hk3 (Nat.le_of_ble_eq_true rfl) rfl rfl (by omega) (fun H4 hk3 hz4 hq4 => ?_)
  have hk3 : Ob G H4 k0 2 [.int 1, .int a, .int s, .int w, .int (nI n), .int (nI nv), .ref (k0 + 1), .ref (k0 + 2), .ref (k0 + 3), .ref (k0 + 4)] := hk3
  have ha3 := ha3.kept (hq4 _ (by omega))
  have hb3 := hb3.kept (hq4 _ (by omega))
  have hc3 := hc3.kept (hq4 _ (by omega))
  have he3 := he3.kept (hq4 _ (by omega))
  have hF : ∀ q : Nat, ¬ (k0 ≤ q ∧ q < k0 + 5) → H4[q]? = H[q]? := fun q hq => (hq4 q (by omega)).trans (hF q hq)
  refine a_retv dX2_setBox_20 ⟨⟨rfl, ?_⟩, rfl, rfl⟩
  · exact ⟨⟨_, _, _, _, hk3, ha3, hb3, hc3, he3, eS3, eU3, eK3, eV3, hn3, hnv3⟩, hF⟩
set_option maxHeartbeats 4000000 in
set_option maxRecDepth 100000 in
theorem c_X2_addWord {G : GT} {B : Nat} {l : Launch} {H : Heap} {k0 : Nat} {kb : Bool} {ka ks kw : Int32} {n nv : Nat} {kS kU kK kV : DD} {a s w : Int32} (hK : Kt G H k0 kb ka ks kw n nv kS kU kK kV) (hn8 : n < 8) (hB : B ≤ k0) : AM G B l yX2_addWord cX2_addWord 4 none 0 0 0 [.ref k0, .int a, .int s, .int w] H (fun v H' => v = none ∧ (Kt G H' k0 kb ka ks kw (n + 1) nv (upd kS n a) (upd kU n s) (upd kK n w) kV ∧ ∀ q : Nat, ¬ (k0 ≤ q ∧ q < k0 + 5) → H'[q]? = H[q]?)) := by
  obtain ⟨fS3, fU3, fK3, fV3, hk3, ha3, hb3, hc3, he3, eS3, eU3, eK3, eV3, hn3, hnv3⟩ := hK
  have hF : ∀ q : Nat, ¬ (k0 ≤ q ∧ q < k0 + 5) → H[q]? = H[q]? := fun _ _ => rfl
  refine AM.ofV (lv := [(0, .ref k0), (1, .int a), (2, .int s), (3, .int w)]) (by decide +kernel) (ini := false) (fun h => by cases h) (Nat.le_of_ble_eq_true rfl) rfl ?_ (fun _ _ h => h.1)
  refine a_aload_n 0 dX2_addWord_0 rfl rfl ?_
  refine a_get f_X2_25 dX2_addWord_1 hk3 rfl ?_
  refine a_bipush 8 dX2_addWord_4 (by decide) ?_
  refine a_icmpgeN (a := n) (b := 8) 49 dX2_addWord_6 (by decide) (by omega) (by omega) (fun c6 => ?_) (fun c6 => ?_)
  · skip
    omega
  · skip
    refine a_aload_n 0 dX2_addWord_9 rfl rfl ?_
    refine a_get f_X2_31 dX2_addWord_10 hk3 rfl ?_
    refine a_aload_n 0 dX2_addWord_13 rfl rfl ?_
    refine a_get f_X2_25 dX2_addWord_14 hk3 rfl ?_
    refine a_iload_n 1 dX2_addWord_17 rfl rfl ?_
    refine a_iastN (j := n) dX2_addWord_18 ha3 (by omega) (by decide) (by omega) (fun H1 ha3 hz1 hq1 => ?_)
    have ha3 : Ai G H1 (k0 + 1) 8 (upd fS3 n a) := ha3
    have hk3 := hk3.kept (hq1 _ (by omega))
    have hb3 := hb3.kept (hq1 _ (by omega))
    have hc3 := hc3.kept (hq1 _ (by omega))
    have he3 := he3.kept (hq1 _ (by omega))
    have hF : ∀ q : Nat, ¬ (k0 ≤ q ∧ q < k0 + 5) → H1[q]? = H[q]? := fun q hq => (hq1 q (by omega)).trans (hF q hq)
    refine a_aload_n 0 dX2_addWord_19 rfl rfl ?_
    refine a_get f_X2_35 dX2_addWord_20 hk3 rfl ?_
    refine a_aload_n 0 dX2_addWord_23 rfl rfl ?_
    refine a_get f_X2_25 dX2_addWord_24 hk3 rfl ?_
    refine a_iload_n 2 dX2_addWord_27 rfl rfl ?_
    refine a_iastN (j := n) dX2_addWord_28 hb3 (by omega) (by decide) (by omega) (fun H2 hb3 hz2 hq2 => ?_)
    have hb3 : Ai G H2 (k0 + 2) 8 (upd fU3 n s) := hb3
    have hk3 := hk3.kept (hq2 _ (by omega))
    have ha3 := ha3.kept (hq2 _ (by omega))
    have hc3 := hc3.kept (hq2 _ (by omega))
    have he3 := he3.kept (hq2 _ (by omega))
    have hF : ∀ q : Nat, ¬ (k0 ≤ q ∧ q < k0 + 5) → H2[q]? = H[q]? := fun q hq => (hq2 q (by omega)).trans (hF q hq)
    refine a_aload_n 0 dX2_addWord_29 rfl rfl ?_
    refine a_get f_X2_38 dX2_addWord_30 hk3 rfl ?_
    refine a_aload_n 0 dX2_addWord_33 rfl rfl ?_
    refine a_get f_X2_25 dX2_addWord_34 hk3 rfl ?_
    refine a_iload_n 3 dX2_addWord_37 rfl rfl ?_
    refine a_iastN (j := n) dX2_addWord_38 hc3 (by omega) (by decide) (by omega) (fun H3 hc3 hz3 hq3 => ?_)
    have hc3 : Ai G H3 (k0 + 3) 8 (upd fK3 n w) := hc3
    have hk3 := hk3.kept (hq3 _ (by omega))
    have ha3 := ha3.kept (hq3 _ (by omega))
    have hb3 := hb3.kept (hq3 _ (by omega))
    have he3 := he3.kept (hq3 _ (by omega))
    have hF : ∀ q : Nat, ¬ (k0 ≤ q ∧ q < k0 + 5) → H3[q]? = H[q]? := fun q hq => (hq3 q (by omega)).trans (hF q hq)
    refine a_aload_n 0 dX2_addWord_39 rfl rfl ?_
    refine a_dup dX2_addWord_40 rfl ?_
    refine a_get f_X2_25 dX2_addWord_41 hk3 rfl ?_
    refine a_iconst 1 dX2_addWord_44 (by decide) ?_
    refine a_iaddN (a := n) (b := 1) dX2_addWord_45 ?_
    refine a_put f_X2_25 p_X2_25 dX2_addWord_46 hk3 (Nat.le_of_ble_eq_true rfl) rfl rfl (by omega) (fun H4 hk3 hz4 hq4 => ?_)
    have hk3 : Ob G H4 k0 2 [.int (bI kb), .int ka, .int ks, .int kw, .int (nI (n + 1)), .int (nI nv), .ref (k0 + 1), .ref (k0 + 2), .ref (k0 + 3), .ref (k0 + 4)] := hk3
    have ha3 := ha3.kept (hq4 _ (by omega))
    have hb3 := hb3.kept (hq4 _ (by omega))
    have hc3 := hc3.kept (hq4 _ (by omega))
    have he3 := he3.kept (hq4 _ (by omega))
    have hF : ∀ q : Nat, ¬ (k0 ≤ q ∧ q < k0 + 5) → H4[q]? = H[q]? := fun q hq => (hq4 q (by omega)).trans (hF q hq)
    refine a_retv dX2_addWord_49 ⟨⟨rfl, ?_⟩, rfl, rfl⟩
    · refine ⟨⟨_, _, _, _, hk3, ha3, hb3, hc3, he3, upd_to (fun i hi => ?_) ?_, upd_to (fun i hi => ?_) ?_, upd_to (fun i hi => ?_) ?_, eV3, by omega, hnv3⟩, hF⟩
      all_goals simp only [upd]
      all_goals repeat' split
      all_goals first | omega | rfl | exact eS3 _ hi | exact eU3 _ hi | exact eK3 _ hi | contradiction
set_option maxHeartbeats 4000000 in
set_option maxRecDepth 100000 in
theorem c_X2_addVoice {G : GT} {B : Nat} {l : Launch} {H : Heap} {k0 : Nat} {kb : Bool} {ka ks kw : Int32} {n nv : Nat} {kS kU kK kV : DD} {a : Int32} (hK : Kt G H k0 kb ka ks kw n nv kS kU kK kV) (hn4 : nv < 4) (hB : B ≤ k0) : AM G B l yX2_addVoice cX2_addVoice 2 none 0 0 0 [.ref k0, .int a] H (fun v H' => v = none ∧ (Kt G H' k0 kb ka ks kw n (nv + 1) kS kU kK (upd kV nv a) ∧ ∀ q : Nat, ¬ (k0 ≤ q ∧ q < k0 + 5) → H'[q]? = H[q]?)) := by
  obtain ⟨fS3, fU3, fK3, fV3, hk3, ha3, hb3, hc3, he3, eS3, eU3, eK3, eV3, hn3, hnv3⟩ := hK
  have hF : ∀ q : Nat, ¬ (k0 ≤ q ∧ q < k0 + 5) → H[q]? = H[q]? := fun _ _ => rfl
  refine AM.ofV (lv := [(0, .ref k0), (1, .int a)]) (by decide +kernel) (ini := false) (fun h => by cases h) (Nat.le_of_ble_eq_true rfl) rfl ?_ (fun _ _ h => h.1)
  refine a_aload_n 0 dX2_addVoice_0 rfl rfl ?_
  refine a_get f_X2_28 dX2_addVoice_1 hk3 rfl ?_
  refine a_iconst 4 dX2_addVoice_4 (by decide) ?_
  refine a_icmpgeN (a := nv) (b := 4) 28 dX2_addVoice_5 (by decide) (by omega) (by omega) (fun c5 => ?_) (fun c5 => ?_)
  · skip
    omega
  · skip
    refine a_aload_n 0 dX2_addVoice_8 rfl rfl ?_
    refine a_get f_X2_41 dX2_addVoice_9 hk3 rfl ?_
    refine a_aload_n 0 dX2_addVoice_12 rfl rfl ?_
    refine a_get f_X2_28 dX2_addVoice_13 hk3 rfl ?_
    refine a_iload_n 1 dX2_addVoice_16 rfl rfl ?_
    refine a_iastN (j := nv) dX2_addVoice_17 he3 (by omega) (by decide) (by omega) (fun H1 he3 hz1 hq1 => ?_)
    have he3 : Ai G H1 (k0 + 4) 4 (upd fV3 nv a) := he3
    have hk3 := hk3.kept (hq1 _ (by omega))
    have ha3 := ha3.kept (hq1 _ (by omega))
    have hb3 := hb3.kept (hq1 _ (by omega))
    have hc3 := hc3.kept (hq1 _ (by omega))
    have hF : ∀ q : Nat, ¬ (k0 ≤ q ∧ q < k0 + 5) → H1[q]? = H[q]? := fun q hq => (hq1 q (by omega)).trans (hF q hq)
    refine a_aload_n 0 dX2_addVoice_18 rfl rfl ?_
    refine a_dup dX2_addVoice_19 rfl ?_
    refine a_get f_X2_28 dX2_addVoice_20 hk3 rfl ?_
    refine a_iconst 1 dX2_addVoice_23 (by decide) ?_
    refine a_iaddN (a := nv) (b := 1) dX2_addVoice_24 ?_
    refine a_put f_X2_28 p_X2_28 dX2_addVoice_25 hk3 (Nat.le_of_ble_eq_true rfl) rfl rfl (by omega) (fun H2 hk3 hz2 hq2 => ?_)
    have hk3 : Ob G H2 k0 2 [.int (bI kb), .int ka, .int ks, .int kw, .int (nI n), .int (nI (nv + 1)), .ref (k0 + 1), .ref (k0 + 2), .ref (k0 + 3), .ref (k0 + 4)] := hk3
    have ha3 := ha3.kept (hq2 _ (by omega))
    have hb3 := hb3.kept (hq2 _ (by omega))
    have hc3 := hc3.kept (hq2 _ (by omega))
    have he3 := he3.kept (hq2 _ (by omega))
    have hF : ∀ q : Nat, ¬ (k0 ≤ q ∧ q < k0 + 5) → H2[q]? = H[q]? := fun q hq => (hq2 q (by omega)).trans (hF q hq)
    refine a_retv dX2_addVoice_28 ⟨⟨rfl, ?_⟩, rfl, rfl⟩
    · refine ⟨⟨_, _, _, _, hk3, ha3, hb3, hc3, he3, eS3, eU3, eK3, upd_to (fun i hi => ?_) ?_, hn3, by omega⟩, hF⟩
      all_goals simp only [upd]
      all_goals repeat' split
      all_goals first | omega | rfl | exact eV3 _ hi | contradiction
set_option maxHeartbeats 4000000 in
set_option maxRecDepth 100000 in
theorem c_X3_clear {G : GT} {B : Nat} {l : Launch} {H : Heap} {p cap ct : Nat} {P Q : DD} (hPr : Pr G H p cap ct P Q) (hB : B ≤ p) : AM G B l yX3_clear cX3_clear 1 none 0 0 0 [.ref p] H (fun v H' => v = none ∧ ((∀ P' Q' : DD, Pr G H' p cap 0 P' Q') ∧ ∀ q : Nat, ¬ (p ≤ q ∧ q < p + 3) → H'[q]? = H[q]?)) := by
  obtain ⟨fA, fB, hp, hpa, hpb, eA, eB, hct, hcap⟩ := hPr
  have hF : ∀ q : Nat, ¬ (p ≤ q ∧ q < p + 3) → H[q]? = H[q]? := fun _ _ => rfl
  refine AM.ofV (lv := [(0, .ref p)]) (by decide +kernel) (ini := false) (fun h => by cases h) (Nat.le_of_ble_eq_true rfl) rfl ?_ (fun _ _ h => h.1)
  refine a_aload_n 0 dX3_clear_0 rfl rfl ?_
  refine a_iconst 0 dX3_clear_1 (by decide) ?_
  refine a_put f_X3_7 p_X3_7 dX3_clear_2 hp (Nat.le_of_ble_eq_true rfl) rfl rfl (by omega) (fun H1 hp hz1 hq1 => ?_)
  have hp : Ob G H1 p 3 [.ref (p + 1), .ref (p + 2), .int 0] := hp
  have hpa := hpa.kept (hq1 _ (by omega))
  have hpb := hpb.kept (hq1 _ (by omega))
  have hF : ∀ q : Nat, ¬ (p ≤ q ∧ q < p + 3) → H1[q]? = H[q]? := fun q hq => (hq1 q (by omega)).trans (hF q hq)
  refine a_retv dX3_clear_5 ⟨⟨rfl, ?_⟩, rfl, rfl⟩
  · exact ⟨fun _ _ => ⟨_, _, hp, hpa, hpb, fun i hi => absurd hi (Nat.not_lt_zero _), fun i hi => absurd hi (Nat.not_lt_zero _), by omega, hcap⟩, hF⟩
set_option maxHeartbeats 4000000 in
set_option maxRecDepth 100000 in
theorem c_X3_init6 {G : GT} {B : Nat} {l : Launch} {H : Heap} {p : Nat} (hp : Ob G H p 3 [.null, .null, .int 0]) (hsz : H.size = p + 1) (hB : B ≤ p) : AM G B l yX3_init cX3_init 3 none 1 2 12 [.ref p, .int (nI 6)] H (fun v H' => v = none ∧ ((∀ P' Q' : DD, Pr G H' p 6 0 P' Q') ∧ H'.size = p + 3 ∧ ∀ q : Nat, q < p → H'[q]? = H[q]?)) := by
  have hZ : H.size = p + 1 := hsz
  have hF : ∀ q : Nat, q < p → H[q]? = H[q]? := fun _ _ => rfl
  refine AM.ofV (lv := [(0, .ref p), (1, .int (nI 6))]) (by decide +kernel) (ini := true) (fun _ => rfl) (Nat.le_of_ble_eq_true rfl) rfl ?_ (fun _ _ h => h.1)
  refine a_aload_n 0 dX3_init_0 rfl rfl ?_
  refine a_objI oi_X3_1 dX3_init_1 (Nat.le_of_ble_eq_true rfl) (Nat.le_of_ble_eq_true rfl) ?_
  refine a_aload_n 0 dX3_init_4 rfl rfl ?_
  refine a_iconst 0 dX3_init_5 (by decide) ?_
  refine a_put f_X3_7 p_X3_7 dX3_init_6 hp (Nat.le_of_ble_eq_true rfl) rfl rfl (by omega) (fun H1 hp hz1 hq1 => ?_)
  have hp : Ob G H1 p 3 [.null, .null, .int 0] := hp
  have hF : ∀ q : Nat, q < p → H1[q]? = H[q]? := fun q hq => (hq1 q (by omega)).trans (hF q hq)
  refine a_iload_n 1 dX3_init_9 rfl rfl ?_
  refine a_iconst 0 dX3_init_10 (by decide) ?_
  refine a_max ml_X3_13 dX3_init_11 (Nat.le_of_ble_eq_true rfl) (Nat.le_of_ble_eq_true rfl) ⟨Nat.le_of_ble_eq_true rfl, Nat.le_of_ble_eq_true rfl⟩ ?_
  refine a_toeq (nI 6) (by decide) ?_
  refine a_istore_n (lv' := [(2, .int (nI 6)), (0, .ref p), (1, .int (nI 6))]) dX3_init_14 rfl (by decide) rfl ?_
  refine a_aload_n 1 dX3_init_15 rfl rfl ?_
  refine a_iload_n 0 dX3_init_16 rfl rfl ?_
  refine a_newI (n := 6) ac_I dX3_init_17 (by decide) (Nat.le_of_ble_eq_true rfl) (Nat.le_of_ble_eq_true rfl) (fun H2 hpa hz2 hq2 => ?_)
  have hA2 : H1.size = p + 1 := by omega
  rw [hA2] at hpa hz2 hq2
  rw [hA2]
  have hp := hp.kept (hq2 _ (by omega))
  have hZ : H2.size = p + 1 + 1 := hz2
  have hF : ∀ q : Nat, q < p → H2[q]? = H[q]? := fun q hq => (hq2 q (by omega)).trans (hF q hq)
  refine a_put f_X3_19 p_X3_19 dX3_init_19 hp (Nat.le_of_ble_eq_true rfl) rfl rfl (by omega) (fun H3 hp hz3 hq3 => ?_)
  have hp : Ob G H3 p 3 [.ref (p + 1), .null, .int 0] := hp
  have hpa := hpa.kept (hq3 _ (by omega))
  have hF : ∀ q : Nat, q < p → H3[q]? = H[q]? := fun q hq => (hq3 q (by omega)).trans (hF q hq)
  refine a_aload_n 1 dX3_init_22 rfl rfl ?_
  refine a_iload_n 0 dX3_init_23 rfl rfl ?_
  refine a_newI (n := 6) ac_I dX3_init_24 (by decide) (Nat.le_of_ble_eq_true rfl) (Nat.le_of_ble_eq_true rfl) (fun H4 hpb hz4 hq4 => ?_)
  have hA4 : H3.size = p + 2 := by omega
  rw [hA4] at hpb hz4 hq4
  rw [hA4]
  have hp := hp.kept (hq4 _ (by omega))
  have hpa := hpa.kept (hq4 _ (by omega))
  have hZ : H4.size = p + 2 + 1 := hz4
  have hF : ∀ q : Nat, q < p → H4[q]? = H[q]? := fun q hq => (hq4 q (by omega)).trans (hF q hq)
  refine a_put f_X3_23 p_X3_23 dX3_init_26 hp (Nat.le_of_ble_eq_true rfl) rfl rfl (by omega) (fun H5 hp hz5 hq5 => ?_)
  have hp : Ob G H5 p 3 [.ref (p + 1), .ref (p + 2), .int 0] := hp
  have hpa := hpa.kept (hq5 _ (by omega))
  have hpb := hpb.kept (hq5 _ (by omega))
  have hF : ∀ q : Nat, q < p → H5[q]? = H[q]? := fun q hq => (hq5 q (by omega)).trans (hF q hq)
  refine a_retv dX3_init_29 ⟨⟨rfl, ?_⟩, rfl, rfl⟩
  · exact ⟨fun _ _ => ⟨_, _, hp, hpa, hpb, fun i hi => absurd hi (Nat.not_lt_zero _), fun i hi => absurd hi (Nat.not_lt_zero _), by decide, by decide⟩, by omega, hF⟩
set_option maxHeartbeats 4000000 in
set_option maxRecDepth 100000 in
theorem c_X3_init15 {G : GT} {B : Nat} {l : Launch} {H : Heap} {p : Nat} (hp : Ob G H p 3 [.null, .null, .int 0]) (hsz : H.size = p + 1) (hB : B ≤ p) : AM G B l yX3_init cX3_init 3 none 1 2 30 [.ref p, .int (nI 15)] H (fun v H' => v = none ∧ ((∀ P' Q' : DD, Pr G H' p 15 0 P' Q') ∧ H'.size = p + 3 ∧ ∀ q : Nat, q < p → H'[q]? = H[q]?)) := by
  have hZ : H.size = p + 1 := hsz
  have hF : ∀ q : Nat, q < p → H[q]? = H[q]? := fun _ _ => rfl
  refine AM.ofV (lv := [(0, .ref p), (1, .int (nI 15))]) (by decide +kernel) (ini := true) (fun _ => rfl) (Nat.le_of_ble_eq_true rfl) rfl ?_ (fun _ _ h => h.1)
  refine a_aload_n 0 dX3_init_0 rfl rfl ?_
  refine a_objI oi_X3_1 dX3_init_1 (Nat.le_of_ble_eq_true rfl) (Nat.le_of_ble_eq_true rfl) ?_
  refine a_aload_n 0 dX3_init_4 rfl rfl ?_
  refine a_iconst 0 dX3_init_5 (by decide) ?_
  refine a_put f_X3_7 p_X3_7 dX3_init_6 hp (Nat.le_of_ble_eq_true rfl) rfl rfl (by omega) (fun H1 hp hz1 hq1 => ?_)
  have hp : Ob G H1 p 3 [.null, .null, .int 0] := hp
  have hF : ∀ q : Nat, q < p → H1[q]? = H[q]? := fun q hq => (hq1 q (by omega)).trans (hF q hq)
  refine a_iload_n 1 dX3_init_9 rfl rfl ?_
  refine a_iconst 0 dX3_init_10 (by decide) ?_
  refine a_max ml_X3_13 dX3_init_11 (Nat.le_of_ble_eq_true rfl) (Nat.le_of_ble_eq_true rfl) ⟨Nat.le_of_ble_eq_true rfl, Nat.le_of_ble_eq_true rfl⟩ ?_
  refine a_toeq (nI 15) (by decide) ?_
  refine a_istore_n (lv' := [(2, .int (nI 15)), (0, .ref p), (1, .int (nI 15))]) dX3_init_14 rfl (by decide) rfl ?_
  refine a_aload_n 1 dX3_init_15 rfl rfl ?_
  refine a_iload_n 0 dX3_init_16 rfl rfl ?_
  refine a_newI (n := 15) ac_I dX3_init_17 (by decide) (Nat.le_of_ble_eq_true rfl) (Nat.le_of_ble_eq_true rfl) (fun H2 hpa hz2 hq2 => ?_)
  have hA2 : H1.size = p + 1 := by omega
  rw [hA2] at hpa hz2 hq2
  rw [hA2]
  have hp := hp.kept (hq2 _ (by omega))
  have hZ : H2.size = p + 1 + 1 := hz2
  have hF : ∀ q : Nat, q < p → H2[q]? = H[q]? := fun q hq => (hq2 q (by omega)).trans (hF q hq)
  refine a_put f_X3_19 p_X3_19 dX3_init_19 hp (Nat.le_of_ble_eq_true rfl) rfl rfl (by omega) (fun H3 hp hz3 hq3 => ?_)
  have hp : Ob G H3 p 3 [.ref (p + 1), .null, .int 0] := hp
  have hpa := hpa.kept (hq3 _ (by omega))
  have hF : ∀ q : Nat, q < p → H3[q]? = H[q]? := fun q hq => (hq3 q (by omega)).trans (hF q hq)
  refine a_aload_n 1 dX3_init_22 rfl rfl ?_
  refine a_iload_n 0 dX3_init_23 rfl rfl ?_
  refine a_newI (n := 15) ac_I dX3_init_24 (by decide) (Nat.le_of_ble_eq_true rfl) (Nat.le_of_ble_eq_true rfl) (fun H4 hpb hz4 hq4 => ?_)
  have hA4 : H3.size = p + 2 := by omega
  rw [hA4] at hpb hz4 hq4
  rw [hA4]
  have hp := hp.kept (hq4 _ (by omega))
  have hpa := hpa.kept (hq4 _ (by omega))
  have hZ : H4.size = p + 2 + 1 := hz4
  have hF : ∀ q : Nat, q < p → H4[q]? = H[q]? := fun q hq => (hq4 q (by omega)).trans (hF q hq)
  refine a_put f_X3_23 p_X3_23 dX3_init_26 hp (Nat.le_of_ble_eq_true rfl) rfl rfl (by omega) (fun H5 hp hz5 hq5 => ?_)
  have hp : Ob G H5 p 3 [.ref (p + 1), .ref (p + 2), .int 0] := hp
  have hpa := hpa.kept (hq5 _ (by omega))
  have hpb := hpb.kept (hq5 _ (by omega))
  have hF : ∀ q : Nat, q < p → H5[q]? = H[q]? := fun q hq => (hq5 q (by omega)).trans (hF q hq)
  refine a_retv dX3_init_29 ⟨⟨rfl, ?_⟩, rfl, rfl⟩
  · exact ⟨fun _ _ => ⟨_, _, hp, hpa, hpb, fun i hi => absurd hi (Nat.not_lt_zero _), fun i hi => absurd hi (Nat.not_lt_zero _), by decide, by decide⟩, by omega, hF⟩
set_option maxHeartbeats 4000000 in
set_option maxRecDepth 100000 in
theorem c_X3_append {G : GT} {B : Nat} {l : Launch} {H : Heap} {p cap ct : Nat} {P Q : DD} {a b : Int32} (hPr : Pr G H p cap ct P Q) (hB : B ≤ p) : AM G B l yX3_append cX3_append 3 (some .boolean) 0 0 0 [.ref p, .int a, .int b] H (fun v H' => v = some (.int (bI (decide (ct < cap)))) ∧ (Pr G H' p cap (if ct < cap then ct + 1 else ct) (if ct < cap then upd P ct a else P) (if ct < cap then upd Q ct b else Q) ∧ ∀ q : Nat, ¬ (p ≤ q ∧ q < p + 3) → H'[q]? = H[q]?)) := by
  have hPr0 := hPr
  obtain ⟨fA, fB, hp, hpa, hpb, eA, eB, hct, hcap⟩ := hPr
  have hF : ∀ q : Nat, ¬ (p ≤ q ∧ q < p + 3) → H[q]? = H[q]? := fun _ _ => rfl
  refine AM.ofZ (lv := [(0, .ref p), (1, .int a), (2, .int b)]) (by decide +kernel) (Nat.le_of_ble_eq_true rfl) rfl ?_ (fun _ _ h => ⟨_, h.1⟩)
  refine a_aload_n 0 dX3_append_0 rfl rfl ?_
  refine a_get f_X3_7 dX3_append_1 hp rfl ?_
  refine a_aload_n 0 dX3_append_4 rfl rfl ?_
  refine a_get f_X3_19 dX3_append_5 hp rfl ?_
  refine a_alen dX3_append_8 hpa ?_
  refine a_icmpltN (a := ct) (b := cap) 14 dX3_append_9 (by decide) (by omega) (by omega) (fun c9 => ?_) (fun c9 => ?_)
  · skip
    refine a_aload_n 0 dX3_append_14 rfl rfl ?_
    refine a_get f_X3_19 dX3_append_15 hp rfl ?_
    refine a_aload_n 0 dX3_append_18 rfl rfl ?_
    refine a_get f_X3_7 dX3_append_19 hp rfl ?_
    refine a_iload_n 1 dX3_append_22 rfl rfl ?_
    refine a_iastN (j := ct) dX3_append_23 hpa (by omega) (by omega) (by omega) (fun H1 hpa hz1 hq1 => ?_)
    have hpa : Ai G H1 (p + 1) cap (upd fA ct a) := hpa
    have hp := hp.kept (hq1 _ (by omega))
    have hpb := hpb.kept (hq1 _ (by omega))
    have hF : ∀ q : Nat, ¬ (p ≤ q ∧ q < p + 3) → H1[q]? = H[q]? := fun q hq => (hq1 q (by omega)).trans (hF q hq)
    refine a_aload_n 0 dX3_append_24 rfl rfl ?_
    refine a_get f_X3_23 dX3_append_25 hp rfl ?_
    refine a_aload_n 0 dX3_append_28 rfl rfl ?_
    refine a_get f_X3_7 dX3_append_29 hp rfl ?_
    refine a_iload_n 2 dX3_append_32 rfl rfl ?_
    refine a_iastN (j := ct) dX3_append_33 hpb (by omega) (by omega) (by omega) (fun H2 hpb hz2 hq2 => ?_)
    have hpb : Ai G H2 (p + 2) cap (upd fB ct b) := hpb
    have hp := hp.kept (hq2 _ (by omega))
    have hpa := hpa.kept (hq2 _ (by omega))
    have hF : ∀ q : Nat, ¬ (p ≤ q ∧ q < p + 3) → H2[q]? = H[q]? := fun q hq => (hq2 q (by omega)).trans (hF q hq)
    refine a_aload_n 0 dX3_append_34 rfl rfl ?_
    refine a_dup dX3_append_35 rfl ?_
    refine a_get f_X3_7 dX3_append_36 hp rfl ?_
    refine a_iconst 1 dX3_append_39 (by decide) ?_
    refine a_iaddN (a := ct) (b := 1) dX3_append_40 ?_
    refine a_put f_X3_7 p_X3_7 dX3_append_41 hp (Nat.le_of_ble_eq_true rfl) rfl rfl (by omega) (fun H3 hp hz3 hq3 => ?_)
    have hp : Ob G H3 p 3 [.ref (p + 1), .ref (p + 2), .int (nI (ct + 1))] := hp
    have hpa := hpa.kept (hq3 _ (by omega))
    have hpb := hpb.kept (hq3 _ (by omega))
    have hF : ∀ q : Nat, ¬ (p ≤ q ∧ q < p + 3) → H3[q]? = H[q]? := fun q hq => (hq3 q (by omega)).trans (hF q hq)
    refine a_iconst 1 dX3_append_44 (by decide) ?_
    refine a_ret dX3_append_45 ⟨⟨ri ?_, ?_⟩, rfl, rfl⟩
    · rw [decide_eq_true c9]; rfl
    · refine ⟨?_, hF⟩
      rw [if_pos c9, if_pos c9, if_pos c9]
      refine ⟨_, _, hp, hpa, hpb, upd_to (fun i hi => ?_) ?_, upd_to (fun i hi => ?_) ?_, by omega, hcap⟩
      all_goals simp only [upd]
      all_goals repeat' split
      all_goals first | omega | rfl | exact eA _ hi | exact eB _ hi | contradiction
  · skip
    refine a_iconst 0 dX3_append_12 (by decide) ?_
    refine a_ret dX3_append_13 ⟨⟨ri ?_, ?_⟩, rfl, rfl⟩
    · rw [decide_eq_false (by omega)]; rfl
    · refine ⟨?_, hF⟩
      rw [if_neg (by omega), if_neg (by omega), if_neg (by omega)]
      exact hPr0
set_option maxHeartbeats 4000000 in
set_option maxRecDepth 100000 in
theorem c_X4_clear {G : GT} {B : Nat} {l : Launch} {H : Heap} {p nx ct n : Nat} {pu : Nat → DD} (hPs : Ps G H p nx ct n pu) (hB : B ≤ p) : AM G B l yX4_clear cX4_clear 1 none 0 0 0 [.ref p] H (fun v H' => v = none ∧ ((∀ (n' : Nat) (pu' : Nat → DD), Ps G H' p nx 0 n' pu') ∧ ∀ q : Nat, ¬ (p ≤ q ∧ q < p + 82) → H'[q]? = H[q]?)) := by
  obtain ⟨hp, ⟨fR, hr, eR⟩, hE, hnx, hct⟩ := hPs
  have hF : ∀ q : Nat, ¬ (p ≤ q ∧ q < p + 82) ∨ q ≠ p → H[q]? = H[q]? := fun _ _ => rfl
  refine AM.ofV (lv := [(0, .ref p)]) (by decide +kernel) (ini := false) (fun h => by cases h) (Nat.le_of_ble_eq_true rfl) rfl ?_ (fun _ _ h => h.1)
  refine a_aload_n 0 dX4_clear_0 rfl rfl ?_
  refine a_iconst 0 dX4_clear_1 (by decide) ?_
  refine a_put f_X4_21 p_X4_21 dX4_clear_2 hp (Nat.le_of_ble_eq_true rfl) rfl rfl (by omega) (fun H1 hp hz1 hq1 => ?_)
  have hp : Ob G H1 p 4 [.ref (p + 1), .int (nI nx), .int 0] := hp
  have hr := hr.kept (hq1 _ (by omega))
  have hF : ∀ q : Nat, ¬ (p ≤ q ∧ q < p + 82) ∨ q ≠ p → H1[q]? = H[q]? := fun q hq => (hq1 q (by omega)).trans (hF q hq)
  refine a_retv dX4_clear_5 ⟨⟨rfl, ?_⟩, rfl, rfl⟩
  · refine ⟨fun n' pu' => ⟨hp, ⟨fR, hr, eR⟩, fun i hi => ?_, hnx, by decide⟩, fun q hq => hF q (Or.inl hq)⟩
    obtain ⟨m, dd, g1, g2⟩ := hE i hi
    exact ⟨m, dd, g1.kept (fun q a b => hF q (Or.inr (by omega))), fun h => absurd h (Nat.not_lt_zero _)⟩
set_option maxHeartbeats 4000000 in
set_option maxRecDepth 100000 in
theorem c_X4_push {G : GT} {B : Nat} {l : Launch} {H : Heap} {p nx ct : Nat} {pu : Nat → DD} {d n : Nat} {dd2 : DD} (hD2 : Dd G H d n dd2) (hap : d + 4 ≤ p ∨ p + 82 ≤ d) (hPs : Ps G H p nx ct n pu) (hB : B ≤ p) : AM G B l yX4_push cX4_push 2 none 2 0 0 [.ref p, .ref d] H (fun v H' => v = none ∧ (Ps G H' p ((nx + 1) % 20) (min (ct + 1) 20) n (fun i => if i = nx then dd2 else pu i) ∧ ∀ q : Nat, ¬ (p ≤ q ∧ q < p + 82) → H'[q]? = H[q]?)) := by
  obtain ⟨hp, ⟨fR, hr, eR⟩, hE, hnx, hct⟩ := hPs
  obtain ⟨m, ddm, hdm, -⟩ := hE nx hnx
  have hdR := hdm.choose_spec.choose_spec.choose_spec.1
  have hF : ∀ q : Nat, q ≠ p ∧ ¬ (p + 2 + 4 * nx ≤ q ∧ q < p + 2 + 4 * nx + 4) → H[q]? = H[q]? := fun _ _ => rfl
  refine AM.ofV (lv := [(0, .ref p), (1, .ref d)]) (by decide +kernel) (ini := false) (fun h => by cases h) (Nat.le_of_ble_eq_true rfl) rfl ?_ (fun _ _ h => h.1)
  refine a_aload_n 0 dX4_push_0 rfl rfl ?_
  refine a_get f_X4_11 dX4_push_1 hp rfl ?_
  refine a_aload_n 0 dX4_push_4 rfl rfl ?_
  refine a_get f_X4_17 dX4_push_5 hp rfl ?_
  refine a_aald (t := 3) (C0 := RX0) (x := p + 2 + 4 * nx) (fun _ => rfl) dX4_push_8 hr (by omega) (by decide) (eR _ (by omega)) ?_
  refine a_aload_n 1 dX4_push_9 rfl rfl ?_
  refine a_callVv (As := [.ref d]) (rest := []) (d := 1) (mc := 0) (ms := 0) (ci := 0) l_X4_25 im_X0_copy se_X0_copy ⟨_, rfl, rfl⟩ dX4_push_10 ⟨Nat.le_of_ble_eq_true rfl, Nat.le_of_ble_eq_true rfl⟩ rfl (Nat.le_of_ble_eq_true rfl) ⟨Nat.le_of_ble_eq_true rfl, Nat.le_of_ble_eq_true rfl⟩ hdR (c_X0_copy hD2 (by omega) hdm (by omega)) (fun H1 hp1 => ?_)
  obtain ⟨hdN, hfr⟩ := hp1
  have hp := hp.kept (hfr _ (by omega))
  have hr := hr.kept (hfr _ (by omega))
  have hF : ∀ q : Nat, q ≠ p ∧ ¬ (p + 2 + 4 * nx ≤ q ∧ q < p + 2 + 4 * nx + 4) → H1[q]? = H[q]? := fun q hq => (hfr q (by omega)).trans (hF q hq)
  have hfr2 := hfr
  have hN0 := hdN
  refine a_aload_n 0 dX4_push_13 rfl rfl ?_
  refine a_aload_n 0 dX4_push_14 rfl rfl ?_
  refine a_get f_X4_17 dX4_push_15 hp rfl ?_
  refine a_iconst 1 dX4_push_18 (by decide) ?_
  refine a_iaddN (a := nx) (b := 1) dX4_push_19 ?_
  refine a_bipush 20 dX4_push_20 (by decide) ?_
  refine a_iremN (a := nx + 1) (b := 20) dX4_push_22 (by omega) (by omega) (by omega) ?_
  refine a_put f_X4_17 p_X4_17 dX4_push_23 hp (Nat.le_of_ble_eq_true rfl) rfl rfl (by omega) (fun H2 hp hz2 hq2 => ?_)
  have hp : Ob G H2 p 4 [.ref (p + 1), .int (nI ((nx + 1) % 20)), .int (nI ct)] := hp
  have hr := hr.kept (hq2 _ (by omega))
  have hF : ∀ q : Nat, q ≠ p ∧ ¬ (p + 2 + 4 * nx ≤ q ∧ q < p + 2 + 4 * nx + 4) → H2[q]? = H[q]? := fun q hq => (hq2 q (by omega)).trans (hF q hq)
  refine a_aload_n 0 dX4_push_26 rfl rfl ?_
  refine a_aload_n 0 dX4_push_27 rfl rfl ?_
  refine a_get f_X4_21 dX4_push_28 hp rfl ?_
  refine a_iconst 1 dX4_push_31 (by decide) ?_
  refine a_iaddN (a := ct) (b := 1) dX4_push_32 ?_
  refine a_bipush 20 dX4_push_33 (by decide) ?_
  refine a_min ml_X4_29 dX4_push_35 (Nat.le_of_ble_eq_true rfl) (Nat.le_of_ble_eq_true rfl) ⟨Nat.le_of_ble_eq_true rfl, Nat.le_of_ble_eq_true rfl⟩ ?_
  refine a_toeq (nI (min (ct + 1) 20)) (mnN (b := 20) (by omega) (by omega)) ?_
  refine a_put f_X4_21 p_X4_21 dX4_push_38 hp (Nat.le_of_ble_eq_true rfl) rfl rfl (by omega) (fun H3 hp hz3 hq3 => ?_)
  have hp : Ob G H3 p 4 [.ref (p + 1), .int (nI ((nx + 1) % 20)), .int (nI (min (ct + 1) 20))] := hp
  have hr := hr.kept (hq3 _ (by omega))
  have hF : ∀ q : Nat, q ≠ p ∧ ¬ (p + 2 + 4 * nx ≤ q ∧ q < p + 2 + 4 * nx + 4) → H3[q]? = H[q]? := fun q hq => (hq3 q (by omega)).trans (hF q hq)
  refine a_retv dX4_push_41 ⟨⟨rfl, ?_⟩, rfl, rfl⟩
  · refine ⟨⟨hp, ⟨fR, hr, eR⟩, fun i hi => ?_, by omega, by omega⟩, fun q hq => hF q (by omega)⟩
    by_cases e : i = nx
    · subst e
      exact ⟨n, dd2, hdN.kept (fun q a b => by first | rfl | (rw [hq3 q (by omega), hq2 q (by omega)])), fun _ => ⟨rfl, (if_pos rfl).symm⟩⟩
    · obtain ⟨m2, dd3, g1, g2⟩ := hE i hi
      refine ⟨m2, dd3, g1.kept (fun q a b => hF q (by omega)), fun hv => ?_⟩
      show m2 = n ∧ dd3 = (if i = nx then dd2 else pu i)
      rw [if_neg e]
      exact g2 (by unfold vld at *; omega)
set_option maxHeartbeats 4000000 in
set_option maxRecDepth 100000 in
theorem c_X4_pop {G : GT} {B : Nat} {l : Launch} {H : Heap} {p nx ct n : Nat} {pu : Nat → DD} {d n2 : Nat} {dd2 : DD} (hD2 : Dd G H d n2 dd2) (hap : d + 4 ≤ p ∨ p + 82 ≤ d) (hPs : Ps G H p nx ct n pu) (hBd : B ≤ d) (hB : B ≤ p) : AM G B l yX4_pop cX4_pop 2 (some .boolean) 2 0 0 [.ref p, .ref d] H (fun v H' => v = some (.int (bI (decide (0 < ct)))) ∧ (((0 < ct → Ps G H' p ((nx + 19) % 20) (ct - 1) n pu ∧ Dd G H' d n (pu ((nx + 19) % 20))) ∧ (ct = 0 → H' = H)) ∧ ∀ q : Nat, (¬ (p ≤ q ∧ q < p + 82) ∧ ¬ (d ≤ q ∧ q < d + 4)) → H'[q]? = H[q]?)) := by
  obtain ⟨hp, ⟨fR, hr, eR⟩, hE, hnx, hct⟩ := hPs
  have hF : ∀ q : Nat, q ≠ p ∧ ¬ (d ≤ q ∧ q < d + 4) → H[q]? = H[q]? := fun _ _ => rfl
  refine AM.ofZ (lv := [(0, .ref p), (1, .ref d)]) (by decide +kernel) (Nat.le_of_ble_eq_true rfl) rfl ?_ (fun _ _ h => ⟨_, h.1⟩)
  refine a_aload_n 0 dX4_pop_0 rfl rfl ?_
  refine a_get f_X4_21 dX4_pop_1 hp rfl ?_
  refine a_ifneN (a := ct) 9 dX4_pop_4 (by decide) (by omega) (fun c4 => ?_) (fun c4 => ?_)
  · skip
    refine a_aload_n 0 dX4_pop_9 rfl rfl ?_
    refine a_aload_n 0 dX4_pop_10 rfl rfl ?_
    refine a_get f_X4_17 dX4_pop_11 hp rfl ?_
    refine a_bipush 20 dX4_pop_14 (by decide) ?_
    refine a_iaddN (a := nx) (b := 20) dX4_pop_16 ?_
    refine a_iconst 1 dX4_pop_17 (by decide) ?_
    refine a_isubN (a := nx + 20) (b := 1) dX4_pop_18 (by omega) ?_
    refine a_bipush 20 dX4_pop_19 (by decide) ?_
    refine a_iremN (a := (nx + 20) - 1) (b := 20) dX4_pop_21 (by omega) (by omega) (by omega) ?_
    refine a_put f_X4_17 p_X4_17 dX4_pop_22 hp (Nat.le_of_ble_eq_true rfl) rfl rfl (by omega) (fun H1 hp hz1 hq1 => ?_)
    have hp : Ob G H1 p 4 [.ref (p + 1), .int (nI (((nx + 20) - 1) % 20)), .int (nI ct)] := hp
    have hr := hr.kept (hq1 _ (by omega))
    have hF : ∀ q : Nat, q ≠ p ∧ ¬ (d ≤ q ∧ q < d + 4) → H1[q]? = H[q]? := fun q hq => (hq1 q (by omega)).trans (hF q hq)
    refine a_aload_n 0 dX4_pop_25 rfl rfl ?_
    refine a_dup dX4_pop_26 rfl ?_
    refine a_get f_X4_21 dX4_pop_27 hp rfl ?_
    refine a_iconst 1 dX4_pop_30 (by decide) ?_
    refine a_isubN (a := ct) (b := 1) dX4_pop_31 (by omega) ?_
    refine a_put f_X4_21 p_X4_21 dX4_pop_32 hp (Nat.le_of_ble_eq_true rfl) rfl rfl (by omega) (fun H2 hp hz2 hq2 => ?_)
    have hp : Ob G H2 p 4 [.ref (p + 1), .int (nI (((nx + 20) - 1) % 20)), .int (nI (ct - 1))] := hp
    have hr := hr.kept (hq2 _ (by omega))
    have hF : ∀ q : Nat, q ≠ p ∧ ¬ (d ≤ q ∧ q < d + 4) → H2[q]? = H[q]? := fun q hq => (hq2 q (by omega)).trans (hF q hq)
    obtain ⟨m, ddm, hdm, hv⟩ := hE ((nx + 20 - 1) % 20) (by omega)
    obtain ⟨rfl, rfl⟩ := hv (by unfold vld; omega)
    have hdm1 := hdm.kept (H1 := H2) (fun q a b => hF q (by omega))
    have hdR := hdm1.choose_spec.choose_spec.choose_spec.1
    have hD3 := hD2.kept (H1 := H2) (fun q a b => by first | rfl | (rw [hq2 q (by omega), hq1 q (by omega)]))
    have hdR3 := hD3.choose_spec.choose_spec.choose_spec.1
    refine a_aload_n 1 dX4_pop_35 rfl rfl ?_
    refine a_aload_n 0 dX4_pop_36 rfl rfl ?_
    refine a_get f_X4_11 dX4_pop_37 hp rfl ?_
    refine a_aload_n 0 dX4_pop_40 rfl rfl ?_
    refine a_get f_X4_17 dX4_pop_41 hp rfl ?_
    refine a_aald (t := 3) (C0 := RX0) (x := p + 2 + 4 * ((nx + 20 - 1) % 20)) (fun _ => rfl) dX4_pop_44 hr (by omega) (by decide) (eR _ (by omega)) ?_
    refine a_callVv (As := [.ref (p + 2 + 4 * ((nx + 20 - 1) % 20))]) (rest := []) (d := 1) (mc := 0) (ms := 0) (ci := 0) l_X4_25 im_X0_copy se_X0_copy ⟨_, rfl, rfl⟩ dX4_pop_45 ⟨Nat.le_of_ble_eq_true rfl, Nat.le_of_ble_eq_true rfl⟩ rfl (Nat.le_of_ble_eq_true rfl) ⟨Nat.le_of_ble_eq_true rfl, Nat.le_of_ble_eq_true rfl⟩ hdR3 (c_X0_copy hdm1 (by omega) hD3 (by omega)) (fun H3 hp3 => ?_)
    obtain ⟨hdN, hfr⟩ := hp3
    have hp := hp.kept (hfr _ (by omega))
    have hr := hr.kept (hfr _ (by omega))
    have hF : ∀ q : Nat, q ≠ p ∧ ¬ (d ≤ q ∧ q < d + 4) → H3[q]? = H[q]? := fun q hq => (hfr q (by omega)).trans (hF q hq)
    refine a_iconst 1 dX4_pop_48 (by decide) ?_
    refine a_ret dX4_pop_49 ⟨⟨ri ?_, ?_⟩, rfl, rfl⟩
    · rw [decide_eq_true (by omega)]; rfl
    · refine ⟨⟨fun _ => ⟨⟨?_, ⟨fR, hr, eR⟩, fun i hi => ?_, by omega, by omega⟩, ?_⟩, fun h => by omega⟩, fun q hq => hF q (by omega)⟩
      · rw [show (nx + 19) % 20 = (nx + 20 - 1) % 20 by omega]; exact hp
      · obtain ⟨m2, dd3, g1, g2⟩ := hE i hi
        refine ⟨m2, dd3, g1.kept (fun q a b => hF q (by omega)), fun hv2 => g2 (by unfold vld at *; omega)⟩
      · rw [show (nx + 19) % 20 = (nx + 20 - 1) % 20 by omega]; exact hdN
  · skip
    refine a_iconst 0 dX4_pop_7 (by decide) ?_
    refine a_ret dX4_pop_8 ⟨⟨ri ?_, ?_⟩, rfl, rfl⟩
    · rw [decide_eq_false (by omega)]; rfl
    · exact ⟨⟨fun h => by omega, fun _ => rfl⟩, fun q hq => rfl⟩
set_option maxHeartbeats 4000000 in
set_option maxRecDepth 100000 in
theorem c_X1_init {G : GT} {B : Nat} {l : Launch} {H : Heap} {p : Nat} (hi : Ob G H p 1 [.int 0, .null, .int 0]) (hsz : H.size = p + 1) (hB : B ≤ p) : AM G B l yX1_init cX1_init 1 none 2 4 31 [.ref p] H (fun v H' => v = none ∧ (Im G H' p false 0 0 (fun i => if i = 26 then -1 else 0) ∧ H'.size = p + 5 ∧ ∀ q : Nat, q < p → H'[q]? = H[q]?)) := by
  have hZ : H.size = p + 1 := hsz
  have hF : ∀ q : Nat, q < p → H[q]? = H[q]? := fun _ _ => rfl
  refine AM.ofV (lv := [(0, .ref p)]) (by decide +kernel) (ini := true) (fun _ => rfl) (Nat.le_of_ble_eq_true rfl) rfl ?_ (fun _ _ h => h.1)
  refine a_aload_n 0 dX1_init_0 rfl rfl ?_
  refine a_objI oi_X1_1 dX1_init_1 (Nat.le_of_ble_eq_true rfl) (Nat.le_of_ble_eq_true rfl) ?_
  refine a_aload_n 0 dX1_init_4 rfl rfl ?_
  refine a_iconst 0 dX1_init_5 (by decide) ?_
  refine a_put f_X1_7 p_X1_7 dX1_init_6 hi (Nat.le_of_ble_eq_true rfl) rfl rfl (by omega) (fun H1 hi hz1 hq1 => ?_)
  have hi : Ob G H1 p 1 [.int 0, .null, .int 0] := hi
  have hF : ∀ q : Nat, q < p → H1[q]? = H[q]? := fun q hq => (hq1 q (by omega)).trans (hF q hq)
  refine a_aload_n 0 dX1_init_9 rfl rfl ?_
  refine a_new (ci := 0) (N := 7) (fs := [.int 0, .null, .null, .null, .int 0, .int 0, .int 0]) nw_X1_13 (fun q hq => by cases hq; rfl) dX1_init_10 (fun j hj => by rcases (show j = 0 ∨ j = 1 ∨ j = 2 ∨ j = 3 ∨ j = 4 ∨ j = 5 ∨ j = 6 by omega) with rfl | rfl | rfl | rfl | rfl | rfl | rfl <;> rfl) (Nat.le_of_ble_eq_true rfl) (Nat.le_of_ble_eq_true rfl) (fun H2 hd hz2 hq2 => ?_)
  have hA2 : H1.size = p + 1 := by omega
  rw [hA2] at hd hz2 hq2
  rw [hA2]
  have hi := hi.kept (hq2 _ (by omega))
  have hZ : H2.size = p + 1 + 1 := hz2
  have hF : ∀ q : Nat, q < p → H2[q]? = H[q]? := fun q hq => (hq2 q (by omega)).trans (hF q hq)
  refine a_dup dX1_init_13 rfl ?_
  refine a_callIv (As := []) (rest := [.ref (p + 1), .ref p]) (d := 1) (mc := 3) (ms := 24) l_X1_15 im_X0_init rfl dX1_init_14 ⟨Nat.le_of_ble_eq_true rfl, Nat.le_of_ble_eq_true rfl⟩ rfl (Nat.le_of_ble_eq_true rfl) ⟨Nat.le_of_ble_eq_true rfl, Nat.le_of_ble_eq_true rfl⟩ (c_X0_init hd (by omega) (by omega)) (fun H3 hp3 => ?_)
  obtain ⟨hDn, hZ, hfr⟩ := hp3
  have hDn0 := hDn
  have hi := hi.kept (hfr _ (by omega))
  have hF : ∀ q : Nat, q < p → H3[q]? = H[q]? := fun q hq => (hfr q (by omega)).trans (hF q hq)
  refine a_put f_X1_16 p_X1_16 dX1_init_17 hi (Nat.le_of_ble_eq_true rfl) rfl rfl (by omega) (fun H4 hi hz4 hq4 => ?_)
  have hi : Ob G H4 p 1 [.int 0, .ref (p + 1), .int 0] := hi
  have hF : ∀ q : Nat, q < p → H4[q]? = H[q]? := fun q hq => (hq4 q (by omega)).trans (hF q hq)
  refine a_aload_n 0 dX1_init_20 rfl rfl ?_
  refine a_iconst 0 dX1_init_21 (by decide) ?_
  refine a_put f_X1_20 p_X1_20 dX1_init_22 hi (Nat.le_of_ble_eq_true rfl) rfl rfl (by omega) (fun H5 hi hz5 hq5 => ?_)
  have hi : Ob G H5 p 1 [.int 0, .ref (p + 1), .int 0] := hi
  have hF : ∀ q : Nat, q < p → H5[q]? = H[q]? := fun q hq => (hq5 q (by omega)).trans (hF q hq)
  refine a_retv dX1_init_25 ⟨⟨rfl, ?_⟩, rfl, rfl⟩
  · exact ⟨⟨hi, hDn0.kept (fun q a b => by rw [hq5 q (by omega), hq4 q (by omega)])⟩, by omega, hF⟩
set_option maxHeartbeats 4000000 in
set_option maxRecDepth 100000 in
theorem c_X4_init {G : GT} {B : Nat} {l : Launch} {H : Heap} {p : Nat} (hp : Ob G H p 4 [.null, .int 0, .int 0]) (hsz : H.size = p + 1) (hB : B ≤ p) : AM G B l yX4_init cX4_init 2 none 2 81 640 [.ref p] H (fun v H' => v = none ∧ ((∀ (n' : Nat) (pu' : Nat → DD), Ps G H' p 0 0 n' pu') ∧ H'.size = p + 82 ∧ ∀ q : Nat, q < p → H'[q]? = H[q]?)) := by
  have hZ : H.size = p + 1 := hsz
  have hF : ∀ q : Nat, q < p → H[q]? = H[q]? := fun _ _ => rfl
  refine AM.ofV (lv := [(0, .ref p)]) (by decide +kernel) (ini := true) (fun _ => rfl) (Nat.le_of_ble_eq_true rfl) rfl ?_ (fun _ _ h => h.1)
  refine a_aload_n 0 dX4_init_0 rfl rfl ?_
  refine a_objI oi_X4_3 dX4_init_1 (Nat.le_of_ble_eq_true rfl) (Nat.le_of_ble_eq_true rfl) ?_
  refine a_aload_n 0 dX4_init_4 rfl rfl ?_
  refine a_bipush 20 dX4_init_5 (by decide) ?_
  refine a_newq (n := 20) (t := 3) (C0 := RX0) (fun _ => rfl) (Or.inl rfl) cl_X4_9 dX4_init_7 (by decide) (Nat.le_of_ble_eq_true rfl) (Nat.le_of_ble_eq_true rfl) (fun H1 hr hz1 hq1 => ?_)
  have hA1 : H.size = p + 1 := by omega
  rw [hA1] at hr hz1 hq1
  rw [hA1]
  have hp := hp.kept (hq1 _ (by omega))
  have hZ : H1.size = p + 1 + 1 := hz1
  have hF : ∀ q : Nat, q < p → H1[q]? = H[q]? := fun q hq => (hq1 q (by omega)).trans (hF q hq)
  refine a_put f_X4_11 p_X4_11 dX4_init_10 hp (Nat.le_of_ble_eq_true rfl) rfl rfl (by omega) (fun H2 hp hz2 hq2 => ?_)
  have hp : Ob G H2 p 4 [.ref (p + 1), .int 0, .int 0] := hp
  have hr := hr.kept (hq2 _ (by omega))
  have hF : ∀ q : Nat, q < p → H2[q]? = H[q]? := fun q hq => (hq2 q (by omega)).trans (hF q hq)
  refine a_aload_n 0 dX4_init_13 rfl rfl ?_
  refine a_iconst 0 dX4_init_14 (by decide) ?_
  refine a_put f_X4_17 p_X4_17 dX4_init_15 hp (Nat.le_of_ble_eq_true rfl) rfl rfl (by omega) (fun H3 hp hz3 hq3 => ?_)
  have hp : Ob G H3 p 4 [.ref (p + 1), .int 0, .int 0] := hp
  have hr := hr.kept (hq3 _ (by omega))
  have hF : ∀ q : Nat, q < p → H3[q]? = H[q]? := fun q hq => (hq3 q (by omega)).trans (hF q hq)
  refine a_aload_n 0 dX4_init_18 rfl rfl ?_
  refine a_iconst 0 dX4_init_19 (by decide) ?_
  refine a_put f_X4_21 p_X4_21 dX4_init_20 hp (Nat.le_of_ble_eq_true rfl) rfl rfl (by omega) (fun H4 hp hz4 hq4 => ?_)
  have hp : Ob G H4 p 4 [.ref (p + 1), .int 0, .int 0] := hp
  have hr := hr.kept (hq4 _ (by omega))
  have hF : ∀ q : Nat, q < p → H4[q]? = H[q]? := fun q hq => (hq4 q (by omega)).trans (hF q hq)
  refine a_iconst 0 dX4_init_23 (by decide) ?_
  refine a_istore_n (lv' := [(1, .int 0), (0, .ref p)]) dX4_init_24 rfl (by decide) rfl ?_
  have L25 : ∀ (fu : Nat) (k : Nat) (Hk : Heap) (fR : Nat → Option Nat), k ≤ 20 → Ob G Hk p 4 [.ref (p + 1), .int 0, .int 0] → Aq G Hk (p + 1) 3 20 fR → (∀ i, i < k → fR i = some (p + 2 + 4 * i)) → (∀ i, i < k → ∃ (n' : Nat) (dd' : DD), Dd G Hk (p + 2 + 4 * i) n' dd') → Hk.size = p + 2 + 4 * k → (∀ q : Nat, q < p → Hk[q]? = H[q]?) → 20 - k < fu → AW G B l { frames := 2, cells := 81, slots := 640, locals := 27 * 2 } yX4_init.cls cX4_init 2 true (fun v H' ce' sl' => (v = none ∧ ((∀ (n' : Nat) (pu' : Nat → DD), Ps G H' p 0 0 n' pu') ∧ H'.size = p + 82 ∧ ∀ q : Nat, q < p → H'[q]? = H[q]?)) ∧ ce' = 81 ∧ sl' = 640) 25 [(0, .ref p), (1, .int (nI k))] [] Hk (1 + 4 * k) (20 + 31 * k) := by
    intro fu
    induction fu with
    | zero => intro k Hk fR hk hp hr hR hE hZ hF hm25; exact absurd hm25 (Nat.not_lt_zero _)
    | succ fu ih25 =>
      intro k Hk fR hk hp hr hR hE hZ hF hm25
      have hG : ∀ q : Nat, q < p + 2 + 4 * k ∧ q ≠ p + 1 → Hk[q]? = Hk[q]? := fun _ _ => rfl
      refine a_iload_n 1 dX4_init_25 rfl rfl ?_
      refine a_bipush 20 dX4_init_26 (by decide) ?_
      refine a_icmpgeN (a := k) (b := 20) 50 dX4_init_28 (by decide) (by omega) (by omega) (fun c28 => ?_) (fun c28 => ?_)
      · skip
        have hk20 : k = 20 := by omega
        subst hk20
        refine a_retv dX4_init_50 ⟨⟨rfl, ?_⟩, rfl, rfl⟩
        · refine ⟨fun n' pu' => ⟨hp, ⟨fR, hr, fun i hi => hR i (by omega)⟩, fun i hi => ?_, by decide, by decide⟩, by omega, hF⟩
          obtain ⟨n2, dd2, h⟩ := hE i (by omega)
          exact ⟨n2, dd2, h, fun h => absurd h (Nat.not_lt_zero _)⟩
      · skip
        refine a_aload_n 0 dX4_init_31 rfl rfl ?_
        refine a_get f_X4_11 dX4_init_32 hp rfl ?_
        refine a_iload_n 1 dX4_init_35 rfl rfl ?_
        refine a_new (ci := 0) (N := 7) (fs := [.int 0, .null, .null, .null, .int 0, .int 0, .int 0]) nw_X4_9 (fun q hq => by cases hq; rfl) dX4_init_36 (fun j hj => by rcases (show j = 0 ∨ j = 1 ∨ j = 2 ∨ j = 3 ∨ j = 4 ∨ j = 5 ∨ j = 6 by omega) with rfl | rfl | rfl | rfl | rfl | rfl | rfl <;> rfl) (by show 1 + 4 * k + 1 ≤ 81; omega) (by show 20 + 31 * k + 7 ≤ 640; omega) (fun H5 hd hz5 hq5 => ?_)
        have hA5 : Hk.size = p + 2 + 4 * k := by omega
        rw [hA5] at hd hz5 hq5
        rw [hA5]
        have hp := hp.kept (hq5 _ (by omega))
        have hr := hr.kept (hq5 _ (by omega))
        have hZ : H5.size = p + 2 + 4 * k + 1 := hz5
        have hF : ∀ q : Nat, q < p → H5[q]? = H[q]? := fun q hq => (hq5 q (by omega)).trans (hF q hq)
        have hG : ∀ q : Nat, q < p + 2 + 4 * k ∧ q ≠ p + 1 → H5[q]? = Hk[q]? := fun q hq => (hq5 q (by omega)).trans (hG q hq)
        refine a_dup dX4_init_39 rfl ?_
        refine a_callIv (As := []) (rest := [.ref (p + 2 + 4 * k), .int (nI k), .ref (p + 1)]) (d := 1) (mc := 3) (ms := 24) l_X4_24 im_X0_init rfl dX4_init_40 ⟨Nat.le_of_ble_eq_true rfl, Nat.le_of_ble_eq_true rfl⟩ rfl (Nat.le_of_ble_eq_true rfl) ⟨(by show 1 + 4 * k + 1 + 3 ≤ 81; omega), (by show 20 + 31 * k + 7 + 24 ≤ 640; omega)⟩ (c_X0_init hd (by omega) (by omega)) (fun H6 hp6 => ?_)
        obtain ⟨hDn, hZ, hfr⟩ := hp6
        have hDn0 := hDn
        have hd := hDn.choose_spec.choose_spec.choose_spec.1
        have hp := hp.kept (hfr _ (by omega))
        have hr := hr.kept (hfr _ (by omega))
        have hF : ∀ q : Nat, q < p → H6[q]? = H[q]? := fun q hq => (hfr q (by omega)).trans (hF q hq)
        have hG : ∀ q : Nat, q < p + 2 + 4 * k ∧ q ≠ p + 1 → H6[q]? = Hk[q]? := fun q hq => (hfr q (by omega)).trans (hG q hq)
        refine a_aast (j := k) (t := 3) (C0 := RX0) (fun _ => rfl) ⟨_, rfl, rfl⟩ (ci := 0) dX4_init_43 hr hd (by omega) (by decide) (by omega) (fun H7 hr hz7 hq7 => ?_)
        have hp := hp.kept (hq7 _ (by omega))
        have hd := hd.kept (hq7 _ (by omega))
        have hF : ∀ q : Nat, q < p → H7[q]? = H[q]? := fun q hq => (hq7 q (by omega)).trans (hF q hq)
        have hG : ∀ q : Nat, q < p + 2 + 4 * k ∧ q ≠ p + 1 → H7[q]? = Hk[q]? := fun q hq => (hq7 q (by omega)).trans (hG q hq)
        have hDn1 : Dd G H7 _ _ _ := hDn0.kept (fun q a b => by rw [hq7 q (by omega)])
        have hZ : (H7).size = _ := hz7.trans hZ
        refine a_iincN (q := 1) (lv' := [(1, .int (nI (k + 1))), (0, .ref p)]) dX4_init_44 rfl (by decide) rfl ?_
        refine a_goto 25 dX4_init_47 (by decide) ?_
        refine a_sub [1, 0] rfl ?_
        refine a_widen (ce2 := 1 + 4 * (k + 1)) (sl2 := 20 + 31 * (k + 1)) (by omega) (by omega) ?_
        exact ih25 _ _ _ (by omega) hp hr (fun i hi => by unfold va_up; split; { next e => rw [e] }; { next e => exact hR i (by omega) }) (fun i hi => by by_cases e : i = k; { subst e; exact ⟨_, _, hDn1⟩ }; { obtain ⟨n', dd', h⟩ := hE i (by omega); exact ⟨n', dd', h.kept (fun q a b => hG q (by omega))⟩ }) (by omega) hF (by omega)
  refine a_sub [1, 0] rfl ?_
  refine a_widen (ce2 := 1 + 4 * 0) (sl2 := 20 + 31 * 0) (by omega) (by omega) ?_
  exact L25 _ 0 _ _ (Nat.zero_le _) hp hr (fun i hi => absurd hi (Nat.not_lt_zero _)) (fun i hi => absurd hi (Nat.not_lt_zero _)) (by omega) hF (Nat.lt_succ_self _)
set_option maxHeartbeats 4000000 in
set_option maxRecDepth 100000 in
theorem c_X5_init {G : GT} {B : Nat} {l : Launch} {H : Heap} {r : Nat} (hr : Ob G H r 5 [.null, .int 0, .int 0, .int 0]) (hsz : H.size = r + 1) (hB : B ≤ r) : AM G B l yX5_init cX5_init 1 none 1 1 240 [.ref r] H (fun v H' => v = none ∧ ((∀ tx : Nat → Nat, Rd G H' r tx 0 0 0) ∧ H'.size = r + 2 ∧ ∀ q : Nat, q < r → H'[q]? = H[q]?)) := by
  have hZ : H.size = r + 1 := hsz
  have hF : ∀ q : Nat, q < r → H[q]? = H[q]? := fun _ _ => rfl
  refine AM.ofV (lv := [(0, .ref r)]) (by decide +kernel) (ini := true) (fun _ => rfl) (Nat.le_of_ble_eq_true rfl) rfl ?_ (fun _ _ h => h.1)
  refine a_aload_n 0 dX5_init_0 rfl rfl ?_
  refine a_objI oi_X5_3 dX5_init_1 (Nat.le_of_ble_eq_true rfl) (Nat.le_of_ble_eq_true rfl) ?_
  refine a_aload_n 0 dX5_init_4 rfl rfl ?_
  refine a_sipush 240 dX5_init_5 (by decide) ?_
  refine a_newI (n := 240) ac_I dX5_init_8 (by decide) (Nat.le_of_ble_eq_true rfl) (Nat.le_of_ble_eq_true rfl) (fun H1 ht hz1 hq1 => ?_)
  have hA1 : H.size = r + 1 := by omega
  rw [hA1] at ht hz1 hq1
  rw [hA1]
  have hr := hr.kept (hq1 _ (by omega))
  have hZ : H1.size = r + 1 + 1 := hz1
  have hF : ∀ q : Nat, q < r → H1[q]? = H[q]? := fun q hq => (hq1 q (by omega)).trans (hF q hq)
  refine a_put f_X5_9 p_X5_9 dX5_init_10 hr (Nat.le_of_ble_eq_true rfl) rfl rfl (by omega) (fun H2 hr hz2 hq2 => ?_)
  have hr : Ob G H2 r 5 [.ref (r + 1), .int 0, .int 0, .int 0] := hr
  have ht := ht.kept (hq2 _ (by omega))
  have hF : ∀ q : Nat, q < r → H2[q]? = H[q]? := fun q hq => (hq2 q (by omega)).trans (hF q hq)
  refine a_aload_n 0 dX5_init_13 rfl rfl ?_
  refine a_iconst 0 dX5_init_14 (by decide) ?_
  refine a_put f_X5_15 p_X5_15 dX5_init_15 hr (Nat.le_of_ble_eq_true rfl) rfl rfl (by omega) (fun H3 hr hz3 hq3 => ?_)
  have hr : Ob G H3 r 5 [.ref (r + 1), .int 0, .int 0, .int 0] := hr
  have ht := ht.kept (hq3 _ (by omega))
  have hF : ∀ q : Nat, q < r → H3[q]? = H[q]? := fun q hq => (hq3 q (by omega)).trans (hF q hq)
  refine a_aload_n 0 dX5_init_18 rfl rfl ?_
  refine a_iconst 0 dX5_init_19 (by decide) ?_
  refine a_put f_X5_19 p_X5_19 dX5_init_20 hr (Nat.le_of_ble_eq_true rfl) rfl rfl (by omega) (fun H4 hr hz4 hq4 => ?_)
  have hr : Ob G H4 r 5 [.ref (r + 1), .int 0, .int 0, .int 0] := hr
  have ht := ht.kept (hq4 _ (by omega))
  have hF : ∀ q : Nat, q < r → H4[q]? = H[q]? := fun q hq => (hq4 q (by omega)).trans (hF q hq)
  refine a_aload_n 0 dX5_init_23 rfl rfl ?_
  refine a_iconst 0 dX5_init_24 (by decide) ?_
  refine a_put f_X5_22 p_X5_22 dX5_init_25 hr (Nat.le_of_ble_eq_true rfl) rfl rfl (by omega) (fun H5 hr hz5 hq5 => ?_)
  have hr : Ob G H5 r 5 [.ref (r + 1), .int 0, .int 0, .int 0] := hr
  have ht := ht.kept (hq5 _ (by omega))
  have hF : ∀ q : Nat, q < r → H5[q]? = H[q]? := fun q hq => (hq5 q (by omega)).trans (hF q hq)
  refine a_retv dX5_init_28 ⟨⟨rfl, ?_⟩, rfl, rfl⟩
  · exact ⟨fun tx => ⟨_, hr, ht, fun i hi => absurd hi (Nat.not_lt_zero _), fun i hi => absurd hi (Nat.not_lt_zero _), by decide, by decide, by decide⟩, by omega, hF⟩
set_option maxHeartbeats 4000000 in
set_option maxRecDepth 100000 in
theorem c_X5_append {G : GT} {B : Nat} {l : Launch} {H : Heap} {r : Nat} {tx : Nat → Nat} {L pl kd : Nat} {c : Nat} (hR : Rd G H r tx L pl kd) (hc : c < 256) (hB : B ≤ r) : AM G B l yX5_append cX5_append 2 (some .boolean) 0 0 0 [.ref r, .int (nI c)] H (fun v H' => v = some (.int (bI (decide (L < 240)))) ∧ (Rd G H' r (if L < 240 then (fun i => if i = L then c else tx i) else tx) (if L < 240 then L + 1 else L) pl kd ∧ ∀ q : Nat, ¬ (r ≤ q ∧ q < r + 2) → H'[q]? = H[q]?)) := by
  have hR0 := hR
  obtain ⟨ft, hr, ht, et, e8, hL, hpl, hkd⟩ := hR
  have hF : ∀ q : Nat, ¬ (r ≤ q ∧ q < r + 2) → H[q]? = H[q]? := fun _ _ => rfl
  refine AM.ofZ (lv := [(0, .ref r), (1, .int (nI c))]) (by decide +kernel) (Nat.le_of_ble_eq_true rfl) rfl ?_ (fun _ _ h => ⟨_, h.1⟩)
  refine a_aload_n 0 dX5_append_0 rfl rfl ?_
  refine a_get f_X5_15 dX5_append_1 hr rfl ?_
  refine a_sipush 240 dX5_append_4 (by decide) ?_
  refine a_icmpltN (a := L) (b := 240) 12 dX5_append_7 (by decide) (by omega) (by omega) (fun c7 => ?_) (fun c7 => ?_)
  · skip
    refine a_aload_n 0 dX5_append_12 rfl rfl ?_
    refine a_get f_X5_9 dX5_append_13 hr rfl ?_
    refine a_aload_n 0 dX5_append_16 rfl rfl ?_
    refine a_get f_X5_15 dX5_append_17 hr rfl ?_
    refine a_iload_n 1 dX5_append_20 rfl rfl ?_
    refine a_iastN (j := L) dX5_append_21 ht (by omega) (by decide) (by omega) (fun H1 ht hz1 hq1 => ?_)
    have ht : Ai G H1 (r + 1) 240 (upd ft L (nI c)) := ht
    have hr := hr.kept (hq1 _ (by omega))
    have hF : ∀ q : Nat, ¬ (r ≤ q ∧ q < r + 2) → H1[q]? = H[q]? := fun q hq => (hq1 q (by omega)).trans (hF q hq)
    refine a_aload_n 0 dX5_append_22 rfl rfl ?_
    refine a_dup dX5_append_23 rfl ?_
    refine a_get f_X5_15 dX5_append_24 hr rfl ?_
    refine a_iconst 1 dX5_append_27 (by decide) ?_
    refine a_iaddN (a := L) (b := 1) dX5_append_28 ?_
    refine a_put f_X5_15 p_X5_15 dX5_append_29 hr (Nat.le_of_ble_eq_true rfl) rfl rfl (by omega) (fun H2 hr hz2 hq2 => ?_)
    have hr : Ob G H2 r 5 [.ref (r + 1), .int (nI (L + 1)), .int (nI pl), .int (nI kd)] := hr
    have ht := ht.kept (hq2 _ (by omega))
    have hF : ∀ q : Nat, ¬ (r ≤ q ∧ q < r + 2) → H2[q]? = H[q]? := fun q hq => (hq2 q (by omega)).trans (hF q hq)
    refine a_iconst 1 dX5_append_32 (by decide) ?_
    refine a_ret dX5_append_33 ⟨⟨ri ?_, ?_⟩, rfl, rfl⟩
    · rw [decide_eq_true c7]; rfl
    · refine ⟨?_, hF⟩
      rw [if_pos c7, if_pos c7]
      refine ⟨_, hr, ht, upd_to (e := fun i => nI (if i = L then c else tx i)) (fun i hi => ?_) (by rw [if_pos rfl]), fun i hi => ?_, by omega, hpl, hkd⟩
      · rw [if_neg (by omega)]; exact et i hi
      · show (if i = L then c else tx i) < 256
        split
        · exact hc
        · exact e8 i (by omega)
  · skip
    refine a_iconst 0 dX5_append_10 (by decide) ?_
    refine a_ret dX5_append_11 ⟨⟨ri ?_, ?_⟩, rfl, rfl⟩
    · rw [decide_eq_false (by omega)]; rfl
    · refine ⟨?_, hF⟩
      rw [if_neg (by omega), if_neg (by omega)]
      exact hR0
set_option maxHeartbeats 4000000 in
set_option maxRecDepth 100000 in
theorem c_X5_forget {G : GT} {B : Nat} {l : Launch} {H : Heap} {r : Nat} {tx : Nat → Nat} {L pl kd : Nat} (hR : Rd G H r tx L pl kd) (hB : B ≤ r) : AM G B l yX5_forget cX5_forget 1 none 0 0 0 [.ref r] H (fun v H' => v = none ∧ (Rd G H' r tx 0 pl kd ∧ ∀ q : Nat, ¬ (r ≤ q ∧ q < r + 2) → H'[q]? = H[q]?)) := by
  obtain ⟨ft, hr, ht, et, e8, hL, hpl, hkd⟩ := hR
  have hF : ∀ q : Nat, ¬ (r ≤ q ∧ q < r + 2) → H[q]? = H[q]? := fun _ _ => rfl
  refine AM.ofV (lv := [(0, .ref r)]) (by decide +kernel) (ini := false) (fun h => by cases h) (Nat.le_of_ble_eq_true rfl) rfl ?_ (fun _ _ h => h.1)
  refine a_aload_n 0 dX5_forget_0 rfl rfl ?_
  refine a_iconst 0 dX5_forget_1 (by decide) ?_
  refine a_put f_X5_15 p_X5_15 dX5_forget_2 hr (Nat.le_of_ble_eq_true rfl) rfl rfl (by omega) (fun H1 hr hz1 hq1 => ?_)
  have hr : Ob G H1 r 5 [.ref (r + 1), .int 0, .int (nI pl), .int (nI kd)] := hr
  have ht := ht.kept (hq1 _ (by omega))
  have hF : ∀ q : Nat, ¬ (r ≤ q ∧ q < r + 2) → H1[q]? = H[q]? := fun q hq => (hq1 q (by omega)).trans (hF q hq)
  refine a_retv dX5_forget_5 ⟨⟨rfl, ?_⟩, rfl, rfl⟩
  · exact ⟨⟨_, hr, ht, fun i hi => absurd hi (Nat.not_lt_zero _), fun i hi => absurd hi (Nat.not_lt_zero _), by omega, hpl, hkd⟩, hF⟩
set_option maxHeartbeats 4000000 in
set_option maxRecDepth 100000 in
theorem c_X5_letterHere {G : GT} {B : Nat} {l : Launch} {H : Heap} {r : Nat} {tx : Nat → Nat} {L pl kd : Nat} (hR : Rd G H r tx L pl kd) : AM G B l yX5_letterHere cX5_letterHere 1 (some .int) 0 0 0 [.ref r] H (fun v H' => v = some (.int (if pl < L then nI (tx pl) else -1)) ∧ (H' = H)) := by
  obtain ⟨ft, hr, ht, et, e8, hL, hpl, hkd⟩ := hR
  refine AM.ofI (lv := [(0, .ref r)]) (by decide +kernel) (Nat.le_of_ble_eq_true rfl) rfl ?_ (fun _ h => by cases h.1)
  refine a_aload_n 0 dX5_letterHere_0 rfl rfl ?_
  refine a_get f_X5_19 dX5_letterHere_1 hr rfl ?_
  refine a_aload_n 0 dX5_letterHere_4 rfl rfl ?_
  refine a_get f_X5_15 dX5_letterHere_5 hr rfl ?_
  refine a_icmpgeN (a := pl) (b := L) 23 dX5_letterHere_8 (by decide) (by omega) (by omega) (fun c8 => ?_) (fun c8 => ?_)
  · skip
    refine a_iconst (-1) dX5_letterHere_23 (by decide) ?_
    refine a_ret dX5_letterHere_24 ⟨⟨ri ?_, ?_⟩, rfl, rfl⟩
    · rw [if_neg (by omega)]
    · rfl
  · skip
    refine a_aload_n 0 dX5_letterHere_11 rfl rfl ?_
    refine a_get f_X5_9 dX5_letterHere_12 hr rfl ?_
    refine a_aload_n 0 dX5_letterHere_15 rfl rfl ?_
    refine a_get f_X5_19 dX5_letterHere_16 hr rfl ?_
    refine a_ialdN (j := pl) dX5_letterHere_19 ht (by omega) (by decide) ?_
    refine a_toeq (nI (tx pl)) (et _ (by omega)) ?_
    refine a_goto 24 dX5_letterHere_20 (by decide) ?_
    refine a_ret dX5_letterHere_24 ⟨⟨ri ?_, ?_⟩, rfl, rfl⟩
    · rw [if_pos c8]
    · rfl
set_option maxHeartbeats 4000000 in
set_option maxRecDepth 100000 in
theorem c_X5_isFigure {G : GT} {B : Nat} {l : Launch} {H : Heap} {c : Nat} (hc : c < 256) : AM G B l yX5_isFigure cX5_isFigure 1 (some .boolean) 0 0 0 [.int (nI c)] H (fun v H' => v = some (.int (bI (decide (48 ≤ c ∧ c ≤ 57)))) ∧ (H' = H)) := by
  refine AM.ofZ (lv := [(0, .int (nI c))]) (by decide +kernel) (Nat.le_of_ble_eq_true rfl) rfl ?_ (fun _ _ h => ⟨_, h.1⟩)
  refine a_iload_n 0 dX5_isFigure_0 rfl rfl ?_
  refine a_bipush 48 dX5_isFigure_1 (by decide) ?_
  refine a_icmpltN (a := c) (b := 48) 16 dX5_isFigure_3 (by decide) (by omega) (by omega) (fun c3 => ?_) (fun c3 => ?_)
  · skip
    refine a_iconst 0 dX5_isFigure_16 (by decide) ?_
    refine a_ret dX5_isFigure_17 ⟨⟨ri ?_, ?_⟩, rfl, rfl⟩
    · rw [decide_eq_false (by omega)]; rfl
    · rfl
  · skip
    refine a_iload_n 0 dX5_isFigure_6 rfl rfl ?_
    refine a_bipush 57 dX5_isFigure_7 (by decide) ?_
    refine a_icmpgtN (a := c) (b := 57) 16 dX5_isFigure_9 (by decide) (by omega) (by omega) (fun c9 => ?_) (fun c9 => ?_)
    · skip
      refine a_iconst 0 dX5_isFigure_16 (by decide) ?_
      refine a_ret dX5_isFigure_17 ⟨⟨ri ?_, ?_⟩, rfl, rfl⟩
      · rw [decide_eq_false (by omega)]; rfl
      · rfl
    · skip
      refine a_iconst 1 dX5_isFigure_12 (by decide) ?_
      refine a_goto 17 dX5_isFigure_13 (by decide) ?_
      refine a_ret dX5_isFigure_17 ⟨⟨ri ?_, ?_⟩, rfl, rfl⟩
      · rw [decide_eq_true (by omega)]; rfl
      · rfl
set_option maxHeartbeats 4000000 in
set_option maxRecDepth 100000 in
theorem c_X5_stop {G : GT} {B : Nat} {l : Launch} {H : Heap} {r : Nat} {tx : Nat → Nat} {L pl kd : Nat} {a b : Nat} (hR : Rd G H r tx L pl kd) (ha : a ≤ 3) (hb : b ≤ 240) (hB : B ≤ r) : AM G B l yX5_stop cX5_stop 3 none 0 0 0 [.ref r, .int (nI a), .int (nI b)] H (fun v H' => v = none ∧ (Rd G H' r tx L b a ∧ ∀ q : Nat, ¬ (r ≤ q ∧ q < r + 2) → H'[q]? = H[q]?)) := by
  obtain ⟨ft, hr, ht, et, e8, hL, hpl, hkd⟩ := hR
  have hF : ∀ q : Nat, ¬ (r ≤ q ∧ q < r + 2) → H[q]? = H[q]? := fun _ _ => rfl
  refine AM.ofV (lv := [(0, .ref r), (1, .int (nI a)), (2, .int (nI b))]) (by decide +kernel) (ini := false) (fun h => by cases h) (Nat.le_of_ble_eq_true rfl) rfl ?_ (fun _ _ h => h.1)
  refine a_aload_n 0 dX5_stop_0 rfl rfl ?_
  refine a_iload_n 1 dX5_stop_1 rfl rfl ?_
  refine a_put f_X5_22 p_X5_22 dX5_stop_2 hr (Nat.le_of_ble_eq_true rfl) rfl rfl (by omega) (fun H1 hr hz1 hq1 => ?_)
  have hr : Ob G H1 r 5 [.ref (r + 1), .int (nI L), .int (nI pl), .int (nI a)] := hr
  have ht := ht.kept (hq1 _ (by omega))
  have hF : ∀ q : Nat, ¬ (r ≤ q ∧ q < r + 2) → H1[q]? = H[q]? := fun q hq => (hq1 q (by omega)).trans (hF q hq)
  refine a_aload_n 0 dX5_stop_5 rfl rfl ?_
  refine a_iload_n 2 dX5_stop_6 rfl rfl ?_
  refine a_put f_X5_19 p_X5_19 dX5_stop_7 hr (Nat.le_of_ble_eq_true rfl) rfl rfl (by omega) (fun H2 hr hz2 hq2 => ?_)
  have hr : Ob G H2 r 5 [.ref (r + 1), .int (nI L), .int (nI b), .int (nI a)] := hr
  have ht := ht.kept (hq2 _ (by omega))
  have hF : ∀ q : Nat, ¬ (r ≤ q ∧ q < r + 2) → H2[q]? = H[q]? := fun q hq => (hq2 q (by omega)).trans (hF q hq)
  refine a_retv dX5_stop_10 ⟨⟨rfl, ?_⟩, rfl, rfl⟩
  · exact ⟨⟨_, hr, ht, et, e8, hL, hb, ha⟩, hF⟩
