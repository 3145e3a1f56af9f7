set_option maxHeartbeats 4000000 in
set_option maxRecDepth 100000 in
theorem c_X7_init {G : GT} {B : Nat} {l : Launch} {H : Heap} {a : Nat} (hm : Ob G H a 7 [.int 0, .null, .int 0, .int 0, .int 0, .int 0, .int 0, .null, .null, .null, .int 0, .int 0, .int 0, .int 0, .null, .null, .null, .null, .int 0, .int 0, .null, .long 0, .int 0, .null, .int 0, .null, .null, .null, .null]) (hsz : H.size = a + 1) (hB : B ≤ a) : AM G B l yX7_init cX7_init 1 none 1 14 953 [.ref a] H (fun rv H' => rv = none ∧ ((∀ (tx : Nat → Nat) (kK kV : DD) (pu : Nat → DD) (sw sg : Nat → Nat) (bw : Nat → Nat) (bt : DD) (iD : Nat → DD) (iS : Nat → Nat), Mx G H' a tx 0 (-1) false 0 0 0 0 0 kK kV (fun i => if i = 26 then -1 else 0) 0 0 0 pu 0 sw sg 0 bw bt (fun _ => false) iD iS) ∧ H'.size = a + 15 ∧ ∀ q : Nat, q < a → H'[q]? = H[q]?)) := by
  have hZ : H.size = a + 1 := hsz
  have hF : ∀ q : Nat, q < a → H[q]? = H[q]? := fun _ _ => rfl
  refine AM.ofV (lv := [(0, .ref a)]) (by decide +kernel) (ini := true) (fun _ => rfl) (Nat.le_of_ble_eq_true rfl) rfl ?_ (fun _ _ h => h.1)
  refine a_aload_n 0 dX7_init_0 rfl rfl ?_
  refine a_objI oi_X7_1 dX7_init_1 (Nat.le_of_ble_eq_true rfl) (Nat.le_of_ble_eq_true rfl) ?_
  refine a_aload_n 0 dX7_init_4 rfl rfl ?_
  refine a_sipush 240 dX7_init_5 (by decide) ?_
  refine a_newI (n := 240) ac_I dX7_init_8 (by decide) (Nat.le_of_ble_eq_true rfl) (Nat.le_of_ble_eq_true rfl) (fun H1 hTx hz1 hq1 => ?_)
  have hA1 : H.size = a + 1 := by omega
  rw [hA1] at hTx hz1 hq1
  rw [hA1]
  have hm := hm.kept (hq1 _ (by omega))
  replace hZ : H1.size = a + 1 + 1 := hz1
  clear hz1 hA1
  have hF : ∀ q : Nat, q < a → H1[q]? = H[q]? := fun q hq => (hq1 q (by omega)).trans (hF q hq)
  refine a_put f_X7_7 p_X7_7 dX7_init_10 hm (Nat.le_of_ble_eq_true rfl) rfl rfl (by omega) (fun H2 hm hz2 hq2 => ?_)
  have hm : Ob G H2 a 7 [.int 0, .ref (a + 1), .int 0, .int 0, .int 0, .int 0, .int 0, .null, .null, .null, .int 0, .int 0, .int 0, .int 0, .null, .null, .null, .null, .int 0, .int 0, .null, .long 0, .int 0, .null, .int 0, .null, .null, .null, .null] := hm
  have hTx := hTx.kept (hq2 _ (by omega))
  have hF : ∀ q : Nat, q < a → H2[q]? = H[q]? := fun q hq => (hq2 q (by omega)).trans (hF q hq)
  replace hZ := hz2.trans hZ
  clear hz2
  refine a_aload_n 0 dX7_init_13 rfl rfl ?_
  refine a_iconst (-1) dX7_init_14 (by decide) ?_
  refine a_put f_X7_13 p_X7_13 dX7_init_15 hm (Nat.le_of_ble_eq_true rfl) rfl rfl (by omega) (fun H3 hm hz3 hq3 => ?_)
  have hm : Ob G H3 a 7 [.int 0, .ref (a + 1), .int (-1), .int 0, .int 0, .int 0, .int 0, .null, .null, .null, .int 0, .int 0, .int 0, .int 0, .null, .null, .null, .null, .int 0, .int 0, .null, .long 0, .int 0, .null, .int 0, .null, .null, .null, .null] := hm
  have hTx := hTx.kept (hq3 _ (by omega))
  have hF : ∀ q : Nat, q < a → H3[q]? = H[q]? := fun q hq => (hq3 q (by omega)).trans (hF q hq)
  replace hZ := hz3.trans hZ
  clear hz3
  refine a_aload_n 0 dX7_init_18 rfl rfl ?_
  refine a_iconst 3 dX7_init_19 (by decide) ?_
  refine a_newI (n := 3) ac_I dX7_init_20 (by decide) (Nat.le_of_ble_eq_true rfl) (Nat.le_of_ble_eq_true rfl) (fun H4 hq2 hz4 hq4 => ?_)
  have hA4 : H3.size = a + 2 := by omega
  rw [hA4] at hq2 hz4 hq4
  rw [hA4]
  have hm := hm.kept (hq4 _ (by omega))
  have hTx := hTx.kept (hq4 _ (by omega))
  replace hZ : H4.size = a + 2 + 1 := hz4
  clear hz4 hA4
  have hF : ∀ q : Nat, q < a → H4[q]? = H[q]? := fun q hq => (hq4 q (by omega)).trans (hF q hq)
  refine a_put f_X7_17 p_X7_17 dX7_init_22 hm (Nat.le_of_ble_eq_true rfl) rfl rfl (by omega) (fun H5 hm hz5 hq5 => ?_)
  have hm : Ob G H5 a 7 [.int 0, .ref (a + 1), .int (-1), .int 0, .int 0, .int 0, .int 0, .ref (a + 2), .null, .null, .int 0, .int 0, .int 0, .int 0, .null, .null, .null, .null, .int 0, .int 0, .null, .long 0, .int 0, .null, .int 0, .null, .null, .null, .null] := hm
  have hTx := hTx.kept (hq5 _ (by omega))
  have hq2 := hq2.kept (hq5 _ (by omega))
  have hF : ∀ q : Nat, q < a → H5[q]? = H[q]? := fun q hq => (hq5 q (by omega)).trans (hF q hq)
  replace hZ := hz5.trans hZ
  clear hz5
  refine a_aload_n 0 dX7_init_25 rfl rfl ?_
  refine a_bipush 24 dX7_init_26 (by decide) ?_
  refine a_newI (n := 24) ac_I dX7_init_28 (by decide) (Nat.le_of_ble_eq_true rfl) (Nat.le_of_ble_eq_true rfl) (fun H6 hq3 hz6 hq6 => ?_)
  have hA6 : H5.size = a + 3 := by omega
  rw [hA6] at hq3 hz6 hq6
  rw [hA6]
  have hm := hm.kept (hq6 _ (by omega))
  have hTx := hTx.kept (hq6 _ (by omega))
  have hq2 := hq2.kept (hq6 _ (by omega))
  replace hZ : H6.size = a + 3 + 1 := hz6
  clear hz6 hA6
  have hF : ∀ q : Nat, q < a → H6[q]? = H[q]? := fun q hq => (hq6 q (by omega)).trans (hF q hq)
  refine a_put f_X7_20 p_X7_20 dX7_init_30 hm (Nat.le_of_ble_eq_true rfl) rfl rfl (by omega) (fun H7 hm hz7 hq7 => ?_)
  have hm : Ob G H7 a 7 [.int 0, .ref (a + 1), .int (-1), .int 0, .int 0, .int 0, .int 0, .ref (a + 2), .ref (a + 3), .null, .int 0, .int 0, .int 0, .int 0, .null, .null, .null, .null, .int 0, .int 0, .null, .long 0, .int 0, .null, .int 0, .null, .null, .null, .null] := hm
  have hTx := hTx.kept (hq7 _ (by omega))
  have hq2 := hq2.kept (hq7 _ (by omega))
  have hq3 := hq3.kept (hq7 _ (by omega))
  have hF : ∀ q : Nat, q < a → H7[q]? = H[q]? := fun q hq => (hq7 q (by omega)).trans (hF q hq)
  replace hZ := hz7.trans hZ
  clear hz7
  refine a_aload_n 0 dX7_init_33 rfl rfl ?_
  refine a_iconst 4 dX7_init_34 (by decide) ?_
  refine a_newI (n := 4) ac_I dX7_init_35 (by decide) (Nat.le_of_ble_eq_true rfl) (Nat.le_of_ble_eq_true rfl) (fun H8 hq4 hz8 hq8 => ?_)
  have hA8 : H7.size = a + 4 := by omega
  rw [hA8] at hq4 hz8 hq8
  rw [hA8]
  have hm := hm.kept (hq8 _ (by omega))
  have hTx := hTx.kept (hq8 _ (by omega))
  have hq2 := hq2.kept (hq8 _ (by omega))
  have hq3 := hq3.kept (hq8 _ (by omega))
  replace hZ : H8.size = a + 4 + 1 := hz8
  clear hz8 hA8
  have hF : ∀ q : Nat, q < a → H8[q]? = H[q]? := fun q hq => (hq8 q (by omega)).trans (hF q hq)
  refine a_put f_X7_23 p_X7_23 dX7_init_37 hm (Nat.le_of_ble_eq_true rfl) rfl rfl (by omega) (fun H9 hm hz9 hq9 => ?_)
  have hm : Ob G H9 a 7 [.int 0, .ref (a + 1), .int (-1), .int 0, .int 0, .int 0, .int 0, .ref (a + 2), .ref (a + 3), .ref (a + 4), .int 0, .int 0, .int 0, .int 0, .null, .null, .null, .null, .int 0, .int 0, .null, .long 0, .int 0, .null, .int 0, .null, .null, .null, .null] := hm
  have hTx := hTx.kept (hq9 _ (by omega))
  have hq2 := hq2.kept (hq9 _ (by omega))
  have hq3 := hq3.kept (hq9 _ (by omega))
  have hq4 := hq4.kept (hq9 _ (by omega))
  have hF : ∀ q : Nat, q < a → H9[q]? = H[q]? := fun q hq => (hq9 q (by omega)).trans (hF q hq)
  replace hZ := hz9.trans hZ
  clear hz9
  refine a_aload_n 0 dX7_init_40 rfl rfl ?_
  refine a_iconst 3 dX7_init_41 (by decide) ?_
  refine a_newI (n := 3) ac_I dX7_init_42 (by decide) (Nat.le_of_ble_eq_true rfl) (Nat.le_of_ble_eq_true rfl) (fun H10 hBx hz10 hq10 => ?_)
  have hA10 : H9.size = a + 5 := by omega
  rw [hA10] at hBx hz10 hq10
  rw [hA10]
  have hm := hm.kept (hq10 _ (by omega))
  have hTx := hTx.kept (hq10 _ (by omega))
  have hq2 := hq2.kept (hq10 _ (by omega))
  have hq3 := hq3.kept (hq10 _ (by omega))
  have hq4 := hq4.kept (hq10 _ (by omega))
  replace hZ : H10.size = a + 5 + 1 := hz10
  clear hz10 hA10
  have hF : ∀ q : Nat, q < a → H10[q]? = H[q]? := fun q hq => (hq10 q (by omega)).trans (hF q hq)
  refine a_put f_X7_26 p_X7_26 dX7_init_44 hm (Nat.le_of_ble_eq_true rfl) rfl rfl (by omega) (fun H11 hm hz11 hq11 => ?_)
  have hm : Ob G H11 a 7 [.int 0, .ref (a + 1), .int (-1), .int 0, .int 0, .int 0, .int 0, .ref (a + 2), .ref (a + 3), .ref (a + 4), .int 0, .int 0, .int 0, .int 0, .ref (a + 5), .null, .null, .null, .int 0, .int 0, .null, .long 0, .int 0, .null, .int 0, .null, .null, .null, .null] := hm
  have hTx := hTx.kept (hq11 _ (by omega))
  have hq2 := hq2.kept (hq11 _ (by omega))
  have hq3 := hq3.kept (hq11 _ (by omega))
  have hq4 := hq4.kept (hq11 _ (by omega))
  have hBx := hBx.kept (hq11 _ (by omega))
  have hF : ∀ q : Nat, q < a → H11[q]? = H[q]? := fun q hq => (hq11 q (by omega)).trans (hF q hq)
  replace hZ := hz11.trans hZ
  clear hz11
  refine a_aload_n 0 dX7_init_47 rfl rfl ?_
  refine a_bipush 8 dX7_init_48 (by decide) ?_
  refine a_newI (n := 8) ac_I dX7_init_50 (by decide) (Nat.le_of_ble_eq_true rfl) (Nat.le_of_ble_eq_true rfl) (fun H12 hKx hz12 hq12 => ?_)
  have hA12 : H11.size = a + 6 := by omega
  rw [hA12] at hKx hz12 hq12
  rw [hA12]
  have hm := hm.kept (hq12 _ (by omega))
  have hTx := hTx.kept (hq12 _ (by omega))
  have hq2 := hq2.kept (hq12 _ (by omega))
  have hq3 := hq3.kept (hq12 _ (by omega))
  have hq4 := hq4.kept (hq12 _ (by omega))
  have hBx := hBx.kept (hq12 _ (by omega))
  replace hZ : H12.size = a + 6 + 1 := hz12
  clear hz12 hA12
  have hF : ∀ q : Nat, q < a → H12[q]? = H[q]? := fun q hq => (hq12 q (by omega)).trans (hF q hq)
  refine a_put f_X7_29 p_X7_29 dX7_init_52 hm (Nat.le_of_ble_eq_true rfl) rfl rfl (by omega) (fun H13 hm hz13 hq13 => ?_)
  have hm : Ob G H13 a 7 [.int 0, .ref (a + 1), .int (-1), .int 0, .int 0, .int 0, .int 0, .ref (a + 2), .ref (a + 3), .ref (a + 4), .int 0, .int 0, .int 0, .int 0, .ref (a + 5), .ref (a + 6), .null, .null, .int 0, .int 0, .null, .long 0, .int 0, .null, .int 0, .null, .null, .null, .null] := hm
  have hTx := hTx.kept (hq13 _ (by omega))
  have hq2 := hq2.kept (hq13 _ (by omega))
  have hq3 := hq3.kept (hq13 _ (by omega))
  have hq4 := hq4.kept (hq13 _ (by omega))
  have hBx := hBx.kept (hq13 _ (by omega))
  have hKx := hKx.kept (hq13 _ (by omega))
  have hF : ∀ q : Nat, q < a → H13[q]? = H[q]? := fun q hq => (hq13 q (by omega)).trans (hF q hq)
  replace hZ := hz13.trans hZ
  clear hz13
  refine a_aload_n 0 dX7_init_55 rfl rfl ?_
  refine a_iconst 4 dX7_init_56 (by decide) ?_
  refine a_newI (n := 4) ac_I dX7_init_57 (by decide) (Nat.le_of_ble_eq_true rfl) (Nat.le_of_ble_eq_true rfl) (fun H14 hVx hz14 hq14 => ?_)
  have hA14 : H13.size = a + 7 := by omega
  rw [hA14] at hVx hz14 hq14
  rw [hA14]
  have hm := hm.kept (hq14 _ (by omega))
  have hTx := hTx.kept (hq14 _ (by omega))
  have hq2 := hq2.kept (hq14 _ (by omega))
  have hq3 := hq3.kept (hq14 _ (by omega))
  have hq4 := hq4.kept (hq14 _ (by omega))
  have hBx := hBx.kept (hq14 _ (by omega))
  have hKx := hKx.kept (hq14 _ (by omega))
  replace hZ : H14.size = a + 7 + 1 := hz14
  clear hz14 hA14
  have hF : ∀ q : Nat, q < a → H14[q]? = H[q]? := fun q hq => (hq14 q (by omega)).trans (hF q hq)
  refine a_put f_X7_32 p_X7_32 dX7_init_59 hm (Nat.le_of_ble_eq_true rfl) rfl rfl (by omega) (fun H15 hm hz15 hq15 => ?_)
  have hm : Ob G H15 a 7 [.int 0, .ref (a + 1), .int (-1), .int 0, .int 0, .int 0, .int 0, .ref (a + 2), .ref (a + 3), .ref (a + 4), .int 0, .int 0, .int 0, .int 0, .ref (a + 5), .ref (a + 6), .ref (a + 7), .null, .int 0, .int 0, .null, .long 0, .int 0, .null, .int 0, .null, .null, .null, .null] := hm
  have hTx := hTx.kept (hq15 _ (by omega))
  have hq2 := hq2.kept (hq15 _ (by omega))
  have hq3 := hq3.kept (hq15 _ (by omega))
  have hq4 := hq4.kept (hq15 _ (by omega))
  have hBx := hBx.kept (hq15 _ (by omega))
  have hKx := hKx.kept (hq15 _ (by omega))
  have hVx := hVx.kept (hq15 _ (by omega))
  have hF : ∀ q : Nat, q < a → H15[q]? = H[q]? := fun q hq => (hq15 q (by omega)).trans (hF q hq)
  replace hZ := hz15.trans hZ
  clear hz15
  refine a_aload_n 0 dX7_init_62 rfl rfl ?_
  refine a_bipush 27 dX7_init_63 (by decide) ?_
  refine a_newI (n := 27) ac_I dX7_init_65 (by decide) (Nat.le_of_ble_eq_true rfl) (Nat.le_of_ble_eq_true rfl) (fun H16 hNx hz16 hq16 => ?_)
  have hA16 : H15.size = a + 8 := by omega
  rw [hA16] at hNx hz16 hq16
  rw [hA16]
  have hm := hm.kept (hq16 _ (by omega))
  have hTx := hTx.kept (hq16 _ (by omega))
  have hq2 := hq2.kept (hq16 _ (by omega))
  have hq3 := hq3.kept (hq16 _ (by omega))
  have hq4 := hq4.kept (hq16 _ (by omega))
  have hBx := hBx.kept (hq16 _ (by omega))
  have hKx := hKx.kept (hq16 _ (by omega))
  have hVx := hVx.kept (hq16 _ (by omega))
  replace hZ : H16.size = a + 8 + 1 := hz16
  clear hz16 hA16
  have hF : ∀ q : Nat, q < a → H16[q]? = H[q]? := fun q hq => (hq16 q (by omega)).trans (hF q hq)
  refine a_put f_X7_35 p_X7_35 dX7_init_67 hm (Nat.le_of_ble_eq_true rfl) rfl rfl (by omega) (fun H17 hm hz17 hq17 => ?_)
  have hm : Ob G H17 a 7 [.int 0, .ref (a + 1), .int (-1), .int 0, .int 0, .int 0, .int 0, .ref (a + 2), .ref (a + 3), .ref (a + 4), .int 0, .int 0, .int 0, .int 0, .ref (a + 5), .ref (a + 6), .ref (a + 7), .ref (a + 8), .int 0, .int 0, .null, .long 0, .int 0, .null, .int 0, .null, .null, .null, .null] := hm
  have hTx := hTx.kept (hq17 _ (by omega))
  have hq2 := hq2.kept (hq17 _ (by omega))
  have hq3 := hq3.kept (hq17 _ (by omega))
  have hq4 := hq4.kept (hq17 _ (by omega))
  have hBx := hBx.kept (hq17 _ (by omega))
  have hKx := hKx.kept (hq17 _ (by omega))
  have hVx := hVx.kept (hq17 _ (by omega))
  have hNx := hNx.kept (hq17 _ (by omega))
  have hF : ∀ q : Nat, q < a → H17[q]? = H[q]? := fun q hq => (hq17 q (by omega)).trans (hF q hq)
  replace hZ := hz17.trans hZ
  clear hz17
  refine a_aload_n 0 dX7_init_70 rfl rfl ?_
  refine a_sipush 540 dX7_init_71 (by decide) ?_
  refine a_newI (n := 540) ac_I dX7_init_74 (by decide) (Nat.le_of_ble_eq_true rfl) (Nat.le_of_ble_eq_true rfl) (fun H18 hUx hz18 hq18 => ?_)
  have hA18 : H17.size = a + 9 := by omega
  rw [hA18] at hUx hz18 hq18
  rw [hA18]
  have hm := hm.kept (hq18 _ (by omega))
  have hTx := hTx.kept (hq18 _ (by omega))
  have hq2 := hq2.kept (hq18 _ (by omega))
  have hq3 := hq3.kept (hq18 _ (by omega))
  have hq4 := hq4.kept (hq18 _ (by omega))
  have hBx := hBx.kept (hq18 _ (by omega))
  have hKx := hKx.kept (hq18 _ (by omega))
  have hVx := hVx.kept (hq18 _ (by omega))
  have hNx := hNx.kept (hq18 _ (by omega))
  replace hZ : H18.size = a + 9 + 1 := hz18
  clear hz18 hA18
  have hF : ∀ q : Nat, q < a → H18[q]? = H[q]? := fun q hq => (hq18 q (by omega)).trans (hF q hq)
  refine a_put f_X7_38 p_X7_38 dX7_init_76 hm (Nat.le_of_ble_eq_true rfl) rfl rfl (by omega) (fun H19 hm hz19 hq19 => ?_)
  have hm : Ob G H19 a 7 [.int 0, .ref (a + 1), .int (-1), .int 0, .int 0, .int 0, .int 0, .ref (a + 2), .ref (a + 3), .ref (a + 4), .int 0, .int 0, .int 0, .int 0, .ref (a + 5), .ref (a + 6), .ref (a + 7), .ref (a + 8), .int 0, .int 0, .ref (a + 9), .long 0, .int 0, .null, .int 0, .null, .null, .null, .null] := hm
  have hTx := hTx.kept (hq19 _ (by omega))
  have hq2 := hq2.kept (hq19 _ (by omega))
  have hq3 := hq3.kept (hq19 _ (by omega))
  have hq4 := hq4.kept (hq19 _ (by omega))
  have hBx := hBx.kept (hq19 _ (by omega))
  have hKx := hKx.kept (hq19 _ (by omega))
  have hVx := hVx.kept (hq19 _ (by omega))
  have hNx := hNx.kept (hq19 _ (by omega))
  have hUx := hUx.kept (hq19 _ (by omega))
  have hF : ∀ q : Nat, q < a → H19[q]? = H[q]? := fun q hq => (hq19 q (by omega)).trans (hF q hq)
  replace hZ := hz19.trans hZ
  clear hz19
  refine a_aload_n 0 dX7_init_79 rfl rfl ?_
  refine a_bipush 12 dX7_init_80 (by decide) ?_
  refine a_newI (n := 12) ac_I dX7_init_82 (by decide) (Nat.le_of_ble_eq_true rfl) (Nat.le_of_ble_eq_true rfl) (fun H20 hSx hz20 hq20 => ?_)
  have hA20 : H19.size = a + 10 := by omega
  rw [hA20] at hSx hz20 hq20
  rw [hA20]
  have hm := hm.kept (hq20 _ (by omega))
  have hTx := hTx.kept (hq20 _ (by omega))
  have hq2 := hq2.kept (hq20 _ (by omega))
  have hq3 := hq3.kept (hq20 _ (by omega))
  have hq4 := hq4.kept (hq20 _ (by omega))
  have hBx := hBx.kept (hq20 _ (by omega))
  have hKx := hKx.kept (hq20 _ (by omega))
  have hVx := hVx.kept (hq20 _ (by omega))
  have hNx := hNx.kept (hq20 _ (by omega))
  have hUx := hUx.kept (hq20 _ (by omega))
  replace hZ : H20.size = a + 10 + 1 := hz20
  clear hz20 hA20
  have hF : ∀ q : Nat, q < a → H20[q]? = H[q]? := fun q hq => (hq20 q (by omega)).trans (hF q hq)
  refine a_put f_X7_41 p_X7_41 dX7_init_84 hm (Nat.le_of_ble_eq_true rfl) rfl rfl (by omega) (fun H21 hm hz21 hq21 => ?_)
  have hm : Ob G H21 a 7 [.int 0, .ref (a + 1), .int (-1), .int 0, .int 0, .int 0, .int 0, .ref (a + 2), .ref (a + 3), .ref (a + 4), .int 0, .int 0, .int 0, .int 0, .ref (a + 5), .ref (a + 6), .ref (a + 7), .ref (a + 8), .int 0, .int 0, .ref (a + 9), .long 0, .int 0, .ref (a + 10), .int 0, .null, .null, .null, .null] := hm
  have hTx := hTx.kept (hq21 _ (by omega))
  have hq2 := hq2.kept (hq21 _ (by omega))
  have hq3 := hq3.kept (hq21 _ (by omega))
  have hq4 := hq4.kept (hq21 _ (by omega))
  have hBx := hBx.kept (hq21 _ (by omega))
  have hKx := hKx.kept (hq21 _ (by omega))
  have hVx := hVx.kept (hq21 _ (by omega))
  have hNx := hNx.kept (hq21 _ (by omega))
  have hUx := hUx.kept (hq21 _ (by omega))
  have hSx := hSx.kept (hq21 _ (by omega))
  have hF : ∀ q : Nat, q < a → H21[q]? = H[q]? := fun q hq => (hq21 q (by omega)).trans (hF q hq)
  replace hZ := hz21.trans hZ
  clear hz21
  refine a_aload_n 0 dX7_init_87 rfl rfl ?_
  refine a_bipush 30 dX7_init_88 (by decide) ?_
  refine a_newI (n := 30) ac_I dX7_init_90 (by decide) (Nat.le_of_ble_eq_true rfl) (Nat.le_of_ble_eq_true rfl) (fun H22 hQx hz22 hq22 => ?_)
  have hA22 : H21.size = a + 11 := by omega
  rw [hA22] at hQx hz22 hq22
  rw [hA22]
  have hm := hm.kept (hq22 _ (by omega))
  have hTx := hTx.kept (hq22 _ (by omega))
  have hq2 := hq2.kept (hq22 _ (by omega))
  have hq3 := hq3.kept (hq22 _ (by omega))
  have hq4 := hq4.kept (hq22 _ (by omega))
  have hBx := hBx.kept (hq22 _ (by omega))
  have hKx := hKx.kept (hq22 _ (by omega))
  have hVx := hVx.kept (hq22 _ (by omega))
  have hNx := hNx.kept (hq22 _ (by omega))
  have hUx := hUx.kept (hq22 _ (by omega))
  have hSx := hSx.kept (hq22 _ (by omega))
  replace hZ : H22.size = a + 11 + 1 := hz22
  clear hz22 hA22
  have hF : ∀ q : Nat, q < a → H22[q]? = H[q]? := fun q hq => (hq22 q (by omega)).trans (hF q hq)
  refine a_put f_X7_44 p_X7_44 dX7_init_92 hm (Nat.le_of_ble_eq_true rfl) rfl rfl (by omega) (fun H23 hm hz23 hq23 => ?_)
  have hm : Ob G H23 a 7 [.int 0, .ref (a + 1), .int (-1), .int 0, .int 0, .int 0, .int 0, .ref (a + 2), .ref (a + 3), .ref (a + 4), .int 0, .int 0, .int 0, .int 0, .ref (a + 5), .ref (a + 6), .ref (a + 7), .ref (a + 8), .int 0, .int 0, .ref (a + 9), .long 0, .int 0, .ref (a + 10), .int 0, .ref (a + 11), .null, .null, .null] := hm
  have hTx := hTx.kept (hq23 _ (by omega))
  have hq2 := hq2.kept (hq23 _ (by omega))
  have hq3 := hq3.kept (hq23 _ (by omega))
  have hq4 := hq4.kept (hq23 _ (by omega))
  have hBx := hBx.kept (hq23 _ (by omega))
  have hKx := hKx.kept (hq23 _ (by omega))
  have hVx := hVx.kept (hq23 _ (by omega))
  have hNx := hNx.kept (hq23 _ (by omega))
  have hUx := hUx.kept (hq23 _ (by omega))
  have hSx := hSx.kept (hq23 _ (by omega))
  have hQx := hQx.kept (hq23 _ (by omega))
  have hF : ∀ q : Nat, q < a → H23[q]? = H[q]? := fun q hq => (hq23 q (by omega)).trans (hF q hq)
  replace hZ := hz23.trans hZ
  clear hz23
  refine a_aload_n 0 dX7_init_95 rfl rfl ?_
  refine a_iconst 2 dX7_init_96 (by decide) ?_
  refine a_newZ (n := 2) ac_Z dX7_init_97 (by decide) (Nat.le_of_ble_eq_true rfl) (Nat.le_of_ble_eq_true rfl) (fun H24 hzx hz24 hq24 => ?_)
  have hA24 : H23.size = a + 12 := by omega
  rw [hA24] at hzx hz24 hq24
  rw [hA24]
  have hm := hm.kept (hq24 _ (by omega))
  have hTx := hTx.kept (hq24 _ (by omega))
  have hq2 := hq2.kept (hq24 _ (by omega))
  have hq3 := hq3.kept (hq24 _ (by omega))
  have hq4 := hq4.kept (hq24 _ (by omega))
  have hBx := hBx.kept (hq24 _ (by omega))
  have hKx := hKx.kept (hq24 _ (by omega))
  have hVx := hVx.kept (hq24 _ (by omega))
  have hNx := hNx.kept (hq24 _ (by omega))
  have hUx := hUx.kept (hq24 _ (by omega))
  have hSx := hSx.kept (hq24 _ (by omega))
  have hQx := hQx.kept (hq24 _ (by omega))
  replace hZ : H24.size = a + 12 + 1 := hz24
  clear hz24 hA24
  have hF : ∀ q : Nat, q < a → H24[q]? = H[q]? := fun q hq => (hq24 q (by omega)).trans (hF q hq)
  refine a_put f_X7_47 p_X7_47 dX7_init_99 hm (Nat.le_of_ble_eq_true rfl) rfl rfl (by omega) (fun H25 hm hz25 hq25 => ?_)
  have hm : Ob G H25 a 7 [.int 0, .ref (a + 1), .int (-1), .int 0, .int 0, .int 0, .int 0, .ref (a + 2), .ref (a + 3), .ref (a + 4), .int 0, .int 0, .int 0, .int 0, .ref (a + 5), .ref (a + 6), .ref (a + 7), .ref (a + 8), .int 0, .int 0, .ref (a + 9), .long 0, .int 0, .ref (a + 10), .int 0, .ref (a + 11), .ref (a + 12), .null, .null] := hm
  have hTx := hTx.kept (hq25 _ (by omega))
  have hq2 := hq2.kept (hq25 _ (by omega))
  have hq3 := hq3.kept (hq25 _ (by omega))
  have hq4 := hq4.kept (hq25 _ (by omega))
  have hBx := hBx.kept (hq25 _ (by omega))
  have hKx := hKx.kept (hq25 _ (by omega))
  have hVx := hVx.kept (hq25 _ (by omega))
  have hNx := hNx.kept (hq25 _ (by omega))
  have hUx := hUx.kept (hq25 _ (by omega))
  have hSx := hSx.kept (hq25 _ (by omega))
  have hQx := hQx.kept (hq25 _ (by omega))
  have hzx := hzx.kept (hq25 _ (by omega))
  have hF : ∀ q : Nat, q < a → H25[q]? = H[q]? := fun q hq => (hq25 q (by omega)).trans (hF q hq)
  replace hZ := hz25.trans hZ
  clear hz25
  refine a_aload_n 0 dX7_init_102 rfl rfl ?_
  refine a_bipush 54 dX7_init_103 (by decide) ?_
  refine a_newI (n := 54) ac_I dX7_init_105 (by decide) (Nat.le_of_ble_eq_true rfl) (Nat.le_of_ble_eq_true rfl) (fun H26 hkx hz26 hq26 => ?_)
  have hA26 : H25.size = a + 13 := by omega
  rw [hA26] at hkx hz26 hq26
  rw [hA26]
  have hm := hm.kept (hq26 _ (by omega))
  have hTx := hTx.kept (hq26 _ (by omega))
  have hq2 := hq2.kept (hq26 _ (by omega))
  have hq3 := hq3.kept (hq26 _ (by omega))
  have hq4 := hq4.kept (hq26 _ (by omega))
  have hBx := hBx.kept (hq26 _ (by omega))
  have hKx := hKx.kept (hq26 _ (by omega))
  have hVx := hVx.kept (hq26 _ (by omega))
  have hNx := hNx.kept (hq26 _ (by omega))
  have hUx := hUx.kept (hq26 _ (by omega))
  have hSx := hSx.kept (hq26 _ (by omega))
  have hQx := hQx.kept (hq26 _ (by omega))
  have hzx := hzx.kept (hq26 _ (by omega))
  replace hZ : H26.size = a + 13 + 1 := hz26
  clear hz26 hA26
  have hF : ∀ q : Nat, q < a → H26[q]? = H[q]? := fun q hq => (hq26 q (by omega)).trans (hF q hq)
  refine a_put f_X7_51 p_X7_51 dX7_init_107 hm (Nat.le_of_ble_eq_true rfl) rfl rfl (by omega) (fun H27 hm hz27 hq27 => ?_)
  have hm : Ob G H27 a 7 [.int 0, .ref (a + 1), .int (-1), .int 0, .int 0, .int 0, .int 0, .ref (a + 2), .ref (a + 3), .ref (a + 4), .int 0, .int 0, .int 0, .int 0, .ref (a + 5), .ref (a + 6), .ref (a + 7), .ref (a + 8), .int 0, .int 0, .ref (a + 9), .long 0, .int 0, .ref (a + 10), .int 0, .ref (a + 11), .ref (a + 12), .ref (a + 13), .null] := hm
  have hTx := hTx.kept (hq27 _ (by omega))
  have hq2 := hq2.kept (hq27 _ (by omega))
  have hq3 := hq3.kept (hq27 _ (by omega))
  have hq4 := hq4.kept (hq27 _ (by omega))
  have hBx := hBx.kept (hq27 _ (by omega))
  have hKx := hKx.kept (hq27 _ (by omega))
  have hVx := hVx.kept (hq27 _ (by omega))
  have hNx := hNx.kept (hq27 _ (by omega))
  have hUx := hUx.kept (hq27 _ (by omega))
  have hSx := hSx.kept (hq27 _ (by omega))
  have hQx := hQx.kept (hq27 _ (by omega))
  have hzx := hzx.kept (hq27 _ (by omega))
  have hkx := hkx.kept (hq27 _ (by omega))
  have hF : ∀ q : Nat, q < a → H27[q]? = H[q]? := fun q hq => (hq27 q (by omega)).trans (hF q hq)
  replace hZ := hz27.trans hZ
  clear hz27
  refine a_aload_n 0 dX7_init_110 rfl rfl ?_
  refine a_iconst 2 dX7_init_111 (by decide) ?_
  refine a_newL (n := 2) ac_J dX7_init_112 (by decide) (Nat.le_of_ble_eq_true rfl) (Nat.le_of_ble_eq_true rfl) (fun H28 hgx hz28 hq28 => ?_)
  have hA28 : H27.size = a + 14 := by omega
  rw [hA28] at hgx hz28 hq28
  rw [hA28]
  have hm := hm.kept (hq28 _ (by omega))
  have hTx := hTx.kept (hq28 _ (by omega))
  have hq2 := hq2.kept (hq28 _ (by omega))
  have hq3 := hq3.kept (hq28 _ (by omega))
  have hq4 := hq4.kept (hq28 _ (by omega))
  have hBx := hBx.kept (hq28 _ (by omega))
  have hKx := hKx.kept (hq28 _ (by omega))
  have hVx := hVx.kept (hq28 _ (by omega))
  have hNx := hNx.kept (hq28 _ (by omega))
  have hUx := hUx.kept (hq28 _ (by omega))
  have hSx := hSx.kept (hq28 _ (by omega))
  have hQx := hQx.kept (hq28 _ (by omega))
  have hzx := hzx.kept (hq28 _ (by omega))
  have hkx := hkx.kept (hq28 _ (by omega))
  replace hZ : H28.size = a + 14 + 1 := hz28
  clear hz28 hA28
  have hF : ∀ q : Nat, q < a → H28[q]? = H[q]? := fun q hq => (hq28 q (by omega)).trans (hF q hq)
  refine a_put f_X7_54 p_X7_54 dX7_init_114 hm (Nat.le_of_ble_eq_true rfl) rfl rfl (by omega) (fun H29 hm hz29 hq29 => ?_)
  have hm : Ob G H29 a 7 [.int 0, .ref (a + 1), .int (-1), .int 0, .int 0, .int 0, .int 0, .ref (a + 2), .ref (a + 3), .ref (a + 4), .int 0, .int 0, .int 0, .int 0, .ref (a + 5), .ref (a + 6), .ref (a + 7), .ref (a + 8), .int 0, .int 0, .ref (a + 9), .long 0, .int 0, .ref (a + 10), .int 0, .ref (a + 11), .ref (a + 12), .ref (a + 13), .ref (a + 14)] := hm
  have hTx := hTx.kept (hq29 _ (by omega))
  have hq2 := hq2.kept (hq29 _ (by omega))
  have hq3 := hq3.kept (hq29 _ (by omega))
  have hq4 := hq4.kept (hq29 _ (by omega))
  have hBx := hBx.kept (hq29 _ (by omega))
  have hKx := hKx.kept (hq29 _ (by omega))
  have hVx := hVx.kept (hq29 _ (by omega))
  have hNx := hNx.kept (hq29 _ (by omega))
  have hUx := hUx.kept (hq29 _ (by omega))
  have hSx := hSx.kept (hq29 _ (by omega))
  have hQx := hQx.kept (hq29 _ (by omega))
  have hzx := hzx.kept (hq29 _ (by omega))
  have hkx := hkx.kept (hq29 _ (by omega))
  have hgx := hgx.kept (hq29 _ (by omega))
  have hF : ∀ q : Nat, q < a → H29[q]? = H[q]? := fun q hq => (hq29 q (by omega)).trans (hF q hq)
  replace hZ := hz29.trans hZ
  clear hz29
  refine a_aload_n 0 dX7_init_117 rfl rfl ?_
  refine a_get f_X7_35 dX7_init_118 hm rfl ?_
  refine a_bipush 26 dX7_init_121 (by decide) ?_
  refine a_iconst (-1) dX7_init_123 (by decide) ?_
  refine a_iastN (j := 26) dX7_init_124 hNx (by omega) (by decide) (by omega) (fun H30 hNx hz30 hq30 => ?_)
  have hNx : Ai G H30 (a + 8) 27 (upd (fun _ => 0) 26 (-1)) := hNx
  have hm := hm.kept (hq30 _ (by omega))
  have hTx := hTx.kept (hq30 _ (by omega))
  have hq2 := hq2.kept (hq30 _ (by omega))
  have hq3 := hq3.kept (hq30 _ (by omega))
  have hq4 := hq4.kept (hq30 _ (by omega))
  have hBx := hBx.kept (hq30 _ (by omega))
  have hKx := hKx.kept (hq30 _ (by omega))
  have hVx := hVx.kept (hq30 _ (by omega))
  have hUx := hUx.kept (hq30 _ (by omega))
  have hSx := hSx.kept (hq30 _ (by omega))
  have hQx := hQx.kept (hq30 _ (by omega))
  have hzx := hzx.kept (hq30 _ (by omega))
  have hkx := hkx.kept (hq30 _ (by omega))
  have hgx := hgx.kept (hq30 _ (by omega))
  have hF : ∀ q : Nat, q < a → H30[q]? = H[q]? := fun q hq => (hq30 q (by omega)).trans (hF q hq)
  replace hZ := hz30.trans hZ
  clear hz30
  refine a_retv dX7_init_125 ⟨⟨rfl, ?_⟩, rfl, rfl⟩
  · refine ⟨fun tx kK kV pu sw sg bw bt iD iS => ⟨0, 0, 0, 0, false, ?_⟩, by omega, hF⟩
    exact ⟨⟨hm, ⟨_, hBx, rfl, rfl, rfl⟩, ⟨_, hKx, fun i hi => absurd hi (Nat.not_lt_zero _)⟩, ⟨_, hVx, fun i hi => absurd hi (Nat.not_lt_zero _)⟩, ⟨_, hNx, fun i hi => absurd hi (Nat.not_lt_zero _), fun i hi => absurd hi (Nat.not_lt_zero _), fun i hi => absurd hi (Nat.not_lt_zero _), rfl, rfl, rfl⟩, by decide, by decide⟩, ⟨⟨_, hTx, fun i hi => absurd hi (Nat.not_lt_zero _)⟩, ⟨_, hq2⟩, ⟨_, hq3⟩, ⟨_, hq4⟩, by decide, fun i hi => absurd hi (Nat.not_lt_zero _)⟩, ⟨_, hUx, fun i hi hv => absurd hv (Nat.not_lt_zero _), by decide, by decide⟩, ⟨_, hSx, fun i hi => absurd hi (Nat.not_lt_zero _), fun i hi => absurd hi (Nat.not_lt_zero _), by decide, by decide⟩, ⟨_, hQx, fun i hi => absurd hi (Nat.not_lt_zero _), fun i hi => absurd hi (Nat.not_lt_zero _), by decide, by decide⟩, ⟨⟨_, hzx, fun i hi => rfl⟩, ⟨_, hkx, fun i hi h => by cases h⟩, ⟨_, hgx, fun i hi h => by cases h⟩⟩⟩
