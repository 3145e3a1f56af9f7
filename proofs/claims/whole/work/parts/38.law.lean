/-! ===== BEGIN the law, whole ===== -/
theorem lim_in {L i : Nat} (hL : L ≤ 256) (hi : i ≤ 256) (h : ¬ nI L - 4 < nI i) : i + 4 ≤ L := by
  by_cases h4 : 4 ≤ L
  · rw [show (4 : Int32) = nI 4 from rfl, pk_sub h4] at h
    have h9 : ¬ L - 4 < i := fun q => h ((nI_ltI (a := L - 4) (b := i) (by omega) (by omega)).mpr q)
    omega
  · exact absurd (Int32.lt_of_lt_of_le (pk_sneg (a := L) (b := 4) (by decide) (by omega)) (nI_pos' (by omega))) h
section LZ
variable {G : GT} {l : Launch} {p : Program} {e : Env} {s : State} {m : MethodId} {below : List Frame} {meth : Method} {c : Code} {b0 L : Nat} {xs : Nat → Int32}
set_option maxHeartbeats 4000000 in
/-- the law's loop: at its head both stand in one state -/
theorem law_loop (hr : meth.sig.returnType = ret) (hlocks : meth.locks = false) (hX : va_X b0 L xs s s.heap) (hb0 : b0 < s.heap.size) (hL : L ≤ 256) : ∀ (fu i : Nat) (H : Heap), i ≤ 256 → SS G H s.heap.size → L - i < fu → LX G l p e s m below meth c b0 18 [(0, .ref b0), (1, .ref s.heap.size), (2, .ref (s.heap.size + 120)), (3, .int (nI i))] [] H := by
  intro fu
  induction fu with
  | zero => intro i H _ _ h; exact absurd h (Nat.not_lt_zero _)
  | succ fu ih =>
    intro i H hi hS hfu
    refine b_iload_n 3 dL_law_18 rfl rfl ?_
    refine b_aload_n 0 dL_law_19 rfl rfl ?_
    refine b_slen hX hb0 rfl dL_law_20 ?_
    refine b_iconst 4 dL_law_21 (by decide) ?_
    refine b_isub dL_law_22 ?_
    refine b_icmpgt 1086 dL_law_23 (by decide) (fun c23 => ?_) (fun c23 => ?_)
    · refine b_iconst 1 dL_law_1086 (by decide) ?_
      intro locs ls C hSS hl
      refine va_forget (fun q hq => hSS.2.2 q hq) ?_
      refine W.widen (k := 600000) (n := 7302250) (Nat.le_of_ble_eq_true rfl) (Nat.le_of_ble_eq_true rfl) ?_
      exact lw_ret C.1 C.2.1 hr hlocks dL_law_1087
    · have hi4 := lim_in hL hi c23
      have go : ∀ H1 : Heap, SS G H1 s.heap.size → LX G l p e s m below meth c b0 1080 [(0, .ref b0), (1, .ref s.heap.size), (2, .ref (s.heap.size + 120)), (3, .int (nI i))] [] H1 := by
        intro H1 hS1
        refine b_iinc (q := 3) (y := 4) (lv' := [(3, .int (nI i + 4)), (0, .ref b0), (1, .ref s.heap.size), (2, .ref (s.heap.size + 120))]) dL_law_1080 rfl (by decide) (by decide) rfl ?_
        refine b_goto 18 dL_law_1083 (by decide) ?_
        refine b_sub [1, 2, 3, 0] rfl ?_
        rw [show nI i + 4 = nI (i + 4) from nI_add i 4]
        exact ih (i + 4) H1 (by omega) hS1 (by omega)
      refine b_aload_n 0 dL_law_26 rfl rfl ?_
      refine b_iload_n 3 dL_law_27 rfl rfl ?_
      refine b_sld hX hb0 rfl (by omega) (by omega) dL_law_28 ?_
      refine b_bipush 63 dL_law_29 (by decide) ?_
      refine b_iand dL_law_31 ?_
      generalize xs i &&& 63 = v
      by_cases e0 : v = 0
      · refine b_toeq 0 e0 ?_
        exact b_tabIn 192 dL_law_32 (by decide) (by decide) (off := 160) (by rfl) (by decide) (lc_feed hX hb0 hi4 hL hS go)
      by_cases e1 : v = 1
      · refine b_toeq 1 e1 ?_
        exact b_tabIn 215 dL_law_32 (by decide) (by decide) (off := 183) (by rfl) (by decide) (lc_kitchen hX hb0 hi4 hL hS go)
      by_cases e2 : v = 2
      · refine b_toeq 2 e2 ?_
        exact b_tabIn 228 dL_law_32 (by decide) (by decide) (off := 196) (by rfl) (by decide) (lc_fault hX hb0 hi4 hL hS go)
      by_cases e3 : v = 3
      · refine b_toeq 3 e3 ?_
        exact b_tabIn 241 dL_law_32 (by decide) (by decide) (off := 209) (by rfl) (by decide) (lc_told hX hb0 hi4 hL hS go)
      by_cases e4 : v = 4
      · refine b_toeq 4 e4 ?_
        exact b_tabIn 264 dL_law_32 (by decide) (by decide) (off := 232) (by rfl) (by decide) (lc_word hX hb0 hi4 hL hS go)
      by_cases e5 : v = 5
      · refine b_toeq 5 e5 ?_
        exact b_tabIn 297 dL_law_32 (by decide) (by decide) (off := 265) (by rfl) (by decide) (lc_voice hX hb0 hi4 hL hS go)
      by_cases e6 : v = 6
      · refine b_toeq 6 e6 ?_
        exact b_tabIn 320 dL_law_32 (by decide) (by decide) (off := 288) (by rfl) (by decide) (lc_hear hX hb0 hi4 hL hS go)
      by_cases e7 : v = 7
      · refine b_toeq 7 e7 ?_
        exact b_tabIn 343 dL_law_32 (by decide) (by decide) (off := 311) (by rfl) (by decide) (lc_takeBack hX hb0 hi4 hL hS go)
      by_cases e8 : v = 8
      · refine b_toeq 8 e8 ?_
        exact b_tabIn 366 dL_law_32 (by decide) (by decide) (off := 334) (by rfl) (by decide) (lc_letBe hX hb0 hi4 hL hS go)
      by_cases e9 : v = 9
      · refine b_toeq 9 e9 ?_
        exact b_tabIn 379 dL_law_32 (by decide) (by decide) (off := 347) (by rfl) (by decide) (lc_call hX hb0 hi4 hL hS go)
      by_cases e10 : v = 10
      · refine b_toeq 10 e10 ?_
        exact b_tabIn 412 dL_law_32 (by decide) (by decide) (off := 380) (by rfl) (by decide) (lc_drift hX hb0 hi4 hL hS go)
      by_cases e11 : v = 11
      · refine b_toeq 11 e11 ?_
        exact b_tabIn 435 dL_law_32 (by decide) (by decide) (off := 403) (by rfl) (by decide) (lc_undo hX hb0 hi4 hL hS go)
      by_cases e12 : v = 12
      · refine b_toeq 12 e12 ?_
        exact b_tabIn 448 dL_law_32 (by decide) (by decide) (off := 416) (by rfl) (by decide) (lc_guess hX hb0 hi4 hL hS go)
      by_cases e13 : v = 13
      · refine b_toeq 13 e13 ?_
        exact b_tabIn 471 dL_law_32 (by decide) (by decide) (off := 439) (by rfl) (by decide) (lc_sure hX hb0 hi4 hL hS go)
      by_cases e14 : v = 14
      · refine b_toeq 14 e14 ?_
        exact b_tabIn 504 dL_law_32 (by decide) (by decide) (off := 472) (by rfl) (by decide) (lc_rule hX hb0 hi4 hL hS go)
      by_cases e15 : v = 15
      · refine b_toeq 15 e15 ?_
        exact b_tabIn 527 dL_law_32 (by decide) (by decide) (off := 495) (by rfl) (by decide) (lc_worth hX hb0 hi4 hL hS go)
      by_cases e16 : v = 16
      · refine b_toeq 16 e16 ?_
        exact b_tabIn 560 dL_law_32 (by decide) (by decide) (off := 528) (by rfl) (by decide) (lc_said hX hb0 hi4 hL hS go)
      by_cases e17 : v = 17
      · refine b_toeq 17 e17 ?_
        exact b_tabIn 593 dL_law_32 (by decide) (by decide) (off := 561) (by rfl) (by decide) (lc_misheard hX hb0 hi4 hL hS go)
      by_cases e18 : v = 18
      · refine b_toeq 18 e18 ?_
        exact b_tabIn 616 dL_law_32 (by decide) (by decide) (off := 584) (by rfl) (by decide) (lc_who hX hb0 hi4 hL hS go)
      by_cases e19 : v = 19
      · refine b_toeq 19 e19 ?_
        exact b_tabIn 639 dL_law_32 (by decide) (by decide) (off := 607) (by rfl) (by decide) (lc_meant hX hb0 hi4 hL hS go)
      by_cases e20 : v = 20
      · refine b_toeq 20 e20 ?_
        exact b_tabIn 672 dL_law_32 (by decide) (by decide) (off := 640) (by rfl) (by decide) (lc_alike hX hb0 hi4 hL hS go)
      by_cases e21 : v = 21
      · refine b_toeq 21 e21 ?_
        exact b_tabIn 705 dL_law_32 (by decide) (by decide) (off := 673) (by rfl) (by decide) (lc_wake hX hb0 hi4 hL hS go)
      by_cases e22 : v = 22
      · refine b_toeq 22 e22 ?_
        exact b_tabIn 728 dL_law_32 (by decide) (by decide) (off := 696) (by rfl) (by decide) (lc_falsely hX hb0 hi4 hL hS go)
      by_cases e23 : v = 23
      · refine b_toeq 23 e23 ?_
        exact b_tabIn 761 dL_law_32 (by decide) (by decide) (off := 729) (by rfl) (by decide) (lc_needs hX hb0 hi4 hL hS go)
      by_cases e24 : v = 24
      · refine b_toeq 24 e24 ?_
        exact b_tabIn 804 dL_law_32 (by decide) (by decide) (off := 772) (by rfl) (by decide) (lc_bestCalled hX hb0 hi4 hL hS go)
      by_cases e25 : v = 25
      · refine b_toeq 25 e25 ?_
        exact b_tabIn 837 dL_law_32 (by decide) (by decide) (off := 805) (by rfl) (by decide) (lc_asks hX hb0 hi4 hL hS go)
      by_cases e26 : v = 26
      · refine b_toeq 26 e26 ?_
        exact b_tabIn 860 dL_law_32 (by decide) (by decide) (off := 828) (by rfl) (by decide) (lc_waked hX hb0 hi4 hL hS go)
      by_cases e27 : v = 27
      · refine b_toeq 27 e27 ?_
        exact b_tabIn 893 dL_law_32 (by decide) (by decide) (off := 861) (by rfl) (by decide) (lc_see hX hb0 hi4 hL hS go)
      by_cases e28 : v = 28
      · refine b_toeq 28 e28 ?_
        exact b_tabIn 926 dL_law_32 (by decide) (by decide) (off := 894) (by rfl) (by decide) (lc_speaker hX hb0 hi4 hL hS go)
      by_cases e29 : v = 29
      · refine b_toeq 29 e29 ?_
        exact b_tabIn 939 dL_law_32 (by decide) (by decide) (off := 907) (by rfl) (by decide) (lc_sayNext hX hb0 hi4 hL hS go)
      by_cases e30 : v = 30
      · refine b_toeq 30 e30 ?_
        exact b_tabIn 952 dL_law_32 (by decide) (by decide) (off := 920) (by rfl) (by decide) (lc_write hX hb0 hi4 hL hS go)
      by_cases e31 : v = 31
      · refine b_toeq 31 e31 ?_
        exact b_tabIn 985 dL_law_32 (by decide) (by decide) (off := 953) (by rfl) (by decide) (lc_tear hX hb0 hi4 hL hS go)
      by_cases e32 : v = 32
      · refine b_toeq 32 e32 ?_
        exact b_tabIn 998 dL_law_32 (by decide) (by decide) (off := 966) (by rfl) (by decide) (lc_judge hX hb0 hi4 hL hS go)
      by_cases e33 : v = 33
      · refine b_toeq 33 e33 ?_
        exact b_tabIn 1011 dL_law_32 (by decide) (by decide) (off := 979) (by rfl) (by decide) (lc_seed hX hb0 hi4 hL hS go)
      by_cases e34 : v = 34
      · refine b_toeq 34 e34 ?_
        exact b_tabIn 1034 dL_law_32 (by decide) (by decide) (off := 1002) (by rfl) (by decide) (lc_keep hX hb0 hi4 hL hS go)
      by_cases e35 : v = 35
      · refine b_toeq 35 e35 ?_
        exact b_tabIn 1057 dL_law_32 (by decide) (by decide) (off := 1025) (by rfl) (by decide) (lc_goBack hX hb0 hi4 hL hS go)
      refine b_tabOut 1080 dL_law_32 (by have h0 := lv_neT e0 (a := 0) rfl; have h1 := lv_neT e1 (a := 1) rfl; have h2 := lv_neT e2 (a := 2) rfl; have h3 := lv_neT e3 (a := 3) rfl; have h4 := lv_neT e4 (a := 4) rfl; have h5 := lv_neT e5 (a := 5) rfl; have h6 := lv_neT e6 (a := 6) rfl; have h7 := lv_neT e7 (a := 7) rfl; have h8 := lv_neT e8 (a := 8) rfl; have h9 := lv_neT e9 (a := 9) rfl; have h10 := lv_neT e10 (a := 10) rfl; have h11 := lv_neT e11 (a := 11) rfl; have h12 := lv_neT e12 (a := 12) rfl; have h13 := lv_neT e13 (a := 13) rfl; have h14 := lv_neT e14 (a := 14) rfl; have h15 := lv_neT e15 (a := 15) rfl; have h16 := lv_neT e16 (a := 16) rfl; have h17 := lv_neT e17 (a := 17) rfl; have h18 := lv_neT e18 (a := 18) rfl; have h19 := lv_neT e19 (a := 19) rfl; have h20 := lv_neT e20 (a := 20) rfl; have h21 := lv_neT e21 (a := 21) rfl; have h22 := lv_neT e22 (a := 22) rfl; have h23 := lv_neT e23 (a := 23) rfl; have h24 := lv_neT e24 (a := 24) rfl; have h25 := lv_neT e25 (a := 25) rfl; have h26 := lv_neT e26 (a := 26) rfl; have h27 := lv_neT e27 (a := 27) rfl; have h28 := lv_neT e28 (a := 28) rfl; have h29 := lv_neT e29 (a := 29) rfl; have h30 := lv_neT e30 (a := 30) rfl; have h31 := lv_neT e31 (a := 31) rfl; have h32 := lv_neT e32 (a := 32) rfl; have h33 := lv_neT e33 (a := 33) rfl; have h34 := lv_neT e34 (a := 34) rfl; have h35 := lv_neT e35 (a := 35) rfl; omega) (by decide) ?_
      exact go H hS
end LZ
theorem kx_prim {s : State} {args : Array Value} {t : FieldType} (h : (Cond.arrayClass t).before args s = true) : ∃ cA : ClassId, ArrOfT s cA t ∧ s.vm.findClass ("[" ++ t.toString) = some cA := by
  obtain ⟨cA, kA, comp, h1, h2, h3⟩ := Cond.arrayClass_spec h
  exact ⟨cA, fun n z => ⟨(fun k h => by cases h), kA, h2, comp, h3⟩, h1⟩
theorem kx_obj {s : State} {args : Array Value} {C : String} (h : (Cond.arrayOver (.object C)).before args s = true) : ∃ cA : ClassId, ArrOfT s cA (.object C) ∧ va_RA s cA (.object C) := by
  obtain ⟨comp, cA, kA, h1, h2, h3, h4, h5⟩ := Cond.arrayOver_spec h
  exact ⟨cA, fun n z => ⟨(fun k h => by cases h), kA, h3, comp, h4⟩, kA, comp, h3, h4, h1, h5⟩
theorem tq1 {w : Cond} (j : Nat) (h : tables_1_1[j]? = some w) : w ∈ lw_tbl := List.mem_append_right _ (List.mem_append_left _ (List.mem_of_getElem? h))
set_option maxRecDepth 20000 in
theorem kx_ex {s : State} {b0 : Nat} (hts : ∀ w ∈ lw_tbl, w.before #[Value.ref b0] s = true) : ∃ G : GT, KX G s := by
  have htw : ∀ w ∈ wsT, w.before #[Value.ref b0] s = true := fun w hw => hts w (wsT_in w hw)
  obtain ⟨cX0, iX0, hX0⟩ := u_known htw inl_X0 (htw (.instantiable RX0 7) (tj1 93 rfl rfl))
  obtain ⟨cX1, iX1, hX1⟩ := u_known htw inl_X1 (htw (.instantiable RX1 3) (tj1 170 rfl rfl))
  obtain ⟨cX2, iX2, hX2⟩ := u_known htw inl_X2 (htw (.instantiable RX2 10) (tj1 42 rfl rfl))
  obtain ⟨cX3, iX3, hX3⟩ := u_known htw inl_X3 (htw (.instantiable RX3 3) (tj1 149 rfl rfl))
  obtain ⟨cX4, iX4, hX4⟩ := u_known htw inl_X4 (htw (.instantiable RX4 3) (tj1 127 rfl rfl))
  obtain ⟨cX5, iX5, hX5⟩ := u_known htw inl_X5 (htw (.instantiable RX5 4) (tj1 20 rfl rfl))
  obtain ⟨cX6, iX6, hX6⟩ := u_known htw inl_X6 (htw (.instantiable RX6 11) (tj1 12 rfl rfl))
  obtain ⟨cX7, iX7, hX7⟩ := u_known htw inl_X7 (htw (.instantiable RX7 29) (tj3 125 rfl rfl))
  obtain ⟨a0, g0⟩ := kx_prim (htw _ ac_I)
  obtain ⟨a1, g1⟩ := kx_prim (htw _ ac_J)
  obtain ⟨a2, g2⟩ := kx_prim (htw _ ac_Z)
  have o3 := hts (.arrayOver (.object RX0)) (tq1 133 rfl)
  obtain ⟨a3, g3⟩ := kx_obj o3
  have o4 := hts (.arrayOver (.object RX1)) (tq1 147 rfl)
  obtain ⟨a4, g4⟩ := kx_obj o4
  refine ⟨((fun k => if k = 0 then cX0 else if k = 1 then cX1 else if k = 2 then cX2 else if k = 3 then cX3 else if k = 4 then cX4 else if k = 5 then cX5 else if k = 6 then cX6 else cX7, fun k => if k = 0 then iX0 else if k = 1 then iX1 else if k = 2 then iX2 else if k = 3 then iX3 else if k = 4 then iX4 else if k = 5 then iX5 else if k = 6 then iX6 else iX7), fun k => if k = 0 then a0 else if k = 1 then a1 else if k = 2 then a2 else if k = 3 then a3 else a4), ⟨?_, ?_⟩, va_AO.of o3, va_AO.of o4, fun w hw => ?_⟩
  · intro k q hq
    match k, hq with
    | 0, hq => cases hq; exact hX0
    | 1, hq => cases hq; exact hX1
    | 2, hq => cases hq; exact hX2
    | 3, hq => cases hq; exact hX3
    | 4, hq => cases hq; exact hX4
    | 5, hq => cases hq; exact hX5
    | 6, hq => cases hq; exact hX6
    | 7, hq => cases hq; exact hX7
    | k + 8, hq => simp [vwCl] at hq
  · intro k q hq
    unfold aTys at hq
    match k, hq with
    | 0, hq => cases hq; exact g0
    | 1, hq => cases hq; exact g1
    | 2, hq => cases hq; exact g2
    | 3, hq => cases hq; exact g3
    | 4, hq => cases hq; exact g4
    | k + 5, hq => simp at hq
  · have h1 := hts w (nsW_in w hw)
    have h2 := (List.mem_filter.mp hw).2
    cases w <;> first | (simp [nestWord] at h2; done) | exact va_Nw.of rfl h1
set_option maxHeartbeats 4000000 in
/-- YOUR PART: from the entry, for every script of at most 256 ints, the law comes to its end with true -/
theorem whole_start {p : Program} {e : Env} {s : State} {m : MethodId} {below : List Frame} {meth : Method} {c : Code} (l : Launch) (hflags : l.flags = flags0) {b L : Nat} {xs : Nat → Int32} (hL : L ≤ 256) (C0 : lw_At p s m meth c b L xs) : W p l e room_1 s m #[Value.ref b] below meth c s.heap [] 0 0 (lw_Z below #[Value.ref b] s) (entryFrame m ([Value.ref b] : List Value).toArray 4) := by
  obtain ⟨hx, hb, hr, hml, hown, hts, hX, hbl, hlocks, hgv⟩ := C0
  obtain ⟨G, hK⟩ := kx_ex hts
  have hl := lv_entry ([.ref b]) (n := 4) (Nat.le_of_ble_eq_true rfl)
  rw [lg_entry_eq]
  generalize (lg_sl ([.ref b]) ++ List.replicate (4 - (lg_sl ([.ref b])).length) Slot.unset).toArray = ls at hl ⊢
  have hl : lv_has ls 4 [(0, .ref b)] := hl
  have hMC : MC G s.heap.size RL cL_law 4 false p s m #[Value.ref b] meth c := ⟨hx, hb, hml, hown, fun w hw => hts w (wsT_in w hw), hK, (fun h => by cases h), Nat.le_refl _⟩
  have key : LW G s.heap.size l room_1 RL cL_law 4 false p e s m #[Value.ref b] below meth c (lw_Z below #[Value.ref b] s) 0 [(0, .ref b)] [] s.heap 0 0 := by
    refine b_new (ci := 6) (N := 11) (fs := [.null, .int 0, .null, .null, .null, .null, .null, .null, .int 0, .null, .null]) nw_L_7 (fun q hq => by cases hq; rfl) dL_law_0 (fun j hj => by rcases (show j = 0 ∨ j = 1 ∨ j = 2 ∨ j = 3 ∨ j = 4 ∨ j = 5 ∨ j = 6 ∨ j = 7 ∨ j = 8 ∨ j = 9 ∨ j = 10 by omega) with rfl | rfl | rfl | rfl | rfl | rfl | rfl | rfl | rfl | rfl | rfl <;> rfl) (Nat.le_of_ble_eq_true rfl) (Nat.le_of_ble_eq_true rfl) (fun H1 ho z1 q1 => ?_)
    refine b_dup dL_law_3 rfl ?_
    refine b_callIv (As := []) (rest := [.ref s.heap.size]) (d := 3) (mc := 119) (ms := 1143) l_L_9 im_X6_init rfl dL_law_4 ⟨(Nat.le_of_ble_eq_true rfl), (Nat.le_of_ble_eq_true rfl)⟩ rfl (Nat.le_of_ble_eq_true rfl) ⟨(Nat.le_of_ble_eq_true rfl), (Nat.le_of_ble_eq_true rfl)⟩ (c_X6_init ho z1 (Nat.le_refl _)) (fun H2 hp => ?_)
    obtain ⟨hB0, z2, q2⟩ := hp
    refine b_astore_n (lv' := [(1, .ref s.heap.size), (0, .ref b)]) dL_law_7 rfl (by decide) rfl ?_
    refine b_new (ci := 7) (N := 29) (fs := [.int 0, .null, .int 0, .int 0, .int 0, .int 0, .int 0, .null, .null, .null, .int 0, .int 0, .int 0, .int 0, .null, .null, .null, .null, .int 0, .int 0, .null, .long 0, .int 0, .null, .int 0, .null, .null, .null, .null]) nw_L_10 (fun q hq => by cases hq; rfl) dL_law_8 (fun j hj => by rcases (show j = 0 ∨ j = 1 ∨ j = 2 ∨ j = 3 ∨ j = 4 ∨ j = 5 ∨ j = 6 ∨ j = 7 ∨ j = 8 ∨ j = 9 ∨ j = 10 ∨ j = 11 ∨ j = 12 ∨ j = 13 ∨ j = 14 ∨ j = 15 ∨ j = 16 ∨ j = 17 ∨ j = 18 ∨ j = 19 ∨ j = 20 ∨ j = 21 ∨ j = 22 ∨ j = 23 ∨ j = 24 ∨ j = 25 ∨ j = 26 ∨ j = 27 ∨ j = 28 by omega) with rfl | rfl | rfl | rfl | rfl | rfl | rfl | rfl | rfl | rfl | rfl | rfl | rfl | rfl | rfl | rfl | rfl | rfl | rfl | rfl | rfl | rfl | rfl | rfl | rfl | rfl | rfl | rfl | rfl <;> rfl) (Nat.le_of_ble_eq_true rfl) (Nat.le_of_ble_eq_true rfl) (fun H3 ho3 z3 q3 => ?_)
    rw [z2] at ho3 z3 q3 ⊢
    refine b_dup dL_law_11 rfl ?_
    refine b_callIv (As := []) (rest := [.ref (s.heap.size + 120)]) (d := 1) (mc := 14) (ms := 953) l_L_12 im_X7_init rfl dL_law_12 ⟨(Nat.le_of_ble_eq_true rfl), (Nat.le_of_ble_eq_true rfl)⟩ rfl (Nat.le_of_ble_eq_true rfl) ⟨(Nat.le_of_ble_eq_true rfl), (Nat.le_of_ble_eq_true rfl)⟩ (c_X7_init ho3 z3 (by omega)) (fun H4 hp => ?_)
    obtain ⟨hM0, z4, q4⟩ := hp
    refine b_astore_n (lv' := [(2, .ref (s.heap.size + 120)), (1, .ref s.heap.size), (0, .ref b)]) dL_law_15 rfl (by decide) rfl ?_
    refine b_iconst 0 dL_law_16 (by decide) ?_
    refine b_istore_n (lv' := [(3, .int 0), (2, .ref (s.heap.size + 120)), (1, .ref s.heap.size), (0, .ref b)]) dL_law_17 rfl (by decide) rfl ?_
    refine b_sub [3, 2, 1, 0] rfl ?_
    have hSS : SS G H4 s.heap.size := by
      have hz : Nat → DD := fun _ => zD
      refine ⟨fun _ => 0, 0, -1, false, 0, 0, 0, 0, 0, zD, zD, fun i => if i = 26 then -1 else 0, 0, 0, 0, fun _ => zD, 0, fun _ => 0, fun _ => 0, 0, fun _ => 0, zD, fun _ => false, fun _ => zD, fun _ => 0, ?_, hM0 _ _ _ _ _ _ _ _ _ _, iv_0⟩
      exact ((hB0 _ _ _ _ _ _ _ _ _ _).kept (fun q a c => q3 q (by omega))).kept (fun q a c => q4 q (by omega))
    exact law_loop hr hlocks hX hbl hL (L + 1) 0 H4 (by decide) hSS (by omega)
  exact key [] ls hMC va_S.rf hl
set_option maxHeartbeats 4000000 in
theorem lw_walk (l : Launch) (hflags : l.flags = flags0) (b : Addr) (xs : List Int32) : MetFree l x (headSpec (Jvm.Cond.code x code maxLocals ret :: tables_1) room_1) (lw_P b xs) (fun _ _ _ _ _ => True) lw_Q := by
  refine MetFree.of_bodyS (code := code) (maxLocals := maxLocals) (ret := ret) (by decide) ?_ ?_
  · intro args s m h hn
    obtain ⟨meth, c, h1, h2, h3, h4, h5, h6, -, -⟩ := Cond.code_spec hn (atoms_spec (ws := Jvm.Cond.code x code maxLocals ret :: tables_1) h _ List.mem_cons_self)
    exact ⟨meth, c, h1, h2, h3, h4, h5, h6⟩
  · intro p e s m args below meth c s₁ B hml0 hP _
    obtain ⟨rfl, hx, hbd, hgv⟩ := hP
    obtain ⟨scr, harrAt, hlist, hof, hsmall⟩ := hx
    obtain ⟨hcb, hkn, -, -⟩ := State.arrayAt?_spec harrAt
    have hown : s.vm.findClass R_law = some m.cls := findClass_of_methodNamed B.named
    have hts0 : ∀ c ∈ (Jvm.Cond.code x code maxLocals ret :: tables_1), c.before #[Value.ref b] s = true := atoms_spec (ws := Jvm.Cond.code x code maxLocals ret :: tables_1) B.pre
    have hts : ∀ w ∈ lw_tbl, w.before #[Value.ref b] s = true := k2_hts_sels lw_privs (fun w hw => hts0 w (List.mem_cons_of_mem _ hw)) lw_privs_ok
    have hml : c.maxLocals = 4 := B.maxLocals_eq (hts0 _ List.mem_cons_self)
    have X₀ : Stand p l e room_1 s m #[Value.ref b] below meth c s₁ [] 0 0 := Stand.of_body B
    have hh0 : s₁.heap = s.heap := by rw [B.state]; rfl
    have hsz : scr.slots.size = xs.length := by rw [← Array.length_toList, hlist, List.length_map]
    have hval : ∀ j : Nat, j < xs.length → scr.slots[j]? = some (.int (xs.getD j 0)) := fun j hj => by
      rw [← Array.getElem?_toList, hlist]
      simp [hj]
    have hbl : b < s.heap.size := (Array.getElem?_eq_some_iff.mp hcb).1
    have hX : va_X b xs.length (fun j => xs.getD j 0) s s.heap := ⟨scr, hcb, hof, hkn, hsz, hval⟩
    have K : W p l e room_1 s m #[Value.ref b] below meth c s₁.heap [] 0 0 (lw_Z below #[Value.ref b] s) (entryFrame m ([Value.ref b] : List Value).toArray 4) := by
      rw [hh0]
      exact whole_start l hflags hbd ⟨B.exec, B.bytes, B.returns, hml, hown, hts, hX, hbl, B.notSynchronized, hgv⟩
    obtain ⟨t, a1, o, b1, b2, b3⟩ := K s₁ rfl X₀
    exact ⟨t, o, a1, b1, b2, b3⟩
theorem lw_pre_spec {args : Array Value} {s : State} (h : (Jvm.Cond.and given_1 narrow_1).before args s = true) (hr : rest_1_c.before args s = true) : ∃ (b : Addr) (xs : List Int32), lw_P b xs args s := by
  have hs := flat_of_before _ h
  have hq := flat_of_before _ hr
  have hc : (Cond.count 1).before args s = true := hs _ (by decide +kernel)
  have harr : (Cond.arrayOf (.arg 0) .int).before args s = true := hs _ (by decide +kernel)
  have hle : (Cond.le (.length (.arg 0)) (.int 256)).before args s = true := hs _ (by decide +kernel)
  have hlen : (Cond.isInt (.length (.arg 0))).before args s = true := hq _ (by decide +kernel)
  have hall : (Cond.all (.arg 0) (.isInt (.elem (.arg 0) (.index 0)))).before args s = true := hq _ (by decide +kernel)
  obtain ⟨b, xs, hb, hx⟩ := State.ints_of_pre rfl harr hlen hall
  have hsm : xs.length < 2 ^ 31 := hx.choose_spec.2.2.2
  have hev : (Term.length (.arg 0)).eval args s none [] s = some (.int xs.length.toInt32) := hx.length_eval hb
  have hv := Cond.le_ints hev (show (Term.int 256).eval args s none [] s = some (.int 256) from rfl)
  have hd : xs.length.toInt32 ≤ 256 := by
    simpa [Cond.before, Cond.holds, hv] using hle
  have hN : xs.length ≤ 256 := (Int32.ofNat_le_ofNat hsm (by decide)).mp (show Int32.ofNat xs.length ≤ Int32.ofNat 256 from hd)
  exact ⟨b, xs, Cond.one_arg hc (show args[0]? = some (.ref b) from hb), hx, hN, h⟩
theorem lw_comes (l : Launch) (hflags : l.flags = flags0) : Comes l x (Jvm.Cond.code x code maxLocals ret :: tables_1) room_1 (fun tb e args s => Calls_1 tb e args s ∧ rest_1 tb e args s ∧ Pre_1 tb e args s)
    (fun _ _ args s o t => lw_Q args s o t) := by
  intro p e ha hc hk s m args below hf hfit hheap happ hpre
  obtain ⟨b, xs, hP⟩ := lw_pre_spec hpre.2.2 hpre.2.1
  obtain ⟨k, o, h1, h2, h3, hQ⟩ := lw_walk l hflags b xs p e ha hc hk s m args below hf ((Spec.applies_iff_loose hf).mp happ).1 hP trivial
  exact ⟨k, o, h1, h2, h3, hQ⟩
theorem lw_frame {s t : State} {o : Outcome} {args : Array Value} (h : Framed s o t [] 600000 7302250) :
    Framed s o t (fieldLocs frame_1_writes args s ++ arrayLocs frame_1_arrays args s ++ staticLocs frame_1_statics s) 600000 7302250 := h
theorem lw_limb (L : Cond) (hL : ∀ (args : Array Value) (s t : State), L.after args s (.returned (some (.int 1))) t = true) :
    ArmFor flags0 classFile x code maxLocals ret World_1 tables_1 room_1 Calls_1 rest_1 Pre_1
      (fun tb e a s o t => postC L tb e a s o t ∧ Framed s o t (fieldLocs frame_1_writes a s ++ arrayLocs frame_1_arrays a s ++ staticLocs frame_1_statics s) 600000 7302250) := by
  intro l hflags _ _ p e ha hc hk s m args below hf hfit hheap happ hpre
  obtain ⟨k, o, h1, h2, h3, rfl, hF⟩ := lw_comes l hflags p e ha hc hk s m args below hf hfit hheap happ hpre
  exact ⟨k, _, h1, h2, h3, hL args s _, lw_frame hF⟩
theorem i_vc : Claimed_1_1 ∧ Claimed_1_2 := ⟨lw_limb limb_1_1 (fun args s t => by simp [limb_1_1, Cond.after, Cond.holds, Cond.value]), lw_limb limb_1_2 (fun args s t => Cond.after_iff.mpr (by
  first | (rw [show limb_1_2 = Cond.eq .result (.int 1) from rfl, Cond.eq_ints (x := 1) (y := 1) rfl rfl]; simp; done) | (simp [limb_1_2, Cond.value, Term.eval]; done)))⟩
