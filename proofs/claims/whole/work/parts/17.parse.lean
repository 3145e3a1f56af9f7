/-! ===== BEGIN how a text is read ===== -/
def skA (tx : Nat → Nat) (L : Nat) : Nat → Nat → Nat
  | 0, i => i
  | f + 1, i => if i < L ∧ tx i = 32 then skA tx L f (i + 1) else i
/-- behind the blanks -/
def sk (tx : Nat → Nat) (L i : Nat) : Nat := skA tx L (L - i) i
theorem sk_go {tx : Nat → Nat} {L i : Nat} (h : i < L) (h2 : tx i = 32) : sk tx L i = sk tx L (i + 1) := by
  unfold sk
  rw [show L - i = (L - (i + 1)) + 1 by omega]
  conv => { lhs; unfold skA }
  rw [if_pos ⟨h, h2⟩]
theorem sk_at {tx : Nat → Nat} {L i : Nat} (h : ¬ (i < L ∧ tx i = 32)) : sk tx L i = i := by
  unfold sk
  cases e : L - i with
  | zero => rfl
  | succ f => unfold skA; rw [if_neg h]
theorem skA_b {tx : Nat → Nat} {L f i : Nat} : i ≤ skA tx L f i ∧ skA tx L f i ≤ max i L := by
  induction f generalizing i with
  | zero => exact ⟨Nat.le_refl _, Nat.le_max_left _ _⟩
  | succ f ih =>
    unfold skA
    split
    · have := ih (i := i + 1)
      omega
    · omega
theorem sk_b (tx : Nat → Nat) (L i : Nat) : i ≤ sk tx L i ∧ sk tx L i ≤ max i L := skA_b
def isD (c : Nat) : Prop := 48 ≤ c ∧ c ≤ 57
def dgA (tx : Nat → Nat) (L : Nat) : Nat → Nat → Nat
  | 0, i => i
  | f + 1, i => if i < L ∧ (48 ≤ tx i ∧ tx i ≤ 57) then dgA tx L f (i + 1) else i
/-- behind the figures -/
def dg (tx : Nat → Nat) (L i : Nat) : Nat := dgA tx L (L - i) i
theorem dg_go {tx : Nat → Nat} {L i : Nat} (h : i < L) (h2 : 48 ≤ tx i ∧ tx i ≤ 57) : dg tx L i = dg tx L (i + 1) := by
  unfold dg
  rw [show L - i = (L - (i + 1)) + 1 by omega]
  conv => { lhs; unfold dgA }
  rw [if_pos ⟨h, h2⟩]
theorem dg_at {tx : Nat → Nat} {L i : Nat} (h : ¬ (i < L ∧ (48 ≤ tx i ∧ tx i ≤ 57))) : dg tx L i = i := by
  unfold dg
  cases e : L - i with
  | zero => rfl
  | succ f => unfold dgA; rw [if_neg h]
theorem dgA_b {tx : Nat → Nat} {L f i : Nat} : i ≤ dgA tx L f i ∧ dgA tx L f i ≤ max i L := by
  induction f generalizing i with
  | zero => exact ⟨Nat.le_refl _, Nat.le_max_left _ _⟩
  | succ f ih =>
    unfold dgA
    split
    · have := ih (i := i + 1)
      omega
    · omega
theorem dg_b (tx : Nat → Nat) (L i : Nat) : i ≤ dg tx L i ∧ dg tx L i ≤ max i L := dgA_b
/-- the number that k figures from f on tell, held below a million -/
def vF (tx : Nat → Nat) (f : Nat) : Nat → Nat
  | 0 => 0
  | k + 1 => min (10 * vF tx f k + tx (f + k) - 48) 1000000
theorem vF_le {tx : Nat → Nat} {f k : Nat} : vF tx f k ≤ 1000000 := by
  cases k with
  | zero => exact Nat.zero_le _
  | succ k => exact Nat.min_le_right _ _
def skP (tx : Nat → Nat) (L kd pl : Nat) : Nat := if kd = 0 then sk tx L pl else pl
/-- a number, at most m: fault, place, value -/
def nuF (tx : Nat → Nat) (L m kd pl : Nat) : Nat × Nat × Nat :=
  if kd = 0 then
    (if dg tx L (sk tx L pl) = sk tx L pl then (1, sk tx L pl, 0)
     else if 3 < dg tx L (sk tx L pl) - sk tx L pl ∨ m < vF tx (sk tx L pl) (dg tx L (sk tx L pl) - sk tx L pl) then (2, sk tx L pl, vF tx (sk tx L pl) (dg tx L (sk tx L pl) - sk tx L pl))
     else (0, dg tx L (sk tx L pl), vF tx (sk tx L pl) (dg tx L (sk tx L pl) - sk tx L pl)))
  else (kd, pl, 0)
theorem nuF_b {tx : Nat → Nat} {L m kd pl : Nat} (hL : L ≤ 240) (hp : pl ≤ 240) (hk : kd ≤ 3) : (nuF tx L m kd pl).1 ≤ 3 ∧ (nuF tx L m kd pl).2.1 ≤ 240 ∧ pl ≤ (nuF tx L m kd pl).2.1 ∧ (nuF tx L m kd pl).2.2 ≤ 1000000 := by
  have h1 := sk_b tx L pl
  have h2 := dg_b tx L (sk tx L pl)
  have h3 := vF_le (tx := tx) (f := sk tx L pl) (k := dg tx L (sk tx L pl) - sk tx L pl)
  unfold nuF
  split
  · split
    · dsimp only; omega
    · split <;> dsimp only <;> omega
  · dsimp only; omega
/-- the end of a clause: fault, place -/
def enF (tx : Nat → Nat) (L kd pl : Nat) : Nat × Nat := if kd = 0 then (if sk tx L pl < L ∧ tx (sk tx L pl) = 59 then (0, sk tx L pl + 1) else (1, sk tx L pl)) else (kd, pl)
theorem enF_b {tx : Nat → Nat} {L kd pl : Nat} (hL : L ≤ 240) (hp : pl ≤ 240) (hk : kd ≤ 3) : (enF tx L kd pl).1 ≤ 3 ∧ (enF tx L kd pl).2 ≤ 240 ∧ pl ≤ (enF tx L kd pl).2 := by
  have h1 := sk_b tx L pl
  unfold enF
  split
  · split <;> dsimp only <;> omega
  · dsimp only; omega
/-- three numbers and the end: values, fault, place -/
def triF (tx : Nat → Nat) (L m1 m2 m3 pl : Nat) : Nat × Nat × Nat × Nat × Nat :=
  ((nuF tx L m1 0 (pl + 1)).2.2, (nuF tx L m2 (nuF tx L m1 0 (pl + 1)).1 (nuF tx L m1 0 (pl + 1)).2.1).2.2,
   (nuF tx L m3 (nuF tx L m2 (nuF tx L m1 0 (pl + 1)).1 (nuF tx L m1 0 (pl + 1)).2.1).1 (nuF tx L m2 (nuF tx L m1 0 (pl + 1)).1 (nuF tx L m1 0 (pl + 1)).2.1).2.1).2.2,
   enF tx L (nuF tx L m3 (nuF tx L m2 (nuF tx L m1 0 (pl + 1)).1 (nuF tx L m1 0 (pl + 1)).2.1).1 (nuF tx L m2 (nuF tx L m1 0 (pl + 1)).1 (nuF tx L m1 0 (pl + 1)).2.1).2.1).1 (nuF tx L m3 (nuF tx L m2 (nuF tx L m1 0 (pl + 1)).1 (nuF tx L m1 0 (pl + 1)).2.1).1 (nuF tx L m2 (nuF tx L m1 0 (pl + 1)).1 (nuF tx L m1 0 (pl + 1)).2.1).2.1).2.1)
/-- a kitchen: told or not, A, S, W, WORDS, VOICES, their rows -/
abbrev KK : Type := Bool × Int32 × Int32 × Int32 × Nat × Nat × DD × DD × DD × DD
def KtK (G : GT) (H : Heap) (k : Nat) (K : KK) : Prop := Kt G H k K.1 K.2.1 K.2.2.1 K.2.2.2.1 K.2.2.2.2.1 K.2.2.2.2.2.1 K.2.2.2.2.2.2.1 K.2.2.2.2.2.2.2.1 K.2.2.2.2.2.2.2.2.1 K.2.2.2.2.2.2.2.2.2
/-- a clause at pl: fault, place, the kitchen -/
def clF (tx : Nat → Nat) (L pl : Nat) : KK → (Nat × Nat) × KK
  | (kb, ka, ks, kw, n, nv, kS, kU, kK, kV) =>
    if (tx pl = 98 ∧ kb = true) ∨ (tx pl = 119 ∧ 8 ≤ n) ∨ (tx pl = 118 ∧ 4 ≤ nv) then ((3, pl), (kb, ka, ks, kw, n, nv, kS, kU, kK, kV))
    else if tx pl = 98 then ((triF tx L 99 99 999 pl).2.2.2, (true, nI (triF tx L 99 99 999 pl).1, nI (triF tx L 99 99 999 pl).2.1, nI (triF tx L 99 99 999 pl).2.2.1, n, nv, kS, kU, kK, kV))
    else if tx pl = 119 ∧ kb = true then ((triF tx L 999 99 99 pl).2.2.2, (kb, ka, ks, kw, n + 1, nv, upd kS n (nI (triF tx L 999 99 99 pl).1), upd kU n (nI (triF tx L 999 99 99 pl).2.1), upd kK n (nI (triF tx L 999 99 99 pl).2.2.1), kV))
    else if tx pl = 118 ∧ kb = true then (enF tx L (nuF tx L 999 0 (pl + 1)).1 (nuF tx L 999 0 (pl + 1)).2.1, (kb, ka, ks, kw, n, nv + 1, kS, kU, kK, upd kV nv (nI (nuF tx L 999 0 (pl + 1)).2.2)))
    else ((1, pl), (kb, ka, ks, kw, n, nv, kS, kU, kK, kV))
def paF (tx : Nat → Nat) (L : Nat) : Nat → Nat → Nat → KK → (Nat × Nat) × KK
  | 0, kd, pl, K => ((kd, pl), K)
  | f + 1, kd, pl, K => if kd = 0 ∧ pl < L then paF tx L f (clF tx L pl K).1.1 (skP tx L (clF tx L pl K).1.1 (clF tx L pl K).1.2) (clF tx L pl K).2 else ((kd, pl), K)
def kk0 (kS kU kK kV : DD) : KK := (false, 0, 0, 0, 0, 0, kS, kU, kK, kV)
/-! ===== END ===== -/

set_option maxHeartbeats 4000000 in
set_option maxRecDepth 100000 in
theorem c_X5_skipBlanks {G : GT} {B : Nat} {l : Launch} {H : Heap} {r : Nat} {tx : Nat → Nat} {L pl kd : Nat} (hR : Rd G H r tx L pl kd) (hB : B ≤ r) : AM G B l yX5_skipBlanks cX5_skipBlanks 1 none 0 0 0 [.ref r] H (fun rv H' => rv = none ∧ (Rd G H' r tx L (skP tx L kd pl) (kd) ∧ ∀ q : Nat, ¬ (r ≤ q ∧ q < r + 2) → H'[q]? = H[q]?)) := by
  have hR0 := hR
  obtain ⟨ft, hr, ht, et, e8, hL, hpl, hkd⟩ := hR
  have hF : ∀ q : Nat, ¬ (r ≤ q ∧ q < r + 2) → H[q]? = H[q]? := fun _ _ => rfl
  refine AM.ofV (lv := [(0, .ref r)]) (by decide +kernel) (ini := false) (fun h => by cases h) (Nat.le_of_ble_eq_true rfl) rfl ?_ (fun _ _ h => h.1)
  have L0 : ∀ (fu : Nat) (p : Nat) (Hk : Heap), Ob G Hk r 5 [.ref (r + 1), .int (nI L), .int (nI p), .int (nI kd)] → Ai G Hk (r + 1) 240 ft → p ≤ 240 → skP tx L kd pl = skP tx L kd p → (∀ q : Nat, ¬ (r ≤ q ∧ q < r + 2) → Hk[q]? = H[q]?) → 241 - p < fu → AW G B l { frames := 0, cells := 0, slots := 0, locals := 27 * 0 } yX5_skipBlanks.cls cX5_skipBlanks 1 false (fun rv H' ce' sl' => (rv = none ∧ (Rd G H' r tx L (skP tx L kd pl) (kd) ∧ ∀ q : Nat, ¬ (r ≤ q ∧ q < r + 2) → H'[q]? = H[q]?)) ∧ ce' = 0 ∧ sl' = 0) 0 [(0, .ref r)] [] Hk 0 0 := by
    intro fu
    induction fu with
    | zero => intro p Hk hr ht hp hg hF hm0; exact absurd hm0 (Nat.not_lt_zero _)
    | succ fu ih0 =>
      intro p Hk hr ht hp hg hF hm0
      refine a_aload_n 0 dX5_skipBlanks_0 rfl rfl ?_
      refine a_get f_X5_22 dX5_skipBlanks_1 hr rfl ?_
      refine a_ifneN (a := kd) 45 dX5_skipBlanks_4 (by decide) (by omega) (fun c4 => ?_) (fun c4 => ?_)
      · skip
        refine a_retv dX5_skipBlanks_45 ⟨⟨rfl, ?_⟩, rfl, rfl⟩
        · rw [hg]
          have e : skP tx L kd p = p := by unfold skP; rw [if_neg c4]
          rw [e]
          exact ⟨⟨_, hr, ht, et, e8, hL, hp, hkd⟩, hF⟩
      · skip
        refine a_aload_n 0 dX5_skipBlanks_7 rfl rfl ?_
        refine a_get f_X5_19 dX5_skipBlanks_8 hr rfl ?_
        refine a_aload_n 0 dX5_skipBlanks_11 rfl rfl ?_
        refine a_get f_X5_15 dX5_skipBlanks_12 hr rfl ?_
        refine a_icmpgeN (a := p) (b := L) 45 dX5_skipBlanks_15 (by decide) (by omega) (by omega) (fun c15 => ?_) (fun c15 => ?_)
        · skip
          have hfin : ¬ (p < L ∧ tx p = 32) := fun h => absurd h.1 (by omega)
          refine a_retv dX5_skipBlanks_45 ⟨⟨rfl, ?_⟩, rfl, rfl⟩
          · rw [hg]
            have e : skP tx L kd p = p := by unfold skP; rw [if_pos c4]; exact sk_at hfin
            rw [e]
            exact ⟨⟨_, hr, ht, et, e8, hL, hp, hkd⟩, hF⟩
        · skip
          refine a_aload_n 0 dX5_skipBlanks_18 rfl rfl ?_
          refine a_get f_X5_9 dX5_skipBlanks_19 hr rfl ?_
          refine a_aload_n 0 dX5_skipBlanks_22 rfl rfl ?_
          refine a_get f_X5_19 dX5_skipBlanks_23 hr rfl ?_
          refine a_ialdN (j := p) dX5_skipBlanks_26 ht (by omega) (by decide) ?_
          refine a_toeq (nI (tx p)) (et _ c15) ?_
          refine a_bipush 32 dX5_skipBlanks_27 (by decide) ?_
          have hb8 := e8 p c15
          refine a_icmpneN (a := tx p) (b := 32) 45 dX5_skipBlanks_29 (by decide) (by omega) (by omega) (fun c29 => ?_) (fun c29 => ?_)
          · skip
            have hfin : ¬ (p < L ∧ tx p = 32) := fun h => c29 h.2
            refine a_retv dX5_skipBlanks_45 ⟨⟨rfl, ?_⟩, rfl, rfl⟩
            · rw [hg]
              have e : skP tx L kd p = p := by unfold skP; rw [if_pos c4]; exact sk_at hfin
              rw [e]
              exact ⟨⟨_, hr, ht, et, e8, hL, hp, hkd⟩, hF⟩
          · skip
            refine a_aload_n 0 dX5_skipBlanks_32 rfl rfl ?_
            refine a_dup dX5_skipBlanks_33 rfl ?_
            refine a_get f_X5_19 dX5_skipBlanks_34 hr rfl ?_
            refine a_iconst 1 dX5_skipBlanks_37 (by decide) ?_
            refine a_iaddN (a := p) (b := 1) dX5_skipBlanks_38 ?_
            refine a_put f_X5_19 p_X5_19 dX5_skipBlanks_39 hr (Nat.le_of_ble_eq_true rfl) rfl rfl (by omega) (fun H1 hr hz1 hq1 => ?_)
            have hr : Ob G H1 r 5 [.ref (r + 1), .int (nI L), .int (nI (p + 1)), .int (nI kd)] := hr
            have ht := ht.kept (hq1 _ (by omega))
            have hF : ∀ q : Nat, ¬ (r ≤ q ∧ q < r + 2) → H1[q]? = H[q]? := fun q hq => (hq1 q (by omega)).trans (hF q hq)
            refine a_goto 0 dX5_skipBlanks_42 (by decide) ?_
            exact ih0 _ _ hr ht (by omega) (by rw [hg]; unfold skP; rw [if_pos c4, if_pos c4]; exact sk_go c15 c29) hF (by omega)
  exact L0 _ pl H hr ht hpl rfl hF (Nat.lt_succ_self _)
set_option maxHeartbeats 4000000 in
set_option maxRecDepth 100000 in
theorem c_X5_readEnd {G : GT} {B : Nat} {l : Launch} {H : Heap} {r : Nat} {tx : Nat → Nat} {L pl kd : Nat} (hR : Rd G H r tx L pl kd) (hB : B ≤ r) : AM G B l yX5_readEnd cX5_readEnd 1 none 1 0 0 [.ref r] H (fun rv H' => rv = none ∧ (Rd G H' r tx L ((enF tx L kd pl).2) ((enF tx L kd pl).1) ∧ ∀ q : Nat, ¬ (r ≤ q ∧ q < r + 2) → H'[q]? = H[q]?)) := by
  have hR0 := hR
  obtain ⟨ft, hr, ht, et, e8, hL, hpl, hkd⟩ := hR
  have hF : ∀ q : Nat, ¬ (r ≤ q ∧ q < r + 2) → H[q]? = H[q]? := fun _ _ => rfl
  refine AM.ofV (lv := [(0, .ref r)]) (by decide +kernel) (ini := false) (fun h => by cases h) (Nat.le_of_ble_eq_true rfl) rfl ?_ (fun _ _ h => h.1)
  refine a_aload_n 0 dX5_readEnd_0 rfl rfl ?_
  refine a_get f_X5_22 dX5_readEnd_1 hr rfl ?_
  refine a_ifeqN (a := kd) 8 dX5_readEnd_4 (by decide) (by omega) (fun c4 => ?_) (fun c4 => ?_)
  · skip
    refine a_aload_n 0 dX5_readEnd_8 rfl rfl ?_
    refine a_callVv (As := []) (rest := []) (d := 0) (mc := 0) (ms := 0) (ci := 5) l_X5_30 im_X5_skipBlanks se_X5_skipBlanks ⟨_, rfl, rfl⟩ dX5_readEnd_9 ⟨Nat.le_of_ble_eq_true rfl, Nat.le_of_ble_eq_true rfl⟩ rfl (Nat.le_of_ble_eq_true rfl) ⟨Nat.le_of_ble_eq_true rfl, Nat.le_of_ble_eq_true rfl⟩ hr (c_X5_skipBlanks hR0 hB) (fun H1 hp1 => ?_)
    obtain ⟨hR1, hfr⟩ := hp1
    have ep : skP tx L kd pl = sk tx L pl := by unfold skP; rw [if_pos c4]
    rw [ep, c4] at hR1
    obtain ⟨ft, hr, ht, et, e8, -, hpl1, -⟩ := id hR1
    have hF : ∀ q : Nat, ¬ (r ≤ q ∧ q < r + 2) → H1[q]? = H[q]? := fun q hq => (hfr q (by omega)).trans (hF q hq)
    refine a_aload_n 0 dX5_readEnd_12 rfl rfl ?_
    refine a_callVp (As := []) (rest := []) (d := 0) (mc := 0) (ms := 0) (x := if sk tx L pl < L then nI (tx (sk tx L pl)) else -1) (ci := 5) l_X5_37 im_X5_letterHere se_X5_letterHere ⟨_, rfl, rfl⟩ dX5_readEnd_13 ⟨Nat.le_of_ble_eq_true rfl, Nat.le_of_ble_eq_true rfl⟩ rfl (Nat.le_of_ble_eq_true rfl) ⟨Nat.le_of_ble_eq_true rfl, Nat.le_of_ble_eq_true rfl⟩ hr (c_X5_letterHere hR1) ?_
    refine a_bipush 59 dX5_readEnd_16 (by decide) ?_
    refine a_icmpne 34 dX5_readEnd_18 (by decide) (fun c18 => ?_) (fun c18 => ?_)
    · skip
      have hfin : ¬ (sk tx L pl < L ∧ tx (sk tx L pl) = 59) := fun h => c18 (by rw [if_pos h.1, h.2]; rfl)
      refine a_aload_n 0 dX5_readEnd_34 rfl rfl ?_
      refine a_iconst 1 dX5_readEnd_35 (by decide) ?_
      refine a_aload_n 0 dX5_readEnd_36 rfl rfl ?_
      refine a_get f_X5_19 dX5_readEnd_37 hr rfl ?_
      refine a_callVv (As := [.int 1, .int (nI (sk tx L pl))]) (rest := []) (d := 0) (mc := 0) (ms := 0) (ci := 5) l_X5_51 im_X5_stop se_X5_stop ⟨_, rfl, rfl⟩ dX5_readEnd_40 ⟨Nat.le_of_ble_eq_true rfl, Nat.le_of_ble_eq_true rfl⟩ rfl (Nat.le_of_ble_eq_true rfl) ⟨Nat.le_of_ble_eq_true rfl, Nat.le_of_ble_eq_true rfl⟩ hr (c_X5_stop (a := 1) hR1 (by decide) hpl1 hB) (fun H3 hp3 => ?_)
      obtain ⟨hR2, hfr⟩ := hp3
      have hF : ∀ q : Nat, ¬ (r ≤ q ∧ q < r + 2) → H3[q]? = H[q]? := fun q hq => (hfr q (by omega)).trans (hF q hq)
      refine a_retv dX5_readEnd_43 ⟨⟨rfl, ?_⟩, rfl, rfl⟩
      · unfold enF
        rw [if_pos c4]
        rw [if_neg hfin]
        exact ⟨hR2, hF⟩
    · skip
      have hlt : sk tx L pl < L := by rcases Nat.lt_or_ge (sk tx L pl) L with h | h; { exact h }; { rw [if_neg (by omega)] at c18; exact absurd c18 (by decide) }
      have heq : tx (sk tx L pl) = 59 := by rw [if_pos hlt] at c18; exact (nI_eq (by have := e8 _ hlt; omega) (by decide)).mp c18
      refine a_aload_n 0 dX5_readEnd_21 rfl rfl ?_
      refine a_dup dX5_readEnd_22 rfl ?_
      refine a_get f_X5_19 dX5_readEnd_23 hr rfl ?_
      refine a_iconst 1 dX5_readEnd_26 (by decide) ?_
      refine a_iaddN (a := sk tx L pl) (b := 1) dX5_readEnd_27 ?_
      refine a_put f_X5_19 p_X5_19 dX5_readEnd_28 hr (Nat.le_of_ble_eq_true rfl) rfl rfl (by omega) (fun H4 hr hz4 hq4 => ?_)
      have hr : Ob G H4 r 5 [.ref (r + 1), .int (nI L), .int (nI ((sk tx L pl) + 1)), .int (nI 0)] := hr
      have ht := ht.kept (hq4 _ (by omega))
      have hF : ∀ q : Nat, ¬ (r ≤ q ∧ q < r + 2) → H4[q]? = H[q]? := fun q hq => (hq4 q (by omega)).trans (hF q hq)
      refine a_goto 43 dX5_readEnd_31 (by decide) ?_
      refine a_retv dX5_readEnd_43 ⟨⟨rfl, ?_⟩, rfl, rfl⟩
      · unfold enF
        rw [if_pos c4]
        rw [if_pos ⟨hlt, heq⟩]
        exact ⟨⟨_, hr, ht, et, e8, hL, by omega, Nat.zero_le _⟩, hF⟩
  · skip
    refine a_retv dX5_readEnd_7 ⟨⟨rfl, ?_⟩, rfl, rfl⟩
    · unfold enF
      rw [if_neg c4]
      exact ⟨hR0, hF⟩
set_option maxHeartbeats 4000000 in
set_option maxRecDepth 100000 in
theorem c_X5_readNumber {G : GT} {B : Nat} {l : Launch} {H : Heap} {r : Nat} {tx : Nat → Nat} {L pl kd : Nat} {m : Nat} (hR : Rd G H r tx L pl kd) (hm : m < 1000) (hB : B ≤ r) : AM G B l yX5_readNumber cX5_readNumber 4 (some .int) 1 0 0 [.ref r, .int (nI m)] H (fun rv H' => rv = some (.int (nI ((nuF tx L m kd pl).2.2))) ∧ (Rd G H' r tx L ((nuF tx L m kd pl).2.1) ((nuF tx L m kd pl).1) ∧ ∀ q : Nat, ¬ (r ≤ q ∧ q < r + 2) → H'[q]? = H[q]?)) := by
  have hR0 := hR
  obtain ⟨ft, hr, ht, et, e8, hL, hpl, hkd⟩ := hR
  have hF : ∀ q : Nat, ¬ (r ≤ q ∧ q < r + 2) → H[q]? = H[q]? := fun _ _ => rfl
  refine AM.ofI (lv := [(0, .ref r), (1, .int (nI m))]) (by decide +kernel) (Nat.le_of_ble_eq_true rfl) rfl ?_ (fun _ h => by cases h.1)
  refine a_aload_n 0 dX5_readNumber_0 rfl rfl ?_
  refine a_get f_X5_22 dX5_readNumber_1 hr rfl ?_
  refine a_ifeqN (a := kd) 9 dX5_readNumber_4 (by decide) (by omega) (fun c4 => ?_) (fun c4 => ?_)
  · skip
    refine a_aload_n 0 dX5_readNumber_9 rfl rfl ?_
    refine a_callVv (As := []) (rest := []) (d := 0) (mc := 0) (ms := 0) (ci := 5) l_X5_30 im_X5_skipBlanks se_X5_skipBlanks ⟨_, rfl, rfl⟩ dX5_readNumber_10 ⟨Nat.le_of_ble_eq_true rfl, Nat.le_of_ble_eq_true rfl⟩ rfl (Nat.le_of_ble_eq_true rfl) ⟨Nat.le_of_ble_eq_true rfl, Nat.le_of_ble_eq_true rfl⟩ hr (c_X5_skipBlanks hR0 hB) (fun H1 hp1 => ?_)
    obtain ⟨hR1, hfr⟩ := hp1
    have ep : skP tx L kd pl = sk tx L pl := by unfold skP; rw [if_pos c4]
    rw [ep, c4] at hR1
    obtain ⟨ft, hr, ht, et, e8, -, hpl1, -⟩ := id hR1
    have hF : ∀ q : Nat, ¬ (r ≤ q ∧ q < r + 2) → H1[q]? = H[q]? := fun q hq => (hfr q (by omega)).trans (hF q hq)
    refine a_aload_n 0 dX5_readNumber_13 rfl rfl ?_
    refine a_get f_X5_19 dX5_readNumber_14 hr rfl ?_
    refine a_istore_n (lv' := [(2, .int (nI (sk tx L pl))), (0, .ref r), (1, .int (nI m))]) dX5_readNumber_17 rfl (by decide) rfl ?_
    refine a_iconst 0 dX5_readNumber_18 (by decide) ?_
    refine a_istore_n (lv' := [(3, .int 0), (2, .int (nI (sk tx L pl))), (0, .ref r), (1, .int (nI m))]) dX5_readNumber_19 rfl (by decide) rfl ?_
    have L20 : ∀ (fu : Nat) (p c : Nat) (Hk : Heap), Ob G Hk r 5 [.ref (r + 1), .int (nI L), .int (nI p), .int (nI 0)] → Ai G Hk (r + 1) 240 ft → p ≤ 240 → sk tx L pl ≤ p → dg tx L (sk tx L pl) = dg tx L p → c = vF tx (sk tx L pl) (p - sk tx L pl) → c ≤ 1000000 → (∀ q : Nat, ¬ (r ≤ q ∧ q < r + 2) → Hk[q]? = H[q]?) → 241 - p < fu → AW G B l { frames := 1, cells := 0, slots := 0, locals := 27 * 1 } yX5_readNumber.cls cX5_readNumber 4 false (fun rv H' ce' sl' => (rv = some (.int (nI ((nuF tx L m kd pl).2.2))) ∧ (Rd G H' r tx L ((nuF tx L m kd pl).2.1) ((nuF tx L m kd pl).1) ∧ ∀ q : Nat, ¬ (r ≤ q ∧ q < r + 2) → H'[q]? = H[q]?)) ∧ ce' = 0 ∧ sl' = 0) 20 [(0, .ref r), (1, .int (nI m)), (2, .int (nI (sk tx L pl))), (3, .int (nI c))] [] Hk 0 0 := by
      intro fu
      induction fu with
      | zero => intro p c Hk hr ht hp hsp hg hc hcl hF hm20; exact absurd hm20 (Nat.not_lt_zero _)
      | succ fu ih20 =>
        intro p c Hk hr ht hp hsp hg hc hcl hF hm20
        refine a_aload_n 0 dX5_readNumber_20 rfl rfl ?_
        refine a_get f_X5_19 dX5_readNumber_21 hr rfl ?_
        refine a_aload_n 0 dX5_readNumber_24 rfl rfl ?_
        refine a_get f_X5_15 dX5_readNumber_25 hr rfl ?_
        refine a_icmpgeN (a := p) (b := L) 82 dX5_readNumber_28 (by decide) (by omega) (by omega) (fun c28 => ?_) (fun c28 => ?_)
        · skip
          have hfin : ¬ (p < L ∧ (48 ≤ tx p ∧ tx p ≤ 57)) := fun h => absurd h.1 (by omega)
          have hdp : dg tx L (sk tx L pl) = p := by rw [hg]; exact dg_at hfin
          have hRp : Rd G Hk r tx L p 0 := ⟨_, hr, ht, et, e8, hL, hp, by decide⟩
          refine a_aload_n 0 dX5_readNumber_82 rfl rfl ?_
          refine a_get f_X5_19 dX5_readNumber_83 hr rfl ?_
          refine a_iload_n 2 dX5_readNumber_86 rfl rfl ?_
          refine a_icmpneN (a := p) (b := sk tx L pl) 102 dX5_readNumber_87 (by decide) (by omega) (by omega) (fun c87 => ?_) (fun c87 => ?_)
          · skip
            refine a_aload_n 0 dX5_readNumber_102 rfl rfl ?_
            refine a_get f_X5_19 dX5_readNumber_103 hr rfl ?_
            refine a_iload_n 2 dX5_readNumber_106 rfl rfl ?_
            refine a_isubN (a := p) (b := sk tx L pl) dX5_readNumber_107 (by omega) ?_
            refine a_iconst 3 dX5_readNumber_108 (by decide) ?_
            refine a_icmpgtN (a := p - (sk tx L pl)) (b := 3) 117 dX5_readNumber_109 (by decide) (by omega) (by omega) (fun c109 => ?_) (fun c109 => ?_)
            · skip
              refine a_aload_n 0 dX5_readNumber_117 rfl rfl ?_
              refine a_iconst 2 dX5_readNumber_118 (by decide) ?_
              refine a_iload_n 2 dX5_readNumber_119 rfl rfl ?_
              refine a_callVv (As := [.int 2, .int (nI (sk tx L pl))]) (rest := []) (d := 0) (mc := 0) (ms := 0) (ci := 5) l_X5_51 im_X5_stop se_X5_stop ⟨_, rfl, rfl⟩ dX5_readNumber_120 ⟨Nat.le_of_ble_eq_true rfl, Nat.le_of_ble_eq_true rfl⟩ rfl (Nat.le_of_ble_eq_true rfl) ⟨Nat.le_of_ble_eq_true rfl, Nat.le_of_ble_eq_true rfl⟩ hr (c_X5_stop (a := 2) hRp (by decide) hpl1 hB) (fun H2 hp2 => ?_)
              obtain ⟨hR2, hfr⟩ := hp2
              have hF : ∀ q : Nat, ¬ (r ≤ q ∧ q < r + 2) → H2[q]? = H[q]? := fun q hq => (hfr q (by omega)).trans (hF q hq)
              refine a_iload_n 3 dX5_readNumber_123 rfl rfl ?_
              refine a_ret dX5_readNumber_124 ⟨⟨ri ?_, ?_⟩, rfl, rfl⟩
              · unfold nuF
                rw [if_pos c4, hdp]
                rw [if_neg c87, ← hc]
                rw [if_pos (Or.inl c109)]
                all_goals rfl
              · unfold nuF
                rw [if_pos c4, hdp]
                rw [if_neg c87, ← hc]
                rw [if_pos (Or.inl c109)]
                exact ⟨hR2, hF⟩
            · skip
              refine a_iload_n 3 dX5_readNumber_112 rfl rfl ?_
              refine a_iload_n 1 dX5_readNumber_113 rfl rfl ?_
              refine a_icmpleN (a := c) (b := m) 123 dX5_readNumber_114 (by decide) (by omega) (by omega) (fun c114 => ?_) (fun c114 => ?_)
              · skip
                refine a_iload_n 3 dX5_readNumber_123 rfl rfl ?_
                refine a_ret dX5_readNumber_124 ⟨⟨ri ?_, ?_⟩, rfl, rfl⟩
                · unfold nuF
                  rw [if_pos c4, hdp]
                  rw [if_neg c87, ← hc]
                  rw [if_neg (fun h => h.elim (fun h => absurd h (by omega)) (fun h => absurd h (by omega)))]
                  all_goals rfl
                · unfold nuF
                  rw [if_pos c4, hdp]
                  rw [if_neg c87, ← hc]
                  rw [if_neg (fun h => h.elim (fun h => absurd h (by omega)) (fun h => absurd h (by omega)))]
                  exact ⟨hRp, hF⟩
              · skip
                refine a_aload_n 0 dX5_readNumber_117 rfl rfl ?_
                refine a_iconst 2 dX5_readNumber_118 (by decide) ?_
                refine a_iload_n 2 dX5_readNumber_119 rfl rfl ?_
                refine a_callVv (As := [.int 2, .int (nI (sk tx L pl))]) (rest := []) (d := 0) (mc := 0) (ms := 0) (ci := 5) l_X5_51 im_X5_stop se_X5_stop ⟨_, rfl, rfl⟩ dX5_readNumber_120 ⟨Nat.le_of_ble_eq_true rfl, Nat.le_of_ble_eq_true rfl⟩ rfl (Nat.le_of_ble_eq_true rfl) ⟨Nat.le_of_ble_eq_true rfl, Nat.le_of_ble_eq_true rfl⟩ hr (c_X5_stop (a := 2) hRp (by decide) hpl1 hB) (fun H3 hp3 => ?_)
                obtain ⟨hR2, hfr⟩ := hp3
                have hF : ∀ q : Nat, ¬ (r ≤ q ∧ q < r + 2) → H3[q]? = H[q]? := fun q hq => (hfr q (by omega)).trans (hF q hq)
                refine a_iload_n 3 dX5_readNumber_123 rfl rfl ?_
                refine a_ret dX5_readNumber_124 ⟨⟨ri ?_, ?_⟩, rfl, rfl⟩
                · unfold nuF
                  rw [if_pos c4, hdp]
                  rw [if_neg c87, ← hc]
                  rw [if_pos (Or.inr c114)]
                  all_goals rfl
                · unfold nuF
                  rw [if_pos c4, hdp]
                  rw [if_neg c87, ← hc]
                  rw [if_pos (Or.inr c114)]
                  exact ⟨hR2, hF⟩
          · skip
            refine a_aload_n 0 dX5_readNumber_90 rfl rfl ?_
            refine a_iconst 1 dX5_readNumber_91 (by decide) ?_
            refine a_aload_n 0 dX5_readNumber_92 rfl rfl ?_
            refine a_get f_X5_19 dX5_readNumber_93 hr rfl ?_
            refine a_callVv (As := [.int 1, .int (nI p)]) (rest := []) (d := 0) (mc := 0) (ms := 0) (ci := 5) l_X5_51 im_X5_stop se_X5_stop ⟨_, rfl, rfl⟩ dX5_readNumber_96 ⟨Nat.le_of_ble_eq_true rfl, Nat.le_of_ble_eq_true rfl⟩ rfl (Nat.le_of_ble_eq_true rfl) ⟨Nat.le_of_ble_eq_true rfl, Nat.le_of_ble_eq_true rfl⟩ hr (c_X5_stop (a := 1) hRp (by decide) hp hB) (fun H4 hp4 => ?_)
            obtain ⟨hR2, hfr⟩ := hp4
            have hF : ∀ q : Nat, ¬ (r ≤ q ∧ q < r + 2) → H4[q]? = H[q]? := fun q hq => (hfr q (by omega)).trans (hF q hq)
            refine a_goto 123 dX5_readNumber_99 (by decide) ?_
            refine a_iload_n 3 dX5_readNumber_123 rfl rfl ?_
            refine a_ret dX5_readNumber_124 ⟨⟨ri ?_, ?_⟩, rfl, rfl⟩
            · unfold nuF
              rw [if_pos c4, hdp]
              rw [if_pos c87]
              show nI c = nI 0
              rw [hc, show p - sk tx L pl = 0 by omega]
              all_goals rfl
            · unfold nuF
              rw [if_pos c4, hdp]
              rw [if_pos c87]
              exact ⟨by rw [c87] at hR2; exact hR2, hF⟩
        · skip
          refine a_aload_n 0 dX5_readNumber_31 rfl rfl ?_
          refine a_get f_X5_9 dX5_readNumber_32 hr rfl ?_
          refine a_aload_n 0 dX5_readNumber_35 rfl rfl ?_
          refine a_get f_X5_19 dX5_readNumber_36 hr rfl ?_
          refine a_ialdN (j := p) dX5_readNumber_39 ht (by omega) (by decide) ?_
          refine a_toeq (nI (tx p)) (et _ c28) ?_
          have hb8 := e8 p c28
          refine a_callSp (As := [.int (nI (tx p))]) (rest := []) (d := 0) (mc := 0) (ms := 0) (x := bI (decide (48 ≤ tx p ∧ tx p ≤ 57))) l_X5_82 st_X5_isFigure dX5_readNumber_40 ⟨Nat.le_of_ble_eq_true rfl, Nat.le_of_ble_eq_true rfl⟩ rfl (Nat.le_of_ble_eq_true rfl) ⟨Nat.le_of_ble_eq_true rfl, Nat.le_of_ble_eq_true rfl⟩ (c_X5_isFigure hb8) ?_
          refine a_ifeqB 82 dX5_readNumber_43 (by decide) (fun c43 => ?_) (fun c43 => ?_)
          · skip
            have hfin : ¬ (p < L ∧ (48 ≤ tx p ∧ tx p ≤ 57)) := fun h => of_decide_eq_false c43 h.2
            have hdp : dg tx L (sk tx L pl) = p := by rw [hg]; exact dg_at hfin
            have hRp : Rd G Hk r tx L p 0 := ⟨_, hr, ht, et, e8, hL, hp, by decide⟩
            refine a_aload_n 0 dX5_readNumber_82 rfl rfl ?_
            refine a_get f_X5_19 dX5_readNumber_83 hr rfl ?_
            refine a_iload_n 2 dX5_readNumber_86 rfl rfl ?_
            refine a_icmpneN (a := p) (b := sk tx L pl) 102 dX5_readNumber_87 (by decide) (by omega) (by omega) (fun c87 => ?_) (fun c87 => ?_)
            · skip
              refine a_aload_n 0 dX5_readNumber_102 rfl rfl ?_
              refine a_get f_X5_19 dX5_readNumber_103 hr rfl ?_
              refine a_iload_n 2 dX5_readNumber_106 rfl rfl ?_
              refine a_isubN (a := p) (b := sk tx L pl) dX5_readNumber_107 (by omega) ?_
              refine a_iconst 3 dX5_readNumber_108 (by decide) ?_
              refine a_icmpgtN (a := p - (sk tx L pl)) (b := 3) 117 dX5_readNumber_109 (by decide) (by omega) (by omega) (fun c109 => ?_) (fun c109 => ?_)
              · skip
                refine a_aload_n 0 dX5_readNumber_117 rfl rfl ?_
                refine a_iconst 2 dX5_readNumber_118 (by decide) ?_
                refine a_iload_n 2 dX5_readNumber_119 rfl rfl ?_
                refine a_callVv (As := [.int 2, .int (nI (sk tx L pl))]) (rest := []) (d := 0) (mc := 0) (ms := 0) (ci := 5) l_X5_51 im_X5_stop se_X5_stop ⟨_, rfl, rfl⟩ dX5_readNumber_120 ⟨Nat.le_of_ble_eq_true rfl, Nat.le_of_ble_eq_true rfl⟩ rfl (Nat.le_of_ble_eq_true rfl) ⟨Nat.le_of_ble_eq_true rfl, Nat.le_of_ble_eq_true rfl⟩ hr (c_X5_stop (a := 2) hRp (by decide) hpl1 hB) (fun H6 hp6 => ?_)
                obtain ⟨hR2, hfr⟩ := hp6
                have hF : ∀ q : Nat, ¬ (r ≤ q ∧ q < r + 2) → H6[q]? = H[q]? := fun q hq => (hfr q (by omega)).trans (hF q hq)
                refine a_iload_n 3 dX5_readNumber_123 rfl rfl ?_
                refine a_ret dX5_readNumber_124 ⟨⟨ri ?_, ?_⟩, rfl, rfl⟩
                · unfold nuF
                  rw [if_pos c4, hdp]
                  rw [if_neg c87, ← hc]
                  rw [if_pos (Or.inl c109)]
                  all_goals rfl
                · unfold nuF
                  rw [if_pos c4, hdp]
                  rw [if_neg c87, ← hc]
                  rw [if_pos (Or.inl c109)]
                  exact ⟨hR2, hF⟩
              · skip
                refine a_iload_n 3 dX5_readNumber_112 rfl rfl ?_
                refine a_iload_n 1 dX5_readNumber_113 rfl rfl ?_
                refine a_icmpleN (a := c) (b := m) 123 dX5_readNumber_114 (by decide) (by omega) (by omega) (fun c114 => ?_) (fun c114 => ?_)
                · skip
                  refine a_iload_n 3 dX5_readNumber_123 rfl rfl ?_
                  refine a_ret dX5_readNumber_124 ⟨⟨ri ?_, ?_⟩, rfl, rfl⟩
                  · unfold nuF
                    rw [if_pos c4, hdp]
                    rw [if_neg c87, ← hc]
                    rw [if_neg (fun h => h.elim (fun h => absurd h (by omega)) (fun h => absurd h (by omega)))]
                    all_goals rfl
                  · unfold nuF
                    rw [if_pos c4, hdp]
                    rw [if_neg c87, ← hc]
                    rw [if_neg (fun h => h.elim (fun h => absurd h (by omega)) (fun h => absurd h (by omega)))]
                    exact ⟨hRp, hF⟩
                · skip
                  refine a_aload_n 0 dX5_readNumber_117 rfl rfl ?_
                  refine a_iconst 2 dX5_readNumber_118 (by decide) ?_
                  refine a_iload_n 2 dX5_readNumber_119 rfl rfl ?_
                  refine a_callVv (As := [.int 2, .int (nI (sk tx L pl))]) (rest := []) (d := 0) (mc := 0) (ms := 0) (ci := 5) l_X5_51 im_X5_stop se_X5_stop ⟨_, rfl, rfl⟩ dX5_readNumber_120 ⟨Nat.le_of_ble_eq_true rfl, Nat.le_of_ble_eq_true rfl⟩ rfl (Nat.le_of_ble_eq_true rfl) ⟨Nat.le_of_ble_eq_true rfl, Nat.le_of_ble_eq_true rfl⟩ hr (c_X5_stop (a := 2) hRp (by decide) hpl1 hB) (fun H7 hp7 => ?_)
                  obtain ⟨hR2, hfr⟩ := hp7
                  have hF : ∀ q : Nat, ¬ (r ≤ q ∧ q < r + 2) → H7[q]? = H[q]? := fun q hq => (hfr q (by omega)).trans (hF q hq)
                  refine a_iload_n 3 dX5_readNumber_123 rfl rfl ?_
                  refine a_ret dX5_readNumber_124 ⟨⟨ri ?_, ?_⟩, rfl, rfl⟩
                  · unfold nuF
                    rw [if_pos c4, hdp]
                    rw [if_neg c87, ← hc]
                    rw [if_pos (Or.inr c114)]
                    all_goals rfl
                  · unfold nuF
                    rw [if_pos c4, hdp]
                    rw [if_neg c87, ← hc]
                    rw [if_pos (Or.inr c114)]
                    exact ⟨hR2, hF⟩
            · skip
              refine a_aload_n 0 dX5_readNumber_90 rfl rfl ?_
              refine a_iconst 1 dX5_readNumber_91 (by decide) ?_
              refine a_aload_n 0 dX5_readNumber_92 rfl rfl ?_
              refine a_get f_X5_19 dX5_readNumber_93 hr rfl ?_
              refine a_callVv (As := [.int 1, .int (nI p)]) (rest := []) (d := 0) (mc := 0) (ms := 0) (ci := 5) l_X5_51 im_X5_stop se_X5_stop ⟨_, rfl, rfl⟩ dX5_readNumber_96 ⟨Nat.le_of_ble_eq_true rfl, Nat.le_of_ble_eq_true rfl⟩ rfl (Nat.le_of_ble_eq_true rfl) ⟨Nat.le_of_ble_eq_true rfl, Nat.le_of_ble_eq_true rfl⟩ hr (c_X5_stop (a := 1) hRp (by decide) hp hB) (fun H8 hp8 => ?_)
              obtain ⟨hR2, hfr⟩ := hp8
              have hF : ∀ q : Nat, ¬ (r ≤ q ∧ q < r + 2) → H8[q]? = H[q]? := fun q hq => (hfr q (by omega)).trans (hF q hq)
              refine a_goto 123 dX5_readNumber_99 (by decide) ?_
              refine a_iload_n 3 dX5_readNumber_123 rfl rfl ?_
              refine a_ret dX5_readNumber_124 ⟨⟨ri ?_, ?_⟩, rfl, rfl⟩
              · unfold nuF
                rw [if_pos c4, hdp]
                rw [if_pos c87]
                show nI c = nI 0
                rw [hc, show p - sk tx L pl = 0 by omega]
                all_goals rfl
              · unfold nuF
                rw [if_pos c4, hdp]
                rw [if_pos c87]
                exact ⟨by rw [c87] at hR2; exact hR2, hF⟩
          · skip
            have hdig := of_decide_eq_true c43
            refine a_bipush 10 dX5_readNumber_46 (by decide) ?_
            refine a_iload_n 3 dX5_readNumber_48 rfl rfl ?_
            refine a_imulN (a := 10) (b := c) dX5_readNumber_49 ?_
            refine a_aload_n 0 dX5_readNumber_50 rfl rfl ?_
            refine a_get f_X5_9 dX5_readNumber_51 hr rfl ?_
            refine a_aload_n 0 dX5_readNumber_54 rfl rfl ?_
            refine a_get f_X5_19 dX5_readNumber_55 hr rfl ?_
            refine a_ialdN (j := p) dX5_readNumber_58 ht (by omega) (by decide) ?_
            refine a_toeq (nI (tx p)) (et _ c28) ?_
            refine a_iaddN (a := 10 * c) (b := tx p) dX5_readNumber_59 ?_
            refine a_bipush 48 dX5_readNumber_60 (by decide) ?_
            refine a_isubN (a := (10 * c) + (tx p)) (b := 48) dX5_readNumber_62 (by omega) ?_
            refine a_ldc 1000000 k_X5_86 dX5_readNumber_63 ?_
            refine a_min ml_X5_87 dX5_readNumber_65 (Nat.le_of_ble_eq_true rfl) (Nat.le_of_ble_eq_true rfl) ⟨Nat.le_of_ble_eq_true rfl, Nat.le_of_ble_eq_true rfl⟩ ?_
            refine a_toeq (nI (min (10 * c + tx p - 48) 1000000)) (mnN (b := 1000000) (by omega) (by decide)) ?_
            refine a_istore_n (lv' := [(3, .int (nI (min (10 * c + tx p - 48) 1000000))), (0, .ref r), (1, .int (nI m)), (2, .int (nI (sk tx L pl)))]) dX5_readNumber_68 rfl (by decide) rfl ?_
            refine a_aload_n 1 dX5_readNumber_69 rfl rfl ?_
            refine a_dup dX5_readNumber_70 rfl ?_
            refine a_get f_X5_19 dX5_readNumber_71 hr rfl ?_
            refine a_iconst 1 dX5_readNumber_74 (by decide) ?_
            refine a_iaddN (a := p) (b := 1) dX5_readNumber_75 ?_
            refine a_put f_X5_19 p_X5_19 dX5_readNumber_76 hr (Nat.le_of_ble_eq_true rfl) rfl rfl (by omega) (fun H9 hr hz9 hq9 => ?_)
            have hr : Ob G H9 r 5 [.ref (r + 1), .int (nI L), .int (nI (p + 1)), .int (nI 0)] := hr
            have ht := ht.kept (hq9 _ (by omega))
            have hF : ∀ q : Nat, ¬ (r ≤ q ∧ q < r + 2) → H9[q]? = H[q]? := fun q hq => (hq9 q (by omega)).trans (hF q hq)
            refine a_goto 20 dX5_readNumber_79 (by decide) ?_
            refine a_sub [1, 2, 3, 0] rfl ?_
            exact ih20 _ _ _ hr ht (by omega) (by omega) (by rw [hg]; exact dg_go c28 hdig) (by rw [show p + 1 - sk tx L pl = (p - sk tx L pl) + 1 by omega]; simp only [vF]; rw [← hc, show sk tx L pl + (p - sk tx L pl) = p by omega]) (Nat.min_le_right _ _) hF (by omega)
    refine a_sub [2, 3, 1, 0] rfl ?_
    exact L20 _ (sk tx L pl) 0 _ hr ht hpl1 (Nat.le_refl _) rfl (by rw [Nat.sub_self]; rfl) (by decide) hF (Nat.lt_succ_self _)
  · skip
    refine a_iconst 0 dX5_readNumber_7 (by decide) ?_
    refine a_ret dX5_readNumber_8 ⟨⟨ri ?_, ?_⟩, rfl, rfl⟩
    · unfold nuF
      rw [if_neg c4]
      all_goals rfl
    · unfold nuF
      rw [if_neg c4]
      exact ⟨hR0, hF⟩
set_option maxHeartbeats 4000000 in
set_option maxRecDepth 100000 in
theorem c_X5_readBox {G : GT} {B : Nat} {l : Launch} {H : Heap} {r : Nat} {tx : Nat → Nat} {L pl : Nat} (hR : Rd G H r tx L pl 0) (hlt : pl < L) {k0 : Nat} {kb : Bool} {ka ks kw : Int32} {n nv : Nat} {kS kU kK kV : DD} (hK : Kt G H k0 kb ka ks kw n nv kS kU kK kV) (hap : r + 2 ≤ k0 ∨ k0 + 5 ≤ r) (hBk : B ≤ k0) (hB : B ≤ r) : AM G B l yX5_readBox cX5_readBox 5 none 2 0 0 [.ref r, .ref k0] H (fun rv H' => rv = none ∧ (Rd G H' r tx L ((triF tx L 99 99 999 pl).2.2.2.2) ((triF tx L 99 99 999 pl).2.2.2.1) ∧ Kt G H' k0 true (nI (triF tx L 99 99 999 pl).1) (nI (triF tx L 99 99 999 pl).2.1) (nI (triF tx L 99 99 999 pl).2.2.1) n nv kS kU kK kV ∧ ∀ q : Nat, ¬ (r ≤ q ∧ q < r + 2) ∧ ¬ (k0 ≤ q ∧ q < k0 + 5) → H'[q]? = H[q]?)) := by
  have hK0 := hK
  obtain ⟨fS3, fU3, fK3, fV3, hk3, ha3, hb3, hc3, he3, eS3, eU3, eK3, eV3, hn3, hnv3⟩ := hK
  have hR0 := hR
  obtain ⟨ft, hr, ht, et, e8, hL, hpl, hkd⟩ := hR
  have hF : ∀ q : Nat, ¬ (r ≤ q ∧ q < r + 2) ∧ ¬ (k0 ≤ q ∧ q < k0 + 5) → H[q]? = H[q]? := fun _ _ => rfl
  have hG : ∀ q : Nat, ¬ (r ≤ q ∧ q < r + 2) → H[q]? = H[q]? := fun _ _ => rfl
  refine AM.ofV (lv := [(0, .ref r), (1, .ref k0)]) (by decide +kernel) (ini := false) (fun h => by cases h) (Nat.le_of_ble_eq_true rfl) rfl ?_ (fun _ _ h => h.1)
  refine a_aload_n 0 dX5_readBox_0 rfl rfl ?_
  refine a_dup dX5_readBox_1 rfl ?_
  refine a_get f_X5_19 dX5_readBox_2 hr rfl ?_
  refine a_iconst 1 dX5_readBox_5 (by decide) ?_
  refine a_iaddN (a := pl) (b := 1) dX5_readBox_6 ?_
  refine a_put f_X5_19 p_X5_19 dX5_readBox_7 hr (Nat.le_of_ble_eq_true rfl) rfl rfl (by omega) (fun H1 hr hz1 hq1 => ?_)
  have hr : Ob G H1 r 5 [.ref (r + 1), .int (nI L), .int (nI (pl + 1)), .int (nI 0)] := hr
  have ht := ht.kept (hq1 _ (by omega))
  have hk3 := hk3.kept (hq1 _ (by omega))
  have ha3 := ha3.kept (hq1 _ (by omega))
  have hb3 := hb3.kept (hq1 _ (by omega))
  have hc3 := hc3.kept (hq1 _ (by omega))
  have he3 := he3.kept (hq1 _ (by omega))
  have hF : ∀ q : Nat, ¬ (r ≤ q ∧ q < r + 2) ∧ ¬ (k0 ≤ q ∧ q < k0 + 5) → H1[q]? = H[q]? := fun q hq => (hq1 q (by omega)).trans (hF q hq)
  have hG : ∀ q : Nat, ¬ (r ≤ q ∧ q < r + 2) → H1[q]? = H[q]? := fun q hq => (hq1 q (by omega)).trans (hG q hq)
  refine a_aload_n 0 dX5_readBox_10 rfl rfl ?_
  refine a_bipush 99 dX5_readBox_11 (by decide) ?_
  have hRa : Rd G H1 r tx L (pl + 1) 0 := ⟨_, hr, ht, et, e8, hL, by omega, by decide⟩
  refine a_callVi (As := [.int 99]) (rest := []) (d := 1) (mc := 0) (ms := 0) (x := nI ((nuF tx L 99 0 (pl + 1)).2.2)) (ci := 5) l_X5_64 im_X5_readNumber se_X5_readNumber ⟨_, rfl, rfl⟩ dX5_readBox_13 ⟨Nat.le_of_ble_eq_true rfl, Nat.le_of_ble_eq_true rfl⟩ rfl (Nat.le_of_ble_eq_true rfl) ⟨Nat.le_of_ble_eq_true rfl, Nat.le_of_ble_eq_true rfl⟩ hr (c_X5_readNumber (m := 99) hRa (by decide) hB) (fun H2 hp2 => ?_)
  obtain ⟨hR1, hfr⟩ := hp2
  obtain ⟨ft, hr, ht, -⟩ := id hR1
  have hk3 := hk3.kept (hfr _ (by omega))
  have ha3 := ha3.kept (hfr _ (by omega))
  have hb3 := hb3.kept (hfr _ (by omega))
  have hc3 := hc3.kept (hfr _ (by omega))
  have he3 := he3.kept (hfr _ (by omega))
  have hF : ∀ q : Nat, ¬ (r ≤ q ∧ q < r + 2) ∧ ¬ (k0 ≤ q ∧ q < k0 + 5) → H2[q]? = H[q]? := fun q hq => (hfr q (by omega)).trans (hF q hq)
  have hG : ∀ q : Nat, ¬ (r ≤ q ∧ q < r + 2) → H2[q]? = H[q]? := fun q hq => (hfr q (by omega)).trans (hG q hq)
  refine a_istore_n (lv' := [(2, .int (nI ((nuF tx L 99 0 (pl + 1)).2.2))), (0, .ref r), (1, .ref k0)]) dX5_readBox_16 rfl (by decide) rfl ?_
  refine a_aload_n 1 dX5_readBox_17 rfl rfl ?_
  refine a_bipush 99 dX5_readBox_18 (by decide) ?_
  refine a_callVi (As := [.int 99]) (rest := []) (d := 1) (mc := 0) (ms := 0) (x := nI ((nuF tx L 99 (nuF tx L 99 0 (pl + 1)).1 (nuF tx L 99 0 (pl + 1)).2.1).2.2)) (ci := 5) l_X5_64 im_X5_readNumber se_X5_readNumber ⟨_, rfl, rfl⟩ dX5_readBox_20 ⟨Nat.le_of_ble_eq_true rfl, Nat.le_of_ble_eq_true rfl⟩ rfl (Nat.le_of_ble_eq_true rfl) ⟨Nat.le_of_ble_eq_true rfl, Nat.le_of_ble_eq_true rfl⟩ hr (c_X5_readNumber (m := 99) hR1 (by decide) hB) (fun H3 hp3 => ?_)
  obtain ⟨hR2, hfr⟩ := hp3
  obtain ⟨ft, hr, ht, -⟩ := id hR2
  have hk3 := hk3.kept (hfr _ (by omega))
  have ha3 := ha3.kept (hfr _ (by omega))
  have hb3 := hb3.kept (hfr _ (by omega))
  have hc3 := hc3.kept (hfr _ (by omega))
  have he3 := he3.kept (hfr _ (by omega))
  have hF : ∀ q : Nat, ¬ (r ≤ q ∧ q < r + 2) ∧ ¬ (k0 ≤ q ∧ q < k0 + 5) → H3[q]? = H[q]? := fun q hq => (hfr q (by omega)).trans (hF q hq)
  have hG : ∀ q : Nat, ¬ (r ≤ q ∧ q < r + 2) → H3[q]? = H[q]? := fun q hq => (hfr q (by omega)).trans (hG q hq)
  refine a_istore_n (lv' := [(3, .int (nI ((nuF tx L 99 (nuF tx L 99 0 (pl + 1)).1 (nuF tx L 99 0 (pl + 1)).2.1).2.2))), (2, .int (nI ((nuF tx L 99 0 (pl + 1)).2.2))), (0, .ref r), (1, .ref k0)]) dX5_readBox_23 rfl (by decide) rfl ?_
  refine a_aload_n 2 dX5_readBox_24 rfl rfl ?_
  refine a_sipush 999 dX5_readBox_25 (by decide) ?_
  refine a_callVi (As := [.int 999]) (rest := []) (d := 1) (mc := 0) (ms := 0) (x := nI ((nuF tx L 999 (nuF tx L 99 (nuF tx L 99 0 (pl + 1)).1 (nuF tx L 99 0 (pl + 1)).2.1).1 (nuF tx L 99 (nuF tx L 99 0 (pl + 1)).1 (nuF tx L 99 0 (pl + 1)).2.1).2.1).2.2)) (ci := 5) l_X5_64 im_X5_readNumber se_X5_readNumber ⟨_, rfl, rfl⟩ dX5_readBox_28 ⟨Nat.le_of_ble_eq_true rfl, Nat.le_of_ble_eq_true rfl⟩ rfl (Nat.le_of_ble_eq_true rfl) ⟨Nat.le_of_ble_eq_true rfl, Nat.le_of_ble_eq_true rfl⟩ hr (c_X5_readNumber (m := 999) hR2 (by decide) hB) (fun H4 hp4 => ?_)
  obtain ⟨hR3, hfr⟩ := hp4
  obtain ⟨ft, hr, ht, -⟩ := id hR3
  have hk3 := hk3.kept (hfr _ (by omega))
  have ha3 := ha3.kept (hfr _ (by omega))
  have hb3 := hb3.kept (hfr _ (by omega))
  have hc3 := hc3.kept (hfr _ (by omega))
  have he3 := he3.kept (hfr _ (by omega))
  have hF : ∀ q : Nat, ¬ (r ≤ q ∧ q < r + 2) ∧ ¬ (k0 ≤ q ∧ q < k0 + 5) → H4[q]? = H[q]? := fun q hq => (hfr q (by omega)).trans (hF q hq)
  have hG : ∀ q : Nat, ¬ (r ≤ q ∧ q < r + 2) → H4[q]? = H[q]? := fun q hq => (hfr q (by omega)).trans (hG q hq)
  refine a_istore (lv' := [(4, .int (nI ((nuF tx L 999 (nuF tx L 99 (nuF tx L 99 0 (pl + 1)).1 (nuF tx L 99 0 (pl + 1)).2.1).1 (nuF tx L 99 (nuF tx L 99 0 (pl + 1)).1 (nuF tx L 99 0 (pl + 1)).2.1).2.1).2.2))), (3, .int (nI ((nuF tx L 99 (nuF tx L 99 0 (pl + 1)).1 (nuF tx L 99 0 (pl + 1)).2.1).2.2))), (2, .int (nI ((nuF tx L 99 0 (pl + 1)).2.2))), (0, .ref r), (1, .ref k0)]) dX5_readBox_31 (by decide) rfl ?_
  refine a_aload_n 3 dX5_readBox_33 rfl rfl ?_
  refine a_callVv (As := []) (rest := []) (d := 1) (mc := 0) (ms := 0) (ci := 5) l_X5_68 im_X5_readEnd se_X5_readEnd ⟨_, rfl, rfl⟩ dX5_readBox_34 ⟨Nat.le_of_ble_eq_true rfl, Nat.le_of_ble_eq_true rfl⟩ rfl (Nat.le_of_ble_eq_true rfl) ⟨Nat.le_of_ble_eq_true rfl, Nat.le_of_ble_eq_true rfl⟩ hr (c_X5_readEnd hR3 hB) (fun H5 hp5 => ?_)
  obtain ⟨hR4, hfr⟩ := hp5
  obtain ⟨ft, hr, ht, -⟩ := id hR4
  have hk3 := hk3.kept (hfr _ (by omega))
  have ha3 := ha3.kept (hfr _ (by omega))
  have hb3 := hb3.kept (hfr _ (by omega))
  have hc3 := hc3.kept (hfr _ (by omega))
  have he3 := he3.kept (hfr _ (by omega))
  have hF : ∀ q : Nat, ¬ (r ≤ q ∧ q < r + 2) ∧ ¬ (k0 ≤ q ∧ q < k0 + 5) → H5[q]? = H[q]? := fun q hq => (hfr q (by omega)).trans (hF q hq)
  have hG : ∀ q : Nat, ¬ (r ≤ q ∧ q < r + 2) → H5[q]? = H[q]? := fun q hq => (hfr q (by omega)).trans (hG q hq)
  refine a_aload_n 4 dX5_readBox_37 rfl rfl ?_
  refine a_iload_n 2 dX5_readBox_38 rfl rfl ?_
  refine a_iload_n 1 dX5_readBox_39 rfl rfl ?_
  refine a_iload 0 dX5_readBox_40 rfl ?_
  have hK1 := hK0.kept (H1 := H5) (fun q a c => hG q (by omega))
  refine a_callVv (As := [.int (nI ((nuF tx L 99 0 (pl + 1)).2.2)), .int (nI ((nuF tx L 99 (nuF tx L 99 0 (pl + 1)).1 (nuF tx L 99 0 (pl + 1)).2.1).2.2)), .int (nI ((nuF tx L 999 (nuF tx L 99 (nuF tx L 99 0 (pl + 1)).1 (nuF tx L 99 0 (pl + 1)).2.1).1 (nuF tx L 99 (nuF tx L 99 0 (pl + 1)).1 (nuF tx L 99 0 (pl + 1)).2.1).2.1).2.2))]) (rest := []) (d := 0) (mc := 0) (ms := 0) (ci := 2) l_X5_71 im_X2_setBox se_X2_setBox ⟨_, rfl, rfl⟩ dX5_readBox_42 ⟨Nat.le_of_ble_eq_true rfl, Nat.le_of_ble_eq_true rfl⟩ rfl (Nat.le_of_ble_eq_true rfl) ⟨Nat.le_of_ble_eq_true rfl, Nat.le_of_ble_eq_true rfl⟩ hk3 (c_X2_setBox hK1 hBk) (fun H6 hp6 => ?_)
  obtain ⟨hK2, hfr⟩ := hp6
  have hR5 := hR4.kept (H1 := H6) (fun q a c => hfr q (by omega))
  have hF : ∀ q : Nat, ¬ (r ≤ q ∧ q < r + 2) ∧ ¬ (k0 ≤ q ∧ q < k0 + 5) → H6[q]? = H[q]? := fun q hq => (hfr q (by omega)).trans (hF q hq)
  refine a_retv dX5_readBox_45 ⟨⟨rfl, ?_⟩, rfl, rfl⟩
  · exact ⟨hR5, hK2, hF⟩
set_option maxHeartbeats 4000000 in
set_option maxRecDepth 100000 in
theorem c_X5_readWord {G : GT} {B : Nat} {l : Launch} {H : Heap} {r : Nat} {tx : Nat → Nat} {L pl : Nat} (hR : Rd G H r tx L pl 0) (hlt : pl < L) {k0 : Nat} {kb : Bool} {ka ks kw : Int32} {n nv : Nat} {kS kU kK kV : DD} (hK : Kt G H k0 kb ka ks kw n nv kS kU kK kV) (hap : r + 2 ≤ k0 ∨ k0 + 5 ≤ r) (hBk : B ≤ k0) (hB : B ≤ r) (hn8 : n < 8) : AM G B l yX5_readWord cX5_readWord 5 none 2 0 0 [.ref r, .ref k0] H (fun rv H' => rv = none ∧ (Rd G H' r tx L ((triF tx L 999 99 99 pl).2.2.2.2) ((triF tx L 999 99 99 pl).2.2.2.1) ∧ Kt G H' k0 kb ka ks kw (n + 1) nv (upd kS n (nI (triF tx L 999 99 99 pl).1)) (upd kU n (nI (triF tx L 999 99 99 pl).2.1)) (upd kK n (nI (triF tx L 999 99 99 pl).2.2.1)) kV ∧ ∀ q : Nat, ¬ (r ≤ q ∧ q < r + 2) ∧ ¬ (k0 ≤ q ∧ q < k0 + 5) → H'[q]? = H[q]?)) := by
  have hK0 := hK
  obtain ⟨fS3, fU3, fK3, fV3, hk3, ha3, hb3, hc3, he3, eS3, eU3, eK3, eV3, hn3, hnv3⟩ := hK
  have hR0 := hR
  obtain ⟨ft, hr, ht, et, e8, hL, hpl, hkd⟩ := hR
  have hF : ∀ q : Nat, ¬ (r ≤ q ∧ q < r + 2) ∧ ¬ (k0 ≤ q ∧ q < k0 + 5) → H[q]? = H[q]? := fun _ _ => rfl
  have hG : ∀ q : Nat, ¬ (r ≤ q ∧ q < r + 2) → H[q]? = H[q]? := fun _ _ => rfl
  refine AM.ofV (lv := [(0, .ref r), (1, .ref k0)]) (by decide +kernel) (ini := false) (fun h => by cases h) (Nat.le_of_ble_eq_true rfl) rfl ?_ (fun _ _ h => h.1)
  refine a_aload_n 0 dX5_readWord_0 rfl rfl ?_
  refine a_dup dX5_readWord_1 rfl ?_
  refine a_get f_X5_19 dX5_readWord_2 hr rfl ?_
  refine a_iconst 1 dX5_readWord_5 (by decide) ?_
  refine a_iaddN (a := pl) (b := 1) dX5_readWord_6 ?_
  refine a_put f_X5_19 p_X5_19 dX5_readWord_7 hr (Nat.le_of_ble_eq_true rfl) rfl rfl (by omega) (fun H1 hr hz1 hq1 => ?_)
  have hr : Ob G H1 r 5 [.ref (r + 1), .int (nI L), .int (nI (pl + 1)), .int (nI 0)] := hr
  have ht := ht.kept (hq1 _ (by omega))
  have hk3 := hk3.kept (hq1 _ (by omega))
  have ha3 := ha3.kept (hq1 _ (by omega))
  have hb3 := hb3.kept (hq1 _ (by omega))
  have hc3 := hc3.kept (hq1 _ (by omega))
  have he3 := he3.kept (hq1 _ (by omega))
  have hF : ∀ q : Nat, ¬ (r ≤ q ∧ q < r + 2) ∧ ¬ (k0 ≤ q ∧ q < k0 + 5) → H1[q]? = H[q]? := fun q hq => (hq1 q (by omega)).trans (hF q hq)
  have hG : ∀ q : Nat, ¬ (r ≤ q ∧ q < r + 2) → H1[q]? = H[q]? := fun q hq => (hq1 q (by omega)).trans (hG q hq)
  refine a_aload_n 0 dX5_readWord_10 rfl rfl ?_
  refine a_sipush 999 dX5_readWord_11 (by decide) ?_
  have hRa : Rd G H1 r tx L (pl + 1) 0 := ⟨_, hr, ht, et, e8, hL, by omega, by decide⟩
  refine a_callVi (As := [.int 999]) (rest := []) (d := 1) (mc := 0) (ms := 0) (x := nI ((nuF tx L 999 0 (pl + 1)).2.2)) (ci := 5) l_X5_64 im_X5_readNumber se_X5_readNumber ⟨_, rfl, rfl⟩ dX5_readWord_14 ⟨Nat.le_of_ble_eq_true rfl, Nat.le_of_ble_eq_true rfl⟩ rfl (Nat.le_of_ble_eq_true rfl) ⟨Nat.le_of_ble_eq_true rfl, Nat.le_of_ble_eq_true rfl⟩ hr (c_X5_readNumber (m := 999) hRa (by decide) hB) (fun H2 hp2 => ?_)
  obtain ⟨hR1, hfr⟩ := hp2
  obtain ⟨ft, hr, ht, -⟩ := id hR1
  have hk3 := hk3.kept (hfr _ (by omega))
  have ha3 := ha3.kept (hfr _ (by omega))
  have hb3 := hb3.kept (hfr _ (by omega))
  have hc3 := hc3.kept (hfr _ (by omega))
  have he3 := he3.kept (hfr _ (by omega))
  have hF : ∀ q : Nat, ¬ (r ≤ q ∧ q < r + 2) ∧ ¬ (k0 ≤ q ∧ q < k0 + 5) → H2[q]? = H[q]? := fun q hq => (hfr q (by omega)).trans (hF q hq)
  have hG : ∀ q : Nat, ¬ (r ≤ q ∧ q < r + 2) → H2[q]? = H[q]? := fun q hq => (hfr q (by omega)).trans (hG q hq)
  refine a_istore_n (lv' := [(2, .int (nI ((nuF tx L 999 0 (pl + 1)).2.2))), (0, .ref r), (1, .ref k0)]) dX5_readWord_17 rfl (by decide) rfl ?_
  refine a_aload_n 1 dX5_readWord_18 rfl rfl ?_
  refine a_bipush 99 dX5_readWord_19 (by decide) ?_
  refine a_callVi (As := [.int 99]) (rest := []) (d := 1) (mc := 0) (ms := 0) (x := nI ((nuF tx L 99 (nuF tx L 999 0 (pl + 1)).1 (nuF tx L 999 0 (pl + 1)).2.1).2.2)) (ci := 5) l_X5_64 im_X5_readNumber se_X5_readNumber ⟨_, rfl, rfl⟩ dX5_readWord_21 ⟨Nat.le_of_ble_eq_true rfl, Nat.le_of_ble_eq_true rfl⟩ rfl (Nat.le_of_ble_eq_true rfl) ⟨Nat.le_of_ble_eq_true rfl, Nat.le_of_ble_eq_true rfl⟩ hr (c_X5_readNumber (m := 99) hR1 (by decide) hB) (fun H3 hp3 => ?_)
  obtain ⟨hR2, hfr⟩ := hp3
  obtain ⟨ft, hr, ht, -⟩ := id hR2
  have hk3 := hk3.kept (hfr _ (by omega))
  have ha3 := ha3.kept (hfr _ (by omega))
  have hb3 := hb3.kept (hfr _ (by omega))
  have hc3 := hc3.kept (hfr _ (by omega))
  have he3 := he3.kept (hfr _ (by omega))
  have hF : ∀ q : Nat, ¬ (r ≤ q ∧ q < r + 2) ∧ ¬ (k0 ≤ q ∧ q < k0 + 5) → H3[q]? = H[q]? := fun q hq => (hfr q (by omega)).trans (hF q hq)
  have hG : ∀ q : Nat, ¬ (r ≤ q ∧ q < r + 2) → H3[q]? = H[q]? := fun q hq => (hfr q (by omega)).trans (hG q hq)
  refine a_istore_n (lv' := [(3, .int (nI ((nuF tx L 99 (nuF tx L 999 0 (pl + 1)).1 (nuF tx L 999 0 (pl + 1)).2.1).2.2))), (2, .int (nI ((nuF tx L 999 0 (pl + 1)).2.2))), (0, .ref r), (1, .ref k0)]) dX5_readWord_24 rfl (by decide) rfl ?_
  refine a_aload_n 2 dX5_readWord_25 rfl rfl ?_
  refine a_bipush 99 dX5_readWord_26 (by decide) ?_
  refine a_callVi (As := [.int 99]) (rest := []) (d := 1) (mc := 0) (ms := 0) (x := nI ((nuF tx L 99 (nuF tx L 99 (nuF tx L 999 0 (pl + 1)).1 (nuF tx L 999 0 (pl + 1)).2.1).1 (nuF tx L 99 (nuF tx L 999 0 (pl + 1)).1 (nuF tx L 999 0 (pl + 1)).2.1).2.1).2.2)) (ci := 5) l_X5_64 im_X5_readNumber se_X5_readNumber ⟨_, rfl, rfl⟩ dX5_readWord_28 ⟨Nat.le_of_ble_eq_true rfl, Nat.le_of_ble_eq_true rfl⟩ rfl (Nat.le_of_ble_eq_true rfl) ⟨Nat.le_of_ble_eq_true rfl, Nat.le_of_ble_eq_true rfl⟩ hr (c_X5_readNumber (m := 99) hR2 (by decide) hB) (fun H4 hp4 => ?_)
  obtain ⟨hR3, hfr⟩ := hp4
  obtain ⟨ft, hr, ht, -⟩ := id hR3
  have hk3 := hk3.kept (hfr _ (by omega))
  have ha3 := ha3.kept (hfr _ (by omega))
  have hb3 := hb3.kept (hfr _ (by omega))
  have hc3 := hc3.kept (hfr _ (by omega))
  have he3 := he3.kept (hfr _ (by omega))
  have hF : ∀ q : Nat, ¬ (r ≤ q ∧ q < r + 2) ∧ ¬ (k0 ≤ q ∧ q < k0 + 5) → H4[q]? = H[q]? := fun q hq => (hfr q (by omega)).trans (hF q hq)
  have hG : ∀ q : Nat, ¬ (r ≤ q ∧ q < r + 2) → H4[q]? = H[q]? := fun q hq => (hfr q (by omega)).trans (hG q hq)
  refine a_istore (lv' := [(4, .int (nI ((nuF tx L 99 (nuF tx L 99 (nuF tx L 999 0 (pl + 1)).1 (nuF tx L 999 0 (pl + 1)).2.1).1 (nuF tx L 99 (nuF tx L 999 0 (pl + 1)).1 (nuF tx L 999 0 (pl + 1)).2.1).2.1).2.2))), (3, .int (nI ((nuF tx L 99 (nuF tx L 999 0 (pl + 1)).1 (nuF tx L 999 0 (pl + 1)).2.1).2.2))), (2, .int (nI ((nuF tx L 999 0 (pl + 1)).2.2))), (0, .ref r), (1, .ref k0)]) dX5_readWord_31 (by decide) rfl ?_
  refine a_aload_n 3 dX5_readWord_33 rfl rfl ?_
  refine a_callVv (As := []) (rest := []) (d := 1) (mc := 0) (ms := 0) (ci := 5) l_X5_68 im_X5_readEnd se_X5_readEnd ⟨_, rfl, rfl⟩ dX5_readWord_34 ⟨Nat.le_of_ble_eq_true rfl, Nat.le_of_ble_eq_true rfl⟩ rfl (Nat.le_of_ble_eq_true rfl) ⟨Nat.le_of_ble_eq_true rfl, Nat.le_of_ble_eq_true rfl⟩ hr (c_X5_readEnd hR3 hB) (fun H5 hp5 => ?_)
  obtain ⟨hR4, hfr⟩ := hp5
  obtain ⟨ft, hr, ht, -⟩ := id hR4
  have hk3 := hk3.kept (hfr _ (by omega))
  have ha3 := ha3.kept (hfr _ (by omega))
  have hb3 := hb3.kept (hfr _ (by omega))
  have hc3 := hc3.kept (hfr _ (by omega))
  have he3 := he3.kept (hfr _ (by omega))
  have hF : ∀ q : Nat, ¬ (r ≤ q ∧ q < r + 2) ∧ ¬ (k0 ≤ q ∧ q < k0 + 5) → H5[q]? = H[q]? := fun q hq => (hfr q (by omega)).trans (hF q hq)
  have hG : ∀ q : Nat, ¬ (r ≤ q ∧ q < r + 2) → H5[q]? = H[q]? := fun q hq => (hfr q (by omega)).trans (hG q hq)
  refine a_aload_n 4 dX5_readWord_37 rfl rfl ?_
  refine a_iload_n 2 dX5_readWord_38 rfl rfl ?_
  refine a_iload_n 1 dX5_readWord_39 rfl rfl ?_
  refine a_iload 0 dX5_readWord_40 rfl ?_
  have hK1 := hK0.kept (H1 := H5) (fun q a c => hG q (by omega))
  refine a_callVv (As := [.int (nI ((nuF tx L 999 0 (pl + 1)).2.2)), .int (nI ((nuF tx L 99 (nuF tx L 999 0 (pl + 1)).1 (nuF tx L 999 0 (pl + 1)).2.1).2.2)), .int (nI ((nuF tx L 99 (nuF tx L 99 (nuF tx L 999 0 (pl + 1)).1 (nuF tx L 999 0 (pl + 1)).2.1).1 (nuF tx L 99 (nuF tx L 999 0 (pl + 1)).1 (nuF tx L 999 0 (pl + 1)).2.1).2.1).2.2))]) (rest := []) (d := 0) (mc := 0) (ms := 0) (ci := 2) l_X5_75 im_X2_addWord se_X2_addWord ⟨_, rfl, rfl⟩ dX5_readWord_42 ⟨Nat.le_of_ble_eq_true rfl, Nat.le_of_ble_eq_true rfl⟩ rfl (Nat.le_of_ble_eq_true rfl) ⟨Nat.le_of_ble_eq_true rfl, Nat.le_of_ble_eq_true rfl⟩ hk3 (c_X2_addWord hK1 hn8 hBk) (fun H6 hp6 => ?_)
  obtain ⟨hK2, hfr⟩ := hp6
  have hR5 := hR4.kept (H1 := H6) (fun q a c => hfr q (by omega))
  have hF : ∀ q : Nat, ¬ (r ≤ q ∧ q < r + 2) ∧ ¬ (k0 ≤ q ∧ q < k0 + 5) → H6[q]? = H[q]? := fun q hq => (hfr q (by omega)).trans (hF q hq)
  refine a_retv dX5_readWord_45 ⟨⟨rfl, ?_⟩, rfl, rfl⟩
  · exact ⟨hR5, hK2, hF⟩
set_option maxHeartbeats 4000000 in
set_option maxRecDepth 100000 in
theorem c_X5_readVoice {G : GT} {B : Nat} {l : Launch} {H : Heap} {r : Nat} {tx : Nat → Nat} {L pl : Nat} (hR : Rd G H r tx L pl 0) (hlt : pl < L) {k0 : Nat} {kb : Bool} {ka ks kw : Int32} {n nv : Nat} {kS kU kK kV : DD} (hK : Kt G H k0 kb ka ks kw n nv kS kU kK kV) (hap : r + 2 ≤ k0 ∨ k0 + 5 ≤ r) (hBk : B ≤ k0) (hB : B ≤ r) (hn4 : nv < 4) : AM G B l yX5_readVoice cX5_readVoice 3 none 2 0 0 [.ref r, .ref k0] H (fun rv H' => rv = none ∧ (Rd G H' r tx L ((enF tx L (nuF tx L 999 0 (pl + 1)).1 (nuF tx L 999 0 (pl + 1)).2.1).2) ((enF tx L (nuF tx L 999 0 (pl + 1)).1 (nuF tx L 999 0 (pl + 1)).2.1).1) ∧ Kt G H' k0 kb ka ks kw n (nv + 1) kS kU kK (upd kV nv (nI (nuF tx L 999 0 (pl + 1)).2.2)) ∧ ∀ q : Nat, ¬ (r ≤ q ∧ q < r + 2) ∧ ¬ (k0 ≤ q ∧ q < k0 + 5) → H'[q]? = H[q]?)) := by
  have hK0 := hK
  obtain ⟨fS3, fU3, fK3, fV3, hk3, ha3, hb3, hc3, he3, eS3, eU3, eK3, eV3, hn3, hnv3⟩ := hK
  have hR0 := hR
  obtain ⟨ft, hr, ht, et, e8, hL, hpl, hkd⟩ := hR
  have hF : ∀ q : Nat, ¬ (r ≤ q ∧ q < r + 2) ∧ ¬ (k0 ≤ q ∧ q < k0 + 5) → H[q]? = H[q]? := fun _ _ => rfl
  have hG : ∀ q : Nat, ¬ (r ≤ q ∧ q < r + 2) → H[q]? = H[q]? := fun _ _ => rfl
  refine AM.ofV (lv := [(0, .ref r), (1, .ref k0)]) (by decide +kernel) (ini := false) (fun h => by cases h) (Nat.le_of_ble_eq_true rfl) rfl ?_ (fun _ _ h => h.1)
  refine a_aload_n 0 dX5_readVoice_0 rfl rfl ?_
  refine a_dup dX5_readVoice_1 rfl ?_
  refine a_get f_X5_19 dX5_readVoice_2 hr rfl ?_
  refine a_iconst 1 dX5_readVoice_5 (by decide) ?_
  refine a_iaddN (a := pl) (b := 1) dX5_readVoice_6 ?_
  refine a_put f_X5_19 p_X5_19 dX5_readVoice_7 hr (Nat.le_of_ble_eq_true rfl) rfl rfl (by omega) (fun H1 hr hz1 hq1 => ?_)
  have hr : Ob G H1 r 5 [.ref (r + 1), .int (nI L), .int (nI (pl + 1)), .int (nI 0)] := hr
  have ht := ht.kept (hq1 _ (by omega))
  have hk3 := hk3.kept (hq1 _ (by omega))
  have ha3 := ha3.kept (hq1 _ (by omega))
  have hb3 := hb3.kept (hq1 _ (by omega))
  have hc3 := hc3.kept (hq1 _ (by omega))
  have he3 := he3.kept (hq1 _ (by omega))
  have hF : ∀ q : Nat, ¬ (r ≤ q ∧ q < r + 2) ∧ ¬ (k0 ≤ q ∧ q < k0 + 5) → H1[q]? = H[q]? := fun q hq => (hq1 q (by omega)).trans (hF q hq)
  have hG : ∀ q : Nat, ¬ (r ≤ q ∧ q < r + 2) → H1[q]? = H[q]? := fun q hq => (hq1 q (by omega)).trans (hG q hq)
  refine a_aload_n 0 dX5_readVoice_10 rfl rfl ?_
  refine a_sipush 999 dX5_readVoice_11 (by decide) ?_
  have hRa : Rd G H1 r tx L (pl + 1) 0 := ⟨_, hr, ht, et, e8, hL, by omega, by decide⟩
  refine a_callVi (As := [.int 999]) (rest := []) (d := 1) (mc := 0) (ms := 0) (x := nI ((nuF tx L 999 0 (pl + 1)).2.2)) (ci := 5) l_X5_64 im_X5_readNumber se_X5_readNumber ⟨_, rfl, rfl⟩ dX5_readVoice_14 ⟨Nat.le_of_ble_eq_true rfl, Nat.le_of_ble_eq_true rfl⟩ rfl (Nat.le_of_ble_eq_true rfl) ⟨Nat.le_of_ble_eq_true rfl, Nat.le_of_ble_eq_true rfl⟩ hr (c_X5_readNumber (m := 999) hRa (by decide) hB) (fun H2 hp2 => ?_)
  obtain ⟨hR1, hfr⟩ := hp2
  obtain ⟨ft, hr, ht, -⟩ := id hR1
  have hk3 := hk3.kept (hfr _ (by omega))
  have ha3 := ha3.kept (hfr _ (by omega))
  have hb3 := hb3.kept (hfr _ (by omega))
  have hc3 := hc3.kept (hfr _ (by omega))
  have he3 := he3.kept (hfr _ (by omega))
  have hF : ∀ q : Nat, ¬ (r ≤ q ∧ q < r + 2) ∧ ¬ (k0 ≤ q ∧ q < k0 + 5) → H2[q]? = H[q]? := fun q hq => (hfr q (by omega)).trans (hF q hq)
  have hG : ∀ q : Nat, ¬ (r ≤ q ∧ q < r + 2) → H2[q]? = H[q]? := fun q hq => (hfr q (by omega)).trans (hG q hq)
  refine a_istore_n (lv' := [(2, .int (nI ((nuF tx L 999 0 (pl + 1)).2.2))), (0, .ref r), (1, .ref k0)]) dX5_readVoice_17 rfl (by decide) rfl ?_
  refine a_aload_n 1 dX5_readVoice_18 rfl rfl ?_
  refine a_callVv (As := []) (rest := []) (d := 1) (mc := 0) (ms := 0) (ci := 5) l_X5_68 im_X5_readEnd se_X5_readEnd ⟨_, rfl, rfl⟩ dX5_readVoice_19 ⟨Nat.le_of_ble_eq_true rfl, Nat.le_of_ble_eq_true rfl⟩ rfl (Nat.le_of_ble_eq_true rfl) ⟨Nat.le_of_ble_eq_true rfl, Nat.le_of_ble_eq_true rfl⟩ hr (c_X5_readEnd hR1 hB) (fun H3 hp3 => ?_)
  obtain ⟨hR4, hfr⟩ := hp3
  obtain ⟨ft, hr, ht, -⟩ := id hR4
  have hk3 := hk3.kept (hfr _ (by omega))
  have ha3 := ha3.kept (hfr _ (by omega))
  have hb3 := hb3.kept (hfr _ (by omega))
  have hc3 := hc3.kept (hfr _ (by omega))
  have he3 := he3.kept (hfr _ (by omega))
  have hF : ∀ q : Nat, ¬ (r ≤ q ∧ q < r + 2) ∧ ¬ (k0 ≤ q ∧ q < k0 + 5) → H3[q]? = H[q]? := fun q hq => (hfr q (by omega)).trans (hF q hq)
  have hG : ∀ q : Nat, ¬ (r ≤ q ∧ q < r + 2) → H3[q]? = H[q]? := fun q hq => (hfr q (by omega)).trans (hG q hq)
  refine a_aload_n 2 dX5_readVoice_22 rfl rfl ?_
  refine a_iload_n 0 dX5_readVoice_23 rfl rfl ?_
  have hK1 := hK0.kept (H1 := H3) (fun q a c => hG q (by omega))
  refine a_callVv (As := [.int (nI ((nuF tx L 999 0 (pl + 1)).2.2))]) (rest := []) (d := 0) (mc := 0) (ms := 0) (ci := 2) l_X5_78 im_X2_addVoice se_X2_addVoice ⟨_, rfl, rfl⟩ dX5_readVoice_24 ⟨Nat.le_of_ble_eq_true rfl, Nat.le_of_ble_eq_true rfl⟩ rfl (Nat.le_of_ble_eq_true rfl) ⟨Nat.le_of_ble_eq_true rfl, Nat.le_of_ble_eq_true rfl⟩ hk3 (c_X2_addVoice hK1 hn4 hBk) (fun H4 hp4 => ?_)
  obtain ⟨hK2, hfr⟩ := hp4
  have hR5 := hR4.kept (H1 := H4) (fun q a c => hfr q (by omega))
  have hF : ∀ q : Nat, ¬ (r ≤ q ∧ q < r + 2) ∧ ¬ (k0 ≤ q ∧ q < k0 + 5) → H4[q]? = H[q]? := fun q hq => (hfr q (by omega)).trans (hF q hq)
  refine a_retv dX5_readVoice_27 ⟨⟨rfl, ?_⟩, rfl, rfl⟩
  · exact ⟨hR5, hK2, hF⟩
