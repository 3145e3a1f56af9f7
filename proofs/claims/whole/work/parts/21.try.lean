/-! ===== BEGIN BeansBoxModel: what is tried by going through all ===== -/
theorem nI_pm {m : Nat} : nI (m + 1) + (-1) = nI m := by
  rw [← Int32.sub_eq_add_neg]; exact nI_pred _
theorem nI_p0 {f : Nat} (hf : f < 2 ^ 31) (h : nI f + (-1) < 0) : f = 0 := by
  cases f with
  | zero => rfl
  | succ m => rw [nI_pm] at h; exact absurd h (nI_pos (by omega))
theorem nI_p1 {f : Nat} (h : ¬ nI f + (-1) < 0) : ∃ m, f = m + 1 := by
  cases f with
  | zero => exact absurd (by decide) h
  | succ m => exact ⟨m, rfl⟩
theorem NA.u1 {n : Nat} {f g dd : DD} {j : Nat} {x : Int32} (h : NA n f dd) (hg : ∀ i, i ≠ j → g i = f i) : NA n (upd g j x) (upd dd j x) := by
  have key : ∀ i, f i = dd i → upd g j x i = upd dd j x i := by
    intro i hi
    unfold upd
    split
    · rfl
    · next e => rw [hg i e, hi]
  obtain ⟨h1, h2, h3, h4, h5, h6⟩ := h
  exact ⟨fun i hi => key _ (h1 i hi), fun i hi => key _ (h2 i hi), fun i hi => key _ (h3 i hi), key _ h4, key _ h5, key _ h6⟩
theorem NA.u2 {n : Nat} {f g dd : DD} {j : Nat} (h : NA n f dd) (hg : ∀ i, i ≠ j → g i = f i) : NA n (upd g j (dd j)) dd := by
  have key : ∀ i, f i = dd i → upd g j (dd j) i = dd i := by
    intro i hi
    unfold upd
    split
    · next e => rw [e]
    · next e => rw [hg i e, hi]
  obtain ⟨h1, h2, h3, h4, h5, h6⟩ := h
  exact ⟨fun i hi => key _ (h1 i hi), fun i hi => key _ (h2 i hi), fun i hi => key _ (h3 i hi), key _ h4, key _ h5, key _ h6⟩
theorem upd_ne {g : DD} {j : Nat} {x : Int32} {f : DD} (hg : ∀ i, i ≠ j → g i = f i) : ∀ i, i ≠ j → upd g j x i = f i := by
  intro i hi
  unfold upd
  rw [if_neg hi]; exact hg i hi
theorem rg_u8 {n : Nat} {dd : DD} {w m : Nat} (hR : RG n dd) (hn : n ≤ 8) (hw : w < n) (hm : m ≤ 99) : RG n (upd dd (8 + w) (nI m)) := by
  intro x hx
  obtain ⟨⟨a, ha, ea⟩, ⟨u, hu, eu⟩, ⟨t, ht, et⟩⟩ := hR x hx
  unfold upd
  refine ⟨⟨a, ha, ?_⟩, ?_, ⟨t, ht, ?_⟩⟩
  · rw [if_neg (by omega)]; exact ea
  · by_cases e : x = w
    · subst e; rw [if_pos rfl]; exact ⟨m, hm, rfl⟩
    · rw [if_neg (by omega)]; exact ⟨u, hu, eu⟩
  · rw [if_neg (by omega)]; exact et
/-- how many of the first v are x -/
def cntF (g : DD) (x : Int32) : Nat → Nat
  | 0 => 0
  | v + 1 => if g v = x then cntF g x v + 1 else cntF g x v
theorem cntF_le {g : DD} {x : Int32} {v : Nat} : cntF g x v ≤ v := by
  induction v with
  | zero => exact Nat.le_refl 0
  | succ v ih => simp only [cntF]; split <;> omega
theorem cntF_mono {g : DD} {x : Int32} {v m : Nat} (h : v ≤ m) : cntF g x v ≤ cntF g x m ∧ cntF g x m ≤ cntF g x v + (m - v) := by
  induction m with
  | zero => rw [show v = 0 by omega]; omega
  | succ m ih =>
    by_cases e : v = m + 1
    · subst e; omega
    · obtain ⟨h1, h2⟩ := ih (by omega)
      simp only [cntF]; split <;> omega
theorem vh_ok {n nv : Nat} {td kV : DD} {w : Nat} {s : Int32} {nd f v c : Nat} (hv : v ≤ nv) (hf : nv - v ≤ f) : vhF n nv td kV w s nd f v c = c + cntF (fun v => guF n td (shF s (kV v))) (nI w) nv - cntF (fun v => guF n td (shF s (kV v))) (nI w) v ∨ (vhF n nv td kV w s nd f v c < nd ∧ c + cntF (fun v => guF n td (shF s (kV v))) (nI w) nv - cntF (fun v => guF n td (shF s (kV v))) (nI w) v < nd) := by
  induction f generalizing v c with
  | zero =>
    have e : v = nv := by omega
    subst e
    left; simp only [vhF]; omega
  | succ f ih =>
    by_cases hlt : v < nv
    · simp only [vhF]
      rw [if_pos hlt]
      by_cases hc : c + nv - v < nd
      · rw [if_pos hc]
        have := cntF_mono (g := fun v => guF n td (shF s (kV v))) (x := nI w) (v := v) (m := nv) hv
        right; omega
      · rw [if_neg hc]
        have h2 := cntF_mono (g := fun v => guF n td (shF s (kV v))) (x := nI w) (v := v + 1) (m := nv) hlt
        have h3 : cntF (fun v => guF n td (shF s (kV v))) (nI w) (v + 1) = if guF n td (shF s (kV v)) = nI w then cntF (fun v => guF n td (shF s (kV v))) (nI w) v + 1 else cntF (fun v => guF n td (shF s (kV v))) (nI w) v := rfl
        by_cases e : guF n td (shF s (kV v)) = nI w
        · rw [if_pos e] at h3 ⊢
          have := ih (v := v + 1) (c := c + 1) hlt (by omega)
          omega
        · rw [if_neg e] at h3 ⊢
          have := ih (v := v + 1) (c := c) hlt (by omega)
          omega
    · have e : v = nv := by omega
      subst e
      left; simp only [vhF]; rw [if_neg hlt]; omega
theorem vh_top {n nv : Nat} {td kV : DD} {w : Nat} {s : Int32} {nd : Nat} : vhF n nv td kV w s nd nv 0 0 = cntF (fun v => guF n td (shF s (kV v))) (nI w) nv ∨ (vhF n nv td kV w s nd nv 0 0 < nd ∧ cntF (fun v => guF n td (shF s (kV v))) (nI w) nv < nd) := by
  have h := vh_ok (n := n) (nv := nv) (td := td) (kV := kV) (w := w) (s := s) (nd := nd) (f := nv) (v := 0) (c := 0) (Nat.zero_le _) (by omega)
  have e : cntF (fun v => guF n td (shF s (kV v))) (nI w) 0 = 0 := rfl
  omega
/-- the best by: the more the better, then the nearer, then the first -/
def OPT (cn fr : Nat → Nat) (P : Nat → Prop) (b : Nat) : Prop := P b ∧ ∀ s, P s → cn s < cn b ∨ cn s = cn b ∧ (fr b < fr s ∨ fr s = fr b ∧ b ≤ s)
theorem OPT.one {cn fr : Nat → Nat} {P Q : Nat → Prop} {b x : Nat} (h : OPT cn fr P b) (g : OPT cn fr Q x) (hPQ : ∀ s, P s ↔ Q s) : b = x := by
  have h1 := h.2 x ((hPQ x).mpr g.1)
  have h2 := g.2 b ((hPQ b).mp h.1)
  omega
theorem abN_comm (x y : Nat) : abN x y = abN y x := by unfold abN; split <;> split <;> omega
theorem apN_comm (a b : Nat) : apN a b = apN b a := by unfold apN; rw [abN_comm (a / 100), abN_comm (a / 10 % 10), abN_comm (a % 10)]
theorem abN_0 {x y : Nat} (h : abN x y = 0) : x = y := by unfold abN at h; split at h <;> omega
theorem apN_0 {a b : Nat} (ha : a < 1000) (hb : b < 1000) (h : apN a b = 0) : a = b := by
  unfold apN at h
  have h1 := abN_0 (show abN (a / 100) (b / 100) = 0 by omega)
  have h2 := abN_0 (show abN (a / 10 % 10) (b / 10 % 10) = 0 by omega)
  have h3 := abN_0 (show abN (a % 10) (b % 10) = 0 by omega)
  omega
theorem apN_s (a : Nat) : apN a a = 0 := by
  have h : ∀ x, abN x x = 0 := fun x => by unfold abN; split <;> omega
  unfold apN; rw [h, h, h]
/-- by how many VOICES w is heard right when it is called s -/
def cnB (n nv : Nat) (dd kV : DD) (w s : Nat) : Nat := cntF (unF n (upd dd w (nI s)) kV w) (nI w) nv
theorem cnB_vh {n nv : Nat} {dd kV : DD} {w s : Nat} : cntF (fun v => guF n (upd dd w (nI s)) (shF (nI s) (kV v))) (nI w) nv = cnB n nv dd kV w s := by
  have e : unF n (upd dd w (nI s)) kV w = fun v => guF n (upd dd w (nI s)) (shF (nI s) (kV v)) := by
    funext v
    unfold unF spF
    rw [show upd dd w (nI s) w = nI s from if_pos rfl]
  unfold cnB; rw [e]
theorem bc_ok {n nv : Nat} {dd kV : DD} {w a : Nat} (ha : a < 1000) (ea : dd w = nI a) (k : Nat) (hk : k ≤ 1000) : ∃ x, bcS n nv dd kV w k = (nI x, nI (apN x a), cnB n nv dd kV w x) ∧ OPT (cnB n nv dd kV w) (fun s => apN s a) (fun s => s < k ∨ s = a) x := by
  induction k with
  | zero =>
    refine ⟨a, ?_, Or.inr rfl, fun s hs => ?_⟩
    · have h := vh_top (n := n) (nv := nv) (td := upd dd w (nI a)) (kV := kV) (w := w) (s := nI a) (nd := 0)
      rw [cnB_vh] at h
      simp only [bcS]
      rw [ea, apN_s, show vhF n nv (upd dd w (nI a)) kV w (nI a) 0 nv 0 0 = cnB n nv dd kV w a by omega]
      rfl
    · rcases hs with hs | rfl
      · omega
      · right; exact ⟨rfl, Or.inr ⟨rfl, Nat.le_refl _⟩⟩
  | succ k ih =>
    obtain ⟨x, hx, hP, hO⟩ := ih (by omega)
    have hxl : x < 1000 := by rcases hP with h | h <;> omega
    simp only [bcS]
    rw [hx, ea, apF_nI ha (show k < 1000 by omega), apN_comm a k]
    dsimp only
    have hl1 := apN_le (a := k) (b := a) (by omega) ha
    have hl2 := apN_le (a := x) (b := a) hxl ha
    have h0 : apN x a = 0 → x = a := apN_0 hxl ha
    have h1 : apN k a = 0 → k = a := apN_0 (by omega) ha
    have hb : ∀ s, s = a → apN s a = 0 := fun s e => by rw [e, apN_s]
    have up : cnB n nv dd kV w x < cnB n nv dd kV w k ∨ cnB n nv dd kV w k = cnB n nv dd kV w x ∧ apN k a < apN x a → OPT (cnB n nv dd kV w) (fun s => apN s a) (fun s => s < k + 1 ∨ s = a) k := by
      intro hu
      refine ⟨Or.inl (by omega), fun s hs => ?_⟩
      by_cases e : s = k
      · subst e; right; exact ⟨rfl, Or.inr ⟨rfl, Nat.le_refl _⟩⟩
      · have := hO s (by omega)
        dsimp only at this ⊢
        omega
    have no : ¬ (cnB n nv dd kV w x < cnB n nv dd kV w k ∨ cnB n nv dd kV w k = cnB n nv dd kV w x ∧ apN k a < apN x a) → OPT (cnB n nv dd kV w) (fun s => apN s a) (fun s => s < k + 1 ∨ s = a) x := by
      intro hu
      refine ⟨by omega, fun s hs => ?_⟩
      by_cases e : s = k
      · subst e
        dsimp only
        rcases hP with h | h
        · omega
        · have := hb x h
          omega
      · exact hO s (by omega)
    by_cases hf : apN k a < apN x a
    · rw [if_pos (nI_lt hf (by omega))]
      have h := vh_top (n := n) (nv := nv) (td := upd dd w (nI k)) (kV := kV) (w := w) (s := nI k) (nd := cnB n nv dd kV w x)
      rw [cnB_vh] at h
      by_cases hc : cnB n nv dd kV w x ≤ vhF n nv (upd dd w (nI k)) kV w (nI k) (cnB n nv dd kV w x) nv 0 0
      · rw [if_pos hc]
        refine ⟨k, ?_, up (by omega)⟩
        rw [show vhF n nv (upd dd w (nI k)) kV w (nI k) (cnB n nv dd kV w x) nv 0 0 = cnB n nv dd kV w k by omega]
      · rw [if_neg hc]
        exact ⟨x, rfl, no (by omega)⟩
    · rw [if_neg (fun h => hf ((nI_ltI (by omega) (by omega)).mp h))]
      have h := vh_top (n := n) (nv := nv) (td := upd dd w (nI k)) (kV := kV) (w := w) (s := nI k) (nd := cnB n nv dd kV w x + 1)
      rw [cnB_vh] at h
      by_cases hc : cnB n nv dd kV w x + 1 ≤ vhF n nv (upd dd w (nI k)) kV w (nI k) (cnB n nv dd kV w x + 1) nv 0 0
      · rw [if_pos hc]
        refine ⟨k, ?_, up (by omega)⟩
        rw [show vhF n nv (upd dd w (nI k)) kV w (nI k) (cnB n nv dd kV w x + 1) nv 0 0 = cnB n nv dd kV w k by omega]
      · rw [if_neg hc]
        exact ⟨x, rfl, no (by omega)⟩
/-- the model's way -/
def MBs (cn fr : Nat → Nat) (k b : Nat) (m : Int32) : Prop := (k = 0 ∧ b = 0 ∧ m = -1) ∨ (m = nI (cn b) ∧ OPT cn fr (fun s => s < k) b)
theorem MBs.up {cn fr : Nat → Nat} {k b : Nat} {m : Int32} (h : MBs cn fr k b m) (hcn : ∀ s, cn s ≤ 4) (hfr : fr k ≤ 27) (hfb : fr b ≤ 27) (hu : m < nI (cn k) ∨ nI (cn k) = m ∧ nI (fr k) < nI (fr b)) : MBs cn fr (k + 1) k (nI (cn k)) := by
  have h1 := hcn k
  have h2 := hcn b
  refine Or.inr ⟨rfl, Nat.lt_succ_self _, fun s hs => ?_⟩
  by_cases e : s = k
  · subst e; right; exact ⟨rfl, Or.inr ⟨rfl, Nat.le_refl _⟩⟩
  · rcases h with ⟨rfl, rfl, rfl⟩ | ⟨rfl, hO⟩
    · omega
    · have h3 := hO.2 s (by omega)
      have h4 : cn b < cn k ∨ cn k = cn b ∧ fr k < fr b := by
        rcases hu with hu | ⟨h4, h5⟩
        · exact Or.inl ((nI_ltI (by omega) (by omega)).mp hu)
        · exact Or.inr ⟨(nI_eq (by omega) (by omega)).mp h4, (nI_ltI (by omega) (by omega)).mp h5⟩
      omega
theorem MBs.no {cn fr : Nat → Nat} {k b : Nat} {m : Int32} (h : MBs cn fr k b m) (hcn : ∀ s, cn s ≤ 4) (hfr : fr k ≤ 27) (hfb : fr b ≤ 27) (hu : ¬ m < nI (cn k)) (hv : nI (cn k) = m → ¬ nI (fr k) < nI (fr b)) : MBs cn fr (k + 1) b m := by
  have h1 := hcn k
  have h2 := hcn b
  rcases h with ⟨rfl, rfl, rfl⟩ | ⟨rfl, hO⟩
  · exact absurd (Int32.lt_of_lt_of_le (by decide) (nI_pos' (by omega))) hu
  · refine Or.inr ⟨rfl, Nat.lt_succ_of_lt hO.1, fun s hs => ?_⟩
    by_cases e : s = k
    · subst e
      have h4 : ¬ cn b < cn s := fun h => hu (nI_lt h (by omega))
      have h5 : cn s = cn b → ¬ fr s < fr b := fun h6 h7 => hv (by rw [h6]) (nI_lt h7 (by omega))
      have h6 := hO.1
      dsimp only at h6
      by_cases h7 : cn s = cn b
      · have := h5 h7
        omega
      · omega
    · exact hO.2 s (by omega)
/-! ===== END ===== -/

set_option maxHeartbeats 4000000 in
set_option maxRecDepth 100000 in
theorem c_X7_judge {G : GT} {B : Nat} {l : Launch} {H : Heap} {a L : Nat} {fp ra rf rw rx : Int32} {ir kb : Bool} {n nv ct nx sd sn bn : Nat} {ka ks kw : Int32} {kK kV dd : DD} {bw : Nat → Nat} {bt : DD} (hS : Mp G H (a + 11) 30 bn (fun i => nI (bw i)) bt) (hsw : ∀ i, i < bn → bw i < n) (hM : Mc G H a L fp ra rf rw rx ir kb n nv ct nx sd sn bn ka ks kw kK kV dd) : AM G B l yX7_judge cX7_judge 3 (some .int) 0 0 0 [.ref a] H (fun rv H' => rv = some (.int (jdF dd bw bt bn 0)) ∧ (H' = H)) := by
  have hM0 := hM
  obtain ⟨hm, ⟨fB, hBx, eB0, eB1, eB2⟩, ⟨fK, hKx, eK⟩, ⟨fV, hVx, eV⟩, ⟨fN, hNx, eS, eU, eO, e24, e25, e26⟩, hn, hnv⟩ := hM
  unfold mxL at hm
  have hS0 := hS
  obtain ⟨fP, hp, eA, eC, hct, hcap⟩ := hS
  refine AM.ofI (lv := [(0, .ref a)]) (by decide +kernel) (Nat.le_of_ble_eq_true rfl) rfl ?_ (fun _ h => by cases h.1)
  refine a_iconst (-1) dX7_judge_0 (by decide) ?_
  refine a_istore_n (lv' := [(1, .int (-1)), (0, .ref a)]) dX7_judge_1 rfl (by decide) rfl ?_
  refine a_aload_n 1 dX7_judge_2 rfl rfl ?_
  refine a_get f_X7_129 dX7_judge_3 hm rfl ?_
  refine a_iconst 1 dX7_judge_6 (by decide) ?_
  refine a_isub dX7_judge_7 ?_
  rw [Int32.sub_eq_add_neg]
  refine a_istore_n (lv' := [(2, .int (nI bn + (-1))), (1, .int (-1)), (0, .ref a)]) dX7_judge_8 rfl (by decide) rfl ?_
  have L9 : ∀ (fu : Nat) (f : Nat) (r : Int32), f ≤ bn → r = jdF dd bw bt (bn - f) f → f < fu → AW G B l { frames := 0, cells := 0, slots := 0, locals := 27 * 0 } yX7_judge.cls cX7_judge 3 false (fun rv H' ce' sl' => (rv = some (.int (jdF dd bw bt bn 0)) ∧ (H' = H)) ∧ ce' = 0 ∧ sl' = 0) 9 [(0, .ref a), (1, .int r), (2, .int (nI f + (-1)))] [] H 0 0 := by
    intro fu
    induction fu with
    | zero => intro f r hk hg hm9; exact absurd hm9 (Nat.not_lt_zero _)
    | succ fu ih9 =>
      intro f r hk hg hm9
      refine a_iload_n 2 dX7_judge_9 rfl rfl ?_
      refine a_iflt 54 dX7_judge_10 (by decide) (fun c10 => ?_) (fun c10 => ?_)
      · skip
        refine a_iload_n 1 dX7_judge_54 rfl rfl ?_
        refine a_ret dX7_judge_55 ⟨⟨ri ?_, ?_⟩, rfl, rfl⟩
        · rw [hg, nI_p0 (by omega) c10, Nat.sub_zero]
        · rfl
      · skip
        obtain ⟨m, rfl⟩ := nI_p1 c10
        rw [nI_pm]
        refine a_aload_n 0 dX7_judge_13 rfl rfl ?_
        refine a_get f_X7_35 dX7_judge_14 hm rfl ?_
        refine a_bipush 16 dX7_judge_17 (by decide) ?_
        refine a_aload_n 0 dX7_judge_19 rfl rfl ?_
        refine a_get f_X7_44 dX7_judge_20 hm rfl ?_
        refine a_iconst 2 dX7_judge_23 (by decide) ?_
        refine a_iload_n 2 dX7_judge_24 rfl rfl ?_
        refine a_imulN (a := 2) (b := m) dX7_judge_25 ?_
        refine a_ialdN (j := 2 * m) dX7_judge_26 hp (by omega) (by decide) ?_
        refine a_toeq (nI (bw m)) (eA _ (by omega)) ?_
        have hbw := hsw m (by omega)
        refine a_iaddN (a := 16) (b := bw m) dX7_judge_27 ?_
        refine a_ialdN (j := 16 + (bw m)) dX7_judge_28 hNx (by omega) (by decide) ?_
        refine a_toeq (dd (16 + (bw m))) (eO _ (by omega)) ?_
        refine a_aload_n 0 dX7_judge_29 rfl rfl ?_
        refine a_get f_X7_44 dX7_judge_30 hm rfl ?_
        refine a_iconst 2 dX7_judge_33 (by decide) ?_
        refine a_iload_n 2 dX7_judge_34 rfl rfl ?_
        refine a_imulN (a := 2) (b := m) dX7_judge_35 ?_
        refine a_iconst 1 dX7_judge_36 (by decide) ?_
        refine a_iaddN (a := 2 * m) (b := 1) dX7_judge_37 ?_
        refine a_ialdN (j := (2 * m) + 1) dX7_judge_38 hp (by omega) (by decide) ?_
        refine a_toeq (bt m) (eC _ (by omega)) ?_
        refine a_icmpeq 46 dX7_judge_39 (by decide) (fun c39 => ?_) (fun c39 => ?_)
        · skip
          refine a_iload_n 1 dX7_judge_46 rfl rfl ?_
          refine a_istore_n (lv' := [(1, .int r), (0, .ref a), (2, .int (nI m))]) dX7_judge_47 rfl (by decide) rfl ?_
          refine a_iinc (q := 2) (lv' := [(2, .int ((nI m) + (-1))), (1, .int r), (0, .ref a)]) dX7_judge_48 rfl (by decide) (by decide) rfl ?_
          refine a_goto 9 dX7_judge_51 (by decide) ?_
          refine a_sub [2, 1, 0] rfl ?_
          exact ih9 m _ (by omega) (by rw [show bn - m = (bn - (m + 1)) + 1 by omega]; simp only [jdF]; rw [if_pos c39, hg]) (by omega)
        · skip
          refine a_iload_n 2 dX7_judge_42 rfl rfl ?_
          refine a_goto 47 dX7_judge_43 (by decide) ?_
          refine a_istore_n (lv' := [(1, .int (nI m)), (0, .ref a), (2, .int (nI m))]) dX7_judge_47 rfl (by decide) rfl ?_
          refine a_iinc (q := 2) (lv' := [(2, .int ((nI m) + (-1))), (1, .int (nI m)), (0, .ref a)]) dX7_judge_48 rfl (by decide) (by decide) rfl ?_
          refine a_goto 9 dX7_judge_51 (by decide) ?_
          refine a_sub [2, 1, 0] rfl ?_
          exact ih9 m _ (by omega) (by rw [show bn - m = (bn - (m + 1)) + 1 by omega]; simp only [jdF]; rw [if_neg c39]) (by omega)
  refine a_sub [2, 1, 0] rfl ?_
  exact L9 _ bn (-1) (Nat.le_refl _) (by rw [Nat.sub_self]; rfl) (Nat.lt_succ_self _)
set_option maxHeartbeats 4000000 in
set_option maxRecDepth 100000 in
theorem c_X7_heardBy {G : GT} {B : Nat} {l : Launch} {H : Heap} {a L : Nat} {fp ra rf rw rx : Int32} {ir kb : Bool} {n nv ct nx sd sn bn : Nat} {ka ks kw : Int32} {kK kV dd : DD} {w : Nat} (hw : w < n) (hM : Mc G H a L fp ra rf rw rx ir kb n nv ct nx sd sn bn ka ks kw kK kV dd) : AM G B l yX7_heardBy cX7_heardBy 4 (some .int) 4 0 0 [.ref a, .int (nI w)] H (fun rv H' => rv = some (.int (nI (cntF (unF n dd kV w) (nI w) nv))) ∧ (H' = H)) := by
  have hM0 := hM
  obtain ⟨hm, ⟨fB, hBx, eB0, eB1, eB2⟩, ⟨fK, hKx, eK⟩, ⟨fV, hVx, eV⟩, ⟨fN, hNx, eS, eU, eO, e24, e25, e26⟩, hn, hnv⟩ := hM
  unfold mxL at hm
  refine AM.ofI (lv := [(0, .ref a), (1, .int (nI w))]) (by decide +kernel) (Nat.le_of_ble_eq_true rfl) rfl ?_ (fun _ h => by cases h.1)
  refine a_iconst 0 dX7_heardBy_0 (by decide) ?_
  refine a_istore_n (lv' := [(2, .int 0), (0, .ref a), (1, .int (nI w))]) dX7_heardBy_1 rfl (by decide) rfl ?_
  refine a_iconst 0 dX7_heardBy_2 (by decide) ?_
  refine a_istore_n (lv' := [(3, .int 0), (2, .int 0), (0, .ref a), (1, .int (nI w))]) dX7_heardBy_3 rfl (by decide) rfl ?_
  have L4 : ∀ (fu : Nat) (v c : Nat), v ≤ nv → c = cntF (unF n dd kV w) (nI w) v → nv - v < fu → AW G B l { frames := 4, cells := 0, slots := 0, locals := 27 * 4 } yX7_heardBy.cls cX7_heardBy 4 false (fun rv H' ce' sl' => (rv = some (.int (nI (cntF (unF n dd kV w) (nI w) nv))) ∧ (H' = H)) ∧ ce' = 0 ∧ sl' = 0) 4 [(0, .ref a), (1, .int (nI w)), (2, .int (nI c)), (3, .int (nI v))] [] H 0 0 := by
    intro fu
    induction fu with
    | zero => intro v c hk2 hg hm4; exact absurd hm4 (Nat.not_lt_zero _)
    | succ fu ih4 =>
      intro v c hk2 hg hm4
      have hlc := cntF_le (g := unF n dd kV w) (x := nI w) (v := v)
      refine a_iload_n 3 dX7_heardBy_4 rfl rfl ?_
      refine a_aload_n 0 dX7_heardBy_5 rfl rfl ?_
      refine a_get f_X7_123 dX7_heardBy_6 hm rfl ?_
      refine a_icmpgeN (a := v) (b := nv) 40 dX7_heardBy_9 (by decide) (by omega) (by omega) (fun c9 => ?_) (fun c9 => ?_)
      · skip
        refine a_iload_n 2 dX7_heardBy_40 rfl rfl ?_
        refine a_ret dX7_heardBy_41 ⟨⟨ri ?_, ?_⟩, rfl, rfl⟩
        · rw [hg, show nv = v by omega]
        · rfl
      · skip
        refine a_iload_n 2 dX7_heardBy_12 rfl rfl ?_
        refine a_aload_n 0 dX7_heardBy_13 rfl rfl ?_
        refine a_aload_n 0 dX7_heardBy_14 rfl rfl ?_
        refine a_iload_n 1 dX7_heardBy_15 rfl rfl ?_
        refine a_iload_n 3 dX7_heardBy_16 rfl rfl ?_
        refine a_callVp (As := [.int (nI w), .int (nI v)]) (rest := [.ref a, .int (nI c)]) (d := 1) (mc := 0) (ms := 0) (x := spF dd kV w v) (ci := 7) l_X7_215 im_X7_saidBy se_X7_saidBy ⟨_, rfl, rfl⟩ dX7_heardBy_17 ⟨Nat.le_of_ble_eq_true rfl, Nat.le_of_ble_eq_true rfl⟩ rfl (Nat.le_of_ble_eq_true rfl) ⟨Nat.le_of_ble_eq_true rfl, Nat.le_of_ble_eq_true rfl⟩ hm (c_X7_saidBy hw (by omega) hM0) ?_
        refine a_callVp (As := [.int (spF dd kV w v)]) (rest := [.int (nI c)]) (d := 3) (mc := 0) (ms := 0) (x := unF n dd kV w v) (ci := 7) l_X7_161 im_X7_guessOf se_X7_guessOf ⟨_, rfl, rfl⟩ dX7_heardBy_20 ⟨Nat.le_of_ble_eq_true rfl, Nat.le_of_ble_eq_true rfl⟩ rfl (Nat.le_of_ble_eq_true rfl) ⟨Nat.le_of_ble_eq_true rfl, Nat.le_of_ble_eq_true rfl⟩ hm (c_X7_guessOf hM0) ?_
        refine a_iload_n 1 dX7_heardBy_23 rfl rfl ?_
        refine a_icmpne 31 dX7_heardBy_24 (by decide) (fun c24 => ?_) (fun c24 => ?_)
        · skip
          refine a_iconst 0 dX7_heardBy_31 (by decide) ?_
          refine a_iaddN (a := c) (b := 0) dX7_heardBy_32 ?_
          refine a_istore_n (lv' := [(2, .int (nI (c + 0))), (0, .ref a), (1, .int (nI w)), (3, .int (nI v))]) dX7_heardBy_33 rfl (by decide) rfl ?_
          refine a_iincN (q := 3) (lv' := [(3, .int (nI (v + 1))), (2, .int (nI (c + 0))), (0, .ref a), (1, .int (nI w))]) dX7_heardBy_34 rfl (by decide) rfl ?_
          refine a_goto 4 dX7_heardBy_37 (by decide) ?_
          refine a_sub [2, 3, 1, 0] rfl ?_
          exact ih4 _ _ (by omega) (by simp only [cntF]; rw [if_neg c24, hg]; rfl) (by omega)
        · skip
          refine a_iconst 1 dX7_heardBy_27 (by decide) ?_
          refine a_goto 32 dX7_heardBy_28 (by decide) ?_
          refine a_iaddN (a := c) (b := 1) dX7_heardBy_32 ?_
          refine a_istore_n (lv' := [(2, .int (nI (c + 1))), (0, .ref a), (1, .int (nI w)), (3, .int (nI v))]) dX7_heardBy_33 rfl (by decide) rfl ?_
          refine a_iincN (q := 3) (lv' := [(3, .int (nI (v + 1))), (2, .int (nI (c + 1))), (0, .ref a), (1, .int (nI w))]) dX7_heardBy_34 rfl (by decide) rfl ?_
          refine a_goto 4 dX7_heardBy_37 (by decide) ?_
          refine a_sub [2, 3, 1, 0] rfl ?_
          exact ih4 _ _ (by omega) (by simp only [cntF]; rw [if_pos c24, hg]) (by omega)
  refine a_sub [2, 3, 1, 0] rfl ?_
  exact L4 _ 0 0 (Nat.zero_le _) rfl (Nat.lt_succ_self _)
set_option maxHeartbeats 4000000 in
set_option maxRecDepth 100000 in
theorem c_X7_needs {G : GT} {B : Nat} {l : Launch} {H : Heap} {a L : Nat} {fp ra rf rw rx : Int32} {ir kb : Bool} {n nv ct nx sd sn bn : Nat} {ka ks kw : Int32} {kK kV dd : DD} {w v : Nat} (hw : w < n) (hv : v < nv) {what : Int32} (hq : what = 0 ∨ what = 1) (hR : RG n dd) (hV : RV nv kV) (hRK : RK n kK) (hM : Mc G H a L fp ra rf rw rx ir kb n nv ct nx sd sn bn ka ks kw kK kV dd) (hB : B ≤ a) : AM G B l yX7_needs cX7_needs 8 (some .int) 6 0 0 [.ref a, .int (nI w), .int (nI v), .int what] H (fun rv H' => rv = some (.int (ndF n dd kK kV ka ks w v what 100 0)) ∧ (Mc G H' a L fp ra rf rw rx ir kb n nv ct nx sd sn bn ka ks kw kK kV dd ∧ ∀ q : Nat, q ≠ a + 8 → H'[q]? = H[q]?)) := by
  have hM0 := hM
  obtain ⟨hm, ⟨fB, hBx, eB0, eB1, eB2⟩, ⟨fK, hKx, eK⟩, ⟨fV, hVx, eV⟩, ⟨fN, hNx, eS, eU, eO, e24, e25, e26⟩, hn, hnv⟩ := hM
  unfold mxL at hm
  obtain ⟨c, hc, ec⟩ := sp_ok hR hV hw hv
  have hF : ∀ q : Nat, q ≠ a + 8 → H[q]? = H[q]? := fun _ _ => rfl
  refine AM.ofI (lv := [(0, .ref a), (1, .int (nI w)), (2, .int (nI v)), (3, .int what)]) (by decide +kernel) (Nat.le_of_ble_eq_true rfl) rfl ?_ (fun _ h => by cases h.1)
  refine a_aload_n 0 dX7_needs_0 rfl rfl ?_
  refine a_iload_n 1 dX7_needs_1 rfl rfl ?_
  refine a_callVp (As := [.int (nI w)]) (rest := []) (d := 1) (mc := 0) (ms := 0) (x := bI (wIx n (nI w))) (ci := 7) l_X7_139 im_X7_isWord se_X7_isWord ⟨_, rfl, rfl⟩ dX7_needs_2 ⟨Nat.le_of_ble_eq_true rfl, Nat.le_of_ble_eq_true rfl⟩ rfl (Nat.le_of_ble_eq_true rfl) ⟨Nat.le_of_ble_eq_true rfl, Nat.le_of_ble_eq_true rfl⟩ hm (c_X7_isWord hM0) ?_
  refine a_ifeqB 16 dX7_needs_5 (by decide) (fun c5 => ?_) (fun c5 => ?_)
  · skip
    exact absurd c5 (by rw [wIx_nI hw (by omega)]; decide)
  · skip
    refine a_aload_n 0 dX7_needs_8 rfl rfl ?_
    refine a_iload_n 2 dX7_needs_9 rfl rfl ?_
    refine a_callVp (As := [.int (nI v)]) (rest := []) (d := 1) (mc := 0) (ms := 0) (x := bI (wIx nv (nI v))) (ci := 7) l_X7_143 im_X7_isVoice se_X7_isVoice ⟨_, rfl, rfl⟩ dX7_needs_10 ⟨Nat.le_of_ble_eq_true rfl, Nat.le_of_ble_eq_true rfl⟩ rfl (Nat.le_of_ble_eq_true rfl) ⟨Nat.le_of_ble_eq_true rfl, Nat.le_of_ble_eq_true rfl⟩ hm (c_X7_isVoice hM0) ?_
    refine a_ifneB 19 dX7_needs_13 (by decide) (fun c13 => ?_) (fun c13 => ?_)
    · skip
      refine a_iload_n 3 dX7_needs_19 rfl rfl ?_
      refine a_iconst 0 dX7_needs_20 (by decide) ?_
      refine a_iconst 1 dX7_needs_21 (by decide) ?_
      refine a_callSp (As := [.int what, .int 0, .int 1]) (rest := []) (d := 0) (mc := 0) (ms := 0) (x := bI (inF what 0 1)) l_X7_58 st_X7_in dX7_needs_22 ⟨Nat.le_of_ble_eq_true rfl, Nat.le_of_ble_eq_true rfl⟩ rfl (Nat.le_of_ble_eq_true rfl) ⟨Nat.le_of_ble_eq_true rfl, Nat.le_of_ble_eq_true rfl⟩ (c_X7_in) ?_
      refine a_ifneB 31 dX7_needs_25 (by decide) (fun c25 => ?_) (fun c25 => ?_)
      · skip
        refine a_aload_n 0 dX7_needs_31 rfl rfl ?_
        refine a_get f_X7_35 dX7_needs_32 hm rfl ?_
        refine a_bipush 8 dX7_needs_35 (by decide) ?_
        refine a_iload_n 1 dX7_needs_37 rfl rfl ?_
        refine a_iaddN (a := 8) (b := w) dX7_needs_38 ?_
        refine a_ialdN (j := 8 + w) dX7_needs_39 hNx (by omega) (by decide) ?_
        refine a_toeq (dd (8 + w)) (eU _ (by omega)) ?_
        refine a_istore (lv' := [(4, .int (dd (8 + w))), (0, .ref a), (1, .int (nI w)), (2, .int (nI v)), (3, .int what)]) dX7_needs_40 (by decide) rfl ?_
        refine a_aload_n 1 dX7_needs_42 rfl rfl ?_
        refine a_iload_n 2 dX7_needs_43 rfl rfl ?_
        refine a_iload_n 3 dX7_needs_44 rfl rfl ?_
        refine a_callVp (As := [.int (nI w), .int (nI v)]) (rest := []) (d := 1) (mc := 0) (ms := 0) (x := nI c) (ci := 7) l_X7_215 im_X7_saidBy se_X7_saidBy ⟨_, rfl, rfl⟩ dX7_needs_45 ⟨Nat.le_of_ble_eq_true rfl, Nat.le_of_ble_eq_true rfl⟩ rfl (Nat.le_of_ble_eq_true rfl) ⟨Nat.le_of_ble_eq_true rfl, Nat.le_of_ble_eq_true rfl⟩ hm ((by rw [← ec]; exact c_X7_saidBy hw hv hM0)) ?_
        refine a_istore (lv' := [(5, .int (nI c)), (4, .int (dd (8 + w))), (0, .ref a), (1, .int (nI w)), (2, .int (nI v)), (3, .int what)]) dX7_needs_48 (by decide) rfl ?_
        refine a_iconst (-1) dX7_needs_50 (by decide) ?_
        refine a_istore (lv' := [(6, .int (-1)), (5, .int (nI c)), (4, .int (dd (8 + w))), (0, .ref a), (1, .int (nI w)), (2, .int (nI v)), (3, .int what)]) dX7_needs_51 (by decide) rfl ?_
        refine a_bipush 99 dX7_needs_53 (by decide) ?_
        rw [show (99 : Int32) = nI 100 + (-1) by decide]
        refine a_istore (lv' := [(7, .int (nI 100 + (-1))), (6, .int (-1)), (5, .int (nI c)), (4, .int (dd (8 + w))), (0, .ref a), (1, .int (nI w)), (2, .int (nI v)), (3, .int what)]) dX7_needs_55 (by decide) rfl ?_
        have L57 : ∀ (fu : Nat) (f : Nat) (Hk : Heap) (gN : DD) (r : Int32), f ≤ 100 → Ob G Hk a 7 [.int (nI L), .ref (a + 1), .int fp, .int ra, .int rf, .int rw, .int rx, .ref (a + 2), .ref (a + 3), .ref (a + 4), .int (bI ir), .int (bI kb), .int (nI n), .int (nI nv), .ref (a + 5), .ref (a + 6), .ref (a + 7), .ref (a + 8), .int (nI ct), .int (nI nx), .ref (a + 9), .long (lN sd), .int (nI sn), .ref (a + 10), .int (nI bn), .ref (a + 11), .ref (a + 12), .ref (a + 13), .ref (a + 14)] → Ai G Hk (a + 5) 3 fB → Ai G Hk (a + 6) 8 fK → Ai G Hk (a + 7) 4 fV → Ai G Hk (a + 8) 27 gN → (∀ i, i ≠ 8 + w → gN i = fN i) → r = ndF n dd kK kV ka ks w v what (100 - f) f → (∀ q : Nat, q ≠ a + 8 → Hk[q]? = H[q]?) → f < fu → AW G B l { frames := 6, cells := 0, slots := 0, locals := 27 * 6 } yX7_needs.cls cX7_needs 8 false (fun rv H' ce' sl' => (rv = some (.int (ndF n dd kK kV ka ks w v what 100 0)) ∧ (Mc G H' a L fp ra rf rw rx ir kb n nv ct nx sd sn bn ka ks kw kK kV dd ∧ ∀ q : Nat, q ≠ a + 8 → H'[q]? = H[q]?)) ∧ ce' = 0 ∧ sl' = 0) 57 [(0, .ref a), (1, .int (nI w)), (2, .int (nI v)), (3, .int what), (4, .int (dd (8 + w))), (5, .int (nI c)), (6, .int r), (7, .int (nI f + (-1)))] [] Hk 0 0 := by
          intro fu
          induction fu with
          | zero => intro f Hk gN r hk hm hBx hKx hVx hNx hgN hg hF hm57; exact absurd hm57 (Nat.not_lt_zero _)
          | succ fu ih57 =>
            intro f Hk gN r hk hm hBx hKx hVx hNx hgN hg hF hm57
            refine a_iload 7 dX7_needs_57 rfl ?_
            refine a_iflt 111 dX7_needs_59 (by decide) (fun c59 => ?_) (fun c59 => ?_)
            · skip
              refine a_aload_n 0 dX7_needs_111 rfl rfl ?_
              refine a_get f_X7_35 dX7_needs_112 hm rfl ?_
              refine a_bipush 8 dX7_needs_115 (by decide) ?_
              refine a_iload_n 1 dX7_needs_117 rfl rfl ?_
              refine a_iaddN (a := 8) (b := w) dX7_needs_118 ?_
              refine a_iload 4 dX7_needs_119 rfl ?_
              refine a_iastN (j := 8 + w) dX7_needs_121 hNx (by omega) (by decide) (by omega) (fun H5 hNx hz5 hq5 => ?_)
              have hNx : Ai G H5 (a + 8) 27 (upd gN (8 + w) (dd (8 + w))) := hNx
              have hm := hm.kept (hq5 _ (by omega))
              have hBx := hBx.kept (hq5 _ (by omega))
              have hKx := hKx.kept (hq5 _ (by omega))
              have hVx := hVx.kept (hq5 _ (by omega))
              have hF : ∀ q : Nat, q ≠ a + 8 → H5[q]? = H[q]? := fun q hq => (hq5 q (by omega)).trans (hF q hq)
              refine a_iload 6 dX7_needs_122 rfl ?_
              refine a_ret dX7_needs_124 ⟨⟨ri ?_, ?_⟩, rfl, rfl⟩
              · rw [hg, nI_p0 (by omega) c59]
              · exact ⟨⟨by unfold mxL; exact hm, ⟨fB, hBx, eB0, eB1, eB2⟩, ⟨fK, hKx, eK⟩, ⟨fV, hVx, eV⟩, ⟨_, hNx, NA.u2 (j := 8 + w) ⟨eS, eU, eO, e24, e25, e26⟩ hgN⟩, hn, hnv⟩, hF⟩
            · skip
              obtain ⟨m, rfl⟩ := nI_p1 c59
              rw [nI_pm]
              refine a_aload_n 0 dX7_needs_62 rfl rfl ?_
              refine a_get f_X7_35 dX7_needs_63 hm rfl ?_
              refine a_bipush 8 dX7_needs_66 (by decide) ?_
              refine a_iload_n 1 dX7_needs_68 rfl rfl ?_
              refine a_iaddN (a := 8) (b := w) dX7_needs_69 ?_
              refine a_iload 7 dX7_needs_70 rfl ?_
              refine a_iastN (j := 8 + w) dX7_needs_72 hNx (by omega) (by decide) (by omega) (fun H6 hNx hz6 hq6 => ?_)
              have hNx : Ai G H6 (a + 8) 27 (upd gN (8 + w) (nI m)) := hNx
              have hm := hm.kept (hq6 _ (by omega))
              have hBx := hBx.kept (hq6 _ (by omega))
              have hKx := hKx.kept (hq6 _ (by omega))
              have hVx := hVx.kept (hq6 _ (by omega))
              have hF : ∀ q : Nat, q ≠ a + 8 → H6[q]? = H[q]? := fun q hq => (hq6 q (by omega)).trans (hF q hq)
              have hM1 : Mc G H6 a L fp ra rf rw rx ir kb n nv ct nx sd sn bn ka ks kw kK kV (upd dd (8 + w) (nI m)) := ⟨by unfold mxL; exact hm, ⟨fB, hBx, eB0, eB1, eB2⟩, ⟨fK, hKx, eK⟩, ⟨fV, hVx, eV⟩, ⟨_, hNx, NA.u1 ⟨eS, eU, eO, e24, e25, e26⟩ hgN⟩, hn, hnv⟩
              have hR1 := rg_u8 (m := m) hR hn hw (by omega)
              have hg1 := upd_ne (x := nI m) hgN
              refine a_aload_n 0 dX7_needs_73 rfl rfl ?_
              refine a_iload 5 dX7_needs_74 rfl ?_
              refine a_callVp (As := [.int (nI c)]) (rest := []) (d := 3) (mc := 0) (ms := 0) (x := guF n (upd dd (8 + w) (nI m)) (nI c)) (ci := 7) l_X7_161 im_X7_guessOf se_X7_guessOf ⟨_, rfl, rfl⟩ dX7_needs_76 ⟨Nat.le_of_ble_eq_true rfl, Nat.le_of_ble_eq_true rfl⟩ rfl (Nat.le_of_ble_eq_true rfl) ⟨Nat.le_of_ble_eq_true rfl, Nat.le_of_ble_eq_true rfl⟩ hm (c_X7_guessOf hM1) ?_
              refine a_iload_n 1 dX7_needs_79 rfl rfl ?_
              refine a_icmpne 101 dX7_needs_80 (by decide) (fun c80 => ?_) (fun c80 => ?_)
              · skip
                refine a_iload 6 dX7_needs_101 rfl ?_
                refine a_istore (lv' := [(6, .int r), (0, .ref a), (1, .int (nI w)), (2, .int (nI v)), (3, .int what), (4, .int (dd (8 + w))), (5, .int (nI c)), (7, .int (nI m))]) dX7_needs_103 (by decide) rfl ?_
                refine a_iinc (q := 7) (lv' := [(7, .int ((nI m) + (-1))), (6, .int r), (0, .ref a), (1, .int (nI w)), (2, .int (nI v)), (3, .int what), (4, .int (dd (8 + w))), (5, .int (nI c))]) dX7_needs_105 rfl (by decide) (by decide) rfl ?_
                refine a_goto 57 dX7_needs_108 (by decide) ?_
                refine a_sub [2, 3, 4, 5, 6, 7, 1, 0] rfl ?_
                exact ih57 m _ _ _ (by omega) hm hBx hKx hVx hNx hg1 (by rw [show 100 - m = (100 - (m + 1)) + 1 by omega]; simp only [ndF]; rw [ec]; rw [if_neg (fun h => c80 h.1), hg]) hF (by omega)
              · skip
                refine a_iload_n 3 dX7_needs_83 rfl rfl ?_
                refine a_ifeq 96 dX7_needs_84 (by decide) (fun c84 => ?_) (fun c84 => ?_)
                · skip
                  refine a_iload 7 dX7_needs_96 rfl ?_
                  refine a_goto 103 dX7_needs_98 (by decide) ?_
                  refine a_istore (lv' := [(6, .int (nI m)), (0, .ref a), (1, .int (nI w)), (2, .int (nI v)), (3, .int what), (4, .int (dd (8 + w))), (5, .int (nI c)), (7, .int (nI m))]) dX7_needs_103 (by decide) rfl ?_
                  refine a_iinc (q := 7) (lv' := [(7, .int ((nI m) + (-1))), (6, .int (nI m)), (0, .ref a), (1, .int (nI w)), (2, .int (nI v)), (3, .int what), (4, .int (dd (8 + w))), (5, .int (nI c))]) dX7_needs_105 rfl (by decide) (by decide) rfl ?_
                  refine a_goto 57 dX7_needs_108 (by decide) ?_
                  refine a_sub [2, 3, 4, 5, 6, 7, 1, 0] rfl ?_
                  exact ih57 m _ _ _ (by omega) hm hBx hKx hVx hNx hg1 (by rw [show 100 - m = (100 - (m + 1)) + 1 by omega]; simp only [ndF]; rw [ec]; rw [if_pos ⟨c80, Or.inl c84⟩]) hF (by omega)
                · skip
                  refine a_aload_n 0 dX7_needs_87 rfl rfl ?_
                  refine a_iload 5 dX7_needs_88 rfl ?_
                  refine a_callVp (As := [.int (nI c)]) (rest := []) (d := 5) (mc := 0) (ms := 0) (x := ruF n (upd dd (8 + w) (nI m)) kK ka ks (nI c)) (ci := 7) l_X7_174 im_X7_ruleOf se_X7_ruleOf ⟨_, rfl, rfl⟩ dX7_needs_90 ⟨Nat.le_of_ble_eq_true rfl, Nat.le_of_ble_eq_true rfl⟩ rfl (Nat.le_of_ble_eq_true rfl) ⟨Nat.le_of_ble_eq_true rfl, Nat.le_of_ble_eq_true rfl⟩ hm (c_X7_ruleOf (by omega) hR1 hc hRK hM1) ?_
                  refine a_ifne 101 dX7_needs_93 (by decide) (fun c93 => ?_) (fun c93 => ?_)
                  · skip
                    refine a_iload 6 dX7_needs_101 rfl ?_
                    refine a_istore (lv' := [(6, .int r), (0, .ref a), (1, .int (nI w)), (2, .int (nI v)), (3, .int what), (4, .int (dd (8 + w))), (5, .int (nI c)), (7, .int (nI m))]) dX7_needs_103 (by decide) rfl ?_
                    refine a_iinc (q := 7) (lv' := [(7, .int ((nI m) + (-1))), (6, .int r), (0, .ref a), (1, .int (nI w)), (2, .int (nI v)), (3, .int what), (4, .int (dd (8 + w))), (5, .int (nI c))]) dX7_needs_105 rfl (by decide) (by decide) rfl ?_
                    refine a_goto 57 dX7_needs_108 (by decide) ?_
                    refine a_sub [2, 3, 4, 5, 6, 7, 1, 0] rfl ?_
                    exact ih57 m _ _ _ (by omega) hm hBx hKx hVx hNx hg1 (by rw [show 100 - m = (100 - (m + 1)) + 1 by omega]; simp only [ndF]; rw [ec]; rw [if_neg (fun h => h.2.elim c84 c93), hg]) hF (by omega)
                  · skip
                    refine a_iload 7 dX7_needs_96 rfl ?_
                    refine a_goto 103 dX7_needs_98 (by decide) ?_
                    refine a_istore (lv' := [(6, .int (nI m)), (0, .ref a), (1, .int (nI w)), (2, .int (nI v)), (3, .int what), (4, .int (dd (8 + w))), (5, .int (nI c)), (7, .int (nI m))]) dX7_needs_103 (by decide) rfl ?_
                    refine a_iinc (q := 7) (lv' := [(7, .int ((nI m) + (-1))), (6, .int (nI m)), (0, .ref a), (1, .int (nI w)), (2, .int (nI v)), (3, .int what), (4, .int (dd (8 + w))), (5, .int (nI c))]) dX7_needs_105 rfl (by decide) (by decide) rfl ?_
                    refine a_goto 57 dX7_needs_108 (by decide) ?_
                    refine a_sub [2, 3, 4, 5, 6, 7, 1, 0] rfl ?_
                    exact ih57 m _ _ _ (by omega) hm hBx hKx hVx hNx hg1 (by rw [show 100 - m = (100 - (m + 1)) + 1 by omega]; simp only [ndF]; rw [ec]; rw [if_pos ⟨c80, Or.inr c93⟩]) hF (by omega)
        refine a_sub [4, 5, 6, 7, 3, 2, 1, 0] rfl ?_
        exact L57 _ 100 _ _ _ (Nat.le_refl _) hm hBx hKx hVx hNx (fun _ _ => rfl) rfl hF (Nat.lt_succ_self _)
      · skip
        exact absurd c25 (by rw [inF_01 hq]; decide)
    · skip
      exact absurd c13 (by rw [wIx_nI hv (by omega)]; decide)
set_option maxHeartbeats 4000000 in
set_option maxRecDepth 100000 in
theorem c_X7_needs_unk {G : GT} {B : Nat} {l : Launch} {H : Heap} {a L : Nat} {fp ra rf rw rx : Int32} {ir kb : Bool} {n nv ct nx sd sn bn : Nat} {ka ks kw : Int32} {kK kV dd : DD} {w v what : Int32} (hq : wIx n w = false ∨ wIx nv v = false) (hM : Mc G H a L fp ra rf rw rx ir kb n nv ct nx sd sn bn ka ks kw kK kV dd) : AM G B l yX7_needs cX7_needs 8 (some .int) 6 0 0 [.ref a, .int w, .int v, .int what] H (fun rv H' => rv = some (.int (-1000000001)) ∧ (H' = H)) := by
  have hM0 := hM
  obtain ⟨hm, ⟨fB, hBx, eB0, eB1, eB2⟩, ⟨fK, hKx, eK⟩, ⟨fV, hVx, eV⟩, ⟨fN, hNx, eS, eU, eO, e24, e25, e26⟩, hn, hnv⟩ := hM
  unfold mxL at hm
  refine AM.ofI (lv := [(0, .ref a), (1, .int w), (2, .int v), (3, .int what)]) (by decide +kernel) (Nat.le_of_ble_eq_true rfl) rfl ?_ (fun _ h => by cases h.1)
  refine a_aload_n 0 dX7_needs_0 rfl rfl ?_
  refine a_iload_n 1 dX7_needs_1 rfl rfl ?_
  refine a_callVp (As := [.int w]) (rest := []) (d := 1) (mc := 0) (ms := 0) (x := bI (wIx n w)) (ci := 7) l_X7_139 im_X7_isWord se_X7_isWord ⟨_, rfl, rfl⟩ dX7_needs_2 ⟨Nat.le_of_ble_eq_true rfl, Nat.le_of_ble_eq_true rfl⟩ rfl (Nat.le_of_ble_eq_true rfl) ⟨Nat.le_of_ble_eq_true rfl, Nat.le_of_ble_eq_true rfl⟩ hm (c_X7_isWord hM0) ?_
  refine a_ifeqB 16 dX7_needs_5 (by decide) (fun c5 => ?_) (fun c5 => ?_)
  · skip
    refine a_ldc (-1000000001) k_X7_142 dX7_needs_16 ?_
    refine a_ret dX7_needs_18 ⟨⟨ri ?_, ?_⟩, rfl, rfl⟩
    · rfl
    · rfl
  · skip
    refine a_aload_n 0 dX7_needs_8 rfl rfl ?_
    refine a_iload_n 2 dX7_needs_9 rfl rfl ?_
    refine a_callVp (As := [.int v]) (rest := []) (d := 1) (mc := 0) (ms := 0) (x := bI (wIx nv v)) (ci := 7) l_X7_143 im_X7_isVoice se_X7_isVoice ⟨_, rfl, rfl⟩ dX7_needs_10 ⟨Nat.le_of_ble_eq_true rfl, Nat.le_of_ble_eq_true rfl⟩ rfl (Nat.le_of_ble_eq_true rfl) ⟨Nat.le_of_ble_eq_true rfl, Nat.le_of_ble_eq_true rfl⟩ hm (c_X7_isVoice hM0) ?_
    refine a_ifneB 19 dX7_needs_13 (by decide) (fun c13 => ?_) (fun c13 => ?_)
    · skip
      rcases hq with h | h
      · exact absurd c5 (by rw [h]; decide)
      · exact absurd c13 (by rw [h]; decide)
    · skip
      refine a_ldc (-1000000001) k_X7_142 dX7_needs_16 ?_
      refine a_ret dX7_needs_18 ⟨⟨ri ?_, ?_⟩, rfl, rfl⟩
      · rfl
      · rfl
set_option maxHeartbeats 4000000 in
set_option maxRecDepth 100000 in
theorem c_X7_needs_out {G : GT} {B : Nat} {l : Launch} {H : Heap} {a L : Nat} {fp ra rf rw rx : Int32} {ir kb : Bool} {n nv ct nx sd sn bn : Nat} {ka ks kw : Int32} {kK kV dd : DD} {w : Nat} (hw : w < n) {v : Nat} (hv : v < nv) {what : Int32} (hq : ¬ what = 0) (hq1 : ¬ what = 1) (hM : Mc G H a L fp ra rf rw rx ir kb n nv ct nx sd sn bn ka ks kw kK kV dd) : AM G B l yX7_needs cX7_needs 8 (some .int) 6 0 0 [.ref a, .int (nI w), .int (nI v), .int what] H (fun rv H' => rv = some (.int (-1000000002)) ∧ (H' = H)) := by
  have hM0 := hM
  obtain ⟨hm, ⟨fB, hBx, eB0, eB1, eB2⟩, ⟨fK, hKx, eK⟩, ⟨fV, hVx, eV⟩, ⟨fN, hNx, eS, eU, eO, e24, e25, e26⟩, hn, hnv⟩ := hM
  unfold mxL at hm
  refine AM.ofI (lv := [(0, .ref a), (1, .int (nI w)), (2, .int (nI v)), (3, .int what)]) (by decide +kernel) (Nat.le_of_ble_eq_true rfl) rfl ?_ (fun _ h => by cases h.1)
  refine a_aload_n 0 dX7_needs_0 rfl rfl ?_
  refine a_iload_n 1 dX7_needs_1 rfl rfl ?_
  refine a_callVp (As := [.int (nI w)]) (rest := []) (d := 1) (mc := 0) (ms := 0) (x := bI (wIx n (nI w))) (ci := 7) l_X7_139 im_X7_isWord se_X7_isWord ⟨_, rfl, rfl⟩ dX7_needs_2 ⟨Nat.le_of_ble_eq_true rfl, Nat.le_of_ble_eq_true rfl⟩ rfl (Nat.le_of_ble_eq_true rfl) ⟨Nat.le_of_ble_eq_true rfl, Nat.le_of_ble_eq_true rfl⟩ hm (c_X7_isWord hM0) ?_
  refine a_ifeqB 16 dX7_needs_5 (by decide) (fun c5 => ?_) (fun c5 => ?_)
  · skip
    exact absurd c5 (by rw [wIx_nI hw (by omega)]; decide)
  · skip
    refine a_aload_n 0 dX7_needs_8 rfl rfl ?_
    refine a_iload_n 2 dX7_needs_9 rfl rfl ?_
    refine a_callVp (As := [.int (nI v)]) (rest := []) (d := 1) (mc := 0) (ms := 0) (x := bI (wIx nv (nI v))) (ci := 7) l_X7_143 im_X7_isVoice se_X7_isVoice ⟨_, rfl, rfl⟩ dX7_needs_10 ⟨Nat.le_of_ble_eq_true rfl, Nat.le_of_ble_eq_true rfl⟩ rfl (Nat.le_of_ble_eq_true rfl) ⟨Nat.le_of_ble_eq_true rfl, Nat.le_of_ble_eq_true rfl⟩ hm (c_X7_isVoice hM0) ?_
    refine a_ifneB 19 dX7_needs_13 (by decide) (fun c13 => ?_) (fun c13 => ?_)
    · skip
      refine a_iload_n 3 dX7_needs_19 rfl rfl ?_
      refine a_iconst 0 dX7_needs_20 (by decide) ?_
      refine a_iconst 1 dX7_needs_21 (by decide) ?_
      refine a_callSp (As := [.int what, .int 0, .int 1]) (rest := []) (d := 0) (mc := 0) (ms := 0) (x := bI (inF what 0 1)) l_X7_58 st_X7_in dX7_needs_22 ⟨Nat.le_of_ble_eq_true rfl, Nat.le_of_ble_eq_true rfl⟩ rfl (Nat.le_of_ble_eq_true rfl) ⟨Nat.le_of_ble_eq_true rfl, Nat.le_of_ble_eq_true rfl⟩ (c_X7_in) ?_
      refine a_ifneB 31 dX7_needs_25 (by decide) (fun c25 => ?_) (fun c25 => ?_)
      · skip
        exact absurd c25 (by rw [inF_01n hq hq1]; decide)
      · skip
        refine a_ldc (-1000000002) k_X7_62 dX7_needs_28 ?_
        refine a_ret dX7_needs_30 ⟨⟨ri ?_, ?_⟩, rfl, rfl⟩
        · rfl
        · rfl
    · skip
      exact absurd c13 (by rw [wIx_nI hv (by omega)]; decide)
set_option maxHeartbeats 4000000 in
set_option maxRecDepth 100000 in
theorem c_X7_bestCalled {G : GT} {B : Nat} {l : Launch} {H : Heap} {a L : Nat} {fp ra rf rw rx : Int32} {ir kb : Bool} {n nv ct nx sd sn bn : Nat} {ka ks kw : Int32} {kK kV dd : DD} {w : Nat} (hw : w < n) {what : Int32} (hq : what = 0 ∨ what = 1) (hR : RG n dd) (hM : Mc G H a L fp ra rf rw rx ir kb n nv ct nx sd sn bn ka ks kw kK kV dd) (hB : B ≤ a) : AM G B l yX7_bestCalled cX7_bestCalled 8 (some .int) 5 0 0 [.ref a, .int (nI w), .int what] H (fun rv H' => rv = some (.int (if what = 0 then (bcS n nv dd kV w 1000).1 else nI (bcS n nv dd kV w 1000).2.2)) ∧ (Mc G H' a L fp ra rf rw rx ir kb n nv ct nx sd sn bn ka ks kw kK kV dd ∧ ∀ q : Nat, q ≠ a + 8 → H'[q]? = H[q]?)) := by
  have hM0 := hM
  obtain ⟨hm, ⟨fB, hBx, eB0, eB1, eB2⟩, ⟨fK, hKx, eK⟩, ⟨fV, hVx, eV⟩, ⟨fN, hNx, eS, eU, eO, e24, e25, e26⟩, hn, hnv⟩ := hM
  unfold mxL at hm
  obtain ⟨⟨x, hx, ex⟩, -⟩ := hR w hw
  have hcl : ∀ s, cnB n nv dd kV w s ≤ 4 := fun s => Nat.le_trans cntF_le hnv
  have hF : ∀ q : Nat, q ≠ a + 8 → H[q]? = H[q]? := fun _ _ => rfl
  refine AM.ofI (lv := [(0, .ref a), (1, .int (nI w)), (2, .int what)]) (by decide +kernel) (Nat.le_of_ble_eq_true rfl) rfl ?_ (fun _ h => by cases h.1)
  refine a_aload_n 0 dX7_bestCalled_0 rfl rfl ?_
  refine a_iload_n 1 dX7_bestCalled_1 rfl rfl ?_
  refine a_callVp (As := [.int (nI w)]) (rest := []) (d := 1) (mc := 0) (ms := 0) (x := bI (wIx n (nI w))) (ci := 7) l_X7_139 im_X7_isWord se_X7_isWord ⟨_, rfl, rfl⟩ dX7_bestCalled_2 ⟨Nat.le_of_ble_eq_true rfl, Nat.le_of_ble_eq_true rfl⟩ rfl (Nat.le_of_ble_eq_true rfl) ⟨Nat.le_of_ble_eq_true rfl, Nat.le_of_ble_eq_true rfl⟩ hm (c_X7_isWord hM0) ?_
  refine a_ifneB 11 dX7_bestCalled_5 (by decide) (fun c5 => ?_) (fun c5 => ?_)
  · skip
    refine a_iload_n 2 dX7_bestCalled_11 rfl rfl ?_
    refine a_iconst 0 dX7_bestCalled_12 (by decide) ?_
    refine a_iconst 1 dX7_bestCalled_13 (by decide) ?_
    refine a_callSp (As := [.int what, .int 0, .int 1]) (rest := []) (d := 0) (mc := 0) (ms := 0) (x := bI (inF what 0 1)) l_X7_58 st_X7_in dX7_bestCalled_14 ⟨Nat.le_of_ble_eq_true rfl, Nat.le_of_ble_eq_true rfl⟩ rfl (Nat.le_of_ble_eq_true rfl) ⟨Nat.le_of_ble_eq_true rfl, Nat.le_of_ble_eq_true rfl⟩ (c_X7_in) ?_
    refine a_ifneB 23 dX7_bestCalled_17 (by decide) (fun c17 => ?_) (fun c17 => ?_)
    · skip
      refine a_aload_n 0 dX7_bestCalled_23 rfl rfl ?_
      refine a_get f_X7_35 dX7_bestCalled_24 hm rfl ?_
      refine a_iload_n 1 dX7_bestCalled_27 rfl rfl ?_
      refine a_ialdN (j := w) dX7_bestCalled_28 hNx (by omega) (by decide) ?_
      refine a_toeq (dd w) (eS _ (by omega)) ?_
      refine a_istore_n (lv' := [(3, .int (dd w)), (0, .ref a), (1, .int (nI w)), (2, .int what)]) dX7_bestCalled_29 rfl (by decide) rfl ?_
      refine a_iconst 0 dX7_bestCalled_30 (by decide) ?_
      refine a_istore (lv' := [(4, .int 0), (3, .int (dd w)), (0, .ref a), (1, .int (nI w)), (2, .int what)]) dX7_bestCalled_31 (by decide) rfl ?_
      refine a_iconst (-1) dX7_bestCalled_33 (by decide) ?_
      refine a_istore (lv' := [(5, .int (-1)), (4, .int 0), (3, .int (dd w)), (0, .ref a), (1, .int (nI w)), (2, .int what)]) dX7_bestCalled_34 (by decide) rfl ?_
      refine a_iconst 0 dX7_bestCalled_36 (by decide) ?_
      refine a_istore (lv' := [(6, .int 0), (5, .int (-1)), (4, .int 0), (3, .int (dd w)), (0, .ref a), (1, .int (nI w)), (2, .int what)]) dX7_bestCalled_37 (by decide) rfl ?_
      have L39 : ∀ (fu : Nat) (k : Nat) (Hk : Heap) (gN : DD) (p : Nat) (m : Int32), k ≤ 1000 → p ≤ k → Ob G Hk a 7 [.int (nI L), .ref (a + 1), .int fp, .int ra, .int rf, .int rw, .int rx, .ref (a + 2), .ref (a + 3), .ref (a + 4), .int (bI ir), .int (bI kb), .int (nI n), .int (nI nv), .ref (a + 5), .ref (a + 6), .ref (a + 7), .ref (a + 8), .int (nI ct), .int (nI nx), .ref (a + 9), .long (lN sd), .int (nI sn), .ref (a + 10), .int (nI bn), .ref (a + 11), .ref (a + 12), .ref (a + 13), .ref (a + 14)] → Ai G Hk (a + 5) 3 fB → Ai G Hk (a + 6) 8 fK → Ai G Hk (a + 7) 4 fV → Ai G Hk (a + 8) 27 gN → (∀ i, i ≠ w → gN i = fN i) → MBs (cnB n nv dd kV w) (fun s => apN s x) k p m → (∀ q : Nat, q ≠ a + 8 → Hk[q]? = H[q]?) → 1000 - k < fu → AW G B l { frames := 5, cells := 0, slots := 0, locals := 27 * 5 } yX7_bestCalled.cls cX7_bestCalled 8 false (fun rv H' ce' sl' => (rv = some (.int (if what = 0 then (bcS n nv dd kV w 1000).1 else nI (bcS n nv dd kV w 1000).2.2)) ∧ (Mc G H' a L fp ra rf rw rx ir kb n nv ct nx sd sn bn ka ks kw kK kV dd ∧ ∀ q : Nat, q ≠ a + 8 → H'[q]? = H[q]?)) ∧ ce' = 0 ∧ sl' = 0) 39 [(0, .ref a), (1, .int (nI w)), (2, .int what), (3, .int (dd w)), (4, .int (nI p)), (5, .int m), (6, .int (nI k))] [] Hk 0 0 := by
        intro fu
        induction fu with
        | zero => intro k Hk gN p m hk hpk hm hBx hKx hVx hNx hgN hg hF hm39; exact absurd hm39 (Nat.not_lt_zero _)
        | succ fu ih39 =>
          intro k Hk gN p m hk hpk hm hBx hKx hVx hNx hgN hg hF hm39
          refine a_iload 6 dX7_bestCalled_39 rfl ?_
          refine a_sipush 1000 dX7_bestCalled_41 (by decide) ?_
          refine a_icmpgeN (a := k) (b := 1000) 105 dX7_bestCalled_44 (by decide) (by omega) (by omega) (fun c44 => ?_) (fun c44 => ?_)
          · skip
            refine a_aload_n 0 dX7_bestCalled_105 rfl rfl ?_
            refine a_get f_X7_35 dX7_bestCalled_106 hm rfl ?_
            refine a_iload_n 1 dX7_bestCalled_109 rfl rfl ?_
            refine a_iload_n 3 dX7_bestCalled_110 rfl rfl ?_
            refine a_iastN (j := w) dX7_bestCalled_111 hNx (by omega) (by decide) (by omega) (fun H3 hNx hz3 hq3 => ?_)
            have hNx : Ai G H3 (a + 8) 27 (upd gN w (dd w)) := hNx
            have hm := hm.kept (hq3 _ (by omega))
            have hBx := hBx.kept (hq3 _ (by omega))
            have hKx := hKx.kept (hq3 _ (by omega))
            have hVx := hVx.kept (hq3 _ (by omega))
            have hF : ∀ q : Nat, q ≠ a + 8 → H3[q]? = H[q]? := fun q hq => (hq3 q (by omega)).trans (hF q hq)
            refine a_iload_n 2 dX7_bestCalled_112 rfl rfl ?_
            refine a_ifne 121 dX7_bestCalled_113 (by decide) (fun c113 => ?_) (fun c113 => ?_)
            · skip
              refine a_iload 5 dX7_bestCalled_121 rfl ?_
              refine a_ret dX7_bestCalled_123 ⟨⟨ri ?_, ?_⟩, rfl, rfl⟩
              · obtain ⟨y, ey, hO⟩ := bc_ok (n := n) (nv := nv) (kV := kV) hx ex 1000 (Nat.le_refl _)
                have hk0 : k = 1000 := by omega
                subst hk0
                rcases hg with ⟨h, -, -⟩ | ⟨h, hO2⟩
                · omega
                · have e := hO2.one hO (fun s => ⟨Or.inl, fun h => by rcases h with h | h <;> omega⟩)
                  subst e
                  rw [ey]
                  rw [if_neg c113]; exact h
              · exact ⟨⟨by unfold mxL; exact hm, ⟨fB, hBx, eB0, eB1, eB2⟩, ⟨fK, hKx, eK⟩, ⟨fV, hVx, eV⟩, ⟨_, hNx, NA.u2 (j := w) ⟨eS, eU, eO, e24, e25, e26⟩ hgN⟩, hn, hnv⟩, hF⟩
            · skip
              refine a_iload 4 dX7_bestCalled_116 rfl ?_
              refine a_goto 123 dX7_bestCalled_118 (by decide) ?_
              refine a_ret dX7_bestCalled_123 ⟨⟨ri ?_, ?_⟩, rfl, rfl⟩
              · obtain ⟨y, ey, hO⟩ := bc_ok (n := n) (nv := nv) (kV := kV) hx ex 1000 (Nat.le_refl _)
                have hk0 : k = 1000 := by omega
                subst hk0
                rcases hg with ⟨h, -, -⟩ | ⟨h, hO2⟩
                · omega
                · have e := hO2.one hO (fun s => ⟨Or.inl, fun h => by rcases h with h | h <;> omega⟩)
                  subst e
                  rw [ey]
                  rw [if_pos c113]
              · exact ⟨⟨by unfold mxL; exact hm, ⟨fB, hBx, eB0, eB1, eB2⟩, ⟨fK, hKx, eK⟩, ⟨fV, hVx, eV⟩, ⟨_, hNx, NA.u2 (j := w) ⟨eS, eU, eO, e24, e25, e26⟩ hgN⟩, hn, hnv⟩, hF⟩
          · skip
            refine a_aload_n 0 dX7_bestCalled_47 rfl rfl ?_
            refine a_get f_X7_35 dX7_bestCalled_48 hm rfl ?_
            refine a_iload_n 1 dX7_bestCalled_51 rfl rfl ?_
            refine a_iload 6 dX7_bestCalled_52 rfl ?_
            refine a_iastN (j := w) dX7_bestCalled_54 hNx (by omega) (by decide) (by omega) (fun H4 hNx hz4 hq4 => ?_)
            have hNx : Ai G H4 (a + 8) 27 (upd gN w (nI k)) := hNx
            have hm := hm.kept (hq4 _ (by omega))
            have hBx := hBx.kept (hq4 _ (by omega))
            have hKx := hKx.kept (hq4 _ (by omega))
            have hVx := hVx.kept (hq4 _ (by omega))
            have hF : ∀ q : Nat, q ≠ a + 8 → H4[q]? = H[q]? := fun q hq => (hq4 q (by omega)).trans (hF q hq)
            have hM1 : Mc G H4 a L fp ra rf rw rx ir kb n nv ct nx sd sn bn ka ks kw kK kV (upd dd w (nI k)) := ⟨by unfold mxL; exact hm, ⟨fB, hBx, eB0, eB1, eB2⟩, ⟨fK, hKx, eK⟩, ⟨fV, hVx, eV⟩, ⟨_, hNx, NA.u1 ⟨eS, eU, eO, e24, e25, e26⟩ hgN⟩, hn, hnv⟩
            have hg1 := upd_ne (x := nI k) hgN
            have hck := hcl k
            have hfk := apN_le (a := k) (b := x) (by omega) hx
            have hfb := apN_le (a := p) (b := x) (by omega) hx
            refine a_aload_n 0 dX7_bestCalled_55 rfl rfl ?_
            refine a_iload_n 1 dX7_bestCalled_56 rfl rfl ?_
            refine a_callVp (As := [.int (nI w)]) (rest := []) (d := 4) (mc := 0) (ms := 0) (x := nI (cnB n nv dd kV w k)) (ci := 7) l_X7_221 im_X7_heardBy se_X7_heardBy ⟨_, rfl, rfl⟩ dX7_bestCalled_57 ⟨Nat.le_of_ble_eq_true rfl, Nat.le_of_ble_eq_true rfl⟩ rfl (Nat.le_of_ble_eq_true rfl) ⟨Nat.le_of_ble_eq_true rfl, Nat.le_of_ble_eq_true rfl⟩ hm (c_X7_heardBy hw hM1) ?_
            refine a_istore (lv' := [(7, .int (nI (cnB n nv dd kV w k))), (0, .ref a), (1, .int (nI w)), (2, .int what), (3, .int (dd w)), (4, .int (nI p)), (5, .int m), (6, .int (nI k))]) dX7_bestCalled_60 (by decide) rfl ?_
            refine a_iload 0 dX7_bestCalled_62 rfl ?_
            refine a_iload 6 dX7_bestCalled_64 rfl ?_
            refine a_icmpgt 91 dX7_bestCalled_66 (by decide) (fun c66 => ?_) (fun c66 => ?_)
            · skip
              refine a_iload 7 dX7_bestCalled_91 rfl ?_
              refine a_istore (lv' := [(4, .int (nI k)), (7, .int (nI (cnB n nv dd kV w k))), (0, .ref a), (1, .int (nI w)), (2, .int what), (3, .int (dd w)), (5, .int m), (6, .int (nI k))]) dX7_bestCalled_93 (by decide) rfl ?_
              refine a_iload 1 dX7_bestCalled_95 rfl ?_
              refine a_istore (lv' := [(5, .int (nI (cnB n nv dd kV w k))), (4, .int (nI k)), (7, .int (nI (cnB n nv dd kV w k))), (0, .ref a), (1, .int (nI w)), (2, .int what), (3, .int (dd w)), (6, .int (nI k))]) dX7_bestCalled_97 (by decide) rfl ?_
              refine a_iincN (q := 7) (lv' := [(6, .int (nI (k + 1))), (5, .int (nI (cnB n nv dd kV w k))), (4, .int (nI k)), (7, .int (nI (cnB n nv dd kV w k))), (0, .ref a), (1, .int (nI w)), (2, .int what), (3, .int (dd w))]) dX7_bestCalled_99 rfl (by decide) rfl ?_
              refine a_goto 39 dX7_bestCalled_102 (by decide) ?_
              refine a_sub [4, 5, 6, 7, 2, 1, 0] rfl ?_
              exact ih39 _ _ _ _ _ (by omega) (by omega) hm hBx hKx hVx hNx hg1 (hg.up hcl hfk hfb (Or.inl c66)) hF (by omega)
            · skip
              refine a_iload 0 dX7_bestCalled_69 rfl ?_
              refine a_iload 6 dX7_bestCalled_71 rfl ?_
              refine a_icmpne 99 dX7_bestCalled_73 (by decide) (fun c73 => ?_) (fun c73 => ?_)
              · skip
                refine a_iincN (q := 7) (lv' := [(6, .int (nI (k + 1))), (7, .int (nI (cnB n nv dd kV w k))), (0, .ref a), (1, .int (nI w)), (2, .int what), (3, .int (dd w)), (4, .int (nI p)), (5, .int m)]) dX7_bestCalled_99 rfl (by decide) rfl ?_
                refine a_goto 39 dX7_bestCalled_102 (by decide) ?_
                refine a_sub [2, 3, 4, 5, 6, 7, 0] rfl ?_
                exact ih39 _ _ _ _ _ (by omega) (by omega) hm hBx hKx hVx hNx hg1 (hg.no hcl hfk hfb c66 (fun h => absurd h c73)) hF (by omega)
              · skip
                refine a_iload 7 dX7_bestCalled_76 rfl ?_
                refine a_iload_n 4 dX7_bestCalled_78 rfl rfl ?_
                refine a_callSp (As := [.int (nI k), .int (dd w)]) (rest := []) (d := 1) (mc := 0) (ms := 0) (x := nI (apN k x)) l_X7_153 st_X7_apart dX7_bestCalled_79 ⟨Nat.le_of_ble_eq_true rfl, Nat.le_of_ble_eq_true rfl⟩ rfl (Nat.le_of_ble_eq_true rfl) ⟨Nat.le_of_ble_eq_true rfl, Nat.le_of_ble_eq_true rfl⟩ ((by rw [ex, ← apF_nI (by omega) hx]; exact c_X7_apart)) ?_
                refine a_iload 5 dX7_bestCalled_82 rfl ?_
                refine a_iload_n 4 dX7_bestCalled_84 rfl rfl ?_
                refine a_callSp (As := [.int (nI p), .int (dd w)]) (rest := [.int (nI (apN k x))]) (d := 1) (mc := 0) (ms := 0) (x := nI (apN p x)) l_X7_153 st_X7_apart dX7_bestCalled_85 ⟨Nat.le_of_ble_eq_true rfl, Nat.le_of_ble_eq_true rfl⟩ rfl (Nat.le_of_ble_eq_true rfl) ⟨Nat.le_of_ble_eq_true rfl, Nat.le_of_ble_eq_true rfl⟩ ((by rw [ex, ← apF_nI (by omega) hx]; exact c_X7_apart)) ?_
                refine a_icmpgeN (a := apN k x) (b := apN p x) 99 dX7_bestCalled_88 (by decide) (by omega) (by omega) (fun c88 => ?_) (fun c88 => ?_)
                · skip
                  refine a_iincN (q := 7) (lv' := [(6, .int (nI (k + 1))), (7, .int (nI (cnB n nv dd kV w k))), (0, .ref a), (1, .int (nI w)), (2, .int what), (3, .int (dd w)), (4, .int (nI p)), (5, .int m)]) dX7_bestCalled_99 rfl (by decide) rfl ?_
                  refine a_goto 39 dX7_bestCalled_102 (by decide) ?_
                  refine a_sub [2, 3, 4, 5, 6, 7, 0] rfl ?_
                  exact ih39 _ _ _ _ _ (by omega) (by omega) hm hBx hKx hVx hNx hg1 (hg.no hcl hfk hfb c66 (fun _ => fun h => absurd ((nI_ltI (by omega) (by omega)).mp h) (by omega))) hF (by omega)
                · skip
                  refine a_iload 7 dX7_bestCalled_91 rfl ?_
                  refine a_istore (lv' := [(4, .int (nI k)), (7, .int (nI (cnB n nv dd kV w k))), (0, .ref a), (1, .int (nI w)), (2, .int what), (3, .int (dd w)), (5, .int m), (6, .int (nI k))]) dX7_bestCalled_93 (by decide) rfl ?_
                  refine a_iload 1 dX7_bestCalled_95 rfl ?_
                  refine a_istore (lv' := [(5, .int (nI (cnB n nv dd kV w k))), (4, .int (nI k)), (7, .int (nI (cnB n nv dd kV w k))), (0, .ref a), (1, .int (nI w)), (2, .int what), (3, .int (dd w)), (6, .int (nI k))]) dX7_bestCalled_97 (by decide) rfl ?_
                  refine a_iincN (q := 7) (lv' := [(6, .int (nI (k + 1))), (5, .int (nI (cnB n nv dd kV w k))), (4, .int (nI k)), (7, .int (nI (cnB n nv dd kV w k))), (0, .ref a), (1, .int (nI w)), (2, .int what), (3, .int (dd w))]) dX7_bestCalled_99 rfl (by decide) rfl ?_
                  refine a_goto 39 dX7_bestCalled_102 (by decide) ?_
                  refine a_sub [4, 5, 6, 7, 2, 1, 0] rfl ?_
                  exact ih39 _ _ _ _ _ (by omega) (by omega) hm hBx hKx hVx hNx hg1 (hg.up hcl hfk hfb (Or.inr ⟨c73, nI_lt c88 (by omega)⟩)) hF (by omega)
      refine a_sub [4, 5, 6, 3, 2, 1, 0] rfl ?_
      exact L39 _ 0 _ _ 0 (-1) (Nat.zero_le _) (Nat.le_refl _) hm hBx hKx hVx hNx (fun _ _ => rfl) (Or.inl ⟨rfl, rfl, rfl⟩) hF (Nat.lt_succ_self _)
    · skip
      exact absurd c17 (by rw [inF_01 hq]; decide)
  · skip
    exact absurd c5 (by rw [wIx_nI hw (by omega)]; decide)
set_option maxHeartbeats 4000000 in
set_option maxRecDepth 100000 in
theorem c_X7_bestCalled_unk {G : GT} {B : Nat} {l : Launch} {H : Heap} {a L : Nat} {fp ra rf rw rx : Int32} {ir kb : Bool} {n nv ct nx sd sn bn : Nat} {ka ks kw : Int32} {kK kV dd : DD} {w : Int32} (hw : wIx n w = false) {what : Int32} (hM : Mc G H a L fp ra rf rw rx ir kb n nv ct nx sd sn bn ka ks kw kK kV dd) : AM G B l yX7_bestCalled cX7_bestCalled 8 (some .int) 5 0 0 [.ref a, .int w, .int what] H (fun rv H' => rv = some (.int (-1000000001)) ∧ (H' = H)) := by
  have hM0 := hM
  obtain ⟨hm, ⟨fB, hBx, eB0, eB1, eB2⟩, ⟨fK, hKx, eK⟩, ⟨fV, hVx, eV⟩, ⟨fN, hNx, eS, eU, eO, e24, e25, e26⟩, hn, hnv⟩ := hM
  unfold mxL at hm
  refine AM.ofI (lv := [(0, .ref a), (1, .int w), (2, .int what)]) (by decide +kernel) (Nat.le_of_ble_eq_true rfl) rfl ?_ (fun _ h => by cases h.1)
  refine a_aload_n 0 dX7_bestCalled_0 rfl rfl ?_
  refine a_iload_n 1 dX7_bestCalled_1 rfl rfl ?_
  refine a_callVp (As := [.int w]) (rest := []) (d := 1) (mc := 0) (ms := 0) (x := bI (wIx n w)) (ci := 7) l_X7_139 im_X7_isWord se_X7_isWord ⟨_, rfl, rfl⟩ dX7_bestCalled_2 ⟨Nat.le_of_ble_eq_true rfl, Nat.le_of_ble_eq_true rfl⟩ rfl (Nat.le_of_ble_eq_true rfl) ⟨Nat.le_of_ble_eq_true rfl, Nat.le_of_ble_eq_true rfl⟩ hm (c_X7_isWord hM0) ?_
  refine a_ifneB 11 dX7_bestCalled_5 (by decide) (fun c5 => ?_) (fun c5 => ?_)
  · skip
    exact absurd c5 (by rw [hw]; decide)
  · skip
    refine a_ldc (-1000000001) k_X7_142 dX7_bestCalled_8 ?_
    refine a_ret dX7_bestCalled_10 ⟨⟨ri ?_, ?_⟩, rfl, rfl⟩
    · rfl
    · rfl
set_option maxHeartbeats 4000000 in
set_option maxRecDepth 100000 in
theorem c_X7_bestCalled_out {G : GT} {B : Nat} {l : Launch} {H : Heap} {a L : Nat} {fp ra rf rw rx : Int32} {ir kb : Bool} {n nv ct nx sd sn bn : Nat} {ka ks kw : Int32} {kK kV dd : DD} {w : Nat} (hw : w < n) {what : Int32} (hq : ¬ what = 0) (hq1 : ¬ what = 1) (hM : Mc G H a L fp ra rf rw rx ir kb n nv ct nx sd sn bn ka ks kw kK kV dd) : AM G B l yX7_bestCalled cX7_bestCalled 8 (some .int) 5 0 0 [.ref a, .int (nI w), .int what] H (fun rv H' => rv = some (.int (-1000000002)) ∧ (H' = H)) := by
  have hM0 := hM
  obtain ⟨hm, ⟨fB, hBx, eB0, eB1, eB2⟩, ⟨fK, hKx, eK⟩, ⟨fV, hVx, eV⟩, ⟨fN, hNx, eS, eU, eO, e24, e25, e26⟩, hn, hnv⟩ := hM
  unfold mxL at hm
  refine AM.ofI (lv := [(0, .ref a), (1, .int (nI w)), (2, .int what)]) (by decide +kernel) (Nat.le_of_ble_eq_true rfl) rfl ?_ (fun _ h => by cases h.1)
  refine a_aload_n 0 dX7_bestCalled_0 rfl rfl ?_
  refine a_iload_n 1 dX7_bestCalled_1 rfl rfl ?_
  refine a_callVp (As := [.int (nI w)]) (rest := []) (d := 1) (mc := 0) (ms := 0) (x := bI (wIx n (nI w))) (ci := 7) l_X7_139 im_X7_isWord se_X7_isWord ⟨_, rfl, rfl⟩ dX7_bestCalled_2 ⟨Nat.le_of_ble_eq_true rfl, Nat.le_of_ble_eq_true rfl⟩ rfl (Nat.le_of_ble_eq_true rfl) ⟨Nat.le_of_ble_eq_true rfl, Nat.le_of_ble_eq_true rfl⟩ hm (c_X7_isWord hM0) ?_
  refine a_ifneB 11 dX7_bestCalled_5 (by decide) (fun c5 => ?_) (fun c5 => ?_)
  · skip
    refine a_iload_n 2 dX7_bestCalled_11 rfl rfl ?_
    refine a_iconst 0 dX7_bestCalled_12 (by decide) ?_
    refine a_iconst 1 dX7_bestCalled_13 (by decide) ?_
    refine a_callSp (As := [.int what, .int 0, .int 1]) (rest := []) (d := 0) (mc := 0) (ms := 0) (x := bI (inF what 0 1)) l_X7_58 st_X7_in dX7_bestCalled_14 ⟨Nat.le_of_ble_eq_true rfl, Nat.le_of_ble_eq_true rfl⟩ rfl (Nat.le_of_ble_eq_true rfl) ⟨Nat.le_of_ble_eq_true rfl, Nat.le_of_ble_eq_true rfl⟩ (c_X7_in) ?_
    refine a_ifneB 23 dX7_bestCalled_17 (by decide) (fun c17 => ?_) (fun c17 => ?_)
    · skip
      exact absurd c17 (by rw [inF_01n hq hq1]; decide)
    · skip
      refine a_ldc (-1000000002) k_X7_62 dX7_bestCalled_20 ?_
      refine a_ret dX7_bestCalled_22 ⟨⟨ri ?_, ?_⟩, rfl, rfl⟩
      · rfl
      · rfl
  · skip
    exact absurd c5 (by rw [wIx_nI hw (by omega)]; decide)
