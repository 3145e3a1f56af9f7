/-! ===== BEGIN what both keep: ranges, and that a text gives such ===== -/
theorem AM.mono {G : GT} {B : Nat} {l : Launch} {y : MethodName} {cc : ByteArray} {nL : Nat} {ret : Option FieldType} {d mc ms : Nat} {av : List Value} {H : Heap} {post post' : Option Value → Heap → Prop} (h : AM G B l y cc nL ret d mc ms av H post) (hp : ∀ v H', post v H' → post' v H') : AM G B l y cc nL ret d mc ms av H post' := by
  intro hB
  exact MetFree.mono (h hB) (fun _ _ q => q) (fun _ _ _ _ _ q => q) (fun a st o t _ q => ⟨⟨q.1.1.imp fun v e => ⟨e.1, hp v _ e.2⟩, q.1.2⟩, q.2⟩)
theorem Bx.kept {G : GT} {H H1 : Heap} {b : Nat} {tx : Nat → Nat} {L : Nat} {fp : Int32} {kb : Bool} {ka ks kw : Int32} {n nv : Nat} {kK kV dd : DD} {sd nx ct : Nat} {pu : Nat → DD} {sn : Nat} {sw sg : Nat → Nat} {bn : Nat} {bw : Nat → Nat} {bt : DD} {ik : Nat → Bool} {iD : Nat → DD} {iS : Nat → Nat} (h : Bx G H b tx L fp kb ka ks kw n nv kK kV dd sd nx ct pu sn sw sg bn bw bt ik iD iS) (hq : ∀ q, b ≤ q → q < b + 120 → H1[q]? = H[q]?) : Bx G H1 b tx L fp kb ka ks kw n nv kK kV dd sd nx ct pu sn sw sg bn bw bt ik iD iS := by
  obtain ⟨kr, sp, kS, kU, h1, h2, h3, h4, h5, h6, h7, h8⟩ := h
  have hk := h1.2.2.2
  exact ⟨kr, sp, kS, kU, h1.kept (fun q a c => hq q (by omega) (by omega)), h2.kept (fun q a c => hq q (by omega) (by omega)), h3.kept (fun q a c => hq q (by omega) (by omega)), h4.kept (fun q a c => hq q (by omega) (by omega)), h5.kept (fun q a c => hq q (by omega) (by omega)), h6.kept (fun q a c => hq q (by omega) (by omega)), h7.kept (fun q a c => hq q (by omega) (by omega)), h8.kept (fun q a => hq q (by omega) (by omega))⟩
/-- the GUESS that is kept is a WORD, or none is -/
def Gk (n : Nat) (dd : DD) : Prop := dd 26 = -1 ∨ ∃ g, g < n ∧ dd 26 = nI g
def DW (n : Nat) (dd : DD) : Prop := RG n dd ∧ Gk n dd
theorem dw_hr {n : Nat} {dd : DD} {g : Nat} {what : Int32} (hn : n ≤ 8) (h : DW n dd) (hg : g < n) : DW n (hrF dd g what) := ⟨hr_ok hn h.1 hg, Or.inr ⟨g, hg, if_pos rfl⟩⟩
theorem dw_cf {n : Nat} {dd : DD} {g : Nat} (hn : n ≤ 8) (h : DW n dd) (hg : g < n) : DW n (cfF dd g) := ⟨cf_ok hn h.1 hg, Or.inl (if_pos rfl)⟩
theorem dw_cr {n : Nat} {dd : DD} {g w : Nat} (hn : n ≤ 8) (h : DW n dd) (hg : g < n) (hw : w < n) : DW n (crF dd g w) := ⟨cr_ok hn h.1 hg hw, Or.inl (if_pos rfl)⟩
theorem dw_up {n : Nat} {dd : DD} {w c : Nat} (hn : n ≤ 8) (h : DW n dd) (hw : w < n) (hc : c < 1000) : DW n (upd dd w (nI c)) := by
  refine ⟨fun x hx => ?_, ?_⟩
  · obtain ⟨⟨a, ha, ea⟩, ⟨u, hu, eu⟩, ⟨t, ht, et⟩⟩ := h.1 x hx
    refine ⟨?_, ⟨u, hu, ?_⟩, ⟨t, ht, ?_⟩⟩
    · unfold upd
      by_cases e : x = w
      · exact ⟨c, hc, if_pos e⟩
      · exact ⟨a, ha, (if_neg e).trans ea⟩
    · unfold upd; rw [if_neg (by omega)]; exact eu
    · unfold upd; rw [if_neg (by omega)]; exact et
  · have e : upd dd w (nI c) 26 = dd 26 := by unfold upd; rw [if_neg (by omega)]
    unfold Gk
    rw [e]
    exact h.2
theorem df_ok {n nv : Nat} {kK kV dd : DD} {ka ks : Int32} {sd : Nat} (hn : n ≤ 8) (hn0 : 0 < n) (hv0 : 0 < nv) (hV : RV nv kV) (h : DW n dd) (hsd : sd < 2 ^ 31) (m : Nat) : DW n (dfS n nv kK kV ka ks dd sd m).1 ∧ (dfS n nv kK kV ka ks dd sd m).2 < 2 ^ 31 := by
  induction m with
  | zero => exact ⟨h, hsd⟩
  | succ m ih =>
    obtain ⟨h1, h2⟩ := ih
    obtain ⟨c, hc, ec⟩ := sp_ok (w := drF (sdF (dfS n nv kK kV ka ks dd sd m).2) n) (v := drF (dfS n nv kK kV ka ks dd sd m).2 nv) h1.1 hV (drF_lt hn0) (drF_lt hv0)
    obtain ⟨g, hg, eg⟩ := gu_ok h1.1 hc hn0
    rw [df_step rfl ec eg (by omega)]
    refine ⟨?_, sdF_lt⟩
    dsimp only
    split
    · exact dw_cr hn (dw_hr hn h1 hg) hg (drF_lt hn0)
    · exact dw_cf hn (dw_hr hn h1 hg) hg
/-- the numbers of a kitchen are in their bounds -/
def KI (K : KK) : Prop := K.2.2.2.2.1 ≤ 8 ∧ K.2.2.2.2.2.1 ≤ 4 ∧ (∀ i, i < K.2.2.2.2.1 → ∃ a, a < 1000 ∧ K.2.2.2.2.2.2.1 i = nI a) ∧ (∀ i, i < K.2.2.2.2.1 → ∃ u, u ≤ 99 ∧ K.2.2.2.2.2.2.2.1 i = nI u) ∧ RK K.2.2.2.2.1 K.2.2.2.2.2.2.2.2.1 ∧ RV K.2.2.2.2.2.1 K.2.2.2.2.2.2.2.2.2
theorem nu_ok {tx : Nat → Nat} {L m kd pl : Nat} (h : (nuF tx L m kd pl).1 = 0) : kd = 0 ∧ (nuF tx L m kd pl).2.2 ≤ m := by
  unfold nuF at h ⊢
  by_cases e : kd = 0
  · refine ⟨e, ?_⟩
    rw [if_pos e] at h ⊢
    by_cases e2 : dg tx L (sk tx L pl) = sk tx L pl
    · rw [if_pos e2] at h; exact absurd (show (1 : Nat) = 0 from h) (by decide)
    · rw [if_neg e2] at h ⊢
      by_cases e3 : 3 < dg tx L (sk tx L pl) - sk tx L pl ∨ m < vF tx (sk tx L pl) (dg tx L (sk tx L pl) - sk tx L pl)
      · rw [if_pos e3] at h; exact absurd (show (2 : Nat) = 0 from h) (by decide)
      · rw [if_neg e3]; dsimp only; omega
  · rw [if_neg e] at h; exact absurd h e
theorem en_ok {tx : Nat → Nat} {L kd pl : Nat} (h : (enF tx L kd pl).1 = 0) : kd = 0 := by
  unfold enF at h
  by_cases e : kd = 0
  · exact e
  · rw [if_neg e] at h; exact h
theorem tri_ok {tx : Nat → Nat} {L m1 m2 m3 pl : Nat} (h : (triF tx L m1 m2 m3 pl).2.2.2.1 = 0) : (triF tx L m1 m2 m3 pl).1 ≤ m1 ∧ (triF tx L m1 m2 m3 pl).2.1 ≤ m2 ∧ (triF tx L m1 m2 m3 pl).2.2.1 ≤ m3 := by
  have h3 := nu_ok (en_ok h)
  have h2 := nu_ok h3.1
  have h1 := nu_ok h2.1
  exact ⟨h1.2, h2.2, h3.2⟩
theorem up_ok {f : DD} {n m x : Nat} (h : ∀ i, i < n → ∃ a, a < m ∧ f i = nI a) (hx : x < m) : ∀ i, i < n + 1 → ∃ a, a < m ∧ upd f n (nI x) i = nI a := by
  intro i hi
  unfold upd
  by_cases e : i = n
  · exact ⟨x, hx, if_pos e⟩
  · obtain ⟨a, ha, ea⟩ := h i (by omega)
    exact ⟨a, ha, (if_neg e).trans ea⟩
theorem up_ok2 {f : DD} {n m x : Nat} (h : ∀ i, i < n → ∃ a, a ≤ m ∧ f i = nI a) (hx : x ≤ m) : ∀ i, i < n + 1 → ∃ a, a ≤ m ∧ upd f n (nI x) i = nI a := by
  intro i hi
  unfold upd
  by_cases e : i = n
  · exact ⟨x, hx, if_pos e⟩
  · obtain ⟨a, ha, ea⟩ := h i (by omega)
    exact ⟨a, ha, (if_neg e).trans ea⟩
theorem cl_ok {tx : Nat → Nat} {L pl : Nat} {K : KK} (hK : KI K) (h : (clF tx L pl K).1.1 = 0) : KI (clF tx L pl K).2 := by
  obtain ⟨kb, ka, ks, kw, n, nv, kS, kU, kK, kV⟩ := K
  obtain ⟨g1, g2, g3, g4, g5, g6⟩ := hK
  dsimp only at g1 g2 g3 g4 g5 g6
  simp only [clF] at h ⊢
  by_cases e1 : (tx pl = 98 ∧ kb = true) ∨ (tx pl = 119 ∧ 8 ≤ n) ∨ (tx pl = 118 ∧ 4 ≤ nv)
  · rw [if_pos e1] at h; exact absurd (show (3 : Nat) = 0 from h) (by decide)
  · rw [if_neg e1] at h ⊢
    by_cases e2 : tx pl = 98
    · rw [if_pos e2]; exact ⟨g1, g2, g3, g4, g5, g6⟩
    · rw [if_neg e2] at h ⊢
      by_cases e3 : tx pl = 119 ∧ kb = true
      · rw [if_pos e3] at h ⊢
        have ht := tri_ok h
        have hn8 : n < 8 := Nat.not_le.mp fun q => e1 (Or.inr (Or.inl ⟨e3.1, q⟩))
        exact ⟨hn8, g2, up_ok g3 (by omega), up_ok2 g4 ht.2.1, up_ok2 g5 ht.2.2, g6⟩
      · rw [if_neg e3] at h ⊢
        by_cases e4 : tx pl = 118 ∧ kb = true
        · rw [if_pos e4] at h ⊢
          have ht := nu_ok (en_ok h)
          have hv4 : nv < 4 := Nat.not_le.mp fun q => e1 (Or.inr (Or.inr ⟨e4.1, q⟩))
          exact ⟨g1, hv4, g3, g4, g5, up_ok g6 (by omega)⟩
        · rw [if_neg e4] at h; exact absurd (show (1 : Nat) = 0 from h) (by decide)
theorem pa_ok {tx : Nat → Nat} {L f kd pl : Nat} {K : KK} (hK : KI K) (h : (paF tx L f kd pl K).1.1 = 0) : KI (paF tx L f kd pl K).2 := by
  induction f generalizing kd pl K with
  | zero => exact hK
  | succ f ih =>
    simp only [paF] at h ⊢
    by_cases e : kd = 0 ∧ pl < L
    · rw [if_pos e] at h ⊢
      by_cases e2 : (clF tx L pl K).1.1 = 0
      · exact ih (cl_ok hK e2) h
      · rw [pa_end (fun q => e2 q.1)] at h
        exact absurd h e2
    · rw [if_neg e]; exact hK
theorem P0_ok {tx : Nat → Nat} {L : Nat} (h : (P0 tx L).1.1 = 0) : KI (P0 tx L).2 :=
  pa_ok (K := kk0 zD zD zD zD) ⟨Nat.zero_le _, Nat.zero_le _, fun i hi => absurd hi (Nat.not_lt_zero _), fun i hi => absurd hi (Nat.not_lt_zero _), fun i hi => absurd hi (Nat.not_lt_zero _), fun i hi => absurd hi (Nat.not_lt_zero _)⟩ h
theorem dw_bg {n : Nat} {kS kU : DD} (hn : n ≤ 8) (h1 : ∀ i, i < n → ∃ a, a < 1000 ∧ kS i = nI a) (h2 : ∀ i, i < n → ∃ u, u ≤ 99 ∧ kU i = nI u) : DW n (bgF kS kU) := by
  refine ⟨fun w hw => ?_, Or.inl rfl⟩
  obtain ⟨a, ha, ea⟩ := h1 w hw
  obtain ⟨u, hu, eu⟩ := h2 w hw
  refine ⟨⟨a, ha, ?_⟩, ⟨u, hu, ?_⟩, ⟨0, by decide, ?_⟩⟩
  · unfold bgF; rw [if_pos (by omega)]; exact ea
  · unfold bgF; rw [if_neg (by omega), if_pos (by omega), show 8 + w - 8 = w by omega]; exact eu
  · unfold bgF; rw [if_neg (by omega), if_neg (by omega), if_neg (by omega)]; rfl
/-- what both keep -/
def Iv (n nv : Nat) (kK kV dd : DD) (sd nx ct : Nat) (pu : Nat → DD) (sn : Nat) (sw : Nat → Nat) (bn : Nat) (bw : Nat → Nat) (ik : Nat → Bool) (iD : Nat → DD) (iS : Nat → Nat) : Prop :=
  n ≤ 8 ∧ nv ≤ 4 ∧ nx < 20 ∧ ct ≤ 20 ∧ DW n dd ∧ RV nv kV ∧ RK n kK ∧ (∀ i, i < 20 → vld nx ct i → DW n (pu i)) ∧ (∀ i, i < sn → sw i < n) ∧ (∀ i, i < bn → bw i < n) ∧ (∀ i, i < 2 → ik i = true → DW n (iD i) ∧ iS i < 2 ^ 31) ∧ sd < 2 ^ 31
section IV
variable {n nv : Nat} {kK kV dd dd' : DD} {sd sd' nx ct : Nat} {pu : Nat → DD} {sn : Nat} {sw : Nat → Nat} {bn : Nat} {bw : Nat → Nat} {ik : Nat → Bool} {iD : Nat → DD} {iS : Nat → Nat}
theorem iv_push (h : Iv n nv kK kV dd sd nx ct pu sn sw bn bw ik iD iS) (hd : DW n dd') (hs : sd' < 2 ^ 31) : Iv n nv kK kV dd' sd' ((nx + 1) % 20) (min (ct + 1) 20) (fun i => if i = nx then dd else pu i) sn sw bn bw ik iD iS := by
  obtain ⟨h1, h2, h3, h4, h5, h6, h7, h8, h9, h10, h11, h12⟩ := h
  refine ⟨h1, h2, Nat.mod_lt _ (by decide), Nat.min_le_right _ _, hd, h6, h7, fun i hi hv => ?_, h9, h10, h11, hs⟩
  dsimp only
  by_cases e : i = nx
  · rw [if_pos e]; exact h5
  · rw [if_neg e]; exact h8 i hi (vld_up h3 h4 hi hv e)
theorem iv_undo (h : Iv n nv kK kV dd sd nx ct pu sn sw bn bw ik iD iS) (hc : 0 < ct) : Iv n nv kK kV (pu ((nx + 19) % 20)) sd ((nx + 19) % 20) (ct - 1) pu sn sw bn bw ik iD iS := by
  obtain ⟨h1, h2, h3, h4, h5, h6, h7, h8, h9, h10, h11, h12⟩ := h
  exact ⟨h1, h2, Nat.mod_lt _ (by decide), by omega, h8 _ (Nat.mod_lt _ (by decide)) (by unfold vld; omega), h6, h7, fun i hi hv => h8 i hi (by unfold vld at *; omega), h9, h10, h11, h12⟩
theorem iv_see {w : Nat} (h : Iv n nv kK kV dd sd nx ct pu sn sw bn bw ik iD iS) (hw : w < n) : Iv n nv kK kV dd sd nx ct pu (sn + 1) (fun i => if i = sn then w else sw i) bn bw ik iD iS := by
  obtain ⟨h1, h2, h3, h4, h5, h6, h7, h8, h9, h10, h11, h12⟩ := h
  refine ⟨h1, h2, h3, h4, h5, h6, h7, h8, fun i hi => ?_, h10, h11, h12⟩
  dsimp only
  by_cases e : i = sn
  · rw [if_pos e]; exact hw
  · rw [if_neg e]; exact h9 i (by omega)
theorem iv_write {w : Nat} (h : Iv n nv kK kV dd sd nx ct pu sn sw bn bw ik iD iS) (hw : w < n) : Iv n nv kK kV dd sd nx ct pu sn sw (bn + 1) (fun i => if i = bn then w else bw i) ik iD iS := by
  obtain ⟨h1, h2, h3, h4, h5, h6, h7, h8, h9, h10, h11, h12⟩ := h
  refine ⟨h1, h2, h3, h4, h5, h6, h7, h8, h9, fun i hi => ?_, h11, h12⟩
  dsimp only
  by_cases e : i = bn
  · rw [if_pos e]; exact hw
  · rw [if_neg e]; exact h10 i (by omega)
theorem iv_tear (h : Iv n nv kK kV dd sd nx ct pu sn sw bn bw ik iD iS) : Iv n nv kK kV dd sd nx ct pu 0 sw 0 bw ik iD iS := by
  obtain ⟨h1, h2, h3, h4, h5, h6, h7, h8, h9, h10, h11, h12⟩ := h
  exact ⟨h1, h2, h3, h4, h5, h6, h7, h8, fun i hi => absurd hi (Nat.not_lt_zero _), fun i hi => absurd hi (Nat.not_lt_zero _), h11, h12⟩
theorem iv_seed (h : Iv n nv kK kV dd sd nx ct pu sn sw bn bw ik iD iS) (hs : sd' < 2 ^ 31) : Iv n nv kK kV dd sd' nx ct pu sn sw bn bw ik iD iS := by
  obtain ⟨h1, h2, h3, h4, h5, h6, h7, h8, h9, h10, h11, h12⟩ := h
  exact ⟨h1, h2, h3, h4, h5, h6, h7, h8, h9, h10, h11, hs⟩
theorem iv_keep {i : Nat} (h : Iv n nv kK kV dd sd nx ct pu sn sw bn bw ik iD iS) : Iv n nv kK kV dd sd nx 0 pu sn sw bn bw (fun j => if j = i then true else ik j) (fun j => if j = i then dd else iD j) (fun j => if j = i then sd else iS j) := by
  obtain ⟨h1, h2, h3, h4, h5, h6, h7, h8, h9, h10, h11, h12⟩ := h
  refine ⟨h1, h2, h3, Nat.zero_le _, h5, h6, h7, fun i hi hv => absurd hv (Nat.not_lt_zero _), h9, h10, fun j hj hk => ?_, h12⟩
  dsimp only at hk ⊢
  by_cases e : j = i
  · rw [if_pos e, if_pos e]; exact ⟨h5, h12⟩
  · rw [if_neg e] at hk ⊢
    rw [if_neg e]; exact h11 j hj hk
theorem iv_back {i : Nat} (h : Iv n nv kK kV dd sd nx ct pu sn sw bn bw ik iD iS) (hi : i < 2) (hk : ik i = true) : Iv n nv kK kV (iD i) (iS i) nx 0 pu sn sw bn bw ik iD iS := by
  obtain ⟨h1, h2, h3, h4, h5, h6, h7, h8, h9, h10, h11, h12⟩ := h
  exact ⟨h1, h2, h3, Nat.zero_le _, (h11 i hi hk).1, h6, h7, fun i hi hv => absurd hv (Nat.not_lt_zero _), h9, h10, h11, (h11 i hi hk).2⟩
theorem iv_kit {n2 v2 : Nat} {kS2 kU2 kK2 kV2 : DD} {kb2 : Bool} {ka2 ks2 kw2 : Int32} (h : Iv n nv kK kV dd sd nx ct pu sn sw bn bw ik iD iS) (hK : KI (kb2, ka2, ks2, kw2, n2, v2, kS2, kU2, kK2, kV2)) : Iv n2 v2 kK2 kV2 (bgF kS2 kU2) sd nx 0 pu 0 sw 0 bw (fun _ => false) iD iS := by
  obtain ⟨h1, h2, h3, h4, h5, h6, h7, h8, h9, h10, h11, h12⟩ := h
  obtain ⟨g1, g2, g3, g4, g5, g6⟩ := hK
  exact ⟨g1, g2, h3, Nat.zero_le _, dw_bg g1 g3 g4, g6, g5, fun i hi hv => absurd hv (Nat.not_lt_zero _), fun i hi => absurd hi (Nat.not_lt_zero _), fun i hi => absurd hi (Nat.not_lt_zero _), fun i hi hk => Bool.noConfusion hk, h12⟩
end IV
theorem iv_0 {kK kV : DD} {pu : Nat → DD} {sw bw : Nat → Nat} {iD : Nat → DD} {iS : Nat → Nat} : Iv 0 0 kK kV (fun i => if i = 26 then -1 else 0) 0 0 0 pu 0 sw 0 bw (fun _ => false) iD iS :=
  ⟨by decide, by decide, by decide, by decide, ⟨fun w hw => absurd hw (Nat.not_lt_zero _), Or.inl rfl⟩, fun w hw => absurd hw (Nat.not_lt_zero _), fun w hw => absurd hw (Nat.not_lt_zero _), fun i hi hv => absurd hv (Nat.not_lt_zero _), fun i hi => absurd hi (Nat.not_lt_zero _), fun i hi => absurd hi (Nat.not_lt_zero _), fun i hi hk => Bool.noConfusion hk, by decide⟩
/-- an int beside its bounds -/
theorem ix_out {m : Nat} {c : Int32} (hm : m + 1 < 2 ^ 31) (h : wIx (m + 1) c = false) : c < 0 ∨ ¬ c ≤ nI m := by
  rcases pk_ix c hm with q | q | ⟨k, hk, rfl⟩
  · exact Or.inl q
  · exact Or.inr fun r => nI_ge (show m < m + 1 by omega) hm (Int32.le_trans q r)
  · rw [wIx_nI hk hm] at h; cases h
theorem ix_in {m : Nat} {c : Int32} (hm : m + 1 < 2 ^ 31) (h : wIx (m + 1) c = true) : ∃ k, k ≤ m ∧ c = nI k ∧ ¬ c < 0 ∧ c ≤ nI m := by
  obtain ⟨k, hk, rfl⟩ := wIx_of hm h
  exact ⟨k, by omega, rfl, nI_pos (by omega), nI_le (by omega) (by omega)⟩
/-! ===== END ===== -/
