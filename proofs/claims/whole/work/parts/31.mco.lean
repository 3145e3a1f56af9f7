theorem c_X7_clause {G : GT} {B : Nat} {l : Launch} {H : Heap} {a : Nat} {tx : Nat → Nat} {L : Nat} {fp rf : Int32} {ir kb : Bool} {n nv ct nx sd sn bn : Nat} {pl : Nat} {K : KK} (hpl : pl < L) (hinv : K.1 = false → K.2.2.2.2.1 = 0 ∧ K.2.2.2.2.2.1 = 0) (hO : Mo G H a tx L fp (nI pl) rf (nI K.2.2.2.2.1) (nI K.2.2.2.2.2.1) ir kb n nv ct nx sd sn bn) (hW : MwK G H a K) (hB : B ≤ a) : AM G B l yX7_readsClause cX7_readsClause 3 (some .boolean) 4 0 0 [.ref a, .int (bI (!K.1))] H (fun rv H' => rv = some (.int (bI (decide ((clF tx L pl K).1.1 = 0)))) ∧ (∃ rw' rx' : Int32, Mo G H' a tx L fp (nI (clF tx L pl K).1.2) (if (clF tx L pl K).1.1 = 0 then rf else nI (clF tx L pl K).1.1) rw' rx' ir kb n nv ct nx sd sn bn ∧ Mz G H' a ∧ ((clF tx L pl K).1.1 = 0 → rw' = nI (clF tx L pl K).2.2.2.2.2.1 ∧ rx' = nI (clF tx L pl K).2.2.2.2.2.2.1 ∧ MwK G H' a (clF tx L pl K).2) ∧ ∀ q : Nat, q ≠ a ∧ ¬ (a + 2 ≤ q ∧ q < a + 5) → H'[q]? = H[q]?)) := by
  obtain ⟨kb, ka, ks, kw, n2, v2, kS, kU, kK, kV⟩ := K
  cases kb with
  | false =>
    obtain ⟨h1, h2⟩ := hinv rfl
    dsimp only at h1 h2
    subst h1
    subst h2
    exact c_X7_readsClause_1 hpl hO hW hB
  | true =>
    have hn2 : n2 ≤ 8 := hW.2.2.2.1
    have hv2 : v2 ≤ 4 := hW.2.2.2.2
    by_cases h1 : tx pl = 119 ∧ n2 = 8
    · obtain ⟨h1, rfl⟩ := h1
      exact c_X7_readsClause_w8 hpl h1 hO hW hB
    · by_cases h2 : tx pl = 118 ∧ v2 = 4
      · obtain ⟨h2, rfl⟩ := h2
        exact c_X7_readsClause_v4 hpl h2 hO hW hB
      · exact c_X7_readsClause_2 hpl (fun h => by omega) (fun h => by omega) hO hW hB

