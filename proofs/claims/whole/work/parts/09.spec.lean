/-! ===== BEGIN what the box is, in numbers; both programs are tied to these ===== -/
def abI (x : Int32) : Int32 := if 0 ≤ x then x else 0 - x
/-- how far two SOUNDS are apart -/
def apF (a b : Int32) : Int32 := abI (a / 100 - b / 100) + abI (a / 10 % 10 - b / 10 % 10) + abI (a % 10 - b % 10)
/-- a SOUND shifted -/
def shF (s b : Int32) : Int32 := (s / 100 + b / 100) % 10 * 100 + (s / 10 + b / 10) % 10 * 10 + (s + b) % 10
/-- what is so (section 2): a row of 27 numbers: 8 SOUNDS, 8 USUAL, 8 of THE LIST, HEARD, CROSS, the GUESS -/
abbrev DD : Type := Nat → Int32
def wtF (dd : DD) (w : Nat) (s : Int32) : Int32 := (dd (8 + w) + 1) * (28 - apF (dd w) s)
/-- the best WORD and its WEIGHT among the first k -/
def gsF (dd : DD) (s : Int32) : Nat → Int32 × Int32
  | 0 => (-1, 0)
  | k + 1 => if (gsF dd s k).2 < wtF dd k s then (nI k, wtF dd k s) else gsF dd s k
def guF (n : Nat) (dd : DD) (s : Int32) : Int32 := (gsF dd s n).1
/-- WEIGHTS of the first k together -/
def smF (dd : DD) (s : Int32) : Nat → Int32
  | 0 => 0
  | k + 1 => smF dd s k + wtF dd k s
def ceF (n : Nat) (dd : DD) (w : Nat) (s : Int32) : Int32 := if smF dd s n ≤ 0 then 0 else ((wtF dd w s).toInt64 * 1000000 / (smF dd s n).toInt64).toInt32
/-- all on THE LIST, of the first k -/
def liF (dd : DD) : Nat → Int32
  | 0 => 0
  | k + 1 => liF dd k + dd (16 + k)
/-- the least distance to the first k WORDS, 27 at most -/
def neF (dd : DD) (s : Int32) : Nat → Int32
  | 0 => 27
  | k + 1 => if apF (dd k) s < neF dd s k then apF (dd k) s else neF dd s k
/-- a BeansBox.Deeds at d with its rows behind it -/
def Dd (G : GT) (H : Heap) (d n : Nat) (dd : DD) : Prop := ∃ fS fU fO : Nat → Int32, Ob G H d 0 [.int (nI n), .ref (d + 1), .ref (d + 2), .ref (d + 3), .int (dd 25), .int (dd 24), .int (dd 26)] ∧ Ai G H (d + 1) 8 fS ∧ Ai G H (d + 2) 8 fU ∧ Ai G H (d + 3) 8 fO ∧ (∀ i, i < n → fS i = dd i) ∧ (∀ i, i < n → fU i = dd (8 + i)) ∧ (∀ i, i < n → fO i = dd (16 + i)) ∧ n ≤ 8
theorem Dd.kept {G : GT} {H H1 : Heap} {d n : Nat} {dd : DD} (h : Dd G H d n dd) (hq : ∀ q, d ≤ q → q < d + 4 → H1[q]? = H[q]?) : Dd G H1 d n dd := by
  obtain ⟨fS, fU, fO, h1, h2, h3, h4, h5⟩ := h
  exact ⟨fS, fU, fO, h1.kept (hq _ (by omega) (by omega)), h2.kept (hq _ (by omega) (by omega)), h3.kept (hq _ (by omega) (by omega)), h4.kept (hq _ (by omega) (by omega)), h5⟩
theorem Dd.mk' {G : GT} {H : Heap} {d n : Nat} {dd : DD} {fS fU fO : Nat → Int32} {x24 x25 x26 : Int32} (hd : Ob G H d 0 [.int (nI n), .ref (d + 1), .ref (d + 2), .ref (d + 3), .int x25, .int x24, .int x26]) (hs : Ai G H (d + 1) 8 fS) (hu : Ai G H (d + 2) 8 fU) (ho : Ai G H (d + 3) 8 fO) (hn : n ≤ 8) (e25 : x25 = dd 25) (e24 : x24 = dd 24) (e26 : x26 = dd 26) (eS : ∀ i, i < n → fS i = dd i) (eU : ∀ i, i < n → fU i = dd (8 + i)) (eO : ∀ i, i < n → fO i = dd (16 + i)) : Dd G H d n dd := by
  subst e25; subst e24; subst e26
  exact ⟨fS, fU, fO, hd, hs, hu, ho, eS, eU, eO, hn⟩
theorem Dd.congr {G : GT} {H : Heap} {d n : Nat} {dd dd' : DD} (h : Dd G H d n dd) (h1 : ∀ i, i < n → dd i = dd' i ∧ dd (8 + i) = dd' (8 + i) ∧ dd (16 + i) = dd' (16 + i)) (h2 : dd 24 = dd' 24) (h3 : dd 25 = dd' 25) (h4 : dd 26 = dd' 26) : Dd G H d n dd' := by
  obtain ⟨fS, fU, fO, g1, g2, g3, g4, g5, g6, g7, g8⟩ := h
  rw [h2, h3, h4] at g1
  exact ⟨fS, fU, fO, g1, g2, g3, g4, fun i hi => (g5 i hi).trans (h1 i hi).1, fun i hi => (g6 i hi).trans (h1 i hi).2.1, fun i hi => (g7 i hi).trans (h1 i hi).2.2, g8⟩
/-! ===== END ===== -/
/-! ===== BEGIN what changes ===== -/
def wIx (n : Nat) (w : Int32) : Bool := decide (0 ≤ w) && decide (w < nI n)
theorem wIx_f1 {n : Nat} {w : Int32} (h : w < 0) : wIx n w = false := by
  unfold wIx
  rw [decide_eq_false (Int32.not_le.mpr h)]; rfl
theorem wIx_f2 {n : Nat} {w : Int32} (h : nI n ≤ w) : wIx n w = false := by
  unfold wIx
  rw [decide_eq_false (Int32.not_lt.mpr h), Bool.and_false]
theorem wIx_t {n : Nat} {w : Int32} (h : ¬ w < 0) (h2 : ¬ nI n ≤ w) : wIx n w = true := by
  unfold wIx
  rw [decide_eq_true (Int32.not_lt.mp h), decide_eq_true (Int32.not_le.mp h2)]; rfl
theorem wIx_nI {n k : Nat} (hk : k < n) (hn : n < 2 ^ 31) : wIx n (nI k) = true := wIx_t (nI_pos (by omega)) (nI_ge hk hn)
theorem wIx_of {n : Nat} {w : Int32} (hn : n < 2 ^ 31) (h : wIx n w = true) : ∃ k, k < n ∧ w = nI k := by
  rcases pk_ix w hn with h1 | h1 | h1
  · rw [wIx_f1 h1] at h; cases h
  · rw [wIx_f2 h1] at h; cases h
  · exact h1
def mnF (x : Int32) : Int32 := if 99 < x then 99 else x
def lsF (x : Int32) : Int32 := if x - 1 < 0 then 0 else x - 1
/-- a WORD once more on THE LIST -/
def puF (dd : DD) (w : Nat) : DD := upd dd (16 + w) (mnF (dd (16 + w) + 1))
/-- HEARD: the GUESS g, what it does -/
def hrF (dd : DD) (g : Nat) (what : Int32) : DD := fun i => if i = 26 then nI g else if i = 24 then dd 24 + 1 else if i = 25 then (if what = 1 then dd 25 + 1 else dd 25) else if i = 16 + g then (if what = 0 then mnF (dd (16 + g) + 1) else dd (16 + g)) else dd i
/-- LET BE: the GUESS g -/
def cfF (dd : DD) (g : Nat) : DD := fun i => if i = 26 then -1 else if i = 8 + g then mnF (dd (8 + g) + 1) else dd i
/-- TAKEN BACK: the GUESS g had been w -/
def crF (dd : DD) (g w : Nat) : DD := fun i => if i = 26 then -1 else if i = 16 + g then lsF (dd (16 + g)) else if i = 8 + g then lsF (dd (8 + g)) else if i = 8 + w then mnF (dd (8 + w) + 2) else if i = 16 + w then mnF (dd (16 + w) + 1) else dd i
/-- a kitchen begins -/
def bgF (kS kU : DD) : DD := fun i => if i < 8 then kS i else if i < 16 then kU (i - 8) else if i = 26 then -1 else 0
theorem i64_ne0 {b : Int32} (h : 0 < b) : ¬ b.toInt64 = 0 := fun h0 => by
  have h1 := Int32.toInt64_lt.mpr h
  rw [h0] at h1
  exact absurd h1 (by decide)
theorem upd_to {g e : Nat → Int32} {k : Nat} {x : Int32} (h : ∀ i, i < k → g i = e i) (hx : x = e k) : ∀ i, i < k + 1 → upd g k x i = e i := by
  intro i hi
  unfold upd
  split
  · next q => rw [q]; exact hx
  · exact h i (by omega)
/-- a BeansBox.Kitchen at k with its rows behind it -/
def Kt (G : GT) (H : Heap) (k : Nat) (kb : Bool) (ka ks kw : Int32) (n nv : Nat) (kS kU kK kV : DD) : Prop := ∃ fS fU fK fV : DD, Ob G H k 2 [.int (bI kb), .int ka, .int ks, .int kw, .int (nI n), .int (nI nv), .ref (k + 1), .ref (k + 2), .ref (k + 3), .ref (k + 4)] ∧ Ai G H (k + 1) 8 fS ∧ Ai G H (k + 2) 8 fU ∧ Ai G H (k + 3) 8 fK ∧ Ai G H (k + 4) 4 fV ∧ (∀ i, i < n → fS i = kS i) ∧ (∀ i, i < n → fU i = kU i) ∧ (∀ i, i < n → fK i = kK i) ∧ (∀ i, i < nv → fV i = kV i) ∧ n ≤ 8 ∧ nv ≤ 4
theorem Kt.kept {G : GT} {H H1 : Heap} {k : Nat} {kb : Bool} {ka ks kw : Int32} {n nv : Nat} {kS kU kK kV : DD} (h : Kt G H k kb ka ks kw n nv kS kU kK kV) (hq : ∀ q, k ≤ q → q < k + 5 → H1[q]? = H[q]?) : Kt G H1 k kb ka ks kw n nv kS kU kK kV := by
  obtain ⟨fS, fU, fK, fV, h1, h2, h3, h4, h5, h6⟩ := h
  exact ⟨fS, fU, fK, fV, h1.kept (hq _ (by omega) (by omega)), h2.kept (hq _ (by omega) (by omega)), h3.kept (hq _ (by omega) (by omega)), h4.kept (hq _ (by omega) (by omega)), h5.kept (hq _ (by omega) (by omega)), h6⟩
/-! ===== END ===== -/
