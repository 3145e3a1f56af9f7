/-! ===== BEGIN my layer: one judgement (AW) for a point of a method, one (AM) for a method ===== -/
abbrev GT : Type := va_G × (Nat → ClassId)
def aTys (G : GT) : List (ClassId × FieldType) := [(G.2 0, .int), (G.2 1, .long), (G.2 2, .boolean), (G.2 3, .object RX0), (G.2 4, .object RX1)]
/-- the tables' words that hold behind any step; those of nest mates go beside them -/
def wsT : List Cond := lw_tbl.filter goodWord
def nestWord : Cond → Bool
  | .fieldLinkNest .. => true
  | .methodLinkNest .. => true
  | _ => false
def nsW : List Cond := lw_tbl.filter nestWord
theorem wsT_good : ∀ w ∈ wsT, goodWord w = true := fun _ h => (List.mem_filter.mp h).2
theorem wsT_in : ∀ w ∈ wsT, w ∈ lw_tbl := fun _ h => (List.mem_filter.mp h).1
theorem nsW_in : ∀ w ∈ nsW, w ∈ lw_tbl := fun _ h => (List.mem_filter.mp h).1
def KX (G : GT) (U : State) : Prop := va_K G.1 vwCl (aTys G) U ∧ va_AO RX0 U ∧ va_AO RX1 U ∧ ∀ w ∈ nsW, va_Nw w U
theorem KX.warm {G : GT} {s U : State} (hW : s.WarmedH U.vm) (h : KX G s) : KX G U := by
  refine ⟨va_K.moved hW.alike h.1, va_AO.moved hW.alike h.2.1, va_AO.moved hW.alike h.2.2.1, fun w hw => ?_⟩
  have h1 := h.2.2.2 w hw
  have h2 := (List.mem_filter.mp hw).2
  cases w <;> first | (simp [nestWord] at h2; done) | exact va_Nw.warmF hW h1 | exact va_Nw.warmM hW h1
theorem KX.same {G : GT} {s U : State} (hvm : s.vm = U.vm) (h : KX G s) : KX G U := by
  refine ⟨va_K.moved (by rw [hvm]; exact Vm.Alike.refl _) h.1, va_AO.moved (by rw [hvm]; exact Vm.Alike.refl _) h.2.1, va_AO.moved (by rw [hvm]; exact Vm.Alike.refl _) h.2.2.1, fun w hw => ?_⟩
  have h1 := h.2.2.2 w hw
  have h2 := (List.mem_filter.mp hw).2
  cases w <;> first | (simp [nestWord] at h2; done) | exact va_Nw.same rfl hvm h1
/-- an object of class ci at a, with its fields -/
def Ob (G : GT) (H : Heap) (a ci : Nat) (fs : List Value) : Prop := va_at G.1 vwCl (a, .inr (ci, fs)) H
/-- an array of ints, longs, booleans, references -/
def Ai (G : GT) (H : Heap) (a n : Nat) (f : Nat → Int32) : Prop := H[a]? = some (arrV (G.2 0) n (fun j => .int (f j)))
def Al (G : GT) (H : Heap) (a n : Nat) (f : Nat → Int64) : Prop := H[a]? = some (arrV (G.2 1) n (fun j => .long (f j)))
def Az (G : GT) (H : Heap) (a n : Nat) (f : Nat → Int32) : Prop := H[a]? = some (arrV (G.2 2) n (fun j => .int (f j)))
def Aq (G : GT) (H : Heap) (a t n : Nat) (f : Nat → Option Nat) : Prop := H[a]? = some (arrV (G.2 t) n (fun j => va_rf (f j)))
theorem Ob.kept {G : GT} {H H1 : Heap} {a ci : Nat} {fs : List Value} (h : Ob G H a ci fs) (hq : H1[a]? = H[a]?) : Ob G H1 a ci fs := va_at.kept (q := (a, .inr (ci, fs))) h hq
theorem Ai.kept {G : GT} {H H1 : Heap} {a n : Nat} {f : Nat → Int32} (h : Ai G H a n f) (hq : H1[a]? = H[a]?) : Ai G H1 a n f := hq.trans h
theorem Al.kept {G : GT} {H H1 : Heap} {a n : Nat} {f : Nat → Int64} (h : Al G H a n f) (hq : H1[a]? = H[a]?) : Al G H1 a n f := hq.trans h
theorem Az.kept {G : GT} {H H1 : Heap} {a n : Nat} {f : Nat → Int32} (h : Az G H a n f) (hq : H1[a]? = H[a]?) : Az G H1 a n f := hq.trans h
theorem Aq.kept {G : GT} {H H1 : Heap} {a t n : Nat} {f : Nat → Option Nat} (h : Aq G H a t n f) (hq : H1[a]? = H[a]?) : Aq G H1 a t n f := hq.trans h
theorem Ob.lt {G : GT} {H : Heap} {a ci : Nat} {fs : List Value} (h : Ob G H a ci fs) : a < H.size := va_at.lt (q := (a, .inr (ci, fs))) h
theorem Ai.lt {G : GT} {H : Heap} {a n : Nat} {f : Nat → Int32} (h : Ai G H a n f) : a < H.size := (Array.getElem?_eq_some_iff.mp h).1
theorem Al.lt {G : GT} {H : Heap} {a n : Nat} {f : Nat → Int64} (h : Al G H a n f) : a < H.size := (Array.getElem?_eq_some_iff.mp h).1
theorem Az.lt {G : GT} {H : Heap} {a n : Nat} {f : Nat → Int32} (h : Az G H a n f) : a < H.size := (Array.getElem?_eq_some_iff.mp h).1
theorem Aq.lt {G : GT} {H : Heap} {a t n : Nat} {f : Nat → Option Nat} (h : Aq G H a t n f) : a < H.size := (Array.getElem?_eq_some_iff.mp h).1
theorem arrV_ext {cA : ClassId} {n : Nat} {f g : Nat → Value} (h : ∀ j, j < n → f j = g j) : arrV cA n f = arrV cA n g := by
  unfold arrV
  congr 1
  apply congrArg
  funext j
  exact h j.val j.isLt
theorem Ai.to {G : GT} {H : Heap} {a n : Nat} {f g : Nat → Int32} (h : Ai G H a n f) (hg : ∀ j, j < n → f j = g j) : Ai G H a n g := h.trans (congrArg some (arrV_ext fun j hj => by rw [hg j hj]))
theorem Al.to {G : GT} {H : Heap} {a n : Nat} {f g : Nat → Int64} (h : Al G H a n f) (hg : ∀ j, j < n → f j = g j) : Al G H a n g := h.trans (congrArg some (arrV_ext fun j hj => by rw [hg j hj]))
theorem Az.to {G : GT} {H : Heap} {a n : Nat} {f g : Nat → Int32} (h : Az G H a n f) (hg : ∀ j, j < n → f j = g j) : Az G H a n g := h.trans (congrArg some (arrV_ext fun j hj => by rw [hg j hj]))
theorem Aq.to {G : GT} {H : Heap} {a t n : Nat} {f g : Nat → Option Nat} (h : Aq G H a t n f) (hg : ∀ j, j < n → f j = g j) : Aq G H a t n g := h.trans (congrArg some (arrV_ext fun j hj => by rw [hg j hj]))
/-- what stands fixed in a method: the machine, its code, the tables' words, the classes -/
def MC (G : GT) (B : Nat) (own : String) (cc : ByteArray) (nL : Nat) (ini : Bool) (p : Program) (s : State) (m : MethodId) (args : Array Value) (meth : Method) (c : Code) : Prop :=
  p.tables.exec = Jvm.exec ∧ c.code = cc ∧ c.maxLocals = nL ∧ s.vm.findClass own = some m.cls ∧ (∀ w ∈ wsT, w.before args s = true) ∧ KX G s ∧ (ini = true → meth.name = "<init>") ∧ B ≤ s.heap.size
def retAt (cc : ByteArray) (pc : Nat) (v : Option Value) : Prop := (v = none ∧ decode cc pc = .ok (.return_, 1)) ∨ (∃ x : Int32, v = some (.int x) ∧ decode cc pc = .ok (.ireturn, 1))
/-- from this point the method comes to an end of which 'fin answer heap cells slots' holds; below B nothing changes -/
def AW (G : GT) (B : Nat) (l : Launch) (R : Room) (own : String) (cc : ByteArray) (nL : Nat) (ini : Bool) (fin : Option Value → Heap → Nat → Nat → Prop) (pc : Nat) (lv : List (Nat × Value)) (st : List Value) (H : Heap) (ce sl : Nat) : Prop :=
  ∀ (p : Program) (e : Env) (s : State) (m : MethodId) (args : Array Value) (below : List Frame) (meth : Method) (c : Code) (Q : State → Prop) (locs : List Loc) (ls : Array Slot),
    MC G B own cc nL ini p s m args meth c →
    (∀ (v : Option Value) (H' : Heap) (locs' : List Loc) (pc' : Nat) (ls' : Array Slot) (ce' sl' : Nat), fin v H' ce' sl' → retAt cc pc' v → va_S (fun q => B ≤ q) s.heap H' locs' → W p l e R s m args below meth c H' locs' ce' sl' Q (F0 m pc' ls' v.toList)) →
    va_S (fun q => B ≤ q) s.heap H locs → lv_has ls nL lv →
    W p l e R s m args below meth c H locs ce sl Q (F0 m pc ls st)
/-- a method's contract at this heap: its answer and the heap behind it -/
def AM (G : GT) (B : Nat) (l : Launch) (y : MethodName) (cc : ByteArray) (nL : Nat) (ret : Option FieldType) (d mc ms : Nat) (av : List Value) (H : Heap) (post : Option Value → Heap → Prop) : Prop :=
  B ≤ H.size → Met l y (.code y cc nL ret :: wsT) { frames := d, cells := mc, slots := ms, locals := 27 * d } (va_Pc av (fun U => U.heap = H ∧ KX G U)) (fun _ st oc t => (∃ v, oc = .returned v ∧ post v t.heap) ∧ va_F (fun q => B ≤ q) st t) mc ms (fun q => B ≤ q)
def bI (b : Bool) : Int32 := if b = true then 1 else 0
theorem bI_narrow (b : Bool) : narrow .boolean (.int (bI b)) = .int (bI b) := by cases b <;> decide
theorem bI_zero {b : Bool} : bI b = 0 ↔ b = false := by cases b <;> decide
section AX
variable {G : GT} {B : Nat} {l : Launch} {R : Room} {own : String} {cc : ByteArray} {nL : Nat} {ini : Bool} {fin : Option Value → Heap → Nat → Nat → Prop}
variable {pc : Nat} {lv lv' : List (Nat × Value)} {st : List Value} {H : Heap} {ce sl : Nat}
theorem AM.head {y : MethodName} {ret : Option FieldType} {d mc ms : Nat} {av : List Value} {post : Option Value → Heap → Prop} (hy : plainName y.cls = true) (hini : ini = true → y.name = "<init>") (hlen : (lg_sl av).length ≤ nL) (hlv : lv_args 0 av = lv)
    (hend : ∀ (p : Program) (e : Env) (s : State) (m : MethodId) (below : List Frame) (meth : Method) (c : Code) (v : Option Value) (H' : Heap) (locs' : List Loc) (pc' : Nat) (ls' : Array Slot) (ce' sl' : Nat), p.tables.exec = Jvm.exec → c.code = cc → meth.sig.returnType = ret → meth.locks = false → fin v H' ce' sl' → retAt cc pc' v → va_S (fun q => B ≤ q) s.heap H' locs' →
      W p l e { frames := d, cells := mc, slots := ms, locals := 27 * d } s m av.toArray below meth c H' locs' ce' sl' (MQ below (fun _ st oc t => (∃ v, oc = .returned v ∧ post v t.heap) ∧ va_F (fun q => B ≤ q) st t) av.toArray s mc ms (fun q => B ≤ q)) (F0 m pc' ls' v.toList))
    (k : AW G B l { frames := d, cells := mc, slots := ms, locals := 27 * d } y.cls cc nL ini fin 0 lv [] H 0 0) : AM G B l y cc nL ret d mc ms av H post := by
  intro hB
  refine Met.ofW (cc := cc) (maxL := nL) (ret := ret) hy rfl ?_
  intro p e s m args below meth c s₁ Bd hml hv
  obtain ⟨rfl, hH, hK⟩ := hv
  subst hH
  subst hlv
  rw [lg_entry_eq]
  refine k p e s m _ below meth c _ [] _ ⟨Bd.exec, Bd.bytes, hml, findClass_of_methodNamed Bd.named, fun w hw => ?_, hK, fun hi => ?_, hB⟩ (fun v H' locs' pc' ls' ce' sl' h1 h2 h3 => hend p e s m below meth c v H' locs' pc' ls' ce' sl' Bd.exec Bd.bytes Bd.returns Bd.notSynchronized h1 h2 h3) va_S.rf (lv_entry av hlen)
  · exact atoms_spec (ws := .code y cc nL ret :: wsT) Bd.pre w (List.mem_cons_of_mem _ hw)
  · rw [(name_of_methodNamed Bd.named Bd.method).1]; exact hini hi
theorem AM.ofI {y : MethodName} {d mc ms : Nat} {av : List Value} {post : Option Value → Heap → Prop} (hy : plainName y.cls = true) (hlen : (lg_sl av).length ≤ nL) (hlv : lv_args 0 av = lv)
    (k : AW G B l { frames := d, cells := mc, slots := ms, locals := 27 * d } y.cls cc nL false (fun v H' ce' sl' => post v H' ∧ ce' = mc ∧ sl' = ms) 0 lv [] H 0 0) (hv : ∀ H', ¬ post none H') : AM G B l y cc nL (some .int) d mc ms av H post := by
  refine AM.head hy (fun h => by cases h) hlen hlv ?_ k
  rintro p e s m below meth c v H' locs' pc' ls' ce' sl' hx hb hr hlocks ⟨hp, rfl, rfl⟩ (⟨rfl, -⟩ | ⟨x, rfl, hd⟩) hS
  · exact absurd hp (hv H')
  · exact W.iret hx hb hr (fun t ht hW => ⟨⟨_, rfl, by rw [ht]; exact hp⟩, va_S.F hS ht⟩) hS.2.2 hd
theorem AM.ofZ {y : MethodName} {d mc ms : Nat} {av : List Value} {post : Option Value → Heap → Prop} (hy : plainName y.cls = true) (hlen : (lg_sl av).length ≤ nL) (hlv : lv_args 0 av = lv)
    (k : AW G B l { frames := d, cells := mc, slots := ms, locals := 27 * d } y.cls cc nL false (fun v H' ce' sl' => post v H' ∧ ce' = mc ∧ sl' = ms) 0 lv [] H 0 0) (hv : ∀ v H', post v H' → ∃ b, v = some (.int (bI b))) : AM G B l y cc nL (some .boolean) d mc ms av H post := by
  refine AM.head hy (fun h => by cases h) hlen hlv ?_ k
  rintro p e s m below meth c v H' locs' pc' ls' ce' sl' hx hb hr hlocks ⟨hp, rfl, rfl⟩ (⟨rfl, -⟩ | ⟨x, rfl, hd⟩) hS
  · obtain ⟨b, h⟩ := hv _ _ hp
    cases h
  · obtain ⟨b, h⟩ := hv _ _ hp
    obtain rfl : x = bI b := by cases h; rfl
    exact W.zret hx hb hr (bI_narrow b) (fun t ht hW => ⟨⟨_, rfl, by rw [ht]; exact hp⟩, va_S.F hS ht⟩) hS.2.2 hd
theorem AM.ofV {y : MethodName} {d mc ms : Nat} {av : List Value} {post : Option Value → Heap → Prop} (hy : plainName y.cls = true) (hini : ini = true → y.name = "<init>") (hlen : (lg_sl av).length ≤ nL) (hlv : lv_args 0 av = lv)
    (k : AW G B l { frames := d, cells := mc, slots := ms, locals := 27 * d } y.cls cc nL ini (fun v H' ce' sl' => post v H' ∧ ce' = mc ∧ sl' = ms) 0 lv [] H 0 0) (hv : ∀ v H', post v H' → v = none) : AM G B l y cc nL none d mc ms av H post := by
  refine AM.head hy hini hlen hlv ?_ k
  rintro p e s m below meth c v H' locs' pc' ls' ce' sl' hx hb hr hlocks ⟨hp, rfl, rfl⟩ (⟨rfl, hd⟩ | ⟨x, rfl, -⟩) hS
  · exact W.vret hx hb hr (fun t ht hW => ⟨⟨_, rfl, by rw [ht]; exact hp⟩, va_S.F hS ht⟩) hS.2.2 hd
  · exact absurd (hv _ _ hp) (fun h => by cases h)

theorem a_ret {x : Int32} (hd : decode cc pc = .ok (.ireturn, 1)) (k : fin (some (.int x)) H ce sl) : AW G B l R own cc nL ini fin pc lv [.int x] H ce sl := fun p e s m args below meth c Q locs ls C hr hS hl => hr (some (.int x)) H locs pc ls ce sl k (Or.inr ⟨x, rfl, hd⟩) hS
theorem a_retv  (hd : decode cc pc = .ok (.return_, 1)) (k : fin none H ce sl) : AW G B l R own cc nL ini fin pc lv [] H ce sl := fun p e s m args below meth c Q locs ls C hr hS hl => hr none H locs pc ls ce sl k (Or.inl ⟨rfl, hd⟩) hS
theorem a_widen {ce2 sl2 : Nat} (h1 : ce ≤ ce2) (h2 : sl ≤ sl2) (k : AW G B l R own cc nL ini fin pc lv st H ce2 sl2) : AW G B l R own cc nL ini fin pc lv st H ce sl := fun p e s m args below meth c Q locs ls C hr hS hl => W.widen h1 h2 (k p e s m args below meth c Q locs ls C hr hS hl)
theorem a_sub  (is : List Nat) (hs : lv_pick lv is = lv') (k : AW G B l R own cc nL ini fin pc lv' st H ce sl) : AW G B l R own cc nL ini fin pc lv st H ce sl := fun p e s m args below meth c Q locs ls C hr hS hl => k p e s m args below meth c Q locs ls C hr hS (lv_sub hl is hs)
theorem a_iconst {n : Int} (v : Int32) (hd : decode cc pc = .ok (.iconst n, 1)) (hv : Int32.ofInt n = v := by decide) (k : AW G B l R own cc nL ini fin (pc + 1) lv (.int v :: st) H ce sl) : AW G B l R own cc nL ini fin pc lv st H ce sl := fun p e s m args below meth c Q locs ls C hr hS hl => lv_iconst C.1 C.2.1 hd hv (k p e s m args below meth c Q locs ls C hr hS hl)
theorem a_bipush {n : Int} (v : Int32) (hd : decode cc pc = .ok (.bipush n, 2)) (hv : (Int8.ofInt n).toInt32 = v := by decide) (k : AW G B l R own cc nL ini fin (pc + 2) lv (.int v :: st) H ce sl) : AW G B l R own cc nL ini fin pc lv st H ce sl := fun p e s m args below meth c Q locs ls C hr hS hl => lv_bipush C.1 C.2.1 hd hv (k p e s m args below meth c Q locs ls C hr hS hl)
theorem a_sipush {n : Int} (v : Int32) (hd : decode cc pc = .ok (.sipush n, 3)) (hv : (Int16.ofInt n).toInt32 = v := by decide) (k : AW G B l R own cc nL ini fin (pc + 3) lv (.int v :: st) H ce sl) : AW G B l R own cc nL ini fin pc lv st H ce sl := fun p e s m args below meth c Q locs ls C hr hS hl => lv_sipush C.1 C.2.1 hd hv (k p e s m args below meth c Q locs ls C hr hS hl)
theorem a_ldc {i : Nat} (v : Int32) (hw : Cond.constant own i v ∈ wsT) (hd : decode cc pc = .ok (.ldc i, 2)) (k : AW G B l R own cc nL ini fin (pc + 2) lv (.int v :: st) H ce sl) : AW G B l R own cc nL ini fin pc lv st H ce sl := fun p e s m args below meth c Q locs ls C hr hS hl => lv_ldc C.1 C.2.1 C.2.2.2.1 (C.2.2.2.2.1 _ hw) hd (k p e s m args below meth c Q locs ls C hr hS hl)
theorem a_ldcw {i : Nat} (v : Int32) (hw : Cond.constant own i v ∈ wsT) (hd : decode cc pc = .ok (.ldc_w i, 3)) (k : AW G B l R own cc nL ini fin (pc + 3) lv (.int v :: st) H ce sl) : AW G B l R own cc nL ini fin pc lv st H ce sl := fun p e s m args below meth c Q locs ls C hr hS hl => lv_ldcw C.1 C.2.1 C.2.2.2.1 (C.2.2.2.2.1 _ hw) hd (k p e s m args below meth c Q locs ls C hr hS hl)
theorem a_ldc2 {i : Nat} (v : Int64) (hw : Cond.constantLong own i v ∈ wsT) (hd : decode cc pc = .ok (.ldc2_w i, 3)) (k : AW G B l R own cc nL ini fin (pc + 3) lv (.long v :: st) H ce sl) : AW G B l R own cc nL ini fin pc lv st H ce sl := fun p e s m args below meth c Q locs ls C hr hS hl => lv_ldc2 C.1 C.2.1 C.2.2.2.1 (C.2.2.2.2.1 _ hw) hd (k p e s m args below meth c Q locs ls C hr hS hl)
theorem a_lconst {n : Fin 2} (v : Int64) (hd : decode cc pc = .ok (.lconst n, 1)) (hv : Int64.ofNat (n : Nat) = v := by decide) (k : AW G B l R own cc nL ini fin (pc + 1) lv (.long v :: st) H ce sl) : AW G B l R own cc nL ini fin pc lv st H ce sl := fun p e s m args below meth c Q locs ls C hr hS hl => lv_lconst C.1 C.2.1 hd hv (k p e s m args below meth c Q locs ls C hr hS hl)
theorem a_iload_n {j : Fin 4} {i : Nat} {x : Int32} (q : Nat) (hd : decode cc pc = .ok (.iload_n j, 1)) (hi : (j : Nat) = i) (hk : lv[q]? = some (i, .int x)) (k : AW G B l R own cc nL ini fin (pc + 1) lv (.int x :: st) H ce sl) : AW G B l R own cc nL ini fin pc lv st H ce sl := fun p e s m args below meth c Q locs ls C hr hS hl => lv_iload_n C.1 C.2.1 hd hi (lv_at hl q hk) (k p e s m args below meth c Q locs ls C hr hS hl)
theorem a_iload {i : Nat} {x : Int32} (q : Nat) (hd : decode cc pc = .ok (.iload i, 2)) (hk : lv[q]? = some (i, .int x)) (k : AW G B l R own cc nL ini fin (pc + 2) lv (.int x :: st) H ce sl) : AW G B l R own cc nL ini fin pc lv st H ce sl := fun p e s m args below meth c Q locs ls C hr hS hl => lv_iload C.1 C.2.1 hd (lv_at hl q hk) (k p e s m args below meth c Q locs ls C hr hS hl)
theorem a_lload_n {j : Fin 4} {i : Nat} {x : Int64} (q : Nat) (hd : decode cc pc = .ok (.lload_n j, 1)) (hi : (j : Nat) = i) (hk : lv[q]? = some (i, .long x)) (k : AW G B l R own cc nL ini fin (pc + 1) lv (.long x :: st) H ce sl) : AW G B l R own cc nL ini fin pc lv st H ce sl := fun p e s m args below meth c Q locs ls C hr hS hl => lv_lload_n C.1 C.2.1 hd hi (lv_at hl q hk) (k p e s m args below meth c Q locs ls C hr hS hl)
theorem a_lload {i : Nat} {x : Int64} (q : Nat) (hd : decode cc pc = .ok (.lload i, 2)) (hk : lv[q]? = some (i, .long x)) (k : AW G B l R own cc nL ini fin (pc + 2) lv (.long x :: st) H ce sl) : AW G B l R own cc nL ini fin pc lv st H ce sl := fun p e s m args below meth c Q locs ls C hr hS hl => lv_lload C.1 C.2.1 hd (lv_at hl q hk) (k p e s m args below meth c Q locs ls C hr hS hl)
theorem a_aload_n {j : Fin 4} {i : Nat} {x : Nat} (q : Nat) (hd : decode cc pc = .ok (.aload_n j, 1)) (hi : (j : Nat) = i) (hk : lv[q]? = some (i, .ref x)) (k : AW G B l R own cc nL ini fin (pc + 1) lv (.ref x :: st) H ce sl) : AW G B l R own cc nL ini fin pc lv st H ce sl := fun p e s m args below meth c Q locs ls C hr hS hl => lv_aload_n C.1 C.2.1 hd hi (lv_at hl q hk) (k p e s m args below meth c Q locs ls C hr hS hl)
theorem a_aload {i : Nat} {x : Nat} (q : Nat) (hd : decode cc pc = .ok (.aload i, 2)) (hk : lv[q]? = some (i, .ref x)) (k : AW G B l R own cc nL ini fin (pc + 2) lv (.ref x :: st) H ce sl) : AW G B l R own cc nL ini fin pc lv st H ce sl := fun p e s m args below meth c Q locs ls C hr hS hl => lv_aload C.1 C.2.1 hd (lv_at hl q hk) (k p e s m args below meth c Q locs ls C hr hS hl)
theorem a_istore_n {j : Fin 4} {i : Nat} {x : Int32} (hd : decode cc pc = .ok (.istore_n j, 1)) (hi : (j : Nat) = i) (hn : i < nL) (hs : (i, Value.int x) :: lv.filter (fun q => !(q.1 == i) && !(q.1 + 1 == i && q.2.category == 2)) = lv') (k : AW G B l R own cc nL ini fin (pc + 1) lv' st H ce sl) : AW G B l R own cc nL ini fin pc lv (.int x :: st) H ce sl := fun p e s m args below meth c Q locs ls C hr hS hl => lv_istore_n C.1 C.2.1 hd hi hl hn hs (fun ls' hl' => k p e s m args below meth c Q locs ls' C hr hS hl')
theorem a_istore {i : Nat} {x : Int32} (hd : decode cc pc = .ok (.istore i, 2)) (hn : i < nL) (hs : (i, Value.int x) :: lv.filter (fun q => !(q.1 == i) && !(q.1 + 1 == i && q.2.category == 2)) = lv') (k : AW G B l R own cc nL ini fin (pc + 2) lv' st H ce sl) : AW G B l R own cc nL ini fin pc lv (.int x :: st) H ce sl := fun p e s m args below meth c Q locs ls C hr hS hl => lv_istore C.1 C.2.1 hd hl hn hs (fun ls' hl' => k p e s m args below meth c Q locs ls' C hr hS hl')
theorem a_astore_n {j : Fin 4} {i : Nat} {x : Nat} (hd : decode cc pc = .ok (.astore_n j, 1)) (hi : (j : Nat) = i) (hn : i < nL) (hs : (i, Value.ref x) :: lv.filter (fun q => !(q.1 == i) && !(q.1 + 1 == i && q.2.category == 2)) = lv') (k : AW G B l R own cc nL ini fin (pc + 1) lv' st H ce sl) : AW G B l R own cc nL ini fin pc lv (.ref x :: st) H ce sl := fun p e s m args below meth c Q locs ls C hr hS hl => lv_astore_n C.1 C.2.1 hd hi hl hn hs (fun ls' hl' => k p e s m args below meth c Q locs ls' C hr hS hl')
theorem a_astore {i : Nat} {x : Nat} (hd : decode cc pc = .ok (.astore i, 2)) (hn : i < nL) (hs : (i, Value.ref x) :: lv.filter (fun q => !(q.1 == i) && !(q.1 + 1 == i && q.2.category == 2)) = lv') (k : AW G B l R own cc nL ini fin (pc + 2) lv' st H ce sl) : AW G B l R own cc nL ini fin pc lv (.ref x :: st) H ce sl := fun p e s m args below meth c Q locs ls C hr hS hl => lv_astore C.1 C.2.1 hd hl hn hs (fun ls' hl' => k p e s m args below meth c Q locs ls' C hr hS hl')
theorem a_lstore_n {j : Fin 4} {i : Nat} {x : Int64} (hd : decode cc pc = .ok (.lstore_n j, 1)) (hi : (j : Nat) = i) (hn : i + 1 < nL) (hs : (i, Value.long x) :: lv.filter (fun q => !(q.1 == i) && (!(q.1 == i + 1) && !(q.1 + 1 == i && q.2.category == 2))) = lv') (k : AW G B l R own cc nL ini fin (pc + 1) lv' st H ce sl) : AW G B l R own cc nL ini fin pc lv (.long x :: st) H ce sl := fun p e s m args below meth c Q locs ls C hr hS hl => lv_lstore_n C.1 C.2.1 hd hi hl hn hs (fun ls' hl' => k p e s m args below meth c Q locs ls' C hr hS hl')
theorem a_lstore {i : Nat} {x : Int64} (hd : decode cc pc = .ok (.lstore i, 2)) (hn : i + 1 < nL) (hs : (i, Value.long x) :: lv.filter (fun q => !(q.1 == i) && (!(q.1 == i + 1) && !(q.1 + 1 == i && q.2.category == 2))) = lv') (k : AW G B l R own cc nL ini fin (pc + 2) lv' st H ce sl) : AW G B l R own cc nL ini fin pc lv (.long x :: st) H ce sl := fun p e s m args below meth c Q locs ls C hr hS hl => lv_lstore C.1 C.2.1 hd hl hn hs (fun ls' hl' => k p e s m args below meth c Q locs ls' C hr hS hl')
theorem a_iinc {i q : Nat} {n : Int} {x y : Int32} (hd : decode cc pc = .ok (.iinc i n, 3)) (hk : lv[q]? = some (i, .int x)) (hv : Int32.ofInt n = y) (hn : i < nL) (hs : (i, Value.int (x + y)) :: lv.filter (fun q => !(q.1 == i) && !(q.1 + 1 == i && q.2.category == 2)) = lv') (k : AW G B l R own cc nL ini fin (pc + 3) lv' st H ce sl) : AW G B l R own cc nL ini fin pc lv st H ce sl := fun p e s m args below meth c Q locs ls C hr hS hl => lv_iinc C.1 C.2.1 hd hl hk (by rw [hv]) hn hs (fun ls' hl' => k p e s m args below meth c Q locs ls' C hr hS hl')
theorem a_iincN {i q a : Nat} (hd : decode cc pc = .ok (.iinc i 1, 3)) (hk : lv[q]? = some (i, .int (nI a))) (hn : i < nL) (hs : (i, Value.int (nI (a + 1))) :: lv.filter (fun q => !(q.1 == i) && !(q.1 + 1 == i && q.2.category == 2)) = lv') (k : AW G B l R own cc nL ini fin (pc + 3) lv' st H ce sl) : AW G B l R own cc nL ini fin pc lv st H ce sl := fun p e s m args below meth c Q locs ls C hr hS hl => lv_iinc C.1 C.2.1 hd hl hk (nI_1 a) hn hs (fun ls' hl' => k p e s m args below meth c Q locs ls' C hr hS hl')
theorem a_iadd {x y : Int32} (hd : decode cc pc = .ok (.iadd, 1)) (k : AW G B l R own cc nL ini fin (pc + 1) lv (.int (x + y) :: st) H ce sl) : AW G B l R own cc nL ini fin pc lv (.int y :: .int x :: st) H ce sl := fun p e s m args below meth c Q locs ls C hr hS hl => lv_iadd C.1 C.2.1 hd (k p e s m args below meth c Q locs ls C hr hS hl)
theorem a_isub {x y : Int32} (hd : decode cc pc = .ok (.isub, 1)) (k : AW G B l R own cc nL ini fin (pc + 1) lv (.int (x - y) :: st) H ce sl) : AW G B l R own cc nL ini fin pc lv (.int y :: .int x :: st) H ce sl := fun p e s m args below meth c Q locs ls C hr hS hl => lv_isub C.1 C.2.1 hd (k p e s m args below meth c Q locs ls C hr hS hl)
theorem a_imul {x y : Int32} (hd : decode cc pc = .ok (.imul, 1)) (k : AW G B l R own cc nL ini fin (pc + 1) lv (.int (x * y) :: st) H ce sl) : AW G B l R own cc nL ini fin pc lv (.int y :: .int x :: st) H ce sl := fun p e s m args below meth c Q locs ls C hr hS hl => lv_imul C.1 C.2.1 hd (k p e s m args below meth c Q locs ls C hr hS hl)
theorem a_iand {x y : Int32} (hd : decode cc pc = .ok (.iand, 1)) (k : AW G B l R own cc nL ini fin (pc + 1) lv (.int (x &&& y) :: st) H ce sl) : AW G B l R own cc nL ini fin pc lv (.int y :: .int x :: st) H ce sl := fun p e s m args below meth c Q locs ls C hr hS hl => lv_iand C.1 C.2.1 hd (k p e s m args below meth c Q locs ls C hr hS hl)
theorem a_ior {x y : Int32} (hd : decode cc pc = .ok (.ior, 1)) (k : AW G B l R own cc nL ini fin (pc + 1) lv (.int (x ||| y) :: st) H ce sl) : AW G B l R own cc nL ini fin pc lv (.int y :: .int x :: st) H ce sl := fun p e s m args below meth c Q locs ls C hr hS hl => lv_ior C.1 C.2.1 hd (k p e s m args below meth c Q locs ls C hr hS hl)
theorem a_idiv {x y : Int32} (hd : decode cc pc = .ok (.idiv, 1)) (hy : ¬ y = 0) (k : AW G B l R own cc nL ini fin (pc + 1) lv (.int (x / y) :: st) H ce sl) : AW G B l R own cc nL ini fin pc lv (.int y :: .int x :: st) H ce sl := fun p e s m args below meth c Q locs ls C hr hS hl => lv_idiv C.1 C.2.1 hd hy (k p e s m args below meth c Q locs ls C hr hS hl)
theorem a_ladd {x y : Int64} (hd : decode cc pc = .ok (.ladd, 1)) (k : AW G B l R own cc nL ini fin (pc + 1) lv (.long (x + y) :: st) H ce sl) : AW G B l R own cc nL ini fin pc lv (.long y :: .long x :: st) H ce sl := fun p e s m args below meth c Q locs ls C hr hS hl => lv_ladd C.1 C.2.1 hd (k p e s m args below meth c Q locs ls C hr hS hl)
theorem a_lmul {x y : Int64} (hd : decode cc pc = .ok (.lmul, 1)) (k : AW G B l R own cc nL ini fin (pc + 1) lv (.long (x * y) :: st) H ce sl) : AW G B l R own cc nL ini fin pc lv (.long y :: .long x :: st) H ce sl := fun p e s m args below meth c Q locs ls C hr hS hl => lv_lmul C.1 C.2.1 hd (k p e s m args below meth c Q locs ls C hr hS hl)
theorem a_ldiv {x y : Int64} (hd : decode cc pc = .ok (.ldiv, 1)) (hy : ¬ y = 0) (k : AW G B l R own cc nL ini fin (pc + 1) lv (.long (x / y) :: st) H ce sl) : AW G B l R own cc nL ini fin pc lv (.long y :: .long x :: st) H ce sl := fun p e s m args below meth c Q locs ls C hr hS hl => lv_ldiv C.1 C.2.1 hd hy (k p e s m args below meth c Q locs ls C hr hS hl)
theorem a_ishl {x y : Int32} (hd : decode cc pc = .ok (.ishl, 1)) (k : AW G B l R own cc nL ini fin (pc + 1) lv (.int (x <<< (y &&& 31)) :: st) H ce sl) : AW G B l R own cc nL ini fin pc lv (.int y :: .int x :: st) H ce sl := fun p e s m args below meth c Q locs ls C hr hS hl => lv_ishl C.1 C.2.1 hd (k p e s m args below meth c Q locs ls C hr hS hl)
theorem a_ishr {x y : Int32} (hd : decode cc pc = .ok (.ishr, 1)) (k : AW G B l R own cc nL ini fin (pc + 1) lv (.int (x >>> (y &&& 31)) :: st) H ce sl) : AW G B l R own cc nL ini fin pc lv (.int y :: .int x :: st) H ce sl := fun p e s m args below meth c Q locs ls C hr hS hl => lv_ishr C.1 C.2.1 hd (k p e s m args below meth c Q locs ls C hr hS hl)
theorem a_irem {x y : Int32} (hd : decode cc pc = .ok (.irem, 1)) (hy : ¬ y = 0) (k : AW G B l R own cc nL ini fin (pc + 1) lv (.int (x % y) :: st) H ce sl) : AW G B l R own cc nL ini fin pc lv (.int y :: .int x :: st) H ce sl := fun p e s m args below meth c Q locs ls C hr hS hl => lv_irem C.1 C.2.1 hd hy (by rw [irem_eq_mod]; exact k p e s m args below meth c Q locs ls C hr hS hl)
theorem a_lrem {x y : Int64} (hd : decode cc pc = .ok (.lrem, 1)) (hy : ¬ y = 0) (k : AW G B l R own cc nL ini fin (pc + 1) lv (.long (x - x / y * y) :: st) H ce sl) : AW G B l R own cc nL ini fin pc lv (.long y :: .long x :: st) H ce sl := fun p e s m args below meth c Q locs ls C hr hS hl => lv_lrem C.1 C.2.1 hd hy (k p e s m args below meth c Q locs ls C hr hS hl)
theorem a_ineg {x : Int32} (hd : decode cc pc = .ok (.ineg, 1)) (k : AW G B l R own cc nL ini fin (pc + 1) lv (.int (-x) :: st) H ce sl) : AW G B l R own cc nL ini fin pc lv (.int x :: st) H ce sl := fun p e s m args below meth c Q locs ls C hr hS hl => lv_ineg C.1 C.2.1 hd (k p e s m args below meth c Q locs ls C hr hS hl)
theorem a_i2l {x : Int32} (hd : decode cc pc = .ok (.i2l, 1)) (k : AW G B l R own cc nL ini fin (pc + 1) lv (.long x.toInt64 :: st) H ce sl) : AW G B l R own cc nL ini fin pc lv (.int x :: st) H ce sl := fun p e s m args below meth c Q locs ls C hr hS hl => lv_i2l C.1 C.2.1 hd rfl (k p e s m args below meth c Q locs ls C hr hS hl)
theorem a_l2i {x : Int64} (hd : decode cc pc = .ok (.l2i, 1)) (k : AW G B l R own cc nL ini fin (pc + 1) lv (.int x.toInt32 :: st) H ce sl) : AW G B l R own cc nL ini fin pc lv (.long x :: st) H ce sl := fun p e s m args below meth c Q locs ls C hr hS hl => lv_l2i C.1 C.2.1 hd rfl (k p e s m args below meth c Q locs ls C hr hS hl)
theorem a_iaddN {a b : Nat} (hd : decode cc pc = .ok (.iadd, 1)) (k : AW G B l R own cc nL ini fin (pc + 1) lv (.int (nI (a + b)) :: st) H ce sl) : AW G B l R own cc nL ini fin pc lv (.int (nI b) :: .int (nI a) :: st) H ce sl := fun p e s m args below meth c Q locs ls C hr hS hl => lv_iadd C.1 C.2.1 hd (by rw [nI_add]; exact k p e s m args below meth c Q locs ls C hr hS hl)
theorem a_imulN {a b : Nat} (hd : decode cc pc = .ok (.imul, 1)) (k : AW G B l R own cc nL ini fin (pc + 1) lv (.int (nI (a * b)) :: st) H ce sl) : AW G B l R own cc nL ini fin pc lv (.int (nI b) :: .int (nI a) :: st) H ce sl := fun p e s m args below meth c Q locs ls C hr hS hl => lv_imul C.1 C.2.1 hd (by rw [pk_mul]; exact k p e s m args below meth c Q locs ls C hr hS hl)
theorem a_isubN {a b : Nat} (hd : decode cc pc = .ok (.isub, 1)) (hab : b ≤ a) (k : AW G B l R own cc nL ini fin (pc + 1) lv (.int (nI (a - b)) :: st) H ce sl) : AW G B l R own cc nL ini fin pc lv (.int (nI b) :: .int (nI a) :: st) H ce sl := fun p e s m args below meth c Q locs ls C hr hS hl => lv_isub C.1 C.2.1 hd (by rw [pk_sub hab]; exact k p e s m args below meth c Q locs ls C hr hS hl)
theorem a_topi {x : Int32}  (k : ∀ y : Int32, y = x → AW G B l R own cc nL ini fin pc lv (.int y :: st) H ce sl) : AW G B l R own cc nL ini fin pc lv (.int x :: st) H ce sl := fun p e s m args below meth c Q locs ls C hr hS hl => k x rfl p e s m args below meth c Q locs ls C hr hS hl
theorem a_toeq {x : Int32} (y : Int32) (h : x = y) (k : AW G B l R own cc nL ini fin pc lv (.int y :: st) H ce sl) : AW G B l R own cc nL ini fin pc lv (.int x :: st) H ce sl := fun p e s m args below meth c Q locs ls C hr hS hl => (by rw [h]; exact k p e s m args below meth c Q locs ls C hr hS hl)
theorem a_toeql {x : Int64} (y : Int64) (h : x = y) (k : AW G B l R own cc nL ini fin pc lv (.long y :: st) H ce sl) : AW G B l R own cc nL ini fin pc lv (.long x :: st) H ce sl := fun p e s m args below meth c Q locs ls C hr hS hl => (by rw [h]; exact k p e s m args below meth c Q locs ls C hr hS hl)
theorem a_dup {v : Value} (hd : decode cc pc = .ok (.dup, 1)) (hv : v.category = 1) (k : AW G B l R own cc nL ini fin (pc + 1) lv (v :: v :: st) H ce sl) : AW G B l R own cc nL ini fin pc lv (v :: st) H ce sl := fun p e s m args below meth c Q locs ls C hr hS hl => lv_dup C.1 C.2.1 hd hv (k p e s m args below meth c Q locs ls C hr hS hl)
theorem a_pop {v : Value} (hd : decode cc pc = .ok (.pop, 1)) (hv : v.category = 1) (k : AW G B l R own cc nL ini fin (pc + 1) lv st H ce sl) : AW G B l R own cc nL ini fin pc lv (v :: st) H ce sl := fun p e s m args below meth c Q locs ls C hr hS hl => lv_pop C.1 C.2.1 hd hv (k p e s m args below meth c Q locs ls C hr hS hl)
theorem a_dup2 {v w : Value} (hd : decode cc pc = .ok (.dup2, 1)) (hv : v.category = 1) (hw : w.category = 1) (k : AW G B l R own cc nL ini fin (pc + 1) lv (v :: w :: v :: w :: st) H ce sl) : AW G B l R own cc nL ini fin pc lv (v :: w :: st) H ce sl := fun p e s m args below meth c Q locs ls C hr hS hl => lv_dup2_11 C.1 C.2.1 hd hv hw (k p e s m args below meth c Q locs ls C hr hS hl)
theorem a_goto {off : Int} (tgt : Nat) (hd : decode cc pc = .ok (.goto off, 3)) (ht : (pc : Int) + off = (tgt : Int)) (k : AW G B l R own cc nL ini fin tgt lv st H ce sl) : AW G B l R own cc nL ini fin pc lv st H ce sl := fun p e s m args below meth c Q locs ls C hr hS hl => lv_goto C.1 C.2.1 hd ht (k p e s m args below meth c Q locs ls C hr hS hl)
theorem a_ifeq {x : Int32} {off : Int} (tgt : Nat) (hd : decode cc pc = .ok (.ifCond .eq off, 3)) (ht : (pc : Int) + off = (tgt : Int)) (kt : x = 0 → AW G B l R own cc nL ini fin tgt lv st H ce sl) (kf : ¬ x = 0 → AW G B l R own cc nL ini fin (pc + 3) lv st H ce sl) : AW G B l R own cc nL ini fin pc lv (.int x :: st) H ce sl := fun p e s m args below meth c Q locs ls C hr hS hl => lv_if_eq C.1 C.2.1 hd ht (fun hc => kt hc p e s m args below meth c Q locs ls C hr hS hl) (fun hc => kf hc p e s m args below meth c Q locs ls C hr hS hl)
theorem a_ifne {x : Int32} {off : Int} (tgt : Nat) (hd : decode cc pc = .ok (.ifCond .ne off, 3)) (ht : (pc : Int) + off = (tgt : Int)) (kt : ¬ x = 0 → AW G B l R own cc nL ini fin tgt lv st H ce sl) (kf : x = 0 → AW G B l R own cc nL ini fin (pc + 3) lv st H ce sl) : AW G B l R own cc nL ini fin pc lv (.int x :: st) H ce sl := fun p e s m args below meth c Q locs ls C hr hS hl => lv_if_ne C.1 C.2.1 hd ht (fun hc => kt hc p e s m args below meth c Q locs ls C hr hS hl) (fun hc => kf hc p e s m args below meth c Q locs ls C hr hS hl)
theorem a_iflt {x : Int32} {off : Int} (tgt : Nat) (hd : decode cc pc = .ok (.ifCond .lt off, 3)) (ht : (pc : Int) + off = (tgt : Int)) (kt : x < 0 → AW G B l R own cc nL ini fin tgt lv st H ce sl) (kf : ¬ x < 0 → AW G B l R own cc nL ini fin (pc + 3) lv st H ce sl) : AW G B l R own cc nL ini fin pc lv (.int x :: st) H ce sl := fun p e s m args below meth c Q locs ls C hr hS hl => lv_if_lt C.1 C.2.1 hd ht (fun hc => kt hc p e s m args below meth c Q locs ls C hr hS hl) (fun hc => kf hc p e s m args below meth c Q locs ls C hr hS hl)
theorem a_ifge {x : Int32} {off : Int} (tgt : Nat) (hd : decode cc pc = .ok (.ifCond .ge off, 3)) (ht : (pc : Int) + off = (tgt : Int)) (kt : 0 ≤ x → AW G B l R own cc nL ini fin tgt lv st H ce sl) (kf : ¬ 0 ≤ x → AW G B l R own cc nL ini fin (pc + 3) lv st H ce sl) : AW G B l R own cc nL ini fin pc lv (.int x :: st) H ce sl := fun p e s m args below meth c Q locs ls C hr hS hl => lv_if_ge C.1 C.2.1 hd ht (fun hc => kt hc p e s m args below meth c Q locs ls C hr hS hl) (fun hc => kf hc p e s m args below meth c Q locs ls C hr hS hl)
theorem a_ifgt {x : Int32} {off : Int} (tgt : Nat) (hd : decode cc pc = .ok (.ifCond .gt off, 3)) (ht : (pc : Int) + off = (tgt : Int)) (kt : 0 < x → AW G B l R own cc nL ini fin tgt lv st H ce sl) (kf : ¬ 0 < x → AW G B l R own cc nL ini fin (pc + 3) lv st H ce sl) : AW G B l R own cc nL ini fin pc lv (.int x :: st) H ce sl := fun p e s m args below meth c Q locs ls C hr hS hl => lv_if_gt C.1 C.2.1 hd ht (fun hc => kt hc p e s m args below meth c Q locs ls C hr hS hl) (fun hc => kf hc p e s m args below meth c Q locs ls C hr hS hl)
theorem a_ifle {x : Int32} {off : Int} (tgt : Nat) (hd : decode cc pc = .ok (.ifCond .le off, 3)) (ht : (pc : Int) + off = (tgt : Int)) (kt : x ≤ 0 → AW G B l R own cc nL ini fin tgt lv st H ce sl) (kf : ¬ x ≤ 0 → AW G B l R own cc nL ini fin (pc + 3) lv st H ce sl) : AW G B l R own cc nL ini fin pc lv (.int x :: st) H ce sl := fun p e s m args below meth c Q locs ls C hr hS hl => lv_if_le C.1 C.2.1 hd ht (fun hc => kt hc p e s m args below meth c Q locs ls C hr hS hl) (fun hc => kf hc p e s m args below meth c Q locs ls C hr hS hl)
theorem a_icmpeq {x y : Int32} {off : Int} (tgt : Nat) (hd : decode cc pc = .ok (.if_icmp .eq off, 3)) (ht : (pc : Int) + off = (tgt : Int)) (kt : x = y → AW G B l R own cc nL ini fin tgt lv st H ce sl) (kf : ¬ x = y → AW G B l R own cc nL ini fin (pc + 3) lv st H ce sl) : AW G B l R own cc nL ini fin pc lv (.int y :: .int x :: st) H ce sl := fun p e s m args below meth c Q locs ls C hr hS hl => lv_icmp_eq C.1 C.2.1 hd ht (fun hc => kt hc p e s m args below meth c Q locs ls C hr hS hl) (fun hc => kf hc p e s m args below meth c Q locs ls C hr hS hl)
theorem a_icmpne {x y : Int32} {off : Int} (tgt : Nat) (hd : decode cc pc = .ok (.if_icmp .ne off, 3)) (ht : (pc : Int) + off = (tgt : Int)) (kt : ¬ x = y → AW G B l R own cc nL ini fin tgt lv st H ce sl) (kf : x = y → AW G B l R own cc nL ini fin (pc + 3) lv st H ce sl) : AW G B l R own cc nL ini fin pc lv (.int y :: .int x :: st) H ce sl := fun p e s m args below meth c Q locs ls C hr hS hl => lv_icmp_ne C.1 C.2.1 hd ht (fun hc => kt hc p e s m args below meth c Q locs ls C hr hS hl) (fun hc => kf hc p e s m args below meth c Q locs ls C hr hS hl)
theorem a_icmplt {x y : Int32} {off : Int} (tgt : Nat) (hd : decode cc pc = .ok (.if_icmp .lt off, 3)) (ht : (pc : Int) + off = (tgt : Int)) (kt : x < y → AW G B l R own cc nL ini fin tgt lv st H ce sl) (kf : ¬ x < y → AW G B l R own cc nL ini fin (pc + 3) lv st H ce sl) : AW G B l R own cc nL ini fin pc lv (.int y :: .int x :: st) H ce sl := fun p e s m args below meth c Q locs ls C hr hS hl => lv_icmp_lt C.1 C.2.1 hd ht (fun hc => kt hc p e s m args below meth c Q locs ls C hr hS hl) (fun hc => kf hc p e s m args below meth c Q locs ls C hr hS hl)
theorem a_icmpge {x y : Int32} {off : Int} (tgt : Nat) (hd : decode cc pc = .ok (.if_icmp .ge off, 3)) (ht : (pc : Int) + off = (tgt : Int)) (kt : y ≤ x → AW G B l R own cc nL ini fin tgt lv st H ce sl) (kf : ¬ y ≤ x → AW G B l R own cc nL ini fin (pc + 3) lv st H ce sl) : AW G B l R own cc nL ini fin pc lv (.int y :: .int x :: st) H ce sl := fun p e s m args below meth c Q locs ls C hr hS hl => lv_icmp_ge C.1 C.2.1 hd ht (fun hc => kt hc p e s m args below meth c Q locs ls C hr hS hl) (fun hc => kf hc p e s m args below meth c Q locs ls C hr hS hl)
theorem a_icmpgt {x y : Int32} {off : Int} (tgt : Nat) (hd : decode cc pc = .ok (.if_icmp .gt off, 3)) (ht : (pc : Int) + off = (tgt : Int)) (kt : y < x → AW G B l R own cc nL ini fin tgt lv st H ce sl) (kf : ¬ y < x → AW G B l R own cc nL ini fin (pc + 3) lv st H ce sl) : AW G B l R own cc nL ini fin pc lv (.int y :: .int x :: st) H ce sl := fun p e s m args below meth c Q locs ls C hr hS hl => lv_icmp_gt C.1 C.2.1 hd ht (fun hc => kt hc p e s m args below meth c Q locs ls C hr hS hl) (fun hc => kf hc p e s m args below meth c Q locs ls C hr hS hl)
theorem a_icmple {x y : Int32} {off : Int} (tgt : Nat) (hd : decode cc pc = .ok (.if_icmp .le off, 3)) (ht : (pc : Int) + off = (tgt : Int)) (kt : x ≤ y → AW G B l R own cc nL ini fin tgt lv st H ce sl) (kf : ¬ x ≤ y → AW G B l R own cc nL ini fin (pc + 3) lv st H ce sl) : AW G B l R own cc nL ini fin pc lv (.int y :: .int x :: st) H ce sl := fun p e s m args below meth c Q locs ls C hr hS hl => lv_icmp_le C.1 C.2.1 hd ht (fun hc => kt hc p e s m args below meth c Q locs ls C hr hS hl) (fun hc => kf hc p e s m args below meth c Q locs ls C hr hS hl)
theorem a_icmpeqN {a b : Nat} {off : Int} (tgt : Nat) (hd : decode cc pc = .ok (.if_icmp .eq off, 3)) (ht : (pc : Int) + off = (tgt : Int)) (ha : a < 2 ^ 31) (hb : b < 2 ^ 31) (kt : a = b → AW G B l R own cc nL ini fin tgt lv st H ce sl) (kf : a ≠ b → AW G B l R own cc nL ini fin (pc + 3) lv st H ce sl) : AW G B l R own cc nL ini fin pc lv (.int (nI b) :: .int (nI a) :: st) H ce sl := fun p e s m args below meth c Q locs ls C hr hS hl => lv_icmp_eq C.1 C.2.1 hd ht (fun hc => kt ((nI_eq ha hb).mp hc) p e s m args below meth c Q locs ls C hr hS hl) (fun hc => kf (fun h => hc ((nI_eq ha hb).mpr h)) p e s m args below meth c Q locs ls C hr hS hl)
theorem a_icmpneN {a b : Nat} {off : Int} (tgt : Nat) (hd : decode cc pc = .ok (.if_icmp .ne off, 3)) (ht : (pc : Int) + off = (tgt : Int)) (ha : a < 2 ^ 31) (hb : b < 2 ^ 31) (kt : a ≠ b → AW G B l R own cc nL ini fin tgt lv st H ce sl) (kf : a = b → AW G B l R own cc nL ini fin (pc + 3) lv st H ce sl) : AW G B l R own cc nL ini fin pc lv (.int (nI b) :: .int (nI a) :: st) H ce sl := fun p e s m args below meth c Q locs ls C hr hS hl => lv_icmp_ne C.1 C.2.1 hd ht (fun hc => kt (fun h => hc ((nI_eq ha hb).mpr h)) p e s m args below meth c Q locs ls C hr hS hl) (fun hc => kf ((nI_eq ha hb).mp hc) p e s m args below meth c Q locs ls C hr hS hl)
theorem a_icmpltN {a b : Nat} {off : Int} (tgt : Nat) (hd : decode cc pc = .ok (.if_icmp .lt off, 3)) (ht : (pc : Int) + off = (tgt : Int)) (ha : a < 2 ^ 31) (hb : b < 2 ^ 31) (kt : a < b → AW G B l R own cc nL ini fin tgt lv st H ce sl) (kf : b ≤ a → AW G B l R own cc nL ini fin (pc + 3) lv st H ce sl) : AW G B l R own cc nL ini fin pc lv (.int (nI b) :: .int (nI a) :: st) H ce sl := fun p e s m args below meth c Q locs ls C hr hS hl => lv_icmp_lt C.1 C.2.1 hd ht (fun hc => kt ((nI_ltI ha hb).mp hc) p e s m args below meth c Q locs ls C hr hS hl) (fun hc => kf (Nat.not_lt.mp fun h => hc ((nI_ltI ha hb).mpr h)) p e s m args below meth c Q locs ls C hr hS hl)
theorem a_icmpgeN {a b : Nat} {off : Int} (tgt : Nat) (hd : decode cc pc = .ok (.if_icmp .ge off, 3)) (ht : (pc : Int) + off = (tgt : Int)) (ha : a < 2 ^ 31) (hb : b < 2 ^ 31) (kt : b ≤ a → AW G B l R own cc nL ini fin tgt lv st H ce sl) (kf : a < b → AW G B l R own cc nL ini fin (pc + 3) lv st H ce sl) : AW G B l R own cc nL ini fin pc lv (.int (nI b) :: .int (nI a) :: st) H ce sl := fun p e s m args below meth c Q locs ls C hr hS hl => lv_icmp_ge C.1 C.2.1 hd ht (fun hc => kt ((nI_leI hb ha).mp hc) p e s m args below meth c Q locs ls C hr hS hl) (fun hc => kf (Nat.not_le.mp fun h => hc ((nI_leI hb ha).mpr h)) p e s m args below meth c Q locs ls C hr hS hl)
theorem a_icmpgtN {a b : Nat} {off : Int} (tgt : Nat) (hd : decode cc pc = .ok (.if_icmp .gt off, 3)) (ht : (pc : Int) + off = (tgt : Int)) (ha : a < 2 ^ 31) (hb : b < 2 ^ 31) (kt : b < a → AW G B l R own cc nL ini fin tgt lv st H ce sl) (kf : a ≤ b → AW G B l R own cc nL ini fin (pc + 3) lv st H ce sl) : AW G B l R own cc nL ini fin pc lv (.int (nI b) :: .int (nI a) :: st) H ce sl := fun p e s m args below meth c Q locs ls C hr hS hl => lv_icmp_gt C.1 C.2.1 hd ht (fun hc => kt ((nI_ltI hb ha).mp hc) p e s m args below meth c Q locs ls C hr hS hl) (fun hc => kf (Nat.not_lt.mp fun h => hc ((nI_ltI hb ha).mpr h)) p e s m args below meth c Q locs ls C hr hS hl)
theorem a_icmpleN {a b : Nat} {off : Int} (tgt : Nat) (hd : decode cc pc = .ok (.if_icmp .le off, 3)) (ht : (pc : Int) + off = (tgt : Int)) (ha : a < 2 ^ 31) (hb : b < 2 ^ 31) (kt : a ≤ b → AW G B l R own cc nL ini fin tgt lv st H ce sl) (kf : b < a → AW G B l R own cc nL ini fin (pc + 3) lv st H ce sl) : AW G B l R own cc nL ini fin pc lv (.int (nI b) :: .int (nI a) :: st) H ce sl := fun p e s m args below meth c Q locs ls C hr hS hl => lv_icmp_le C.1 C.2.1 hd ht (fun hc => kt ((nI_leI ha hb).mp hc) p e s m args below meth c Q locs ls C hr hS hl) (fun hc => kf (Nat.not_le.mp fun h => hc ((nI_leI ha hb).mpr h)) p e s m args below meth c Q locs ls C hr hS hl)
theorem a_ifeqB {b : Bool} {off : Int} (tgt : Nat) (hd : decode cc pc = .ok (.ifCond .eq off, 3)) (ht : (pc : Int) + off = (tgt : Int)) (kt : b = false → AW G B l R own cc nL ini fin tgt lv st H ce sl) (kf : b = true → AW G B l R own cc nL ini fin (pc + 3) lv st H ce sl) : AW G B l R own cc nL ini fin pc lv (.int (bI b) :: st) H ce sl := fun p e s m args below meth c Q locs ls C hr hS hl => lv_if_eq C.1 C.2.1 hd ht (fun hc => kt (bI_zero.mp hc) p e s m args below meth c Q locs ls C hr hS hl) (fun hc => kf (Bool.not_eq_false _ |>.mp fun h => hc (bI_zero.mpr h)) p e s m args below meth c Q locs ls C hr hS hl)
theorem a_ifneB {b : Bool} {off : Int} (tgt : Nat) (hd : decode cc pc = .ok (.ifCond .ne off, 3)) (ht : (pc : Int) + off = (tgt : Int)) (kt : b = true → AW G B l R own cc nL ini fin tgt lv st H ce sl) (kf : b = false → AW G B l R own cc nL ini fin (pc + 3) lv st H ce sl) : AW G B l R own cc nL ini fin pc lv (.int (bI b) :: st) H ce sl := fun p e s m args below meth c Q locs ls C hr hS hl => lv_if_ne C.1 C.2.1 hd ht (fun hc => kt (Bool.not_eq_false _ |>.mp fun h => hc (bI_zero.mpr h)) p e s m args below meth c Q locs ls C hr hS hl) (fun hc => kf (bI_zero.mp hc) p e s m args below meth c Q locs ls C hr hS hl)
theorem a_tabOut {dflt lo hi : Int} {offs : Array Int} {len : Nat} {x : Int32} (tgt : Nat) (hd : decode cc pc = .ok (.tableswitch dflt lo hi offs, len)) (h : x.toInt < lo ∨ hi < x.toInt) (ht : (pc : Int) + dflt = (tgt : Int)) (k : AW G B l R own cc nL ini fin tgt lv st H ce sl) : AW G B l R own cc nL ini fin pc lv (.int x :: st) H ce sl := fun p e s m args below meth c Q locs ls C hr hS hl => lv_tableOut C.1 C.2.1 hd h ht (k p e s m args below meth c Q locs ls C hr hS hl)
theorem a_tabIn {dflt lo hi off : Int} {offs : Array Int} {len : Nat} {x : Int32} (tgt : Nat) (hd : decode cc pc = .ok (.tableswitch dflt lo hi offs, len)) (h1 : ¬ x.toInt < lo) (h2 : ¬ hi < x.toInt) (ho : offs[(x.toInt - lo).toNat]? = some off) (ht : (pc : Int) + off = (tgt : Int)) (k : AW G B l R own cc nL ini fin tgt lv st H ce sl) : AW G B l R own cc nL ini fin pc lv (.int x :: st) H ce sl := fun p e s m args below meth c Q locs ls C hr hS hl => lv_tableIn C.1 C.2.1 hd h1 h2 ho ht (k p e s m args below meth c Q locs ls C hr hS hl)
/-- a field's place: class, slot; and the pool entry of the method's class that names it -/
def FL (own : String) (idx ci f : Nat) : Prop := ∃ (C : String) (T : u_T) (N : Nat), vwCl[ci]? = some (C, T, N) ∧ f < N ∧ (∀ w ∈ u_ws C T N, w ∈ wsT) ∧ (Cond.fieldLink own idx (T f).1 (T f).2.1 (T f).2.2.1 ∈ wsT ∨ ∃ host : String, Cond.fieldLinkNest own idx (T f).1 (T f).2.1 (T f).2.2.1 host ∈ nsW)
/-- and what may be put there -/
def FP (own : String) (idx ci f : Nat) (ty : FieldType) (ini : Bool) : Prop := ∃ (C : String) (T : u_T) (N : Nat) (ty0 : Nat → FieldType), vwCl[ci]? = some (C, T, N) ∧ (∀ k, k < N → parseFieldDescriptor (T k).2.2.1 = some (ty0 k)) ∧ (∀ a, a < N → ∀ b, b < N → a ≠ b → (T a).2.1 ≠ (T b).2.1) ∧ parseFieldDescriptor (T f).2.2.1 = some ty ∧ ((T f).2.2.2 = false ∨ ((T f).2.2.2 = true ∧ ini = true ∧ (T f).1 = own ∧ Cond.fieldLink own idx (T f).1 (T f).2.1 (T f).2.2.1 ∈ wsT))
theorem a_get {idx a ci f : Nat} {fs : List Value} {v : Value} (hf : FL own idx ci f) (hd : decode cc pc = .ok (.getfield idx, 3)) (ho : Ob G H a ci fs) (hv : fs[f]? = some v) (k : AW G B l R own cc nL ini fin (pc + 3) lv (v :: st) H ce sl) : AW G B l R own cc nL ini fin pc lv (.ref a :: st) H ce sl := by
  intro p e s m args below meth c Q locs ls C hr hS hl
  obtain ⟨C0, T, N, h1, h2, h3, h4⟩ := hf
  have hP1 : va_P G.1 vwCl [(a, .inr (ci, fs))] H := fun j q hq => by
    cases j with
    | zero => cases hq; exact ho
    | succ j => simp at hq
  rcases h4 with h4 | ⟨host, h4⟩
  · exact va_get (ws := [(a, .inr (ci, fs))]) C.1 C.2.1 C.2.2.2.2.1 h3 C.2.2.2.1 C.2.2.2.2.2.1.1 hP1 0 rfl h1 f h2 (C.2.2.2.2.1 _ h4) (fun _ h => h) hv hd (k p e s m args below meth c Q locs ls C hr hS hl)
  · exact va_getN (ws := [(a, .inr (ci, fs))]) C.1 C.2.1 C.2.2.2.2.1 h3 C.2.2.2.1 C.2.2.2.2.2.1.1 hP1 0 rfl h1 f h2 (va_Nw.use rfl (C.2.2.2.2.2.1.2.2.2 _ h4)) (fun _ h => h) hv hd (k p e s m args below meth c Q locs ls C hr hS hl)
theorem a_put {idx a ci f : Nat} {fs : List Value} {v : Value} {ty : FieldType} (hf : FL own idx ci f) (hp : FP own idx ci f ty ini) (hd : decode cc pc = .ok (.putfield idx, 3)) (ho : Ob G H a ci fs) (hfs : f < fs.length) (hn : narrow ty v = v) (hfit : fits ty v = true) (hB : B ≤ a)
    (k : ∀ H1 : Heap, Ob G H1 a ci (fs.set f v) → H1.size = H.size → (∀ q, q ≠ a → H1[q]? = H[q]?) → AW G B l R own cc nL ini fin (pc + 3) lv st H1 ce sl) : AW G B l R own cc nL ini fin pc lv (v :: .ref a :: st) H ce sl := by
  intro p e s m args below meth c Q locs ls C hr hS hl
  obtain ⟨C0, T, N, hc, hk, hin, hlink⟩ := hf
  obtain ⟨C1, T1, N1, ty0, hc1, hty, hnm, hdd, hfin⟩ := hp
  cases hc.symm.trans hc1
  have hts := C.2.2.2.2.1
  have hK := C.2.2.2.2.2.1.1
  have hap := va_apart (own := own) hts hin ty0 hty hnm hK hc
  obtain ⟨r, h1, cell, q1, q2, q3, q4⟩ := ho
  have hr' : r = (C0, T, N) := Option.some.inj (h1.symm.trans hc)
  subst hr'
  obtain ⟨hSl, hfc, kC, hkC, hkind⟩ := hK.1 ci _ hc
  obtain ⟨cf, kf, fi, fd, hi, hsl⟩ := hSl f hk
  have hst := (u_facts hfc hkC (u_lays hts hin hk) hi).1
  have hlay := hts _ (hin _ (u_in_lay hk))
  unfold u_lay at hlay
  rcases hfin with hfin | ⟨hfin, hini, hdecl, hlink⟩
  · rw [if_neg (by rw [hfin]; decide)] at hlay
    have h6 := u_store hfc hkC hkind hlay hi hdd hn hfit
    rcases hlink with hlink | ⟨host, hlink⟩
    · refine W.putK C.1 C.2.1 (f := fd) ⟨C.2.2.2.1, hts _ hlink, ⟨_, _, _, hi⟩, hst⟩ (by rw [q2]; exact h6) q1 q3 (by rw [hsl]; exact k2_hasslot (q4 f hk)) rfl rfl hd fun H' e1 e2 e3 => ?_
      rw [hsl] at e1 ⊢
      exact k H' ⟨_, hc, t_OB.to (V := updV (vp_V fs) f v) ⟨_, e1, q2, q3, t_set q4 hap hk v⟩ (fun j _ => vp_updV_set hfs v j)⟩ e2 e3 p e s m args below meth c Q _ ls C hr (hS.put e2 e3 hB) hl
    · refine va_WputK C.1 C.2.1 (f := fd) C.2.2.2.1 (va_Nw.use rfl (C.2.2.2.2.2.1.2.2.2 _ hlink)) hi hst (by rw [q2]; exact h6) q1 q3 (by rw [hsl]; exact k2_hasslot (q4 f hk)) rfl rfl hd fun H' e1 e2 e3 => ?_
      rw [hsl] at e1 ⊢
      exact k H' ⟨_, hc, t_OB.to (V := updV (vp_V fs) f v) ⟨_, e1, q2, q3, t_set q4 hap hk v⟩ (fun j _ => vp_updV_set hfs v j)⟩ e2 e3 p e s m args below meth c Q _ ls C hr (hS.put e2 e3 hB) hl
  · rw [if_pos hfin] at hlay
    have hcf : m.cls = cf := by
      obtain ⟨_, _, c', _, _, _, -, -, hf', -, -, -, hown2, -⟩ := Cond.laysFinal_spec hlay
      have e1 : c' = cf := by have := hi.symm.trans hf'; simp at this; exact this.1.symm
      rw [hdecl] at hown2
      rw [← e1]; exact Option.some.inj (C.2.2.2.1.symm.trans hown2)
    have h6 := u_fits hfc hkC hkind (Or.inr hlay) hi hdd hn hfit
    refine W.putFinK C.1 C.2.1 C.2.2.2.1 (hts _ hlink) hi hst hcf (C.2.2.2.2.2.2.1 hini) (by rw [q2]; exact h6) q1 q3 (by rw [hsl]; exact k2_hasslot (q4 f hk)) rfl rfl hd fun H' e1 e2 e3 => ?_
    rw [hsl] at e1 ⊢
    exact k H' ⟨_, hc, t_OB.to (V := updV (vp_V fs) f v) ⟨_, e1, q2, q3, t_set q4 hap hk v⟩ (fun j _ => vp_updV_set hfs v j)⟩ e2 e3 p e s m args below meth c Q _ ls C hr (hS.put e2 e3 hB) hl

theorem a_iald {a n : Nat} {f : Nat → Int32} {i : Int32} (hd : decode cc pc = .ok (.iaload, 1)) (ho : Ai G H a n f) (hi : vp_in i n) (k : AW G B l R own cc nL ini fin (pc + 1) lv (.int (f i.toNatClampNeg) :: st) H ce sl) : AW G B l R own cc nL ini fin pc lv (.int i :: .ref a :: st) H ce sl := by
  intro p e s m args below meth c Q locs ls C hr hS hl
  have hlt : i.toNatClampNeg < n := Nat.not_le.mp fun q => hi (Or.inr q)
  exact W.iald (v := .int (f i.toNatClampNeg)) C.1 C.2.1 ho ((C.2.2.2.2.2.1.1.2 0 _ rfl).1 n (fun j => .int (f j))) (fun q => by cases q) (by show ¬ (i < 0 ∨ (arrV _ _ _).slots.size ≤ _); rw [arrV_size]; exact hi) (by show (arrV _ _ _).slots[_]? = _; rw [arrV_read _ _ hlt]) rfl rfl hd (k p e s m args below meth c Q locs ls C hr hS hl)
theorem a_lald {a n : Nat} {f : Nat → Int64} {i : Int32} (hd : decode cc pc = .ok (.laload, 1)) (ho : Al G H a n f) (hi : vp_in i n) (k : AW G B l R own cc nL ini fin (pc + 1) lv (.long (f i.toNatClampNeg) :: st) H ce sl) : AW G B l R own cc nL ini fin pc lv (.int i :: .ref a :: st) H ce sl := by
  intro p e s m args below meth c Q locs ls C hr hS hl
  have hlt : i.toNatClampNeg < n := Nat.not_le.mp fun q => hi (Or.inr q)
  exact W.lald (v := .long (f i.toNatClampNeg)) C.1 C.2.1 ho ((C.2.2.2.2.2.1.1.2 1 _ rfl).1 n (fun j => .long (f j))) (fun q => by cases q) (by show ¬ (i < 0 ∨ (arrV _ _ _).slots.size ≤ _); rw [arrV_size]; exact hi) (by show (arrV _ _ _).slots[_]? = _; rw [arrV_read _ _ hlt]) rfl rfl hd (k p e s m args below meth c Q locs ls C hr hS hl)
theorem a_zald {a n : Nat} {f : Nat → Int32} {i : Int32} (hd : decode cc pc = .ok (.baload, 1)) (ho : Az G H a n f) (hi : vp_in i n) (k : AW G B l R own cc nL ini fin (pc + 1) lv (.int (f i.toNatClampNeg) :: st) H ce sl) : AW G B l R own cc nL ini fin pc lv (.int i :: .ref a :: st) H ce sl := by
  intro p e s m args below meth c Q locs ls C hr hS hl
  have hlt : i.toNatClampNeg < n := Nat.not_le.mp fun q => hi (Or.inr q)
  exact W.zald (v := .int (f i.toNatClampNeg)) C.1 C.2.1 ho ((C.2.2.2.2.2.1.1.2 2 _ rfl).1 n (fun j => .int (f j))) (fun q => by cases q) (by show ¬ (i < 0 ∨ (arrV _ _ _).slots.size ≤ _); rw [arrV_size]; exact hi) (by show (arrV _ _ _).slots[_]? = _; rw [arrV_read _ _ hlt]) rfl rfl hd (k p e s m args below meth c Q locs ls C hr hS hl)
theorem a_ialdN {a n j : Nat} {f : Nat → Int32} (hd : decode cc pc = .ok (.iaload, 1)) (ho : Ai G H a n f) (hj : j < n) (hn : n < 2 ^ 31) (k : AW G B l R own cc nL ini fin (pc + 1) lv (.int (f j) :: st) H ce sl) : AW G B l R own cc nL ini fin pc lv (.int (nI j) :: .ref a :: st) H ce sl :=
  a_iald hd ho (vp_in_nI hj hn) (by rw [nI_clamp (Nat.lt_trans hj hn)]; exact k)
theorem a_aald {a n t j x : Nat} {C0 : String} {f : Nat → Option Nat} (ht : ∀ G : GT, (aTys G)[t]? = some (G.2 t, .object C0)) (hd : decode cc pc = .ok (.aaload, 1)) (ho : Aq G H a t n f) (hj : j < n) (hn : n < 2 ^ 31) (hx : f j = some x) (k : AW G B l R own cc nL ini fin (pc + 1) lv (.ref x :: st) H ce sl) : AW G B l R own cc nL ini fin pc lv (.int (nI j) :: .ref a :: st) H ce sl := by
  intro p e s m args below meth c Q locs ls C hr hS hl
  have hi := vp_in_nI hj hn
  have hlt : (nI j).toNatClampNeg < n := Nat.not_le.mp fun q => hi (Or.inr q)
  have hv : va_rf (f (nI j).toNatClampNeg) = .ref x := by rw [nI_clamp (Nat.lt_trans hj hn), hx]; rfl
  exact W.aald (v := .ref x) (ty := .object C0) C.1 C.2.1 ho ((C.2.2.2.2.2.1.1.2 t _ (ht G)).1 n (fun j => va_rf (f j))) rfl (fun q => by cases q) (by show ¬ (nI j < 0 ∨ (arrV _ _ _).slots.size ≤ _); rw [arrV_size]; exact hi) (by show (arrV _ _ _).slots[_]? = _; rw [arrV_read _ _ hlt, hv]) rfl rfl hd (k p e s m args below meth c Q locs ls C hr hS hl)
theorem a_iast {a n : Nat} {f : Nat → Int32} {i : Int32} {x : Int32} (hd : decode cc pc = .ok (.iastore, 1)) (ho : Ai G H a n f) (hi : vp_in i n) (hB : B ≤ a)
    (k : ∀ H1 : Heap, Ai G H1 a n (upd f i.toNatClampNeg x) → H1.size = H.size → (∀ q, q ≠ a → H1[q]? = H[q]?) → AW G B l R own cc nL ini fin (pc + 1) lv st H1 ce sl) : AW G B l R own cc nL ini fin pc lv (.int x :: .int i :: .ref a :: st) H ce sl := by
  intro p e s m args below meth c Q locs ls C hr hS hl
  refine W.iast C.1 C.2.1 ho ((C.2.2.2.2.2.1.1.2 0 _ rfl).1 n (fun j => .int (f j))) (fun q => by cases q) (by show ¬ (i < 0 ∨ (arrV _ _ _).slots.size ≤ _); rw [arrV_size]; exact hi) rfl rfl hd fun H1 e z oq => ?_
  refine k H1 ?_ z oq p _ s m args below meth c Q _ ls C hr (hS.put z oq hB) hl
  refine e.trans ?_
  rw [arrV_store]
  congr 2
  funext q
  by_cases hq : q = i.toNatClampNeg
  · subst hq
    simp [updV, upd]
  · simp [updV, upd, hq]
theorem a_last {a n : Nat} {f : Nat → Int64} {i : Int32} {x : Int64} (hd : decode cc pc = .ok (.lastore, 1)) (ho : Al G H a n f) (hi : vp_in i n) (hB : B ≤ a)
    (k : ∀ H1 : Heap, Al G H1 a n (vp_updL f i.toNatClampNeg x) → H1.size = H.size → (∀ q, q ≠ a → H1[q]? = H[q]?) → AW G B l R own cc nL ini fin (pc + 1) lv st H1 ce sl) : AW G B l R own cc nL ini fin pc lv (.long x :: .int i :: .ref a :: st) H ce sl := by
  intro p e s m args below meth c Q locs ls C hr hS hl
  refine W.last C.1 C.2.1 ho ((C.2.2.2.2.2.1.1.2 1 _ rfl).1 n (fun j => .long (f j))) (fun q => by cases q) (by show ¬ (i < 0 ∨ (arrV _ _ _).slots.size ≤ _); rw [arrV_size]; exact hi) rfl rfl hd fun H1 e z oq => ?_
  refine k H1 ?_ z oq p _ s m args below meth c Q _ ls C hr (hS.put z oq hB) hl
  refine e.trans ?_
  rw [arrV_store]
  congr 2
  funext q
  by_cases hq : q = i.toNatClampNeg
  · subst hq
    simp [updV, vp_updL]
  · simp [updV, vp_updL, hq]
theorem a_iastN {a n j : Nat} {f : Nat → Int32} {x : Int32} (hd : decode cc pc = .ok (.iastore, 1)) (ho : Ai G H a n f) (hj : j < n) (hn : n < 2 ^ 31) (hB : B ≤ a)
    (k : ∀ H1 : Heap, Ai G H1 a n (upd f j x) → H1.size = H.size → (∀ q, q ≠ a → H1[q]? = H[q]?) → AW G B l R own cc nL ini fin (pc + 1) lv st H1 ce sl) : AW G B l R own cc nL ini fin pc lv (.int x :: .int (nI j) :: .ref a :: st) H ce sl :=
  a_iast hd ho (vp_in_nI hj hn) hB (fun H1 h => k H1 (by rw [nI_clamp (Nat.lt_trans hj hn)] at h; exact h))
theorem a_zast {a n : Nat} {f : Nat → Int32} {i : Int32} {b : Bool} (hd : decode cc pc = .ok (.bastore, 1)) (ho : Az G H a n f) (hi : vp_in i n) (hB : B ≤ a)
    (k : ∀ H1 : Heap, Az G H1 a n (upd f i.toNatClampNeg (bI b)) → H1.size = H.size → (∀ q, q ≠ a → H1[q]? = H[q]?) → AW G B l R own cc nL ini fin (pc + 1) lv st H1 ce sl) : AW G B l R own cc nL ini fin pc lv (.int (bI b) :: .int i :: .ref a :: st) H ce sl := by
  intro p e s m args below meth c Q locs ls C hr hS hl
  refine W.zast C.1 C.2.1 ho ((C.2.2.2.2.2.1.1.2 2 _ rfl).1 n (fun j => .int (f j))) (fun q => by cases q) (by show ¬ (i < 0 ∨ (arrV _ _ _).slots.size ≤ _); rw [arrV_size]; exact hi) rfl rfl hd fun H1 e z oq => ?_
  refine k H1 ?_ z oq p _ s m args below meth c Q _ ls C hr (hS.put z oq hB) hl
  refine e.trans ?_
  rw [bI_narrow, arrV_store]
  congr 2
  funext q
  by_cases hq : q = i.toNatClampNeg
  · subst hq
    simp [updV, upd]
  · simp [updV, upd, hq]
theorem a_aast {a n t v ci j : Nat} {C0 : String} {fs : List Value} {f : Nat → Option Nat} (ht : ∀ G : GT, (aTys G)[t]? = some (G.2 t, .object C0)) (hC : ∃ q : vw_C, vwCl[ci]? = some q ∧ q.1 = C0) (hd : decode cc pc = .ok (.aastore, 1)) (ho : Aq G H a t n f) (hov : Ob G H v ci fs) (hj : j < n) (hn : n < 2 ^ 31) (hB : B ≤ a)
    (k : ∀ H1 : Heap, Aq G H1 a t n (va_up f j (some v)) → H1.size = H.size → (∀ q, q ≠ a → H1[q]? = H[q]?) → AW G B l R own cc nL ini fin (pc + 1) lv st H1 ce sl) : AW G B l R own cc nL ini fin pc lv (.ref v :: .int (nI j) :: .ref a :: st) H ce sl := by
  intro p e s m args below meth c Q locs ls C hr hS hl
  obtain ⟨⟨C1, T, N⟩, hc, rfl⟩ := hC
  have hi := vp_in_nI hj hn
  have hlt : (nI j).toNatClampNeg < n := Nat.not_le.mp fun q => hi (Or.inr q)
  have h0 : ¬ nI j < 0 := fun q => hi (Or.inl q)
  obtain ⟨r', hr', cellV, g1, g2, g3, -⟩ := hov
  have hK := C.2.2.2.2.2.1.1
  have hcls := (hK.1 ci _ hc).2
  obtain ⟨kA, comp, k1, k2, k3, -⟩ := (hK.2 t _ (ht G)).2
  have hcomp : comp = G.1.1 ci := Option.some.inj (k3.symm.trans hcls.1)
  subst hcomp
  obtain ⟨kC, hkC, -⟩ := hcls.2
  refine W.aast C.1 C.2.1 ho (fun q h => by cases h) (fun h => by cases h) k1 k2 rfl hkC ⟨h0, by show _ < (arrV _ _ _).slots.size; rw [arrV_size]; exact hlt⟩ g1 (fun q h => by rw [g3] at h; cases h) (by rw [g2]; exact hkC) (by rw [g2]; exact va_assign hcls) rfl rfl hd fun H1 e z oq => ?_
  refine k H1 ?_ z oq p _ s m args below meth c Q _ ls C hr (hS.put z oq hB) hl
  refine e.trans ?_
  rw [arrV_store, nI_clamp (Nat.lt_trans hj hn)]
  congr 2
  funext q
  by_cases hq : q = j
  · subst hq
    simp [updV, va_up, va_rf]
  · simp [updV, va_up, hq]
theorem a_alen {a n : Nat} {f : Nat → Int32} (hd : decode cc pc = .ok (.arraylength, 1)) (ho : Ai G H a n f) (k : AW G B l R own cc nL ini fin (pc + 1) lv (.int (nI n) :: st) H ce sl) : AW G B l R own cc nL ini fin pc lv (.ref a :: st) H ce sl := by
  intro p e s m args below meth c Q locs ls C hr hS hl
  exact W.alen (n := nI n) C.1 C.2.1 ho ((C.2.2.2.2.2.1.1.2 0 _ rfl).1 n (fun j => .int (f j))) (by rw [arrV_size] <;> rfl) rfl rfl hd (k p e s m args below meth c Q locs ls C hr hS hl)
def NW (own : String) (idx ci : Nat) (ty : Nat → FieldType) : Prop := ∃ (C : String) (T : u_T) (N : Nat), vwCl[ci]? = some (C, T, N) ∧ (∀ w ∈ u_ws C T N, w ∈ wsT) ∧ (∀ k, k < N → parseFieldDescriptor (T k).2.2.1 = some (ty k)) ∧ Cond.classLink own idx C ∈ wsT ∧ Cond.instantiable C N ∈ wsT ∧ Cond.initialized C ∈ wsT
theorem a_new {idx ci N : Nat} {ty : Nat → FieldType} {fs : List Value} (hw : NW own idx ci ty) (hN : ∀ q : vw_C, vwCl[ci]? = some q → q.2.2 = N) (hd : decode cc pc = .ok (.new idx, 3)) (hfs : ∀ j, j < N → defaultValue (ty j) = vp_V fs j) (hce : ce + 1 ≤ R.cells) (hsl : sl + N ≤ R.slots)
    (k : ∀ H1 : Heap, Ob G H1 H.size ci fs → H1.size = H.size + 1 → (∀ q, q < H.size → H1[q]? = H[q]?) → AW G B l R own cc nL ini fin (pc + 3) lv (.ref H.size :: st) H1 (ce + 1) (sl + N)) : AW G B l R own cc nL ini fin pc lv st H ce sl := by
  intro p e s m args below meth c Q locs ls C hr hS hl
  obtain ⟨C0, T, N0, hc, hin, hty, w1, w2, w3⟩ := hw
  obtain rfl : N0 = N := hN _ hc
  have hts := C.2.2.2.2.1
  have hKn := C.2.2.2.2.2.1.1.1 ci _ hc
  refine W.newcK C.1 C.2.1 C.2.2.2.1 (hts _ w1) (hts _ w2) (hts _ w3) rfl hd hce hsl hKn.2.1 rfl fun H1 kC hkC e1 z1 o1 => ?_
  refine k H1 ⟨_, hc, (u_born ty hts hin hKn hkC e1 hty).to hfs⟩ z1 o1 p e s m args below meth c Q _ ls C hr ⟨Nat.le_trans hS.1 (by omega), fun x h1 h2 => (o1 x (Nat.lt_of_lt_of_le h1 hS.1)).trans (hS.2.1 x h1 h2), hS.2.2⟩ hl
theorem a_newI {n : Nat} (hw : Cond.arrayClass .int ∈ wsT) (hd : decode cc pc = .ok (.newarray .int, 2)) (hn : n < 2 ^ 20) (hce : ce + 1 ≤ R.cells) (hsl : sl + n ≤ R.slots)
    (k : ∀ H1 : Heap, Ai G H1 H.size n (fun _ => 0) → H1.size = H.size + 1 → (∀ q, q < H.size → H1[q]? = H[q]?) → AW G B l R own cc nL ini fin (pc + 2) lv (.ref H.size :: st) H1 (ce + 1) (sl + n)) : AW G B l R own cc nL ini fin pc lv (.int (nI n) :: st) H ce sl := by
  intro p e s m args below meth c Q locs ls C hr hS hl
  refine va_newaK (atype := .int) (N := n) C.1 C.2.1 (C.2.2.2.2.1 _ hw) rfl hd rfl (nI_pos (by omega)) (nI_clamp (by omega)) (by show n * _ ≤ _; simp [newarray.typeOf, componentBytes]; omega) hce hsl rfl fun H1 cA e1 z1 o1 hAr hNm => ?_
  have hcA : cA = G.2 0 := Option.some.inj (hNm.symm.trans (C.2.2.2.2.2.1.1.2 0 _ rfl).2)
  subst hcA
  exact k H1 e1 z1 o1 p e s m args below meth c Q _ ls C hr ⟨Nat.le_trans hS.1 (by omega), fun x h1 h2 => (o1 x (Nat.lt_of_lt_of_le h1 hS.1)).trans (hS.2.1 x h1 h2), hS.2.2⟩ hl
theorem a_newL {n : Nat} (hw : Cond.arrayClass .long ∈ wsT) (hd : decode cc pc = .ok (.newarray .long, 2)) (hn : n < 2 ^ 20) (hce : ce + 1 ≤ R.cells) (hsl : sl + n ≤ R.slots)
    (k : ∀ H1 : Heap, Al G H1 H.size n (fun _ => 0) → H1.size = H.size + 1 → (∀ q, q < H.size → H1[q]? = H[q]?) → AW G B l R own cc nL ini fin (pc + 2) lv (.ref H.size :: st) H1 (ce + 1) (sl + n)) : AW G B l R own cc nL ini fin pc lv (.int (nI n) :: st) H ce sl := by
  intro p e s m args below meth c Q locs ls C hr hS hl
  refine va_newaK (atype := .long) (N := n) C.1 C.2.1 (C.2.2.2.2.1 _ hw) rfl hd rfl (nI_pos (by omega)) (nI_clamp (by omega)) (by show n * _ ≤ _; simp [newarray.typeOf, componentBytes]; omega) hce hsl rfl fun H1 cA e1 z1 o1 hAr hNm => ?_
  have hcA : cA = G.2 1 := Option.some.inj (hNm.symm.trans (C.2.2.2.2.2.1.1.2 1 _ rfl).2)
  subst hcA
  exact k H1 e1 z1 o1 p e s m args below meth c Q _ ls C hr ⟨Nat.le_trans hS.1 (by omega), fun x h1 h2 => (o1 x (Nat.lt_of_lt_of_le h1 hS.1)).trans (hS.2.1 x h1 h2), hS.2.2⟩ hl
theorem a_newZ {n : Nat} (hw : Cond.arrayClass .boolean ∈ wsT) (hd : decode cc pc = .ok (.newarray .boolean, 2)) (hn : n < 2 ^ 20) (hce : ce + 1 ≤ R.cells) (hsl : sl + n ≤ R.slots)
    (k : ∀ H1 : Heap, Az G H1 H.size n (fun _ => 0) → H1.size = H.size + 1 → (∀ q, q < H.size → H1[q]? = H[q]?) → AW G B l R own cc nL ini fin (pc + 2) lv (.ref H.size :: st) H1 (ce + 1) (sl + n)) : AW G B l R own cc nL ini fin pc lv (.int (nI n) :: st) H ce sl := by
  intro p e s m args below meth c Q locs ls C hr hS hl
  refine va_newaK (atype := .boolean) (N := n) C.1 C.2.1 (C.2.2.2.2.1 _ hw) rfl hd rfl (nI_pos (by omega)) (nI_clamp (by omega)) (by show n * _ ≤ _; simp [newarray.typeOf, componentBytes]; omega) hce hsl rfl fun H1 cA e1 z1 o1 hAr hNm => ?_
  have hcA : cA = G.2 2 := Option.some.inj (hNm.symm.trans (C.2.2.2.2.2.1.1.2 2 _ rfl).2)
  subst hcA
  exact k H1 e1 z1 o1 p e s m args below meth c Q _ ls C hr ⟨Nat.le_trans hS.1 (by omega), fun x h1 h2 => (o1 x (Nat.lt_of_lt_of_le h1 hS.1)).trans (hS.2.1 x h1 h2), hS.2.2⟩ hl
theorem a_newq {idx t n : Nat} {C0 : String} (ht : ∀ G : GT, (aTys G)[t]? = some (G.2 t, .object C0)) (hC : C0 = RX0 ∨ C0 = RX1) (hw : Cond.classLink own idx C0 ∈ wsT) (hd : decode cc pc = .ok (.anewarray idx, 3)) (hn : n < 2 ^ 20) (hce : ce + 1 ≤ R.cells) (hsl : sl + n ≤ R.slots)
    (k : ∀ H1 : Heap, Aq G H1 H.size t n (fun _ => none) → H1.size = H.size + 1 → (∀ q, q < H.size → H1[q]? = H[q]?) → AW G B l R own cc nL ini fin (pc + 3) lv (.ref H.size :: st) H1 (ce + 1) (sl + n)) : AW G B l R own cc nL ini fin pc lv (.int (nI n) :: st) H ce sl := by
  intro p e s m args below meth c Q locs ls C hr hS hl
  have hAO : va_AO C0 s := by rcases hC with rfl | rfl; exact C.2.2.2.2.2.1.2.1; exact C.2.2.2.2.2.1.2.2.1
  have hcl : (nI n).toNatClampNeg = n := nI_clamp (by omega)
  refine W.anew C.1 C.2.1 C.2.2.2.1 (C.2.2.2.2.1 _ hw) (va_AO.use hAO) rfl hd rfl (nI_pos (by omega)) (by rw [hcl]; omega) hce (by rw [hcl]; exact hsl) fun cA kA comp f1 f2 f3 f4 => ?_
  rw [hcl]
  obtain ⟨kA', comp', g1, g2, g3, g4⟩ := (C.2.2.2.2.2.1.1.2 t _ (ht G)).2
  have hcA : cA = G.2 t := Option.some.inj (f1.symm.trans g4)
  subst hcA
  generalize hH1 : H.push ({ cls := G.2 t, slots := Array.replicate n .null, vm := .none } : Cell) = H1
  have z1 : H1.size = H.size + 1 := by rw [← hH1, Array.size_push]
  have e1 : H1[H.size]? = some (arrV (G.2 t) n (fun _ => .null)) := by rw [← hH1, Array.getElem?_push_size, ← arrV_new]
  have o1 : ∀ q : Nat, q < H.size → H1[q]? = H[q]? := fun q hq => by rw [← hH1, Array.getElem?_push, if_neg (Nat.ne_of_lt hq)]
  exact k H1 e1 z1 o1 p e s m args below meth c Q _ ls C hr ⟨Nat.le_trans hS.1 (by omega), fun x h1 h2 => (o1 x (Nat.lt_of_lt_of_le h1 hS.1)).trans (hS.2.1 x h1 h2), hS.2.2⟩ hl
/-- what a call site's words give: the callee linked, its code, its number of arguments -/
def CL (own : String) (idx : Nat) (y : MethodName) (cy : ByteArray) (nLy : Nat) (ret : Option FieldType) (n : Nat) : Prop := (Cond.methodLink own idx y ∈ wsT ∨ ∃ host : String, Cond.methodLinkNest own idx y host ∈ nsW) ∧ Cond.code y cy nLy ret ∈ wsT ∧ Cond.initialized y.cls ∈ wsT ∧ (y.cls ≠ "java/lang/invoke/MethodHandle" ∧ y.cls ≠ "java/lang/invoke/VarHandle" ∧ (parseMethodDescriptor y.desc).map (fun d => d.parameters.length) = some n)
theorem callB_mk {own : String} {idx : Nat} {y : MethodName} {cy : ByteArray} {nLy n d mc ms : Nat} {ret : Option FieldType} {args : Array Value} {s : State} (hts : ∀ w ∈ wsT, w.before args s = true) (hns : ∀ w ∈ nsW, va_Nw w s) (h : CL own idx y cy nLy ret n) (hR : d + 1 ≤ R.frames ∧ 8 + (nLy + 11) + 27 * d ≤ R.locals) :
    CallB R s args own idx y cy nLy ret (.code y cy nLy ret :: wsT) { frames := d, cells := mc, slots := ms, locals := 27 * d } mc ms n ∨ ∃ host : String, va_CN R s args own idx y host cy nLy ret (.code y cy nLy ret :: wsT) { frames := d, cells := mc, slots := ms, locals := 27 * d } mc ms n := by
  obtain ⟨h1, h2, h3, h4, h5, h6⟩ := h
  have hg : ∀ w ∈ wsT, (w.onTables && w.keeps) = true ∨ ∃ ty, w = .arrayClass ty := fun w hw => good_of_word (wsT_good w hw)
  have hpay := pay_in (ws := .code y cy nLy ret :: wsT) hts (fun w hw => by
    rcases List.mem_cons.mp hw with rfl | hw
    · exact ⟨h2, hg _ h2⟩
    · exact ⟨hw, hg _ hw⟩)
  have hsig : ∀ sig, parseMethodDescriptor y.desc = some sig → n = sig.parameters.length := fun sig hs => by
    rw [hs] at h6
    exact (Option.some.inj h6).symm
  rcases h1 with h1 | ⟨host, h1⟩
  · exact Or.inl ⟨rfl, rfl, hR.1, hR.2, hpay, List.mem_cons_self, hts _ h2, hts _ h3, ⟨h4, h5⟩, hsig, hts _ h1⟩
  · exact Or.inr ⟨host, ⟨rfl, rfl, hR.1, hR.2, hpay, List.mem_cons_self⟩, hts _ h2, hts _ h3, ⟨h4, h5⟩, hsig, va_Nw.use rfl (hns _ h1)⟩
theorem blind_mk {G : GT} {H : Heap} {av : List Value} : FrameBlind (va_Pc av (fun U => U.heap = H ∧ KX G U)) := fun a U g mk q => by
  obtain ⟨q0, q1, q2⟩ := q
  exact ⟨q0, q1, KX.same (s := U) (U := U.calling g mk a) rfl q2⟩
theorem run_go {p : Program} {e : Env} {s : State} {m : MethodId} {args : Array Value} {below : List Frame} {meth : Method} {c : Code} {locs : List Loc} {Q : State → Prop} {ls : Array Slot} {mc ms : Nat} {st0 rest : List Value} {post : Option Value → Heap → Prop} (hB : B ≤ s.heap.size)
    (hr : va_Run p l e R s m args below meth c H locs ce sl mc ms (F0 m pc ls st0) rest (fun st oc t => (∃ v, oc = .returned v ∧ post v t.heap) ∧ va_F (fun q => B ≤ q) st t) (fun q => B ≤ q)) (hS : va_S (fun q => B ≤ q) s.heap H locs)
    (kk : ∀ (v : Option Value) (H' : Heap) (locs' : List Loc), post v H' → va_S (fun q => B ≤ q) s.heap H' locs' → W p l e R s m args below meth c H' locs' (ce + mc) (sl + ms) Q (F0 m (pc + 3) ls (v.toList ++ rest))) : W p l e R s m args below meth c H locs ce sl Q (F0 m pc ls st0) := by
  intro T hT X
  obtain ⟨v, st₀, t, T', L, h0, X', hL, e1, e2, ⟨⟨v', hv, hp⟩, hz, hk⟩, st⟩ := hr T hT X
  cases hv
  rw [h0] at hz hk
  obtain ⟨t2, a1, b1⟩ := kk v T'.heap (locs ++ L) (by rw [e1]; exact hp)
    ⟨Nat.le_trans hS.1 (by rw [e1]; exact hz), fun q h1 h2 => by rw [e1, hk q (Nat.lt_of_lt_of_le h1 hS.1) h2]; exact hS.2.1 q h1 h2, fun q hq => by
      rcases List.mem_append.mp hq with h | h
      · exact hS.2.2 q h
      · exact hL q h⟩ T' rfl X'
  exact ⟨t2, st t2 a1, b1⟩
theorem a_callV {y : MethodName} {cy : ByteArray} {nLy d mc ms idx b ci : Nat} {ret : Option FieldType} {As rest : List Value} {fs : List Value} {post : Option Value → Heap → Prop} (hcl : CL own idx y cy nLy ret As.length) (hin : Cond.instanceMethod y ∈ wsT) (hse : Cond.selects y.cls y y ∈ wsT) (hci : ∃ q : vw_C, vwCl[ci]? = some q ∧ q.1 = y.cls) (hd : decode cc pc = .ok (.invokevirtual idx, 3))
    (hR : d + 1 ≤ R.frames ∧ 8 + (nLy + 11) + 27 * d ≤ R.locals) (hst : st = As.reverse ++ .ref b :: rest) (hrest : (rest.map fun v => v.category).sum ≤ 8) (hcs : ce + mc ≤ R.cells ∧ sl + ms ≤ R.slots) (ho : Ob G H b ci fs)
    (hM : AM G B l y cy nLy ret d mc ms (.ref b :: As) H post)
    (k : ∀ (v : Option Value) (H' : Heap), post v H' → AW G B l R own cc nL ini fin (pc + 3) lv (v.toList ++ rest) H' (ce + mc) (sl + ms)) : AW G B l R own cc nL ini fin pc lv st H ce sl := by
  intro p e s m args below meth c Q locs ls C hr hS hl
  obtain ⟨⟨C0, T, N⟩, hc, hcy⟩ := hci
  subst hst
  have hrec : ∃ cell : Cell, H[b]? = some cell ∧ cell.vm.isStatics = false ∧ s.vm.findClass y.cls = some cell.cls := by
    obtain ⟨q', h1, cell, g1, g2, g3, -⟩ := ho
    exact ⟨cell, g1, by rw [g3]; rfl, by rw [g2, ← hcy]; exact (C.2.2.2.2.2.1.1.1 ci _ hc).2.1⟩
  rcases callB_mk (mc := mc) (ms := ms) C.2.2.2.2.1 C.2.2.2.2.2.1.2.2.2 hcl hR with hcb | ⟨host, hcb⟩
  · exact run_go C.2.2.2.2.2.2.2 (va_runV (As := As) (rest := rest) ⟨C.1, C.2.1, C.2.2.1, C.2.2.2.1, C.2.2.2.2.1⟩ (hM (Nat.le_trans C.2.2.2.2.2.2.2 hS.1)) ⟨hcb, C.2.2.2.2.1 _ hin, C.2.2.2.2.1 _ hse⟩ ⟨blind_mk, hrec, fun U hU hW => ⟨rfl, hU, KX.warm hW C.2.2.2.2.2.1⟩⟩ rfl rfl hl.1 rfl (lv_room hrest) hd hcs) hS (fun v H' locs' hp hS' => k v H' hp p e s m args below meth c Q locs' ls C hr hS' hl)
  · exact run_go C.2.2.2.2.2.2.2 (va_runVN (As := As) (rest := rest) ⟨C.1, C.2.1, C.2.2.1, C.2.2.2.1, C.2.2.2.2.1⟩ (hM (Nat.le_trans C.2.2.2.2.2.2.2 hS.1)) ⟨hcb, C.2.2.2.2.1 _ hin, C.2.2.2.2.1 _ hse⟩ ⟨blind_mk, hrec, fun U hU hW => ⟨rfl, hU, KX.warm hW C.2.2.2.2.2.1⟩⟩ rfl rfl hl.1 rfl (lv_room hrest) hd hcs) hS (fun v H' locs' hp hS' => k v H' hp p e s m args below meth c Q locs' ls C hr hS' hl)
theorem a_callS {y : MethodName} {cy : ByteArray} {nLy d mc ms idx : Nat} {ret : Option FieldType} {As rest : List Value} {post : Option Value → Heap → Prop} (hcl : CL own idx y cy nLy ret As.length) (hsm : Cond.static y ∈ wsT) (hd : decode cc pc = .ok (.invokestatic idx, 3))
    (hR : d + 1 ≤ R.frames ∧ 8 + (nLy + 11) + 27 * d ≤ R.locals) (hst : st = As.reverse ++ rest) (hrest : (rest.map fun v => v.category).sum ≤ 8) (hcs : ce + mc ≤ R.cells ∧ sl + ms ≤ R.slots)
    (hM : AM G B l y cy nLy ret d mc ms As H post)
    (k : ∀ (v : Option Value) (H' : Heap), post v H' → AW G B l R own cc nL ini fin (pc + 3) lv (v.toList ++ rest) H' (ce + mc) (sl + ms)) : AW G B l R own cc nL ini fin pc lv st H ce sl := by
  intro p e s m args below meth c Q locs ls C hr hS hl
  subst hst
  rcases callB_mk (mc := mc) (ms := ms) C.2.2.2.2.1 C.2.2.2.2.2.1.2.2.2 hcl hR with hcb | ⟨host, hcb⟩
  · exact run_go C.2.2.2.2.2.2.2 (va_runS (As := As) (rest := rest) ⟨C.1, C.2.1, C.2.2.1, C.2.2.2.1, C.2.2.2.2.1⟩ (hM (Nat.le_trans C.2.2.2.2.2.2.2 hS.1)) ⟨hcb, C.2.2.2.2.1 _ hsm⟩ ⟨blind_mk, fun U hU hW => ⟨rfl, hU, KX.warm hW C.2.2.2.2.2.1⟩⟩ rfl rfl hl.1 rfl (lv_room hrest) hd hcs) hS (fun v H' locs' hp hS' => k v H' hp p e s m args below meth c Q locs' ls C hr hS' hl)
  · exact run_go C.2.2.2.2.2.2.2 (va_runSN (As := As) (rest := rest) ⟨C.1, C.2.1, C.2.2.1, C.2.2.2.1, C.2.2.2.2.1⟩ (hM (Nat.le_trans C.2.2.2.2.2.2.2 hS.1)) ⟨hcb, C.2.2.2.2.1 _ hsm, trivial⟩ ⟨blind_mk, fun U hU hW => ⟨rfl, hU, KX.warm hW C.2.2.2.2.2.1⟩⟩ rfl rfl hl.1 rfl (lv_room hrest) hd hcs) hS (fun v H' locs' hp hS' => k v H' hp p e s m args below meth c Q locs' ls C hr hS' hl)
theorem a_callI {y : MethodName} {cy : ByteArray} {nLy d mc ms idx b : Nat} {As rest : List Value} {post : Option Value → Heap → Prop} (hcl : CL own idx y cy nLy none As.length) (hin : Cond.instanceMethod y ∈ wsT) (hy : y.name = "<init>") (hd : decode cc pc = .ok (.invokespecial idx, 3))
    (hR : d + 1 ≤ R.frames ∧ 8 + (nLy + 11) + 27 * d ≤ R.locals) (hst : st = As.reverse ++ .ref b :: rest) (hrest : (rest.map fun v => v.category).sum ≤ 8) (hcs : ce + mc ≤ R.cells ∧ sl + ms ≤ R.slots)
    (hM : AM G B l y cy nLy none d mc ms (.ref b :: As) H post)
    (k : ∀ (v : Option Value) (H' : Heap), post v H' → AW G B l R own cc nL ini fin (pc + 3) lv (v.toList ++ rest) H' (ce + mc) (sl + ms)) : AW G B l R own cc nL ini fin pc lv st H ce sl := by
  intro p e s m args below meth c Q locs ls C hr hS hl
  subst hst
  rcases callB_mk (mc := mc) (ms := ms) C.2.2.2.2.1 C.2.2.2.2.2.1.2.2.2 hcl hR with hcb | ⟨host, hcb⟩
  · exact run_go C.2.2.2.2.2.2.2 (va_runI (As := As) (rest := rest) ⟨C.1, C.2.1, C.2.2.1, C.2.2.2.1, C.2.2.2.2.1⟩ (hM (Nat.le_trans C.2.2.2.2.2.2.2 hS.1)) ⟨hcb, hy, C.2.2.2.2.1 _ hin⟩ ⟨blind_mk, fun U hU hW => ⟨rfl, hU, KX.warm hW C.2.2.2.2.2.1⟩⟩ rfl rfl hl.1 rfl (lv_room hrest) hd hcs) hS (fun v H' locs' hp hS' => k v H' hp p e s m args below meth c Q locs' ls C hr hS' hl)
  · exact run_go C.2.2.2.2.2.2.2 (va_runIN (As := As) (rest := rest) ⟨C.1, C.2.1, C.2.2.1, C.2.2.2.1, C.2.2.2.2.1⟩ (hM (Nat.le_trans C.2.2.2.2.2.2.2 hS.1)) ⟨hcb, hy, C.2.2.2.2.1 _ hin⟩ ⟨blind_mk, fun U hU hW => ⟨rfl, hU, KX.warm hW C.2.2.2.2.2.1⟩⟩ rfl rfl hl.1 rfl (lv_room hrest) hd hcs) hS (fun v H' locs' hp hS' => k v H' hp p e s m args below meth c Q locs' ls C hr hS' hl)
theorem a_objI {idx a : Nat} (hw : Cond.methodLink own idx objectInit ∈ wsT ∧ Cond.instanceMethod objectInit ∈ wsT ∧ Cond.code objectInit ⟨#[0xb1]⟩ 1 none ∈ wsT) (hd : decode cc pc = .ok (.invokespecial idx, 3)) (hf : 1 ≤ R.frames) (hlo : (st.map fun v => v.category).sum + 12 ≤ R.locals) (k : AW G B l R own cc nL ini fin (pc + 3) lv st H ce sl) : AW G B l R own cc nL ini fin pc lv (.ref a :: st) H ce sl := by
  intro p e s m args below meth c Q locs ls C hr hS hl
  refine W.objInit C.1 C.2.1 C.2.2.2.1 (C.2.2.2.2.1 _ hw.1) (C.2.2.2.2.1 _ hw.2.1) (C.2.2.2.2.1 _ hw.2.2) rfl (by rw [C.2.2.1]; exact hl.1) rfl hd hf (by show 2 * 0 + _ + 12 ≤ _; omega) ?_
  exact k p e s m args below meth c Q locs ls C hr hS hl
def ML (own : String) (idx : Nat) (y : MethodName) (cy : ByteArray) (n : Nat) : Prop := Cond.methodLink own idx y ∈ wsT ∧ Cond.static y ∈ wsT ∧ Cond.initialized "java/lang/Math" ∈ wsT ∧ Cond.code y cy n (some .int) ∈ wsT
theorem a_max {idx : Nat} {x y : Int32} (hw : ML own idx Lib.Math.max.name Lib.Math.max.code 2) (hd : decode cc pc = .ok (.invokestatic idx, 3)) (hf : 1 ≤ R.frames) (hlo : (st.map fun v => v.category).sum + 13 ≤ R.locals) (hcs : ce ≤ R.cells ∧ sl ≤ R.slots) (k : AW G B l R own cc nL ini fin (pc + 3) lv (.int (if x < y then y else x) :: st) H ce sl) : AW G B l R own cc nL ini fin pc lv (.int y :: .int x :: st) H ce sl := fun p e s m args below meth c Q locs ls C hr hS hl =>
  va_mmax C.1 C.2.1 (by rw [C.2.2.1]; exact hl.1.symm) C.2.2.2.1 (C.2.2.2.2.1 _ hw.1) (C.2.2.2.2.1 _ hw.2.1) (C.2.2.2.2.1 _ hw.2.2.1) (C.2.2.2.2.1 _ hw.2.2.2) hf hlo hcs.1 hcs.2 hd (k p e s m args below meth c Q locs ls C hr hS hl)
theorem a_min {idx : Nat} {x y : Int32} (hw : ML own idx Lib.Math.min.name Lib.Math.min.code 2) (hd : decode cc pc = .ok (.invokestatic idx, 3)) (hf : 1 ≤ R.frames) (hlo : (st.map fun v => v.category).sum + 13 ≤ R.locals) (hcs : ce ≤ R.cells ∧ sl ≤ R.slots) (k : AW G B l R own cc nL ini fin (pc + 3) lv (.int (if y < x then y else x) :: st) H ce sl) : AW G B l R own cc nL ini fin pc lv (.int y :: .int x :: st) H ce sl := fun p e s m args below meth c Q locs ls C hr hS hl =>
  va_mmin C.1 C.2.1 (by rw [C.2.2.1]; exact hl.1.symm) C.2.2.2.1 (C.2.2.2.2.1 _ hw.1) (C.2.2.2.2.1 _ hw.2.1) (C.2.2.2.2.1 _ hw.2.2.1) (C.2.2.2.2.1 _ hw.2.2.2) hf hlo hcs.1 hcs.2 hd (k p e s m args below meth c Q locs ls C hr hS hl)
theorem a_abs {idx : Nat} {x : Int32} (hw : ML own idx Lib.Math.abs.name Lib.Math.abs.code 1) (hd : decode cc pc = .ok (.invokestatic idx, 3)) (hf : 1 ≤ R.frames) (hlo : (st.map fun v => v.category).sum + 13 ≤ R.locals) (hcs : ce ≤ R.cells ∧ sl ≤ R.slots) (k : AW G B l R own cc nL ini fin (pc + 3) lv (.int (if 0 ≤ x then x else 0 - x) :: st) H ce sl) : AW G B l R own cc nL ini fin pc lv (.int x :: st) H ce sl := fun p e s m args below meth c Q locs ls C hr hS hl =>
  va_mabs C.1 C.2.1 (by rw [C.2.2.1]; exact hl.1.symm) C.2.2.2.1 (C.2.2.2.2.1 _ hw.1) (C.2.2.2.2.1 _ hw.2.1) (C.2.2.2.2.1 _ hw.2.2.1) (C.2.2.2.2.1 _ hw.2.2.2) hf hlo hcs.1 hcs.2 hd (k p e s m args below meth c Q locs ls C hr hS hl)
end AX
/-! ===== END my layer ===== -/
