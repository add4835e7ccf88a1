-- the mathematical machine: values, cells, worlds; a cell k of the world lies at base + k
abbrev mV : Type := Int32 ⊕ Int64 ⊕ Option Nat ⊕ Nat
abbrev vi (x : Int32) : mV := Sum.inl x
abbrev vl (x : Int64) : mV := Sum.inr (Sum.inl x)
abbrev vr (o : Option Nat) : mV := Sum.inr (Sum.inr (Sum.inl o))
abbrev vx (k : Nat) : mV := Sum.inr (Sum.inr (Sum.inr k))
abbrev mC : Type := (Nat × List mV) ⊕ (Nat × (Nat → Int32)) ⊕ (Nat × (Nat → Option Nat))
abbrev mW : Type := List mC
/-- base, fixed addresses (0 the script, 1 a string, 2 its bytes), the classes of [I and of the row of objects, where the classes lie -/
abbrev mG : Type := Nat × (Nat → Nat) × ClassId × ClassId × va_G
/-- a method: name, code, locals, return -/
abbrev mM : Type := MethodName × ByteArray × Nat × Option FieldType
abbrev mXs : Type := Nat × (Nat → Int32)
def mcat : mV → Nat
  | .inl _ => 1
  | .inr (.inl _) => 2
  | .inr (.inr _) => 1
def mt (g : mG) : mV → Value
  | .inl i => .int i
  | .inr (.inl j) => .long j
  | .inr (.inr (.inl none)) => .null
  | .inr (.inr (.inl (some k))) => .ref (g.1 + k)
  | .inr (.inr (.inr k)) => .ref (g.2.1 k)
theorem mt_cat (g : mG) (v : mV) : (mt g v).category = mcat v := by
  rcases v with _ | _ | (_ | _) | _ <;> rfl
def mcl (g : mG) : mC → va_E
  | .inl o => .inr (o.1, o.2.map (mt g))
  | .inr (.inl a) => .inl (g.2.2.1, a.1, .inl a.2)
  | .inr (.inr q) => .inl (g.2.2.2.1, q.1, .inr (.inr (.inr (.inr (fun j => (q.2 j).map (fun k => g.1 + k))))))
def mR (g : mG) (w : mW) : va_W := w.mapIdx (fun k c => (g.1 + k, mcl g c))
theorem mR_get {g : mG} {w : mW} {k : Nat} {c : mC} (h : w[k]? = some c) : (mR g w)[k]? = some (g.1 + k, mcl g c) := by
  simp [mR, List.getElem?_mapIdx, h]
theorem mR_inv {g : mG} {w : mW} {k : Nat} {q : Nat × va_E} (h : (mR g w)[k]? = some q) : ∃ c, w[k]? = some c ∧ q = (g.1 + k, mcl g c) := by
  simp only [mR, List.getElem?_mapIdx, Option.map_eq_some_iff] at h
  obtain ⟨c, h1, h2⟩ := h
  exact ⟨c, h1, h2.symm⟩
theorem mR_set {g : mG} {w : mW} {k : Nat} {c : mC} : mR g (w.set k c) = (mR g w).set k (g.1 + k, mcl g c) := by
  apply List.ext_getElem?
  intro j
  simp only [mR, List.getElem?_mapIdx, List.getElem?_set, List.length_mapIdx]
  by_cases h : k = j
  · subst h
    by_cases hl : k < w.length <;> simp [hl]
  · simp [h]
theorem mR_app {g : mG} {w : mW} {c : mC} : mR g (w ++ [c]) = mR g w ++ [(g.1 + w.length, mcl g c)] := by
  simp [mR]
theorem mR_D {g : mG} {w : mW} : va_D (fun q => g.1 ≤ q) (mR g w) := by
  refine ⟨fun i j p q hi hj h => ?_, fun k q hk => ?_⟩
  · obtain ⟨c, -, rfl⟩ := mR_inv hi
    obtain ⟨d, -, rfl⟩ := mR_inv hj
    exact Nat.add_left_cancel h
  · obtain ⟨c, -, rfl⟩ := mR_inv hk
    exact Nat.le_add_right _ _
def mSzc : mC → Nat
  | .inl o => o.2.length
  | .inr (.inl a) => a.1
  | .inr (.inr a) => a.1
def mSz : mW → Nat
  | [] => 0
  | c :: w => mSzc c + mSz w
theorem mSz_app (w : mW) (c : mC) : mSz (w ++ [c]) = mSz w + mSzc c := by
  induction w with
  | nil => simp [mSz]
  | cons a w ih => simp only [List.cons_append, mSz, ih]; omega
theorem mSz_set : ∀ (w : mW) (k : Nat) (c c' : mC), w[k]? = some c → mSzc c' = mSzc c → mSz (w.set k c') = mSz w
  | [], k, c, c', h, _ => by simp at h
  | a :: w, 0, c, c', h, e => by
    simp at h
    subst h
    simp only [List.set_cons_zero, mSz, e]
  | a :: w, k + 1, c, c', h, e => by
    simp only [List.getElem?_cons_succ] at h
    simp only [List.set_cons_succ, mSz, mSz_set w k c c' h e]
def mH (g : mG) (w : mW) (H : Heap) : Prop := H.size = g.1 + w.length ∧ va_P g.2.2.2.2 vwCl (mR g w) H
theorem mH.put {g : mG} {w : mW} {k : Nat} {c c' : mC} {H H1 : Heap} (h : mH g w H) (hk : w[k]? = some c) (he : va_at g.2.2.2.2 vwCl (g.1 + k, mcl g c') H1) (z : H1.size = H.size) (oq : ∀ q : Nat, q ≠ g.1 + k → H1[q]? = H[q]?) : mH g (w.set k c') H1 := by
  refine ⟨by rw [z, h.1, List.length_set], ?_⟩
  rw [mR_set]
  exact h.2.set mR_D (mR_get hk) he oq
theorem mH.push {g : mG} {w : mW} {c : mC} {H H1 : Heap} (h : mH g w H) (he : va_at g.2.2.2.2 vwCl (g.1 + w.length, mcl g c) H1) (z : H1.size = H.size + 1) (oq : ∀ q : Nat, q < H.size → H1[q]? = H[q]?) : mH g (w ++ [c]) H1 := by
  refine ⟨by rw [z, h.1, List.length_append]; rfl, ?_⟩
  rw [mR_app]
  refine va_P.app (h.2.kept fun k q hk => oq _ ((h.2 k q hk).lt)) (fun k q hk => ?_)
  have hz : k < 1 := (List.getElem?_eq_some_iff.mp hk).1
  rw [show k = 0 by omega] at hk
  cases hk
  exact he
-- what is given of the tables, of the string, of the script
def mWS : List Cond := lw_tbl.filter goodWord
def mNc : List (String × String) := [("PancakePort$Wide", "PancakePort$Lacy"), ("PancakePort$Thrifty", "PancakePort$Lacy"), ("PancakePort$Mayor", "PancakePort$Lacy"), ("PancakePort$Tosser", "PancakePort$Lacy"), ("PancakePort$Lacy", "PancakePort$Wide"), ("PancakePort$Thrifty", "PancakePort$Wide"), ("PancakePort$Tosser", "PancakePort$Wide"), ("PancakePort$Lacy", "PancakePort$Thrifty"), ("PancakePort$Wide", "PancakePort$Thrifty"), ("PancakePort$Mayor", "PancakePort$Thrifty"), ("PancakePort$Tosser", "PancakePort$Thrifty"), ("PancakePort$Lacy", "PancakePort$Mayor"), ("PancakePort$Wide", "PancakePort$Mayor"), ("PancakePort$Thrifty", "PancakePort$Mayor"), ("PancakePort$Tosser", "PancakePort$Mayor")]
/-- words that are carried from method to method: calls of nest mates' private methods, casts -/
def mIsN : Cond → Bool
  | .methodLinkNest .. => true
  | .castable .. => true
  | _ => false
def mNw : List Cond := lw_tbl.filter mIsN
theorem mIsN_warm {w : Cond} {s U : State} (h : mIsN w = true) (hW : s.WarmedH U.vm) (hZ : va_Nw w s) : va_Nw w U := by
  cases w <;> first | exact va_Nw.warmM hW hZ | exact va_Nw.warmC hW hZ | (simp [mIsN] at h; done)
theorem mIsN_tab {w : Cond} (h : mIsN w = true) : w.onTables = true := by
  cases w <;> first | rfl | (simp [mIsN] at h; done)
def mKt (g : mG) (U : State) : Prop := va_K g.2.2.2.2 vwCl [(g.2.2.1, .int), (g.2.2.2.1, .object "PancakePort$Tosser")] U ∧ (∀ q ∈ mNc, va_Nc q.1 q.2 U) ∧ va_AO "PancakePort$Tosser" U
def mKs (g : mG) (U : State) (H : Heap) : Prop := vk_S 1 [5] [[116, 108, 119, 104, 109]] (fun _ => g.2.1 1) (fun _ => g.2.1 2) (fun q => g.1 ≤ q) U H ∧ va_Z "java/lang/String" "COMPACT_STRINGS" "Z" (.int 1) (fun q => g.1 ≤ q) U H
def mX (g : mG) (X : mXs) (U : State) (H : Heap) : Prop := va_X (g.2.1 0) X.1 X.2 U H ∧ g.2.1 0 < g.1 ∧ g.1 ≤ H.size
/-- all that a method's entry state gives of what lies below the base -/
def mB (g : mG) (X : mXs) (U : State) : Prop := mKt g U ∧ mKs g U U.heap ∧ mX g X U U.heap ∧ vk_R "PancakePort$Reading" 82 "tlwhm" (g.2.1 1) U ∧ ∀ w ∈ mNw, va_Nw w U
theorem mKt.moved {g : mG} {u U : State} (hvm : u.vm.Alike U.vm) (h : mKt g u) : mKt g U := ⟨va_K.moved hvm h.1, fun q hq => va_Nc.moved hvm (h.2.1 q hq), va_AO.moved hvm h.2.2⟩
theorem mKs.moved {g : mG} {u U : State} {H : Heap} (hvm : u.vm.Alike U.vm) (h : mKs g u H) : mKs g U H := ⟨vk_S.moved hvm h.1, va_Z.moved hvm h.2⟩
theorem mKs.kept {g : mG} {U : State} {H H1 : Heap} (h : mKs g U H) (hq : ∀ a : Nat, a < H.size → ¬ g.1 ≤ a → H1[a]? = H[a]?) : mKs g U H1 := ⟨vk_S.kept h.1 hq, va_Z.kept h.2 hq⟩
theorem mX.moved {g : mG} {X : mXs} {u U : State} {H : Heap} (hvm : u.vm.Alike U.vm) (h : mX g X u H) : mX g X U H := ⟨va_X.moved hvm h.1, h.2⟩
theorem mX.kept {g : mG} {X : mXs} {U : State} {H H1 : Heap} (h : mX g X U H) (z : H.size ≤ H1.size) (hq : ∀ a : Nat, a < H.size → ¬ g.1 ≤ a → H1[a]? = H[a]?) : mX g X U H1 :=
  ⟨va_X.kept h.1 (hq _ (Nat.lt_of_lt_of_le h.2.1 h.2.2) (Nat.not_le.mpr h.2.1)), h.2.1, Nat.le_trans h.2.2 z⟩
/-- the entry state of a callee -/
theorem mB.call {g : mG} {X : mXs} {s U : State} {H : Heap} {locs : List Loc} (h : mB g X s) (hS : va_S (fun q => g.1 ≤ q) s.heap H locs) (hU : U.heap = H) (hW : s.WarmedH U.vm) : mB g X U := by
  refine ⟨h.1.moved hW.alike, ?_, ?_, vk_R.warm hW h.2.2.2.1, fun w hw => mIsN_warm (List.mem_filter.mp hw).2 hW (h.2.2.2.2 w hw)⟩
  · rw [hU]
    exact (h.2.1.moved hW.alike).kept hS.2.1
  · rw [hU]
    exact (h.2.2.1.moved hW.alike).kept hS.1 hS.2.1
theorem mB.blind {g : mG} {X : mXs} {U U' : State} (h : mB g X U) (hv : U'.vm = U.vm) (hh : U'.heap = U.heap) : mB g X U' := by
  have ha : U.vm.Alike U'.vm := by rw [hv]; exact Vm.Alike.refl _
  exact ⟨h.1.moved ha, by rw [hh]; exact h.2.1.moved ha, by rw [hh]; exact h.2.2.1.moved ha, vk_R.same hv h.2.2.2.1, fun w hw => va_Nw.same (mIsN_tab (List.mem_filter.mp hw).2) hv.symm (h.2.2.2.2 w hw)⟩
-- contracts
def mRm (d mc ms : Nat) : Room := { frames := d, cells := mc, slots := ms, locals := 37 * d }
def mPre (g : mG) (X : mXs) (w : mW) (as : List mV) : Array Value → State → Prop := fun av U => av = (as.map (mt g)).toArray ∧ mH g w U.heap ∧ mB g X U
def mPost (g : mG) (w' : mW) (r : Option mV) : Array Value → State → Outcome → State → Prop := fun _ st oc t => oc = .returned (r.map (mt g)) ∧ mH g w' t.heap ∧ st.heap.size ≤ t.heap.size ∧ ∀ q : Nat, q < st.heap.size → ¬ g.1 ≤ q → t.heap[q]? = st.heap[q]?
def mWs (M : mM) : List Cond := Cond.code M.1 M.2.1 M.2.2.1 M.2.2.2 :: mWS
/-- the method M, in a room of depth d: from the world w with these arguments it returns r, and leaves the world w' -/
def mMet (M : mM) (d : Nat) (as : List mV) (w : mW) (r : Option mV) (w' : mW) : Prop := (w.length ≤ w'.length ∧ mSz w ≤ mSz w') ∧
  ∀ (l : Launch) (g : mG) (X : mXs), Met l M.1 (mWs M) (mRm d (w'.length - w.length) (mSz w' - mSz w)) (mPre g X w as) (mPost g w' r) (w'.length - w.length) (mSz w' - mSz w) (fun q => g.1 ≤ q)
theorem mPre_blind {g : mG} {X : mXs} {w : mW} {as : List mV} : FrameBlind (mPre g X w as) := fun a U gg mk h => ⟨h.1, h.2.1, h.2.2.blind rfl rfl⟩
-- a method's inside
def mL (g : mG) (n : Nat) (L : List (Option mV)) (ls : Array Slot) : Prop := ls.size = n ∧ lv_wf ls ∧ ∀ (k : Nat) (v : mV), L[k]? = some (some v) → ls[k]? = some (.val (mt g v))
def mCx (M : mM) (d : Nat) (g : mG) (X : mXs) (p : Program) (R : Room) (s : State) (m : MethodId) (args : Array Value) (meth : Method) (c : Code) : Prop :=
  p.tables.exec = Jvm.exec ∧ c.code = M.2.1 ∧ c.maxLocals = M.2.2.1 ∧ s.vm.findClass M.1.cls = some m.cls ∧ (∀ w ∈ mWS, w.before args s = true) ∧ mB g X s ∧ (d ≤ R.frames ∧ 37 * d ≤ R.locals) ∧ (M.1.name = "<init>" → meth.name = "<init>")
/-- a return instruction, with r on the stack -/
def mRet (M : mM) (pc : Nat) (st : List mV) (r : Option mV) : Prop :=
  (∃ (x : Int32) (ty : FieldType), decode M.2.1 pc = .ok (.ireturn, 1) ∧ st = [vi x] ∧ r = some (vi x) ∧ M.2.2.2 = some ty ∧ narrow ty (.int x) = .int x) ∨
  (decode M.2.1 pc = .ok (.return_, 1) ∧ st = [] ∧ r = none ∧ M.2.2.2 = none) ∨
  (∃ (x : Int64), decode M.2.1 pc = .ok (.lreturn, 1) ∧ st = [vl x] ∧ r = some (vl x) ∧ M.2.2.2 = some .long) ∨
  (∃ (o : Option Nat) (C : String), decode M.2.1 pc = .ok (.areturn, 1) ∧ st = [vr o] ∧ r = some (vr o) ∧ M.2.2.2 = some (.object C))
/-- from here the method comes to its end, with r and the world w' -/
def mEv (X : mXs) (M : mM) (d : Nat) (r : Option mV) (w' : mW) (pc : Nat) (L : List (Option mV)) (st : List mV) (w : mW) : Prop :=
  (w.length ≤ w'.length ∧ mSz w ≤ mSz w') ∧
  ∀ (p : Program) (l : Launch) (e : Env) (R : Room) (s : State) (m : MethodId) (args : Array Value) (below : List Frame) (meth : Method) (c : Code) (H : Heap) (locs : List Loc) (ls : Array Slot) (Q : State → Prop) (g : mG) (n0 z0 : Nat),
    mCx M d g X p R s m args meth c → n0 ≤ w.length → z0 ≤ mSz w → w'.length ≤ n0 + R.cells → mSz w' ≤ z0 + R.slots →
    (∀ (H1 : Heap) (locs1 : List Loc) (ls1 : Array Slot) (pc1 : Nat) (st1 : List mV), mRet M pc1 st1 r → mH g w' H1 → va_S (fun q => g.1 ≤ q) s.heap H1 locs1 → W p l e R s m args below meth c H1 locs1 (w'.length - n0) (mSz w' - z0) Q (F0 m pc1 ls1 (st1.map (mt g)))) →
    mL g M.2.2.1 L ls → mH g w H → va_S (fun q => g.1 ≤ q) s.heap H locs →
    W p l e R s m args below meth c H locs (w.length - n0) (mSz w - z0) Q (F0 m pc ls (st.map (mt g)))
