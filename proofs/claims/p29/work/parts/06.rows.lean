section EV
variable {X : mXs} {M : mM} {d : Nat} {r : Option mV} {w' : mW} {pc q : Nat} {L : List (Option mV)} {st : List mV} {w : mW}
/-- an instruction that changes the stack alone -/
theorem ev_pure {st2 : List mV} (k : mEv X M d r w' q L st2 w)
    (h : ∀ (p : Program) (l : Launch) (e : Env) (R : Room) (s : State) (m : MethodId) (args : Array Value) (below : List Frame) (meth : Method) (c : Code) (H : Heap) (locs : List Loc) (ls : Array Slot) (Q : State → Prop) (cells slots : Nat) (g : mG), mCx M d g X p R s m args meth c → mL g M.2.2.1 L ls → mH g w H → va_S (fun q => g.1 ≤ q) s.heap H locs → cells ≤ R.cells → slots ≤ R.slots →
      W p l e R s m args below meth c H locs cells slots Q (F0 m q ls (st2.map (mt g))) → W p l e R s m args below meth c H locs cells slots Q (F0 m pc ls (st.map (mt g)))) : mEv X M d r w' pc L st w :=
  ⟨k.1, fun p l e R s m args below meth c H locs ls Q g n0 z0 C h1 h2 h3 h4 hend hL hH hS => h p l e R s m args below meth c H locs ls Q _ _ g C hL hH hS (by have := k.1.1; omega) (by have := k.1.2; omega) (k.2 p l e R s m args below meth c H locs ls Q g n0 z0 C h1 h2 h3 h4 hend hL hH hS)⟩
/-- an instruction that changes the locals -/
theorem ev_loc {st2 : List mV} {L2 : List (Option mV)} (k : mEv X M d r w' q L2 st2 w)
    (h : ∀ (p : Program) (l : Launch) (e : Env) (R : Room) (s : State) (m : MethodId) (args : Array Value) (below : List Frame) (meth : Method) (c : Code) (H : Heap) (locs : List Loc) (ls : Array Slot) (Q : State → Prop) (cells slots : Nat) (g : mG), mCx M d g X p R s m args meth c → mL g M.2.2.1 L ls →
      (∀ ls2 : Array Slot, mL g M.2.2.1 L2 ls2 → W p l e R s m args below meth c H locs cells slots Q (F0 m q ls2 (st2.map (mt g)))) → W p l e R s m args below meth c H locs cells slots Q (F0 m pc ls (st.map (mt g)))) : mEv X M d r w' pc L st w :=
  ⟨k.1, fun p l e R s m args below meth c H locs ls Q g n0 z0 C h1 h2 h3 h4 hend hL hH hS => h p l e R s m args below meth c H locs ls Q _ _ g C hL (fun ls2 hL2 => k.2 p l e R s m args below meth c H locs ls2 Q g n0 z0 C h1 h2 h3 h4 hend hL2 hH hS)⟩
/-- an instruction that changes a cell of the world -/
theorem ev_heap {st2 : List mV} {w2 : mW} (k : mEv X M d r w' q L st2 w2) (hl : w2.length = w.length) (hz : mSz w2 = mSz w)
    (h : ∀ (p : Program) (l : Launch) (e : Env) (R : Room) (s : State) (m : MethodId) (args : Array Value) (below : List Frame) (meth : Method) (c : Code) (H : Heap) (locs : List Loc) (ls : Array Slot) (Q : State → Prop) (cells slots : Nat) (g : mG), mCx M d g X p R s m args meth c → mH g w H → va_S (fun q => g.1 ≤ q) s.heap H locs →
      (∀ (H1 : Heap) (locs1 : List Loc), mH g w2 H1 → va_S (fun q => g.1 ≤ q) s.heap H1 locs1 → W p l e R s m args below meth c H1 locs1 cells slots Q (F0 m q ls (st2.map (mt g)))) → W p l e R s m args below meth c H locs cells slots Q (F0 m pc ls (st.map (mt g)))) : mEv X M d r w' pc L st w := by
  refine ⟨by rw [← hl, ← hz]; exact k.1, fun p l e R s m args below meth c H locs ls Q g n0 z0 C h1 h2 h3 h4 hend hL hH hS => h p l e R s m args below meth c H locs ls Q _ _ g C hH hS (fun H1 locs1 hH1 hS1 => ?_)⟩
  have := k.2 p l e R s m args below meth c H1 locs1 ls Q g n0 z0 C (by rw [hl]; exact h1) (by rw [hz]; exact h2) h3 h4 hend hL hH1 hS1
  rw [hl, hz] at this
  exact this
/-- an instruction that makes a cell -/
theorem ev_make {st2 : List mV} {c0 : mC} (k : mEv X M d r w' q L st2 (w ++ [c0]))
    (h : ∀ (p : Program) (l : Launch) (e : Env) (R : Room) (s : State) (m : MethodId) (args : Array Value) (below : List Frame) (meth : Method) (c : Code) (H : Heap) (locs : List Loc) (ls : Array Slot) (Q : State → Prop) (cells slots : Nat) (g : mG), mCx M d g X p R s m args meth c → mH g w H → va_S (fun q => g.1 ≤ q) s.heap H locs → cells + 1 ≤ R.cells → slots + mSzc c0 ≤ R.slots →
      (∀ (H1 : Heap), mH g (w ++ [c0]) H1 → va_S (fun q => g.1 ≤ q) s.heap H1 locs → W p l e R s m args below meth c H1 locs (cells + 1) (slots + mSzc c0) Q (F0 m q ls (st2.map (mt g)))) → W p l e R s m args below meth c H locs cells slots Q (F0 m pc ls (st.map (mt g)))) : mEv X M d r w' pc L st w := by
  have k1 := k.1
  rw [mSz_app, List.length_append, List.length_singleton] at k1
  refine ⟨⟨by omega, by omega⟩, fun p l e R s m args below meth c H locs ls Q g n0 z0 C h1 h2 h3 h4 hend hL hH hS => h p l e R s m args below meth c H locs ls Q _ _ g C hH hS (by omega) (by omega) (fun H1 hH1 hS1 => ?_)⟩
  have := k.2 p l e R s m args below meth c H1 locs ls Q g n0 z0 C (by rw [List.length_append]; omega) (by rw [mSz_app]; omega) h3 h4 hend hL hH1 hS1
  rw [mSz_app, List.length_append, List.length_singleton] at this
  rw [show w.length - n0 + 1 = w.length + 1 - n0 by omega, show mSz w - z0 + mSzc c0 = mSz w + mSzc c0 - z0 by omega]
  exact this
/-- fewer locals are known -/
def mLe : List (Option mV) → List (Option mV) → Prop
  | [], _ => True
  | none :: a, _ :: b => mLe a b
  | none :: a, [] => mLe a []
  | some v :: a, x :: b => x = some v ∧ mLe a b
  | some _ :: _, [] => False
theorem mLe_get : ∀ (a b : List (Option mV)), mLe a b → ∀ (k : Nat) (v : mV), a[k]? = some (some v) → b[k]? = some (some v)
  | [], _, _, k, v, h => by simp at h
  | none :: a, [], hl, 0, v, h => by simp at h
  | none :: a, [], hl, k + 1, v, h => by
    simp only [List.getElem?_cons_succ] at h
    have := mLe_get a [] hl k v h
    simp at this
  | none :: a, x :: b, hl, 0, v, h => by simp at h
  | none :: a, x :: b, hl, k + 1, v, h => by
    simp only [List.getElem?_cons_succ] at h ⊢
    exact mLe_get a b hl k v h
  | some u :: a, [], hl, k, v, h => hl.elim
  | some u :: a, x :: b, hl, 0, v, h => by
    simp only [List.getElem?_cons_zero] at h ⊢
    rw [hl.1]
    exact h
  | some u :: a, x :: b, hl, k + 1, v, h => by
    simp only [List.getElem?_cons_succ] at h ⊢
    exact mLe_get a b hl.2 k v h
theorem ev_weak (L2 : List (Option mV)) (hl : mLe L2 L) (k : mEv X M d r w' pc L2 st w) : mEv X M d r w' pc L st w :=
  ⟨k.1, fun p l e R s m args below meth c H locs ls Q g n0 z0 C h1 h2 h3 h4 hend hL hH hS => k.2 p l e R s m args below meth c H locs ls Q g n0 z0 C h1 h2 h3 h4 hend ⟨hL.1, hL.2.1, fun j v hv => hL.2.2 j v (mLe_get L2 L hl j v hv)⟩ hH hS⟩
-- stores into the locals
def mKill : Option mV → Option mV
  | some (.inr (.inl _)) => none
  | a => a
def mSt1 : List (Option mV) → Nat → mV → List (Option mV)
  | [], _, _ => []
  | _ :: L, 0, v => some v :: L
  | a :: L, 1, v => mKill a :: mSt1 L 0 v
  | a :: L, k + 2, v => a :: mSt1 L (k + 1) v
def mDrop : List (Option mV) → List (Option mV)
  | [] => []
  | _ :: L => none :: L
def mSt2 : List (Option mV) → Nat → mV → List (Option mV)
  | [], _, _ => []
  | _ :: L, 0, v => some v :: mDrop L
  | a :: L, 1, v => mKill a :: mSt2 L 0 v
  | a :: L, k + 2, v => a :: mSt2 L (k + 1) v
theorem mKill_get {a : Option mV} {u : mV} (h : mKill a = some u) : a = some u ∧ mcat u = 1 := by
  rcases a with _ | (_ | _ | _ | _) <;> simp [mKill] at h <;> subst h <;> exact ⟨rfl, rfl⟩
theorem mSt1_get : ∀ (L : List (Option mV)) (i : Nat) (v : mV) (k : Nat) (u : mV), (mSt1 L i v)[k]? = some (some u) → (k = i ∧ u = v) ∨ (k ≠ i ∧ L[k]? = some (some u) ∧ ¬ (k + 1 = i ∧ mcat u = 2))
  | [], i, v, k, u, h => by simp [mSt1] at h
  | a :: L, 0, v, 0, u, h => by
    simp [mSt1] at h
    exact Or.inl ⟨rfl, h.symm⟩
  | a :: L, 0, v, k + 1, u, h => by
    simp [mSt1] at h
    exact Or.inr ⟨by omega, by simpa using h, by omega⟩
  | a :: L, 1, v, 0, u, h => by
    simp [mSt1] at h
    obtain ⟨h1, h2⟩ := mKill_get h
    exact Or.inr ⟨by omega, by simp [h1], by omega⟩
  | a :: L, 1, v, k + 1, u, h => by
    simp only [mSt1, List.getElem?_cons_succ] at h
    rcases mSt1_get L 0 v k u h with ⟨h1, h2⟩ | ⟨h1, h2, h3⟩
    · exact Or.inl ⟨by omega, h2⟩
    · exact Or.inr ⟨by omega, by simpa using h2, by omega⟩
  | a :: L, i + 2, v, 0, u, h => by
    simp [mSt1] at h
    exact Or.inr ⟨by omega, by simp [h], by omega⟩
  | a :: L, i + 2, v, k + 1, u, h => by
    simp only [mSt1, List.getElem?_cons_succ] at h
    rcases mSt1_get L (i + 1) v k u h with ⟨h1, h2⟩ | ⟨h1, h2, h3⟩
    · exact Or.inl ⟨by omega, h2⟩
    · exact Or.inr ⟨by omega, by simpa using h2, fun z => h3 ⟨by omega, z.2⟩⟩
theorem mDrop_get : ∀ (L : List (Option mV)) (k : Nat) (u : mV), (mDrop L)[k]? = some (some u) → k ≠ 0 ∧ L[k]? = some (some u)
  | [], k, u, h => by simp [mDrop] at h
  | a :: L, 0, u, h => by simp [mDrop] at h
  | a :: L, k + 1, u, h => ⟨by omega, by simpa [mDrop] using h⟩
theorem mSt2_get : ∀ (L : List (Option mV)) (i : Nat) (v : mV) (k : Nat) (u : mV), (mSt2 L i v)[k]? = some (some u) → (k = i ∧ u = v) ∨ (k ≠ i ∧ k ≠ i + 1 ∧ L[k]? = some (some u) ∧ ¬ (k + 1 = i ∧ mcat u = 2))
  | [], i, v, k, u, h => by simp [mSt2] at h
  | a :: L, 0, v, 0, u, h => by
    simp [mSt2] at h
    exact Or.inl ⟨rfl, h.symm⟩
  | a :: L, 0, v, k + 1, u, h => by
    simp only [mSt2, List.getElem?_cons_succ] at h
    obtain ⟨h1, h2⟩ := mDrop_get L k u h
    exact Or.inr ⟨by omega, by omega, by simpa using h2, by omega⟩
  | a :: L, 1, v, 0, u, h => by
    simp [mSt2] at h
    obtain ⟨h1, h2⟩ := mKill_get h
    exact Or.inr ⟨by omega, by omega, by simp [h1], by omega⟩
  | a :: L, 1, v, k + 1, u, h => by
    simp only [mSt2, List.getElem?_cons_succ] at h
    rcases mSt2_get L 0 v k u h with ⟨h1, h2⟩ | ⟨h1, h2, h3, h4⟩
    · exact Or.inl ⟨by omega, h2⟩
    · exact Or.inr ⟨by omega, by omega, by simpa using h3, by omega⟩
  | a :: L, i + 2, v, 0, u, h => by
    simp [mSt2] at h
    exact Or.inr ⟨by omega, by omega, by simp [h], by omega⟩
  | a :: L, i + 2, v, k + 1, u, h => by
    simp only [mSt2, List.getElem?_cons_succ] at h
    rcases mSt2_get L (i + 1) v k u h with ⟨h1, h2⟩ | ⟨h1, h2, h3, h4⟩
    · exact Or.inl ⟨by omega, h2⟩
    · exact Or.inr ⟨by omega, by omega, by simpa using h3, fun z => h4 ⟨by omega, z.2⟩⟩
def mPairs (g : mG) : Nat → List (Option mV) → List (Nat × Value)
  | _, [] => []
  | i, none :: L => mPairs g (i + 1) L
  | i, some v :: L => (i, mt g v) :: mPairs g (i + 1) L
theorem mPairs_mem {g : mG} : ∀ (L : List (Option mV)) (i : Nat) (q : Nat × Value), q ∈ mPairs g i L ↔ ∃ (k : Nat) (v : mV), L[k]? = some (some v) ∧ q = (i + k, mt g v)
  | [], i, q => by simp [mPairs]
  | none :: L, i, q => by
    rw [mPairs, mPairs_mem L (i + 1) q]
    constructor
    · rintro ⟨k, v, h1, h2⟩
      exact ⟨k + 1, v, by simpa using h1, by rw [h2]; congr 1; omega⟩
    · rintro ⟨k, v, h1, h2⟩
      cases k with
      | zero => simp at h1
      | succ k => exact ⟨k, v, by simpa using h1, by rw [h2]; congr 1; omega⟩
  | some u :: L, i, q => by
    rw [mPairs, List.mem_cons, mPairs_mem L (i + 1) q]
    constructor
    · rintro (h | ⟨k, v, h1, h2⟩)
      · exact ⟨0, u, rfl, h⟩
      · exact ⟨k + 1, v, by simpa using h1, by rw [h2]; congr 1; omega⟩
    · rintro ⟨k, v, h1, h2⟩
      cases k with
      | zero =>
        simp at h1
        subst h1
        exact Or.inl h2
      | succ k => exact Or.inr ⟨k, v, by simpa using h1, by rw [h2]; congr 1; omega⟩
theorem mL_has {g : mG} {n : Nat} {ls : Array Slot} (h : mL g n L ls) : lv_has ls n (mPairs g 0 L) := by
  refine ⟨h.1, h.2.1, fun q hq => ?_⟩
  obtain ⟨k, v, h1, rfl⟩ := (mPairs_mem L 0 q).mp hq
  simpa using h.2.2 k v h1
theorem mL_st1 {g : mG} {n i : Nat} {v : mV} {ls : Array Slot} (h : lv_has ls n ((i, mt g v) :: (mPairs g 0 L).filter (fun q => !(q.1 == i) && !(q.1 + 1 == i && q.2.category == 2)))) : mL g n (mSt1 L i v) ls := by
  refine ⟨h.1, h.2.1, fun k u hu => ?_⟩
  rcases mSt1_get L i v k u hu with ⟨rfl, rfl⟩ | ⟨h1, h2, h3⟩
  · exact h.2.2 _ List.mem_cons_self
  · refine h.2.2 (k, mt g u) (List.mem_cons_of_mem _ (List.mem_filter.mpr ⟨(mPairs_mem L 0 _).mpr ⟨k, u, h2, by simp⟩, ?_⟩))
    simp only [mt_cat, Bool.and_eq_true, Bool.not_eq_true', beq_eq_false_iff_ne, ne_eq, Bool.and_eq_false_iff]
    exact ⟨h1, by by_cases z : k + 1 = i; exact Or.inr fun y => h3 ⟨z, y⟩; exact Or.inl z⟩
theorem mL_st2 {g : mG} {n i : Nat} {v : mV} {ls : Array Slot} (h : lv_has ls n ((i, mt g v) :: (mPairs g 0 L).filter (fun q => !(q.1 == i) && (!(q.1 == i + 1) && !(q.1 + 1 == i && q.2.category == 2))))) : mL g n (mSt2 L i v) ls := by
  refine ⟨h.1, h.2.1, fun k u hu => ?_⟩
  rcases mSt2_get L i v k u hu with ⟨rfl, rfl⟩ | ⟨h1, h1b, h2, h3⟩
  · exact h.2.2 _ List.mem_cons_self
  · refine h.2.2 (k, mt g u) (List.mem_cons_of_mem _ (List.mem_filter.mpr ⟨(mPairs_mem L 0 _).mpr ⟨k, u, h2, by simp⟩, ?_⟩))
    simp only [mt_cat, Bool.and_eq_true, Bool.not_eq_true', beq_eq_false_iff_ne, ne_eq, Bool.and_eq_false_iff]
    exact ⟨h1, h1b, by by_cases z : k + 1 = i; exact Or.inr fun y => h3 ⟨z, y⟩; exact Or.inl z⟩
theorem ev_iconst {n : Int} {v : Int32} (hd : decode M.2.1 pc = .ok (.iconst n, 1)) (hq : pc + 1 = q) (hv : Int32.ofInt n = v) (kk : mEv X M d r w' q L (vi v :: st) w) : mEv X M d r w' pc L (st) w := by
  subst hq
  exact ev_pure kk fun p l e R s m args below meth c H locs ls Q cells slots g C hL hH hS hc hs K => lv_iconst C.1 C.2.1 hd hv K
theorem ev_bipush {n : Int} {v : Int32} (hd : decode M.2.1 pc = .ok (.bipush n, 2)) (hq : pc + 2 = q) (hv : (Int8.ofInt n).toInt32 = v) (kk : mEv X M d r w' q L (vi v :: st) w) : mEv X M d r w' pc L (st) w := by
  subst hq
  exact ev_pure kk fun p l e R s m args below meth c H locs ls Q cells slots g C hL hH hS hc hs K => lv_bipush C.1 C.2.1 hd hv K
theorem ev_sipush {n : Int} {v : Int32} (hd : decode M.2.1 pc = .ok (.sipush n, 3)) (hq : pc + 3 = q) (hv : (Int16.ofInt n).toInt32 = v) (kk : mEv X M d r w' q L (vi v :: st) w) : mEv X M d r w' pc L (st) w := by
  subst hq
  exact ev_pure kk fun p l e R s m args below meth c H locs ls Q cells slots g C hL hH hS hc hs K => lv_sipush C.1 C.2.1 hd hv K
theorem ev_lconst {n : Fin 2} {v : Int64} (hd : decode M.2.1 pc = .ok (.lconst n, 1)) (hq : pc + 1 = q) (hv : Int64.ofNat (n : Nat) = v) (kk : mEv X M d r w' q L (vl v :: st) w) : mEv X M d r w' pc L (st) w := by
  subst hq
  exact ev_pure kk fun p l e R s m args below meth c H locs ls Q cells slots g C hL hH hS hc hs K => lv_lconst C.1 C.2.1 hd hv K
theorem ev_null  (hd : decode M.2.1 pc = .ok (.aconst_null, 1)) (hq : pc + 1 = q) (kk : mEv X M d r w' q L (vr none :: st) w) : mEv X M d r w' pc L (st) w := by
  subst hq
  exact ev_pure kk fun p l e R s m args below meth c H locs ls Q cells slots g C hL hH hS hc hs K => lv_null C.1 C.2.1 hd K
theorem ev_ldc {k : Nat} {v : Int32} (hd : decode M.2.1 pc = .ok (.ldc k, 2)) (hq : pc + 2 = q) (hw : Cond.constant M.1.cls k v ∈ mWS) (kk : mEv X M d r w' q L (vi v :: st) w) : mEv X M d r w' pc L (st) w := by
  subst hq
  exact ev_pure kk fun p l e R s m args below meth c H locs ls Q cells slots g C hL hH hS hc hs K => lv_ldc C.1 C.2.1 C.2.2.2.1 (C.2.2.2.2.1 _ hw) hd K
theorem ev_ldcw {k : Nat} {v : Int32} (hd : decode M.2.1 pc = .ok (.ldc_w k, 3)) (hq : pc + 3 = q) (hw : Cond.constant M.1.cls k v ∈ mWS) (kk : mEv X M d r w' q L (vi v :: st) w) : mEv X M d r w' pc L (st) w := by
  subst hq
  exact ev_pure kk fun p l e R s m args below meth c H locs ls Q cells slots g C hL hH hS hc hs K => lv_ldcw C.1 C.2.1 C.2.2.2.1 (C.2.2.2.2.1 _ hw) hd K
theorem ev_ldc2 {k : Nat} {v : Int64} (hd : decode M.2.1 pc = .ok (.ldc2_w k, 3)) (hq : pc + 3 = q) (hw : Cond.constantLong M.1.cls k v ∈ mWS) (kk : mEv X M d r w' q L (vl v :: st) w) : mEv X M d r w' pc L (st) w := by
  subst hq
  exact ev_pure kk fun p l e R s m args below meth c H locs ls Q cells slots g C hL hH hS hc hs K => lv_ldc2 C.1 C.2.1 C.2.2.2.1 (C.2.2.2.2.1 _ hw) hd K
theorem ev_iload_n {k : Fin 4} {x : Int32} (hd : decode M.2.1 pc = .ok (.iload_n k, 1)) (hq : pc + 1 = q) (hl : L[(k : Nat)]? = some (some (vi x))) (kk : mEv X M d r w' q L (vi x :: st) w) : mEv X M d r w' pc L (st) w := by
  subst hq
  exact ev_pure kk fun p l e R s m args below meth c H locs ls Q cells slots g C hL hH hS hc hs K => lv_iload_n C.1 C.2.1 hd rfl (hL.2.2 _ _ hl) K
theorem ev_iload {k : Nat} {x : Int32} (hd : decode M.2.1 pc = .ok (.iload k, 2)) (hq : pc + 2 = q) (hl : L[k]? = some (some (vi x))) (kk : mEv X M d r w' q L (vi x :: st) w) : mEv X M d r w' pc L (st) w := by
  subst hq
  exact ev_pure kk fun p l e R s m args below meth c H locs ls Q cells slots g C hL hH hS hc hs K => lv_iload C.1 C.2.1 hd (hL.2.2 _ _ hl) K
theorem ev_lload_n {k : Fin 4} {x : Int64} (hd : decode M.2.1 pc = .ok (.lload_n k, 1)) (hq : pc + 1 = q) (hl : L[(k : Nat)]? = some (some (vl x))) (kk : mEv X M d r w' q L (vl x :: st) w) : mEv X M d r w' pc L (st) w := by
  subst hq
  exact ev_pure kk fun p l e R s m args below meth c H locs ls Q cells slots g C hL hH hS hc hs K => lv_lload_n C.1 C.2.1 hd rfl (hL.2.2 _ _ hl) K
theorem ev_lload {k : Nat} {x : Int64} (hd : decode M.2.1 pc = .ok (.lload k, 2)) (hq : pc + 2 = q) (hl : L[k]? = some (some (vl x))) (kk : mEv X M d r w' q L (vl x :: st) w) : mEv X M d r w' pc L (st) w := by
  subst hq
  exact ev_pure kk fun p l e R s m args below meth c H locs ls Q cells slots g C hL hH hS hc hs K => lv_lload C.1 C.2.1 hd (hL.2.2 _ _ hl) K
theorem ev_aload_n {k : Fin 4} {u : Option Nat ⊕ Nat} (hd : decode M.2.1 pc = .ok (.aload_n k, 1)) (hq : pc + 1 = q) (hl : L[(k : Nat)]? = some (some (Sum.inr (Sum.inr u)))) (kk : mEv X M d r w' q L (Sum.inr (Sum.inr u) :: st) w) : mEv X M d r w' pc L st w := by
  subst hq
  rcases u with (_ | a) | a
  · exact ev_pure kk fun p l e R s m args below meth c H locs ls Q cells slots g C hL hH hS hc hs K => lv_aload_nN C.1 C.2.1 hd rfl (hL.2.2 _ _ hl) K
  · exact ev_pure kk fun p l e R s m args below meth c H locs ls Q cells slots g C hL hH hS hc hs K => lv_aload_n C.1 C.2.1 hd rfl (hL.2.2 _ _ hl) K
  · exact ev_pure kk fun p l e R s m args below meth c H locs ls Q cells slots g C hL hH hS hc hs K => lv_aload_n C.1 C.2.1 hd rfl (hL.2.2 _ _ hl) K
theorem ev_aload {k : Nat} {u : Option Nat ⊕ Nat} (hd : decode M.2.1 pc = .ok (.aload k, 2)) (hq : pc + 2 = q) (hl : L[k]? = some (some (Sum.inr (Sum.inr u)))) (kk : mEv X M d r w' q L (Sum.inr (Sum.inr u) :: st) w) : mEv X M d r w' pc L st w := by
  subst hq
  rcases u with (_ | a) | a
  · exact ev_pure kk fun p l e R s m args below meth c H locs ls Q cells slots g C hL hH hS hc hs K => lv_aloadN C.1 C.2.1 hd (hL.2.2 _ _ hl) K
  · exact ev_pure kk fun p l e R s m args below meth c H locs ls Q cells slots g C hL hH hS hc hs K => lv_aload C.1 C.2.1 hd (hL.2.2 _ _ hl) K
  · exact ev_pure kk fun p l e R s m args below meth c H locs ls Q cells slots g C hL hH hS hc hs K => lv_aload C.1 C.2.1 hd (hL.2.2 _ _ hl) K
theorem ev_istore_n {k : Fin 4} {x : Int32} (hd : decode M.2.1 pc = .ok (.istore_n k, 1)) (hq : pc + 1 = q) (hn : (k : Nat) < M.2.2.1) (kk : mEv X M d r w' q (mSt1 L (k : Nat) (vi x)) st w) : mEv X M d r w' pc L (vi x :: st) w := by
  subst hq
  exact ev_loc kk fun p l e R s m args below meth c H locs ls Q cells slots g C hL K => lv_istore_n C.1 C.2.1 hd rfl (mL_has hL) hn rfl (fun ls2 h2 => K ls2 (mL_st1 h2))
theorem ev_istore {k : Nat} {x : Int32} (hd : decode M.2.1 pc = .ok (.istore k, 2)) (hq : pc + 2 = q) (hn : k < M.2.2.1) (kk : mEv X M d r w' q (mSt1 L k (vi x)) st w) : mEv X M d r w' pc L (vi x :: st) w := by
  subst hq
  exact ev_loc kk fun p l e R s m args below meth c H locs ls Q cells slots g C hL K => lv_istore C.1 C.2.1 hd (mL_has hL) hn rfl (fun ls2 h2 => K ls2 (mL_st1 h2))
theorem ev_lstore_n {k : Fin 4} {x : Int64} (hd : decode M.2.1 pc = .ok (.lstore_n k, 1)) (hq : pc + 1 = q) (hn : (k : Nat) + 1 < M.2.2.1) (kk : mEv X M d r w' q (mSt2 L (k : Nat) (vl x)) st w) : mEv X M d r w' pc L (vl x :: st) w := by
  subst hq
  exact ev_loc kk fun p l e R s m args below meth c H locs ls Q cells slots g C hL K => lv_lstore_n C.1 C.2.1 hd rfl (mL_has hL) hn rfl (fun ls2 h2 => K ls2 (mL_st2 h2))
theorem ev_lstore {k : Nat} {x : Int64} (hd : decode M.2.1 pc = .ok (.lstore k, 2)) (hq : pc + 2 = q) (hn : k + 1 < M.2.2.1) (kk : mEv X M d r w' q (mSt2 L k (vl x)) st w) : mEv X M d r w' pc L (vl x :: st) w := by
  subst hq
  exact ev_loc kk fun p l e R s m args below meth c H locs ls Q cells slots g C hL K => lv_lstore C.1 C.2.1 hd (mL_has hL) hn rfl (fun ls2 h2 => K ls2 (mL_st2 h2))
theorem ev_astore_n {k : Fin 4} {u : Option Nat ⊕ Nat} (hd : decode M.2.1 pc = .ok (.astore_n k, 1)) (hq : pc + 1 = q) (hn : (k : Nat) < M.2.2.1) (kk : mEv X M d r w' q (mSt1 L (k : Nat) (Sum.inr (Sum.inr u))) st w) : mEv X M d r w' pc L (Sum.inr (Sum.inr u) :: st) w := by
  subst hq
  rcases u with (_ | a) | a
  · exact ev_loc kk fun p l e R s m args below meth c H locs ls Q cells slots g C hL K => lv_astore_nN C.1 C.2.1 hd rfl (mL_has hL) hn rfl (fun ls2 h2 => K ls2 (mL_st1 h2))
  · exact ev_loc kk fun p l e R s m args below meth c H locs ls Q cells slots g C hL K => lv_astore_n C.1 C.2.1 hd rfl (mL_has hL) hn rfl (fun ls2 h2 => K ls2 (mL_st1 h2))
  · exact ev_loc kk fun p l e R s m args below meth c H locs ls Q cells slots g C hL K => lv_astore_n C.1 C.2.1 hd rfl (mL_has hL) hn rfl (fun ls2 h2 => K ls2 (mL_st1 h2))
theorem ev_astore {k : Nat} {u : Option Nat ⊕ Nat} (hd : decode M.2.1 pc = .ok (.astore k, 2)) (hq : pc + 2 = q) (hn : k < M.2.2.1) (kk : mEv X M d r w' q (mSt1 L k (Sum.inr (Sum.inr u))) st w) : mEv X M d r w' pc L (Sum.inr (Sum.inr u) :: st) w := by
  subst hq
  rcases u with (_ | a) | a
  · exact ev_loc kk fun p l e R s m args below meth c H locs ls Q cells slots g C hL K => lv_astoreN C.1 C.2.1 hd (mL_has hL) hn rfl (fun ls2 h2 => K ls2 (mL_st1 h2))
  · exact ev_loc kk fun p l e R s m args below meth c H locs ls Q cells slots g C hL K => lv_astore C.1 C.2.1 hd (mL_has hL) hn rfl (fun ls2 h2 => K ls2 (mL_st1 h2))
  · exact ev_loc kk fun p l e R s m args below meth c H locs ls Q cells slots g C hL K => lv_astore C.1 C.2.1 hd (mL_has hL) hn rfl (fun ls2 h2 => K ls2 (mL_st1 h2))
theorem ev_iinc {i : Nat} {n : Int} {x v : Int32} (hd : decode M.2.1 pc = .ok (.iinc i n, 3)) (hq : pc + 3 = q) (hn : i < M.2.2.1) (hl : L[i]? = some (some (vi x))) (hv : x + Int32.ofInt n = v) (kk : mEv X M d r w' q (mSt1 L i (vi v)) st w) : mEv X M d r w' pc L st w := by
  subst hq
  refine ev_loc kk fun p l e R s m args below meth c H locs ls Q cells slots g C hL K => ?_
  obtain ⟨j, hj⟩ := List.getElem?_of_mem ((mPairs_mem (g := g) L 0 (i, mt g (vi x))).mpr ⟨i, vi x, hl, by simp⟩)
  exact lv_iinc C.1 C.2.1 hd (mL_has hL) hj hv hn rfl (fun ls2 h2 => K ls2 (mL_st1 h2))
theorem ev_iadd {x y : Int32} (hd : decode M.2.1 pc = .ok (.iadd, 1)) (hq : pc + 1 = q) (kk : mEv X M d r w' q L (vi (x + y) :: st) w) : mEv X M d r w' pc L (vi y :: vi x :: st) w := by
  subst hq
  exact ev_pure kk fun p l e R s m args below meth c H locs ls Q cells slots g C hL hH hS hc hs K => lv_iadd C.1 C.2.1 hd K
theorem ev_isub {x y : Int32} (hd : decode M.2.1 pc = .ok (.isub, 1)) (hq : pc + 1 = q) (kk : mEv X M d r w' q L (vi (x - y) :: st) w) : mEv X M d r w' pc L (vi y :: vi x :: st) w := by
  subst hq
  exact ev_pure kk fun p l e R s m args below meth c H locs ls Q cells slots g C hL hH hS hc hs K => lv_isub C.1 C.2.1 hd K
theorem ev_imul {x y : Int32} (hd : decode M.2.1 pc = .ok (.imul, 1)) (hq : pc + 1 = q) (kk : mEv X M d r w' q L (vi (x * y) :: st) w) : mEv X M d r w' pc L (vi y :: vi x :: st) w := by
  subst hq
  exact ev_pure kk fun p l e R s m args below meth c H locs ls Q cells slots g C hL hH hS hc hs K => lv_imul C.1 C.2.1 hd K
theorem ev_iand {x y : Int32} (hd : decode M.2.1 pc = .ok (.iand, 1)) (hq : pc + 1 = q) (kk : mEv X M d r w' q L (vi (x &&& y) :: st) w) : mEv X M d r w' pc L (vi y :: vi x :: st) w := by
  subst hq
  exact ev_pure kk fun p l e R s m args below meth c H locs ls Q cells slots g C hL hH hS hc hs K => lv_iand C.1 C.2.1 hd K
theorem ev_ior {x y : Int32} (hd : decode M.2.1 pc = .ok (.ior, 1)) (hq : pc + 1 = q) (kk : mEv X M d r w' q L (vi (x ||| y) :: st) w) : mEv X M d r w' pc L (vi y :: vi x :: st) w := by
  subst hq
  exact ev_pure kk fun p l e R s m args below meth c H locs ls Q cells slots g C hL hH hS hc hs K => lv_ior C.1 C.2.1 hd K
theorem ev_ixor {x y : Int32} (hd : decode M.2.1 pc = .ok (.ixor, 1)) (hq : pc + 1 = q) (kk : mEv X M d r w' q L (vi (x ^^^ y) :: st) w) : mEv X M d r w' pc L (vi y :: vi x :: st) w := by
  subst hq
  exact ev_pure kk fun p l e R s m args below meth c H locs ls Q cells slots g C hL hH hS hc hs K => lv_ixor C.1 C.2.1 hd K
theorem ev_ishl {x y : Int32} (hd : decode M.2.1 pc = .ok (.ishl, 1)) (hq : pc + 1 = q) (kk : mEv X M d r w' q L (vi (x <<< (y &&& 31)) :: st) w) : mEv X M d r w' pc L (vi y :: vi x :: st) w := by
  subst hq
  exact ev_pure kk fun p l e R s m args below meth c H locs ls Q cells slots g C hL hH hS hc hs K => lv_ishl C.1 C.2.1 hd K
theorem ev_ishr {x y : Int32} (hd : decode M.2.1 pc = .ok (.ishr, 1)) (hq : pc + 1 = q) (kk : mEv X M d r w' q L (vi (x >>> (y &&& 31)) :: st) w) : mEv X M d r w' pc L (vi y :: vi x :: st) w := by
  subst hq
  exact ev_pure kk fun p l e R s m args below meth c H locs ls Q cells slots g C hL hH hS hc hs K => lv_ishr C.1 C.2.1 hd K
theorem ev_ineg {x : Int32} (hd : decode M.2.1 pc = .ok (.ineg, 1)) (hq : pc + 1 = q) (kk : mEv X M d r w' q L (vi (-x) :: st) w) : mEv X M d r w' pc L (vi x :: st) w := by
  subst hq
  exact ev_pure kk fun p l e R s m args below meth c H locs ls Q cells slots g C hL hH hS hc hs K => lv_ineg C.1 C.2.1 hd K
theorem ev_iushr {x y : Int32} (hd : decode M.2.1 pc = .ok (.iushr, 1)) (hq : pc + 1 = q) (kk : mEv X M d r w' q L (vi ((x.toUInt32 >>> (y.toUInt32 &&& Int32.toUInt32 31)).toInt32) :: st) w) : mEv X M d r w' pc L (vi y :: vi x :: st) w := by
  subst hq
  exact ev_pure kk fun p l e R s m args below meth c H locs ls Q cells slots g C hL hH hS hc hs K => lv_iushr C.1 C.2.1 hd rfl K
theorem ev_idiv {x y : Int32} (hd : decode M.2.1 pc = .ok (.idiv, 1)) (hq : pc + 1 = q) (hne : ¬ y = 0) (kk : mEv X M d r w' q L (vi (x / y) :: st) w) : mEv X M d r w' pc L (vi y :: vi x :: st) w := by
  subst hq
  exact ev_pure kk fun p l e R s m args below meth c H locs ls Q cells slots g C hL hH hS hc hs K => lv_idiv C.1 C.2.1 hd hne K
theorem ev_irem {x y : Int32} (hd : decode M.2.1 pc = .ok (.irem, 1)) (hq : pc + 1 = q) (hne : ¬ y = 0) (kk : mEv X M d r w' q L (vi (x - x / y * y) :: st) w) : mEv X M d r w' pc L (vi y :: vi x :: st) w := by
  subst hq
  exact ev_pure kk fun p l e R s m args below meth c H locs ls Q cells slots g C hL hH hS hc hs K => lv_irem C.1 C.2.1 hd hne K
theorem ev_ladd {x y : Int64} (hd : decode M.2.1 pc = .ok (.ladd, 1)) (hq : pc + 1 = q) (kk : mEv X M d r w' q L (vl (x + y) :: st) w) : mEv X M d r w' pc L (vl y :: vl x :: st) w := by
  subst hq
  exact ev_pure kk fun p l e R s m args below meth c H locs ls Q cells slots g C hL hH hS hc hs K => lv_ladd C.1 C.2.1 hd K
theorem ev_lmul {x y : Int64} (hd : decode M.2.1 pc = .ok (.lmul, 1)) (hq : pc + 1 = q) (kk : mEv X M d r w' q L (vl (x * y) :: st) w) : mEv X M d r w' pc L (vl y :: vl x :: st) w := by
  subst hq
  exact ev_pure kk fun p l e R s m args below meth c H locs ls Q cells slots g C hL hH hS hc hs K => lv_lmul C.1 C.2.1 hd K
theorem ev_land {x y : Int64} (hd : decode M.2.1 pc = .ok (.land, 1)) (hq : pc + 1 = q) (kk : mEv X M d r w' q L (vl (x &&& y) :: st) w) : mEv X M d r w' pc L (vl y :: vl x :: st) w := by
  subst hq
  exact ev_pure kk fun p l e R s m args below meth c H locs ls Q cells slots g C hL hH hS hc hs K => lv_land C.1 C.2.1 hd K
theorem ev_ldiv {x y : Int64} (hd : decode M.2.1 pc = .ok (.ldiv, 1)) (hq : pc + 1 = q) (hne : ¬ y = 0) (kk : mEv X M d r w' q L (vl (x / y) :: st) w) : mEv X M d r w' pc L (vl y :: vl x :: st) w := by
  subst hq
  exact ev_pure kk fun p l e R s m args below meth c H locs ls Q cells slots g C hL hH hS hc hs K => lv_ldiv C.1 C.2.1 hd hne K
theorem ev_lrem {x y : Int64} (hd : decode M.2.1 pc = .ok (.lrem, 1)) (hq : pc + 1 = q) (hne : ¬ y = 0) (kk : mEv X M d r w' q L (vl (x - x / y * y) :: st) w) : mEv X M d r w' pc L (vl y :: vl x :: st) w := by
  subst hq
  exact ev_pure kk fun p l e R s m args below meth c H locs ls Q cells slots g C hL hH hS hc hs K => lv_lrem C.1 C.2.1 hd hne K
theorem ev_lcmp {x y : Int64} (hd : decode M.2.1 pc = .ok (.lcmp, 1)) (hq : pc + 1 = q) (kk : mEv X M d r w' q L (vi (lg_cmp x y) :: st) w) : mEv X M d r w' pc L (vl y :: vl x :: st) w := by
  subst hq
  exact ev_pure kk fun p l e R s m args below meth c H locs ls Q cells slots g C hL hH hS hc hs K => W.lcmp C.1 C.2.1 hd K
theorem ev_i2l {x : Int32} (hd : decode M.2.1 pc = .ok (.i2l, 1)) (hq : pc + 1 = q) (kk : mEv X M d r w' q L (vl x.toInt64 :: st) w) : mEv X M d r w' pc L (vi x :: st) w := by
  subst hq
  exact ev_pure kk fun p l e R s m args below meth c H locs ls Q cells slots g C hL hH hS hc hs K => lv_i2l C.1 C.2.1 hd rfl K
theorem ev_l2i {x : Int64} (hd : decode M.2.1 pc = .ok (.l2i, 1)) (hq : pc + 1 = q) (kk : mEv X M d r w' q L (vi x.toInt32 :: st) w) : mEv X M d r w' pc L (vl x :: st) w := by
  subst hq
  exact ev_pure kk fun p l e R s m args below meth c H locs ls Q cells slots g C hL hH hS hc hs K => lv_l2i C.1 C.2.1 hd rfl K
theorem ev_i2c {x : Int32} (hd : decode M.2.1 pc = .ok (.i2c, 1)) (hq : pc + 1 = q) (kk : mEv X M d r w' q L (vi ((x.toUInt32 % 65536).toInt32) :: st) w) : mEv X M d r w' pc L (vi x :: st) w := by
  subst hq
  exact ev_pure kk fun p l e R s m args below meth c H locs ls Q cells slots g C hL hH hS hc hs K => lv_i2c C.1 C.2.1 hd rfl K
theorem ev_i2b {x : Int32} (hd : decode M.2.1 pc = .ok (.i2b, 1)) (hq : pc + 1 = q) (kk : mEv X M d r w' q L (vi x.toInt8.toInt32 :: st) w) : mEv X M d r w' pc L (vi x :: st) w := by
  subst hq
  exact ev_pure kk fun p l e R s m args below meth c H locs ls Q cells slots g C hL hH hS hc hs K => lv_i2b C.1 C.2.1 hd rfl K
theorem ev_dup {v : mV} (hd : decode M.2.1 pc = .ok (.dup, 1)) (hq : pc + 1 = q) (hv : mcat v = 1) (kk : mEv X M d r w' q L (v :: v :: st) w) : mEv X M d r w' pc L (v :: st) w := by
  subst hq
  exact ev_pure kk fun p l e R s m args below meth c H locs ls Q cells slots g C hL hH hS hc hs K => lv_dup C.1 C.2.1 hd (by rw [mt_cat]; exact hv) K
theorem ev_dup2 {v u : mV} (hd : decode M.2.1 pc = .ok (.dup2, 1)) (hq : pc + 1 = q) (hv : mcat v = 1) (hu : mcat u = 1) (kk : mEv X M d r w' q L (v :: u :: v :: u :: st) w) : mEv X M d r w' pc L (v :: u :: st) w := by
  subst hq
  exact ev_pure kk fun p l e R s m args below meth c H locs ls Q cells slots g C hL hH hS hc hs K => lv_dup2_11 C.1 C.2.1 hd (by rw [mt_cat]; exact hv) (by rw [mt_cat]; exact hu) K
theorem ev_icmp_eq_t {x y : Int32} {off : Int} (hd : decode M.2.1 pc = .ok (.if_icmp .eq off, 3)) (ht : (pc : Int) + off = (q : Int)) (hc : x = y) (kk : mEv X M d r w' q L st w) : mEv X M d r w' pc L (vi y :: vi x :: st) w :=
  ev_pure kk fun p l e R s m args below meth c H locs ls Q cells slots g C hL hH hS hc1 hs K => lv_icmp_eq C.1 C.2.1 hd ht (fun _ => K) (fun z => absurd hc z)
theorem ev_icmp_eq_f {x y : Int32} {off : Int} {t0 : Nat} (hd : decode M.2.1 pc = .ok (.if_icmp .eq off, 3)) (ht : (pc : Int) + off = (t0 : Int)) (hq : pc + 3 = q) (hc : ¬ x = y) (kk : mEv X M d r w' q L st w) : mEv X M d r w' pc L (vi y :: vi x :: st) w := by
  subst hq
  exact ev_pure kk fun p l e R s m args below meth c H locs ls Q cells slots g C hL hH hS hc1 hs K => lv_icmp_eq C.1 C.2.1 hd ht (fun z => absurd z hc) (fun _ => K)
theorem ev_if_eq_t {x : Int32} {off : Int} (hd : decode M.2.1 pc = .ok (.ifCond .eq off, 3)) (ht : (pc : Int) + off = (q : Int)) (hc : x = 0) (kk : mEv X M d r w' q L st w) : mEv X M d r w' pc L (vi x :: st) w :=
  ev_pure kk fun p l e R s m args below meth c H locs ls Q cells slots g C hL hH hS hc1 hs K => lv_if_eq C.1 C.2.1 hd ht (fun _ => K) (fun z => absurd hc z)
theorem ev_if_eq_f {x : Int32} {off : Int} {t0 : Nat} (hd : decode M.2.1 pc = .ok (.ifCond .eq off, 3)) (ht : (pc : Int) + off = (t0 : Int)) (hq : pc + 3 = q) (hc : ¬ x = 0) (kk : mEv X M d r w' q L st w) : mEv X M d r w' pc L (vi x :: st) w := by
  subst hq
  exact ev_pure kk fun p l e R s m args below meth c H locs ls Q cells slots g C hL hH hS hc1 hs K => lv_if_eq C.1 C.2.1 hd ht (fun z => absurd z hc) (fun _ => K)
theorem ev_icmp_ne_t {x y : Int32} {off : Int} (hd : decode M.2.1 pc = .ok (.if_icmp .ne off, 3)) (ht : (pc : Int) + off = (q : Int)) (hc : ¬ x = y) (kk : mEv X M d r w' q L st w) : mEv X M d r w' pc L (vi y :: vi x :: st) w :=
  ev_pure kk fun p l e R s m args below meth c H locs ls Q cells slots g C hL hH hS hc1 hs K => lv_icmp_ne C.1 C.2.1 hd ht (fun _ => K) (fun z => absurd z hc)
theorem ev_icmp_ne_f {x y : Int32} {off : Int} {t0 : Nat} (hd : decode M.2.1 pc = .ok (.if_icmp .ne off, 3)) (ht : (pc : Int) + off = (t0 : Int)) (hq : pc + 3 = q) (hc : x = y) (kk : mEv X M d r w' q L st w) : mEv X M d r w' pc L (vi y :: vi x :: st) w := by
  subst hq
  exact ev_pure kk fun p l e R s m args below meth c H locs ls Q cells slots g C hL hH hS hc1 hs K => lv_icmp_ne C.1 C.2.1 hd ht (fun z => absurd hc z) (fun _ => K)
theorem ev_if_ne_t {x : Int32} {off : Int} (hd : decode M.2.1 pc = .ok (.ifCond .ne off, 3)) (ht : (pc : Int) + off = (q : Int)) (hc : ¬ x = 0) (kk : mEv X M d r w' q L st w) : mEv X M d r w' pc L (vi x :: st) w :=
  ev_pure kk fun p l e R s m args below meth c H locs ls Q cells slots g C hL hH hS hc1 hs K => lv_if_ne C.1 C.2.1 hd ht (fun _ => K) (fun z => absurd z hc)
theorem ev_if_ne_f {x : Int32} {off : Int} {t0 : Nat} (hd : decode M.2.1 pc = .ok (.ifCond .ne off, 3)) (ht : (pc : Int) + off = (t0 : Int)) (hq : pc + 3 = q) (hc : x = 0) (kk : mEv X M d r w' q L st w) : mEv X M d r w' pc L (vi x :: st) w := by
  subst hq
  exact ev_pure kk fun p l e R s m args below meth c H locs ls Q cells slots g C hL hH hS hc1 hs K => lv_if_ne C.1 C.2.1 hd ht (fun z => absurd hc z) (fun _ => K)
theorem ev_icmp_lt_t {x y : Int32} {off : Int} (hd : decode M.2.1 pc = .ok (.if_icmp .lt off, 3)) (ht : (pc : Int) + off = (q : Int)) (hc : x < y) (kk : mEv X M d r w' q L st w) : mEv X M d r w' pc L (vi y :: vi x :: st) w :=
  ev_pure kk fun p l e R s m args below meth c H locs ls Q cells slots g C hL hH hS hc1 hs K => lv_icmp_lt C.1 C.2.1 hd ht (fun _ => K) (fun z => absurd hc z)
theorem ev_icmp_lt_f {x y : Int32} {off : Int} {t0 : Nat} (hd : decode M.2.1 pc = .ok (.if_icmp .lt off, 3)) (ht : (pc : Int) + off = (t0 : Int)) (hq : pc + 3 = q) (hc : ¬ x < y) (kk : mEv X M d r w' q L st w) : mEv X M d r w' pc L (vi y :: vi x :: st) w := by
  subst hq
  exact ev_pure kk fun p l e R s m args below meth c H locs ls Q cells slots g C hL hH hS hc1 hs K => lv_icmp_lt C.1 C.2.1 hd ht (fun z => absurd z hc) (fun _ => K)
theorem ev_if_lt_t {x : Int32} {off : Int} (hd : decode M.2.1 pc = .ok (.ifCond .lt off, 3)) (ht : (pc : Int) + off = (q : Int)) (hc : x < 0) (kk : mEv X M d r w' q L st w) : mEv X M d r w' pc L (vi x :: st) w :=
  ev_pure kk fun p l e R s m args below meth c H locs ls Q cells slots g C hL hH hS hc1 hs K => lv_if_lt C.1 C.2.1 hd ht (fun _ => K) (fun z => absurd hc z)
theorem ev_if_lt_f {x : Int32} {off : Int} {t0 : Nat} (hd : decode M.2.1 pc = .ok (.ifCond .lt off, 3)) (ht : (pc : Int) + off = (t0 : Int)) (hq : pc + 3 = q) (hc : ¬ x < 0) (kk : mEv X M d r w' q L st w) : mEv X M d r w' pc L (vi x :: st) w := by
  subst hq
  exact ev_pure kk fun p l e R s m args below meth c H locs ls Q cells slots g C hL hH hS hc1 hs K => lv_if_lt C.1 C.2.1 hd ht (fun z => absurd z hc) (fun _ => K)
theorem ev_icmp_ge_t {x y : Int32} {off : Int} (hd : decode M.2.1 pc = .ok (.if_icmp .ge off, 3)) (ht : (pc : Int) + off = (q : Int)) (hc : y ≤ x) (kk : mEv X M d r w' q L st w) : mEv X M d r w' pc L (vi y :: vi x :: st) w :=
  ev_pure kk fun p l e R s m args below meth c H locs ls Q cells slots g C hL hH hS hc1 hs K => lv_icmp_ge C.1 C.2.1 hd ht (fun _ => K) (fun z => absurd hc z)
theorem ev_icmp_ge_f {x y : Int32} {off : Int} {t0 : Nat} (hd : decode M.2.1 pc = .ok (.if_icmp .ge off, 3)) (ht : (pc : Int) + off = (t0 : Int)) (hq : pc + 3 = q) (hc : ¬ y ≤ x) (kk : mEv X M d r w' q L st w) : mEv X M d r w' pc L (vi y :: vi x :: st) w := by
  subst hq
  exact ev_pure kk fun p l e R s m args below meth c H locs ls Q cells slots g C hL hH hS hc1 hs K => lv_icmp_ge C.1 C.2.1 hd ht (fun z => absurd z hc) (fun _ => K)
theorem ev_if_ge_t {x : Int32} {off : Int} (hd : decode M.2.1 pc = .ok (.ifCond .ge off, 3)) (ht : (pc : Int) + off = (q : Int)) (hc : 0 ≤ x) (kk : mEv X M d r w' q L st w) : mEv X M d r w' pc L (vi x :: st) w :=
  ev_pure kk fun p l e R s m args below meth c H locs ls Q cells slots g C hL hH hS hc1 hs K => lv_if_ge C.1 C.2.1 hd ht (fun _ => K) (fun z => absurd hc z)
theorem ev_if_ge_f {x : Int32} {off : Int} {t0 : Nat} (hd : decode M.2.1 pc = .ok (.ifCond .ge off, 3)) (ht : (pc : Int) + off = (t0 : Int)) (hq : pc + 3 = q) (hc : ¬ 0 ≤ x) (kk : mEv X M d r w' q L st w) : mEv X M d r w' pc L (vi x :: st) w := by
  subst hq
  exact ev_pure kk fun p l e R s m args below meth c H locs ls Q cells slots g C hL hH hS hc1 hs K => lv_if_ge C.1 C.2.1 hd ht (fun z => absurd z hc) (fun _ => K)
theorem ev_icmp_gt_t {x y : Int32} {off : Int} (hd : decode M.2.1 pc = .ok (.if_icmp .gt off, 3)) (ht : (pc : Int) + off = (q : Int)) (hc : y < x) (kk : mEv X M d r w' q L st w) : mEv X M d r w' pc L (vi y :: vi x :: st) w :=
  ev_pure kk fun p l e R s m args below meth c H locs ls Q cells slots g C hL hH hS hc1 hs K => lv_icmp_gt C.1 C.2.1 hd ht (fun _ => K) (fun z => absurd hc z)
theorem ev_icmp_gt_f {x y : Int32} {off : Int} {t0 : Nat} (hd : decode M.2.1 pc = .ok (.if_icmp .gt off, 3)) (ht : (pc : Int) + off = (t0 : Int)) (hq : pc + 3 = q) (hc : ¬ y < x) (kk : mEv X M d r w' q L st w) : mEv X M d r w' pc L (vi y :: vi x :: st) w := by
  subst hq
  exact ev_pure kk fun p l e R s m args below meth c H locs ls Q cells slots g C hL hH hS hc1 hs K => lv_icmp_gt C.1 C.2.1 hd ht (fun z => absurd z hc) (fun _ => K)
theorem ev_if_gt_t {x : Int32} {off : Int} (hd : decode M.2.1 pc = .ok (.ifCond .gt off, 3)) (ht : (pc : Int) + off = (q : Int)) (hc : 0 < x) (kk : mEv X M d r w' q L st w) : mEv X M d r w' pc L (vi x :: st) w :=
  ev_pure kk fun p l e R s m args below meth c H locs ls Q cells slots g C hL hH hS hc1 hs K => lv_if_gt C.1 C.2.1 hd ht (fun _ => K) (fun z => absurd hc z)
theorem ev_if_gt_f {x : Int32} {off : Int} {t0 : Nat} (hd : decode M.2.1 pc = .ok (.ifCond .gt off, 3)) (ht : (pc : Int) + off = (t0 : Int)) (hq : pc + 3 = q) (hc : ¬ 0 < x) (kk : mEv X M d r w' q L st w) : mEv X M d r w' pc L (vi x :: st) w := by
  subst hq
  exact ev_pure kk fun p l e R s m args below meth c H locs ls Q cells slots g C hL hH hS hc1 hs K => lv_if_gt C.1 C.2.1 hd ht (fun z => absurd z hc) (fun _ => K)
theorem ev_icmp_le_t {x y : Int32} {off : Int} (hd : decode M.2.1 pc = .ok (.if_icmp .le off, 3)) (ht : (pc : Int) + off = (q : Int)) (hc : x ≤ y) (kk : mEv X M d r w' q L st w) : mEv X M d r w' pc L (vi y :: vi x :: st) w :=
  ev_pure kk fun p l e R s m args below meth c H locs ls Q cells slots g C hL hH hS hc1 hs K => lv_icmp_le C.1 C.2.1 hd ht (fun _ => K) (fun z => absurd hc z)
theorem ev_icmp_le_f {x y : Int32} {off : Int} {t0 : Nat} (hd : decode M.2.1 pc = .ok (.if_icmp .le off, 3)) (ht : (pc : Int) + off = (t0 : Int)) (hq : pc + 3 = q) (hc : ¬ x ≤ y) (kk : mEv X M d r w' q L st w) : mEv X M d r w' pc L (vi y :: vi x :: st) w := by
  subst hq
  exact ev_pure kk fun p l e R s m args below meth c H locs ls Q cells slots g C hL hH hS hc1 hs K => lv_icmp_le C.1 C.2.1 hd ht (fun z => absurd z hc) (fun _ => K)
theorem ev_if_le_t {x : Int32} {off : Int} (hd : decode M.2.1 pc = .ok (.ifCond .le off, 3)) (ht : (pc : Int) + off = (q : Int)) (hc : x ≤ 0) (kk : mEv X M d r w' q L st w) : mEv X M d r w' pc L (vi x :: st) w :=
  ev_pure kk fun p l e R s m args below meth c H locs ls Q cells slots g C hL hH hS hc1 hs K => lv_if_le C.1 C.2.1 hd ht (fun _ => K) (fun z => absurd hc z)
theorem ev_if_le_f {x : Int32} {off : Int} {t0 : Nat} (hd : decode M.2.1 pc = .ok (.ifCond .le off, 3)) (ht : (pc : Int) + off = (t0 : Int)) (hq : pc + 3 = q) (hc : ¬ x ≤ 0) (kk : mEv X M d r w' q L st w) : mEv X M d r w' pc L (vi x :: st) w := by
  subst hq
  exact ev_pure kk fun p l e R s m args below meth c H locs ls Q cells slots g C hL hH hS hc1 hs K => lv_if_le C.1 C.2.1 hd ht (fun z => absurd z hc) (fun _ => K)
theorem ev_goto {off : Int} (hd : decode M.2.1 pc = .ok (.goto off, 3)) (ht : (pc : Int) + off = (q : Int)) (kk : mEv X M d r w' q L st w) : mEv X M d r w' pc L st w :=
  ev_pure kk fun p l e R s m args below meth c H locs ls Q cells slots g C hL hH hS hc hs K => lv_goto C.1 C.2.1 hd ht K
theorem ev_ifnull_t {off : Int} (hd : decode M.2.1 pc = .ok (.ifnull off, 3)) (ht : (pc : Int) + off = (q : Int)) (kk : mEv X M d r w' q L st w) : mEv X M d r w' pc L (vr none :: st) w :=
  ev_pure kk fun p l e R s m args below meth c H locs ls Q cells slots g C hL hH hS hc hs K => lv_ifnullN C.1 C.2.1 hd ht K
theorem ev_ifnull_f {off : Int} {a : Nat} (hd : decode M.2.1 pc = .ok (.ifnull off, 3)) (hq : pc + 3 = q) (kk : mEv X M d r w' q L st w) : mEv X M d r w' pc L (vr (some a) :: st) w := by
  subst hq
  exact ev_pure kk fun p l e R s m args below meth c H locs ls Q cells slots g C hL hH hS hc hs K => lv_ifnull C.1 C.2.1 hd K
theorem ev_ifnonnull_t {off : Int} {a : Nat} (hd : decode M.2.1 pc = .ok (.ifnonnull off, 3)) (ht : (pc : Int) + off = (q : Int)) (kk : mEv X M d r w' q L st w) : mEv X M d r w' pc L (vr (some a) :: st) w :=
  ev_pure kk fun p l e R s m args below meth c H locs ls Q cells slots g C hL hH hS hc hs K => lv_ifnonnull C.1 C.2.1 hd ht K
theorem ev_ifnonnull_f {off : Int} (hd : decode M.2.1 pc = .ok (.ifnonnull off, 3)) (hq : pc + 3 = q) (kk : mEv X M d r w' q L st w) : mEv X M d r w' pc L (vr none :: st) w := by
  subst hq
  exact ev_pure kk fun p l e R s m args below meth c H locs ls Q cells slots g C hL hH hS hc hs K => lv_ifnonnullN C.1 C.2.1 hd K
theorem ev_table_in {dflt lo hi : Int} {offs : Array Int} {len : Nat} {x : Int32} {off : Int} (hd : decode M.2.1 pc = .ok (.tableswitch dflt lo hi offs, len)) (h1 : ¬ x.toInt < lo) (h2 : ¬ hi < x.toInt) (ho : offs[(x.toInt - lo).toNat]? = some off) (ht : (pc : Int) + off = (q : Int)) (kk : mEv X M d r w' q L st w) : mEv X M d r w' pc L (vi x :: st) w :=
  ev_pure kk fun p l e R s m args below meth c H locs ls Q cells slots g C hL hH hS hc hs K => lv_tableIn C.1 C.2.1 hd h1 h2 ho ht K
theorem ev_table_out {dflt lo hi : Int} {offs : Array Int} {len : Nat} {x : Int32} (hd : decode M.2.1 pc = .ok (.tableswitch dflt lo hi offs, len)) (h : x.toInt < lo ∨ hi < x.toInt) (ht : (pc : Int) + dflt = (q : Int)) (kk : mEv X M d r w' q L st w) : mEv X M d r w' pc L (vi x :: st) w :=
  ev_pure kk fun p l e R s m args below meth c H locs ls Q cells slots g C hL hH hS hc hs K => lv_tableOut C.1 C.2.1 hd h ht K
theorem ev_lookup {dflt : Int} {ps : Array (Int × Int)} {len : Nat} {x : Int32} {off : Int} (hd : decode M.2.1 pc = .ok (.lookupswitch dflt ps, len)) (hp : (ps.toList.zip (ps.toList.drop 1)).all (fun (a, next) => a.1 < next.1) = true) (ho : Op.lookupswitch.offset ps.toList dflt x.toInt = off) (ht : (pc : Int) + off = (q : Int)) (kk : mEv X M d r w' q L st w) : mEv X M d r w' pc L (vi x :: st) w :=
  ev_pure kk fun p l e R s m args below meth c H locs ls Q cells slots g C hL hH hS hc hs K => lv_lookup C.1 C.2.1 hd hp ho ht K
end EV
