section EV3
variable {X : mXs} {M M1 : mM} {d d1 : Nat} {r r1 : Option mV} {w' w1 : mW} {pc q : Nat} {L : List (Option mV)} {st rest : List mV} {w : mW}
-- returns
theorem ev_ret {st1 : List mV} {r1 : Option mV} (h : mRet M pc st1 r1) : mEv X M d r1 w pc L st1 w :=
  ⟨⟨Nat.le_refl _, Nat.le_refl _⟩, fun p l e R s m args below meth c H locs ls Q g n0 z0 C h1 h2 h3 h4 hend hL hH hS => hend H locs ls pc st1 h hH hS⟩
theorem ev_iret {x : Int32} {ty : FieldType} (hd : decode M.2.1 pc = .ok (.ireturn, 1)) (ht : M.2.2.2 = some ty) (hn : narrow ty (.int x) = .int x) : mEv X M d (some (vi x)) w pc L [vi x] w := ev_ret (Or.inl ⟨x, ty, hd, rfl, rfl, ht, hn⟩)
theorem ev_zret {x : Int32} (hd : decode M.2.1 pc = .ok (.ireturn, 1)) (ht : M.2.2.2 = some .boolean) (hn : x = 0 ∨ x = 1) : mEv X M d (some (vi x)) w pc L [vi x] w := ev_iret hd ht (by rcases hn with rfl | rfl <;> rfl)
theorem ev_vret (hd : decode M.2.1 pc = .ok (.return_, 1)) (ht : M.2.2.2 = none) : mEv X M d none w pc L [] w := ev_ret (Or.inr (Or.inl ⟨hd, rfl, rfl, ht⟩))
theorem ev_lret {x : Int64} (hd : decode M.2.1 pc = .ok (.lreturn, 1)) (ht : M.2.2.2 = some .long) : mEv X M d (some (vl x)) w pc L [vl x] w := ev_ret (Or.inr (Or.inr (Or.inl ⟨x, hd, rfl, rfl, ht⟩)))
theorem ev_aret {o : Option Nat} {C : String} (hd : decode M.2.1 pc = .ok (.areturn, 1)) (ht : M.2.2.2 = some (.object C)) : mEv X M d (some (vr o)) w pc L [vr o] w := ev_ret (Or.inr (Or.inr (Or.inr ⟨o, C, hd, rfl, rfl, ht⟩)))
-- the entry
def mLa : List mV → List (Option mV)
  | [] => []
  | Sum.inl x :: vs => some (vi x) :: mLa vs
  | Sum.inr (Sum.inl x) :: vs => some (vl x) :: none :: mLa vs
  | Sum.inr (Sum.inr u) :: vs => some (Sum.inr (Sum.inr u)) :: mLa vs
theorem mLa_args {g : mG} : ∀ (vs : List mV) (i k : Nat) (v : mV), (mLa vs)[k]? = some (some v) → (i + k, mt g v) ∈ lv_args i (vs.map (mt g))
  | [], i, k, v, h => by simp [mLa] at h
  | Sum.inl x :: vs, i, 0, v, h => by
    simp [mLa] at h
    subst h
    exact List.mem_cons_self
  | Sum.inl x :: vs, i, k + 1, v, h => by
    simp only [mLa, List.getElem?_cons_succ] at h
    have := mLa_args (g := g) vs (i + 1) k v h
    rw [show i + 1 + k = i + (k + 1) by omega] at this
    refine List.mem_cons_of_mem _ ?_
    rw [show (if (mt g (Sum.inl x)).category = 2 then i + 2 else i + 1) = i + 1 by rw [mt_cat]; rfl]
    exact this
  | Sum.inr (Sum.inl x) :: vs, i, 0, v, h => by
    simp [mLa] at h
    subst h
    exact List.mem_cons_self
  | Sum.inr (Sum.inl x) :: vs, i, 1, v, h => by simp [mLa] at h
  | Sum.inr (Sum.inl x) :: vs, i, k + 2, v, h => by
    simp only [mLa, List.getElem?_cons_succ] at h
    have := mLa_args (g := g) vs (i + 2) k v h
    rw [show i + 2 + k = i + (k + 2) by omega] at this
    refine List.mem_cons_of_mem _ ?_
    rw [show (if (mt g (Sum.inr (Sum.inl x))).category = 2 then i + 2 else i + 1) = i + 2 by rw [mt_cat]; rfl]
    exact this
  | Sum.inr (Sum.inr u) :: vs, i, 0, v, h => by
    simp [mLa] at h
    subst h
    exact List.mem_cons_self
  | Sum.inr (Sum.inr u) :: vs, i, k + 1, v, h => by
    simp only [mLa, List.getElem?_cons_succ] at h
    have := mLa_args (g := g) vs (i + 1) k v h
    rw [show i + 1 + k = i + (k + 1) by omega] at this
    refine List.mem_cons_of_mem _ ?_
    rw [show (if (mt g (Sum.inr (Sum.inr u))).category = 2 then i + 2 else i + 1) = i + 1 by rw [mt_cat]; rfl]
    exact this
theorem mLa_len {g : mG} : ∀ (vs : List mV), (lg_sl (vs.map (mt g))).length = (mLa vs).length
  | [] => rfl
  | Sum.inl x :: vs => by
    have := mLa_len (g := g) vs
    simp only [lg_sl, List.map_cons, List.flatMap_cons, mt_cat, mcat] at this ⊢
    simp [mLa, this]
  | Sum.inr (Sum.inl x) :: vs => by
    have := mLa_len (g := g) vs
    simp only [lg_sl, List.map_cons, List.flatMap_cons, mt_cat, mcat] at this ⊢
    simp [mLa, this]
  | Sum.inr (Sum.inr u) :: vs => by
    have := mLa_len (g := g) vs
    simp only [lg_sl, List.map_cons, List.flatMap_cons, mt_cat, mcat] at this ⊢
    simp [mLa, this]
/-- the locals at the entry: the arguments, then n places that hold nothing yet -/
def mLn (vs : List mV) (n : Nat) : List (Option mV) := mLa vs ++ List.replicate n none
theorem mLn_get {vs : List mV} {n k : Nat} {v : mV} (h : (mLn vs n)[k]? = some (some v)) : (mLa vs)[k]? = some (some v) := by
  unfold mLn at h
  by_cases hk : k < (mLa vs).length
  · rwa [List.getElem?_append_left hk] at h
  · rw [List.getElem?_append_right (by omega), List.getElem?_replicate] at h
    split at h <;> cases h
theorem ev_met {as : List mV} {n : Nat} (hc : plainName M.1.cls = true) (hn : (mLa as).length + n = M.2.2.1) (h : ∀ X : mXs, mEv X M d r w' 0 (mLn as n) [] w) : mMet M d as w r w' := by
  refine ⟨(h (0, fun _ => 0)).1, fun l g X => Met.ofW (cc := M.2.1) (maxL := M.2.2.1) (ret := M.2.2.2) hc rfl ?_⟩
  intro p e s m args below meth c s₁ B hml hv
  obtain ⟨rfl, hH, hB⟩ := hv
  have hts := atoms_spec (ws := mWs M) B.pre
  have hlen : (lg_sl (as.map (mt g))).length ≤ M.2.2.1 := by rw [mLa_len]; omega
  have hl := lv_entry (as.map (mt g)) (n := M.2.2.1) hlen
  rw [lg_entry_eq]
  generalize (lg_sl (as.map (mt g)) ++ List.replicate (M.2.2.1 - (lg_sl (as.map (mt g))).length) Slot.unset).toArray = ls at hl ⊢
  have hk := (h X).2 p l e (headSpec (mWs M) (mRm d (w'.length - w.length) (mSz w' - mSz w))).room s m _ below meth c s.heap [] ls (MQ below (mPost g w' r) (as.map (mt g)).toArray s (w'.length - w.length) (mSz w' - mSz w) (fun q => g.1 ≤ q)) g w.length (mSz w)
    ⟨B.exec, B.bytes, hml, findClass_of_methodNamed B.named, fun w hw => hts w (List.mem_cons_of_mem _ hw), hB, ⟨Nat.le_refl _, Nat.le_refl _⟩, fun hi => (name_of_methodNamed B.named B.method).1.trans hi⟩
    (Nat.le_refl _) (Nat.le_refl _) (by show w'.length ≤ w.length + (w'.length - w.length); omega) (by show mSz w' ≤ mSz w + (mSz w' - mSz w); omega) ?_ ⟨hl.1, hl.2.1, fun k v hv => hl.2.2 (k, mt g v) (by have := mLa_args (g := g) as 0 k v (mLn_get hv); simpa using this)⟩ hH va_S.rf
  · rw [Nat.sub_self, Nat.sub_self] at hk
    exact hk
  · intro H1 locs1 ls1 pc1 st1 hret hH1 hS1
    have hpost : ∀ t : State, t.heap = H1 → mPost g w' r (as.map (mt g)).toArray s (.returned (r.map (mt g))) t := fun t ht => ⟨rfl, by rw [ht]; exact hH1, by rw [ht]; exact hS1.1, fun x g1 g2 => by rw [ht]; exact hS1.2.1 x g1 g2⟩
    rcases hret with ⟨x, ty, hd, rfl, rfl, ht, hn⟩ | ⟨hd, rfl, rfl, ht⟩ | ⟨x, hd, rfl, rfl, ht⟩ | ⟨o, Cn, hd, rfl, rfl, ht⟩
    · exact W.zret B.exec B.bytes (B.returns.trans ht) hn (fun t ht _ => hpost t ht) hS1.2.2 hd B.notSynchronized
    · exact W.vret B.exec B.bytes (B.returns.trans ht) (fun t ht _ => hpost t ht) hS1.2.2 hd B.notSynchronized
    · exact W.lret B.exec B.bytes (B.returns.trans ht) (fun t ht _ => hpost t ht) hS1.2.2 hd B.notSynchronized
    · exact W.aret B.exec B.bytes (B.returns.trans ht) (Or.inl ⟨Cn, rfl⟩) (by cases o <;> first | exact Or.inl rfl | exact Or.inr ⟨_, rfl⟩) (fun t ht _ => hpost t ht) hS1.2.2 hd B.notSynchronized
-- calls
theorem ev_run (m1 : w.length ≤ w1.length ∧ mSz w ≤ mSz w1) (hq : pc + 3 = q) (kk : mEv X M d r w' q L (r1.toList ++ rest) w1)
    (h : ∀ (p : Program) (l : Launch) (e : Env) (R : Room) (s : State) (m : MethodId) (args : Array Value) (below : List Frame) (meth : Method) (c : Code) (H : Heap) (locs : List Loc) (ls : Array Slot) (cells slots : Nat) (g : mG), mCx M d g X p R s m args meth c → mL g M.2.2.1 L ls → mH g w H → va_S (fun q => g.1 ≤ q) s.heap H locs → cells + (w1.length - w.length) ≤ R.cells → slots + (mSz w1 - mSz w) ≤ R.slots →
      ∃ a : Array Value, va_Run p l e R s m args below meth c H locs cells slots (w1.length - w.length) (mSz w1 - mSz w) (F0 m pc ls (st.map (mt g))) (rest.map (mt g)) (mPost g w1 r1 a) (fun q => g.1 ≤ q)) : mEv X M d r w' pc L st w := by
  subst hq
  have k1 := kk.1
  refine ⟨⟨by omega, by omega⟩, fun p l e R s m args below meth c H locs ls Q g n0 z0 C h1 h2 h3 h4 hend hL hH hS => ?_⟩
  obtain ⟨a, hrun⟩ := h p l e R s m args below meth c H locs ls (w.length - n0) (mSz w - z0) g C hL hH hS (by omega) (by omega)
  intro T hT Xs
  obtain ⟨v, st₀, t, T', L', h0, X', hL', e1, e2, ⟨hv, hH1, hz, hk⟩, stp⟩ := hrun T hT Xs
  cases hv
  rw [h0] at hz hk
  rw [show w.length - n0 + (w1.length - w.length) = w1.length - n0 by omega, show mSz w - z0 + (mSz w1 - mSz w) = mSz w1 - z0 by omega] at X'
  have hS' : va_S (fun q => g.1 ≤ q) s.heap T'.heap (locs ++ L') := ⟨Nat.le_trans hS.1 (by rw [e1]; exact hz), fun x g1 g2 => by rw [e1, hk x (Nat.lt_of_lt_of_le g1 hS.1) g2]; exact hS.2.1 x g1 g2, fun x hx => by
    rcases List.mem_append.mp hx with z | z
    · exact hS.2.2 x z
    · exact hL' x z⟩
  have hW := kk.2 p l e R s m args below meth c T'.heap (locs ++ L') ls Q g n0 z0 C (by omega) (by omega) h3 h4 hend hL (by rw [e1]; exact hH1) hS'
  obtain ⟨t2, a1, b1⟩ := hW T' rfl X'
  refine ⟨t2, stp t2 ?_, b1⟩
  have e : (r1.map (mt g)).toList ++ rest.map (mt g) = (r1.toList ++ rest).map (mt g) := by cases r1 <;> simp
  rw [e]
  exact a1
/-- what every call of M1 with n arguments asks of the tables -/
def mCal (M1 : mM) (n : Nat) : Prop := Cond.code M1.1 M1.2.1 M1.2.2.1 M1.2.2.2 ∈ mWS ∧ Cond.initialized M1.1.cls ∈ mWS ∧ (M1.1.cls ≠ "java/lang/invoke/MethodHandle" ∧ M1.1.cls ≠ "java/lang/invoke/VarHandle" ∧ (parseMethodDescriptor M1.1.desc).map (fun d => d.parameters.length) = some n) ∧ M1.2.2.1 ≤ 18
theorem mRoom {R : Room} {mc ms : Nat} (h : d1 + 1 ≤ d) (hR : d ≤ R.frames ∧ 37 * d ≤ R.locals) (hml : M1.2.2.1 ≤ 18) : (mRm d1 mc ms).frames + 1 ≤ R.frames ∧ 8 + (M1.2.2.1 + 11) + (mRm d1 mc ms).locals ≤ R.locals := by
  have := hR.1
  have := hR.2
  exact ⟨by show d1 + 1 ≤ _; omega, by show _ + 37 * d1 ≤ _; omega⟩
theorem mSum {g : mG} (h : (rest.map mcat).sum ≤ 8) : ((rest.map (mt g)).map fun v => v.category).sum ≤ 8 := by
  rw [List.map_map, show ((fun v : Value => v.category) ∘ mt g) = mcat from funext fun v => mt_cat g v]
  exact h
theorem ev_invV {as : List mV} {o ci n idx : Nat} {fs : List mV} {T : u_T} {N : Nat} (hd : decode M.2.1 pc = .ok (.invokevirtual idx, 3)) (hq : pc + 3 = q) (hl : Cond.methodLink M.1.cls idx M1.1 ∈ mWS) (hcal : mCal M1 n) (hin : Cond.instanceMethod M1.1 ∈ mWS) (hsel : Cond.selects M1.1.cls M1.1 M1.1 ∈ mWS) (hdd : d1 + 1 ≤ d)
    (hst : st = as.reverse ++ vr (some o) :: rest) (hn : as.length = n) (hrs : (rest.map mcat).sum ≤ 8) (hw : w[o]? = some (.inl (ci, fs))) (hc : vwCl[ci]? = some (M1.1.cls, T, N)) (hm : mMet M1 d1 (vr (some o) :: as) w r1 w1) (kk : mEv X M d r w' q L (r1.toList ++ rest) w1) : mEv X M d r w' pc L st w := by
  subst hst
  refine ev_run hm.1 hq kk fun p l e R s m args below meth c H locs ls cells slots g C hL hH hS hc1 hs1 => ⟨_, va_runV (As := as.map (mt g)) (b := g.1 + o) (Ts := mWS) ⟨C.1, C.2.1, C.2.2.1, C.2.2.2.1, C.2.2.2.2.1⟩ (hm.2 l g X) ⟨callB_of n C.2.2.2.2.1 (mGood hcal.1) rfl rfl rfl (C.2.2.2.2.1 _ hcal.2.1) (C.2.2.2.2.1 _ hl) hcal.2.2.1 (mRoom hdd C.2.2.2.2.2.2.1 hcal.2.2.2), C.2.2.2.2.1 _ hin, C.2.2.2.2.1 _ hsel⟩ ⟨mPre_blind, va_recv C.2.2.2.2.2.1.1.1 hH.2 hc (mR_get hw), fun U hU hW => ⟨rfl, by rw [hU]; exact hH, C.2.2.2.2.2.1.call hS hU hW⟩⟩ rfl (by rw [List.length_map]; exact hn) hL.1 (by rw [List.map_append, List.map_reverse]; rfl) (lv_room (mSum hrs)) hd ⟨hc1, hs1⟩⟩
theorem ev_invS {as : List mV} {n idx : Nat} (hd : decode M.2.1 pc = .ok (.invokestatic idx, 3)) (hq : pc + 3 = q) (hl : Cond.methodLink M.1.cls idx M1.1 ∈ mWS) (hcal : mCal M1 n) (hsta : Cond.static M1.1 ∈ mWS) (hdd : d1 + 1 ≤ d)
    (hst : st = as.reverse ++ rest) (hn : as.length = n) (hrs : (rest.map mcat).sum ≤ 8) (hm : mMet M1 d1 as w r1 w1) (kk : mEv X M d r w' q L (r1.toList ++ rest) w1) : mEv X M d r w' pc L st w := by
  subst hst
  refine ev_run hm.1 hq kk fun p l e R s m args below meth c H locs ls cells slots g C hL hH hS hc1 hs1 => ⟨_, va_runS (As := as.map (mt g)) (Ts := mWS) ⟨C.1, C.2.1, C.2.2.1, C.2.2.2.1, C.2.2.2.2.1⟩ (hm.2 l g X) ⟨callB_of n C.2.2.2.2.1 (mGood hcal.1) rfl rfl rfl (C.2.2.2.2.1 _ hcal.2.1) (C.2.2.2.2.1 _ hl) hcal.2.2.1 (mRoom hdd C.2.2.2.2.2.2.1 hcal.2.2.2), C.2.2.2.2.1 _ hsta⟩ ⟨mPre_blind, fun U hU hW => ⟨rfl, by rw [hU]; exact hH, C.2.2.2.2.2.1.call hS hU hW⟩⟩ rfl (by rw [List.length_map]; exact hn) hL.1 (by rw [List.map_append, List.map_reverse]) (lv_room (mSum hrs)) hd ⟨hc1, hs1⟩⟩
theorem ev_invI {as : List mV} {o n idx : Nat} (hd : decode M.2.1 pc = .ok (.invokespecial idx, 3)) (hq : pc + 3 = q) (hl : Cond.methodLink M.1.cls idx M1.1 ∈ mWS) (hcal : mCal M1 n) (hin : Cond.instanceMethod M1.1 ∈ mWS) (hini : M1.1.name = "<init>") (hnone : M1.2.2.2 = none) (hdd : d1 + 1 ≤ d)
    (hst : st = as.reverse ++ vr (some o) :: rest) (hn : as.length = n) (hrs : (rest.map mcat).sum ≤ 8) (hm : mMet M1 d1 (vr (some o) :: as) w r1 w1) (kk : mEv X M d r w' q L (r1.toList ++ rest) w1) : mEv X M d r w' pc L st w := by
  subst hst
  obtain ⟨y1, b1, n1, rt⟩ := M1
  cases hnone
  refine ev_run hm.1 hq kk fun p l e R s m args below meth c H locs ls cells slots g C hL hH hS hc1 hs1 => ⟨_, va_runI (As := as.map (mt g)) (b := g.1 + o) (Ts := mWS) ⟨C.1, C.2.1, C.2.2.1, C.2.2.2.1, C.2.2.2.2.1⟩ (hm.2 l g X) ⟨callB_of n C.2.2.2.2.1 (mGood hcal.1) rfl rfl rfl (C.2.2.2.2.1 _ hcal.2.1) (C.2.2.2.2.1 _ hl) hcal.2.2.1 (mRoom (M1 := (y1, b1, n1, none)) hdd C.2.2.2.2.2.2.1 hcal.2.2.2), hini, C.2.2.2.2.1 _ hin⟩ ⟨mPre_blind, fun U hU hW => ⟨rfl, by rw [hU]; exact hH, C.2.2.2.2.2.1.call hS hU hW⟩⟩ rfl (by rw [List.length_map]; exact hn) hL.1 (by rw [List.map_append, List.map_reverse]; rfl) (lv_room (mSum hrs)) hd ⟨hc1, hs1⟩⟩
/-- the same, of a nest mate's private method -/
theorem mCN {R : Room} {s : State} {args : Array Value} {own host : String} {idx n mc ms : Nat} (hts : ∀ w ∈ mWS, w.before args s = true) (hl : va_Nw (.methodLinkNest own idx M1.1 host) s) (hcal : mCal M1 n) (hdd : d1 + 1 ≤ d) (hR : d ≤ R.frames ∧ 37 * d ≤ R.locals) : va_CN R s args own idx M1.1 host M1.2.1 M1.2.2.1 M1.2.2.2 (mWs M1) (mRm d1 mc ms) mc ms n :=
  va_cnB n hts (mGood hcal.1) rfl rfl rfl hl (hts _ hcal.2.1) hcal.2.2.1 (mRoom hdd hR hcal.2.2.2)
theorem ev_invVN {as : List mV} {o ci n idx : Nat} {host : String} {fs : List mV} {T : u_T} {N : Nat} (hd : decode M.2.1 pc = .ok (.invokevirtual idx, 3)) (hq : pc + 3 = q) (hl : Cond.methodLinkNest M.1.cls idx M1.1 host ∈ mNw) (hcal : mCal M1 n) (hin : Cond.instanceMethod M1.1 ∈ mWS) (hsel : Cond.selects M1.1.cls M1.1 M1.1 ∈ mWS) (hdd : d1 + 1 ≤ d)
    (hst : st = as.reverse ++ vr (some o) :: rest) (hn : as.length = n) (hrs : (rest.map mcat).sum ≤ 8) (hw : w[o]? = some (.inl (ci, fs))) (hc : vwCl[ci]? = some (M1.1.cls, T, N)) (hm : mMet M1 d1 (vr (some o) :: as) w r1 w1) (kk : mEv X M d r w' q L (r1.toList ++ rest) w1) : mEv X M d r w' pc L st w := by
  subst hst
  refine ev_run hm.1 hq kk fun p l e R s m args below meth c H locs ls cells slots g C hL hH hS hc1 hs1 => ⟨_, va_runVN (As := as.map (mt g)) (b := g.1 + o) (Ts := mWS) ⟨C.1, C.2.1, C.2.2.1, C.2.2.2.1, C.2.2.2.2.1⟩ (hm.2 l g X) ⟨mCN C.2.2.2.2.1 (C.2.2.2.2.2.1.2.2.2.2 _ hl) hcal hdd C.2.2.2.2.2.2.1, C.2.2.2.2.1 _ hin, C.2.2.2.2.1 _ hsel⟩ ⟨mPre_blind, va_recv C.2.2.2.2.2.1.1.1 hH.2 hc (mR_get hw), fun U hU hW => ⟨rfl, by rw [hU]; exact hH, C.2.2.2.2.2.1.call hS hU hW⟩⟩ rfl (by rw [List.length_map]; exact hn) hL.1 (by rw [List.map_append, List.map_reverse]; rfl) (lv_room (mSum hrs)) hd ⟨hc1, hs1⟩⟩
theorem ev_invSN {as : List mV} {n idx : Nat} {host : String} (hd : decode M.2.1 pc = .ok (.invokestatic idx, 3)) (hq : pc + 3 = q) (hl : Cond.methodLinkNest M.1.cls idx M1.1 host ∈ mNw) (hcal : mCal M1 n) (hsta : Cond.static M1.1 ∈ mWS) (hdd : d1 + 1 ≤ d)
    (hst : st = as.reverse ++ rest) (hn : as.length = n) (hrs : (rest.map mcat).sum ≤ 8) (hm : mMet M1 d1 as w r1 w1) (kk : mEv X M d r w' q L (r1.toList ++ rest) w1) : mEv X M d r w' pc L st w := by
  subst hst
  refine ev_run hm.1 hq kk fun p l e R s m args below meth c H locs ls cells slots g C hL hH hS hc1 hs1 => ⟨_, va_runSN (As := as.map (mt g)) (Ts := mWS) ⟨C.1, C.2.1, C.2.2.1, C.2.2.2.1, C.2.2.2.2.1⟩ (hm.2 l g X) ⟨mCN C.2.2.2.2.1 (C.2.2.2.2.2.1.2.2.2.2 _ hl) hcal hdd C.2.2.2.2.2.2.1, C.2.2.2.2.1 _ hsta, trivial⟩ ⟨mPre_blind, fun U hU hW => ⟨rfl, by rw [hU]; exact hH, C.2.2.2.2.2.1.call hS hU hW⟩⟩ rfl (by rw [List.length_map]; exact hn) hL.1 (by rw [List.map_append, List.map_reverse]) (lv_room (mSum hrs)) hd ⟨hc1, hs1⟩⟩
theorem ev_invIN {as : List mV} {o n idx : Nat} {host : String} (hd : decode M.2.1 pc = .ok (.invokespecial idx, 3)) (hq : pc + 3 = q) (hl : Cond.methodLinkNest M.1.cls idx M1.1 host ∈ mNw) (hcal : mCal M1 n) (hin : Cond.instanceMethod M1.1 ∈ mWS) (hini : M1.1.name = "<init>") (hnone : M1.2.2.2 = none) (hdd : d1 + 1 ≤ d)
    (hst : st = as.reverse ++ vr (some o) :: rest) (hn : as.length = n) (hrs : (rest.map mcat).sum ≤ 8) (hm : mMet M1 d1 (vr (some o) :: as) w r1 w1) (kk : mEv X M d r w' q L (r1.toList ++ rest) w1) : mEv X M d r w' pc L st w := by
  subst hst
  obtain ⟨y1, b1, n1, rt⟩ := M1
  cases hnone
  refine ev_run hm.1 hq kk fun p l e R s m args below meth c H locs ls cells slots g C hL hH hS hc1 hs1 => ⟨_, va_runIN (As := as.map (mt g)) (b := g.1 + o) (Ts := mWS) ⟨C.1, C.2.1, C.2.2.1, C.2.2.2.1, C.2.2.2.2.1⟩ (hm.2 l g X) ⟨mCN (M1 := (y1, b1, n1, none)) C.2.2.2.2.1 (C.2.2.2.2.2.1.2.2.2.2 _ hl) hcal hdd C.2.2.2.2.2.2.1, hini, C.2.2.2.2.1 _ hin⟩ ⟨mPre_blind, fun U hU hW => ⟨rfl, by rw [hU]; exact hH, C.2.2.2.2.2.1.call hS hU hW⟩⟩ rfl (by rw [List.length_map]; exact hn) hL.1 (by rw [List.map_append, List.map_reverse]; rfl) (lv_room (mSum hrs)) hd ⟨hc1, hs1⟩⟩
/-- a method that the receiver's class overrides -/
theorem ev_invO {as : List mV} {o ci n idx : Nat} {x : MethodName} {b0 : ByteArray} {m0 : Nat} {r0 : Option FieldType} {fs : List mV} {C1 : String} {T : u_T} {N : Nat} (hd : decode M.2.1 pc = .ok (.invokevirtual idx, 3)) (hq : pc + 3 = q) (hl : Cond.methodLink M.1.cls idx x ∈ mWS) (hsm : Cond.sameMethod x.cls x.cls x.name x.desc ∈ mWS) (hix : Cond.instanceMethod x ∈ mWS) (hcx : Cond.code x b0 m0 r0 ∈ mWS) (hsel : Cond.selects C1 x M1.1 ∈ mWS) (hcal : mCal M1 n) (hin : Cond.instanceMethod M1.1 ∈ mWS) (hdx : x.cls ≠ "java/lang/invoke/MethodHandle" ∧ x.cls ≠ "java/lang/invoke/VarHandle" ∧ (parseMethodDescriptor x.desc).map (fun d => d.parameters.length) = some n) (hdd : d1 + 1 ≤ d)
    (hst : st = as.reverse ++ vr (some o) :: rest) (hn : as.length = n) (hrs : (rest.map mcat).sum ≤ 8) (hw : w[o]? = some (.inl (ci, fs))) (hc : vwCl[ci]? = some (C1, T, N)) (hm : mMet M1 d1 (vr (some o) :: as) w r1 w1) (kk : mEv X M d r w' q L (r1.toList ++ rest) w1) : mEv X M d r w' pc L st w := by
  subst hst
  refine ev_run hm.1 hq kk fun p l e R s m args below meth c H locs ls cells slots g C hL hH hS hc1 hs1 => ⟨_, va_runU (As := as.map (mt g)) (b := g.1 + o) (C := C1) (Ts := mWS) ⟨C.1, C.2.1, C.2.2.1, C.2.2.2.1, C.2.2.2.2.1⟩ (hm.2 l g X) (va_cwO (owner := x.cls) n C.2.2.2.2.1 ?_ rfl rfl rfl hcx hdx (mRoom hdd C.2.2.2.2.2.2.1 hcal.2.2.2)) ⟨mPre_blind, va_recv C.2.2.2.2.2.1.1.1 hH.2 hc (mR_get hw), fun U hU hW => ⟨rfl, by rw [hU]; exact hH, C.2.2.2.2.2.1.call hS hU hW⟩⟩ rfl (by rw [List.length_map]; exact hn) hL.1 (by rw [List.map_append, List.map_reverse]; rfl) (lv_room (mSum hrs)) hd ⟨hc1, hs1⟩⟩
  intro z hz
  unfold va_wsO at hz
  rcases List.mem_append.mp hz with hz | hz
  · have hm : z ∈ mWS := by
      simp only [List.mem_cons, List.not_mem_nil, or_false] at hz
      rcases hz with rfl | rfl | rfl | rfl | rfl | rfl
      · exact hl
      · exact hsm
      · exact hix
      · exact hsel
      · exact hin
      · exact hcal.2.1
    exact ⟨hm, good_of_word (List.mem_filter.mp hm).2⟩
  · exact mGood hcal.1 z hz
/-- super.y(..) -/
theorem ev_invSu {as : List mV} {o ci n idx : Nat} {fs : List mV} {C1 : String} {T : u_T} {N : Nat} (hd : decode M.2.1 pc = .ok (.invokespecial idx, 3)) (hq : pc + 3 = q) (hl : Cond.methodLink M.1.cls idx M1.1 ∈ mWS) (hsm : Cond.sameMethod M1.1.cls M1.1.cls M1.1.name M1.1.desc ∈ mWS) (hsu : Cond.superclass M.1.cls M1.1.cls ∈ mWS) (hcal : mCal M1 n) (hin : Cond.instanceMethod M1.1 ∈ mWS) (hne : M1.1.name ≠ "<init>") (hdd : d1 + 1 ≤ d)
    (hst : st = as.reverse ++ vr (some o) :: rest) (hn : as.length = n) (hrs : (rest.map mcat).sum ≤ 8) (hw : w[o]? = some (.inl (ci, fs))) (hc : vwCl[ci]? = some (C1, T, N)) (hm : mMet M1 d1 (vr (some o) :: as) w r1 w1) (kk : mEv X M d r w' q L (r1.toList ++ rest) w1) : mEv X M d r w' pc L st w := by
  subst hst
  refine ev_run hm.1 hq kk fun p l e R s m args below meth c H locs ls cells slots g C hL hH hS hc1 hs1 => ⟨_, va_runSU (As := as.map (mt g)) (b := g.1 + o) (C := C1) (Ts := mWS) (C.2.2.2.2.2.1.1.1.1 ci _ hc).2 ⟨C.1, C.2.1, C.2.2.1, C.2.2.2.1, C.2.2.2.2.1⟩ (hm.2 l g X) (va_cwSU n C.2.2.2.2.1 ?_ rfl rfl rfl ⟨hne, hcal.2.2.1.2.2⟩ (mRoom hdd C.2.2.2.2.2.2.1 hcal.2.2.2)) ⟨mPre_blind, va_recv C.2.2.2.2.2.1.1.1 hH.2 hc (mR_get hw), fun U hU hW => ⟨rfl, by rw [hU]; exact hH, C.2.2.2.2.2.1.call hS hU hW⟩⟩ rfl (by rw [List.length_map]; exact hn) hL.1 (by rw [List.map_append, List.map_reverse]; rfl) (lv_room (mSum hrs)) hd ⟨hc1, hs1⟩⟩
  intro z hz
  unfold va_wsSU at hz
  rcases List.mem_append.mp hz with hz | hz
  · have hm : z ∈ mWS := by
      simp only [List.mem_cons, List.not_mem_nil, or_false] at hz
      rcases hz with rfl | rfl | rfl | rfl | rfl
      · exact hl
      · exact hsm
      · exact hsu
      · exact hin
      · exact hcal.2.1
    exact ⟨hm, good_of_word (List.mem_filter.mp hm).2⟩
  · exact mGood hcal.1 z hz
/-- Object.<init> -/
theorem ev_obj {o idx : Nat} (hd : decode M.2.1 pc = .ok (.invokespecial idx, 3)) (hq : pc + 3 = q) (hl : Cond.methodLink M.1.cls idx Lib.objectInit ∈ mWS) (hin : Cond.instanceMethod Lib.objectInit ∈ mWS) (hco : Cond.code Lib.objectInit ⟨#[0xb1]⟩ 1 none ∈ mWS) (hdd : 1 ≤ d) (hrs : (rest.map mcat).sum ≤ 8) (kk : mEv X M d r w' q L rest w) : mEv X M d r w' pc L (vr (some o) :: rest) w := by
  subst hq
  refine ev_pure kk fun p l e R s m args below meth c H locs ls Q cells slots g C hL hH hS hc1 hs K => ?_
  have h8 : 2 * (F0 m pc ls ((vr (some o) :: rest).map (mt g))).monitorRoom + ((rest.map (mt g)).map fun v => v.category).sum ≤ 8 := lv_room (mSum hrs)
  refine W.objInit C.1 C.2.1 C.2.2.2.1 (C.2.2.2.2.1 _ hl) (C.2.2.2.2.1 _ hin) (C.2.2.2.2.1 _ hco) rfl (hL.1.trans C.2.2.1.symm) rfl hd (by have := C.2.2.2.2.2.2.1.1; omega) (by have := C.2.2.2.2.2.2.1.2; omega) K
-- Math
theorem ev_mabs {idx : Nat} {x : Int32} (hd : decode M.2.1 pc = .ok (.invokestatic idx, 3)) (hq : pc + 3 = q) (hl : Cond.methodLink M.1.cls idx Lib.Math.abs.name ∈ mWS) (hsta : Cond.static Lib.Math.abs.name ∈ mWS) (hini : Cond.initialized "java/lang/Math" ∈ mWS) (hco : Cond.code Lib.Math.abs.name Lib.Math.abs.code 1 (some .int) ∈ mWS) (hdd : 1 ≤ d) (hrs : (rest.map mcat).sum ≤ 8) (kk : mEv X M d r w' q L (vi (if 0 ≤ x then x else 0 - x) :: rest) w) : mEv X M d r w' pc L (vi x :: rest) w := by
  subst hq
  exact ev_pure kk fun p l e R s m args below meth c H locs ls Q cells slots g C hL hH hS hc1 hs K => va_mabs C.1 C.2.1 (C.2.2.1.trans hL.1.symm) C.2.2.2.1 (C.2.2.2.2.1 _ hl) (C.2.2.2.2.1 _ hsta) (C.2.2.2.2.1 _ hini) (C.2.2.2.2.1 _ hco) (by have := C.2.2.2.2.2.2.1.1; omega) (by have := C.2.2.2.2.2.2.1.2; have := mSum (g := g) hrs; omega) hc1 hs hd K
theorem ev_mmax {idx : Nat} {x y : Int32} (hd : decode M.2.1 pc = .ok (.invokestatic idx, 3)) (hq : pc + 3 = q) (hl : Cond.methodLink M.1.cls idx Lib.Math.max.name ∈ mWS) (hsta : Cond.static Lib.Math.max.name ∈ mWS) (hini : Cond.initialized "java/lang/Math" ∈ mWS) (hco : Cond.code Lib.Math.max.name Lib.Math.max.code 2 (some .int) ∈ mWS) (hdd : 1 ≤ d) (hrs : (rest.map mcat).sum ≤ 8) (kk : mEv X M d r w' q L (vi (if x < y then y else x) :: rest) w) : mEv X M d r w' pc L (vi y :: vi x :: rest) w := by
  subst hq
  exact ev_pure kk fun p l e R s m args below meth c H locs ls Q cells slots g C hL hH hS hc1 hs K => va_mmax C.1 C.2.1 (C.2.2.1.trans hL.1.symm) C.2.2.2.1 (C.2.2.2.2.1 _ hl) (C.2.2.2.2.1 _ hsta) (C.2.2.2.2.1 _ hini) (C.2.2.2.2.1 _ hco) (by have := C.2.2.2.2.2.2.1.1; omega) (by have := C.2.2.2.2.2.2.1.2; have := mSum (g := g) hrs; omega) hc1 hs hd K
theorem ev_mmin {idx : Nat} {x y : Int32} (hd : decode M.2.1 pc = .ok (.invokestatic idx, 3)) (hq : pc + 3 = q) (hl : Cond.methodLink M.1.cls idx Lib.Math.min.name ∈ mWS) (hsta : Cond.static Lib.Math.min.name ∈ mWS) (hini : Cond.initialized "java/lang/Math" ∈ mWS) (hco : Cond.code Lib.Math.min.name Lib.Math.min.code 2 (some .int) ∈ mWS) (hdd : 1 ≤ d) (hrs : (rest.map mcat).sum ≤ 8) (kk : mEv X M d r w' q L (vi (if y < x then y else x) :: rest) w) : mEv X M d r w' pc L (vi y :: vi x :: rest) w := by
  subst hq
  exact ev_pure kk fun p l e R s m args below meth c H locs ls Q cells slots g C hL hH hS hc1 hs K => va_mmin C.1 C.2.1 (C.2.2.1.trans hL.1.symm) C.2.2.2.1 (C.2.2.2.2.1 _ hl) (C.2.2.2.2.1 _ hsta) (C.2.2.2.2.1 _ hini) (C.2.2.2.2.1 _ hco) (by have := C.2.2.2.2.2.2.1.1; omega) (by have := C.2.2.2.2.2.2.1.2; have := mSum (g := g) hrs; omega) hc1 hs hd K
-- instanceof
theorem ev_instN {idx : Nat} (hd : decode M.2.1 pc = .ok (.instanceof idx, 3)) (hq : pc + 3 = q) (kk : mEv X M d r w' q L (vi 0 :: st) w) : mEv X M d r w' pc L (vr none :: st) w := by
  subst hq
  exact ev_pure kk fun p l e R s m args below meth c H locs ls Q cells slots g C hL hH hS hc1 hs K => lv_instN C.1 C.2.1 hd K
theorem ev_inst1 {idx o ci : Nat} {fs : List mV} {C1 C2 : String} {T : u_T} {N : Nat} (hd : decode M.2.1 pc = .ok (.instanceof idx, 3)) (hq : pc + 3 = q) (hl : Cond.classLink M.1.cls idx C2 ∈ mWS) (hw : w[o]? = some (.inl (ci, fs))) (hc : vwCl[ci]? = some (C1, T, N)) (hca : Cond.castable C1 C2 ∈ mNw ∨ C1 = C2) (kk : mEv X M d r w' q L (vi 1 :: st) w) : mEv X M d r w' pc L (vr (some o) :: st) w := by
  subst hq
  refine ev_pure kk fun p l e R s m args below meth c H locs ls Q cells slots g C hL hH hS hc1 hs K => ?_
  rcases hca with hca | rfl
  · exact va_instY C.1 C.2.1 C.2.2.2.1 (C.2.2.2.2.1 _ hl) (C.2.2.2.2.2.1.2.2.2.2 _ hca) (va_recv C.2.2.2.2.2.1.1.1 hH.2 hc (mR_get hw)) hd K
  · exact va_instS C.1 C.2.1 C.2.2.2.1 (C.2.2.2.2.1 _ hl) (C.2.2.2.2.2.1.1.1.1 ci _ hc).2 (va_recv C.2.2.2.2.2.1.1.1 hH.2 hc (mR_get hw)) hd K
theorem ev_inst0 {idx o ci : Nat} {fs : List mV} {C1 C2 : String} {T : u_T} {N : Nat} (hd : decode M.2.1 pc = .ok (.instanceof idx, 3)) (hq : pc + 3 = q) (hl : Cond.classLink M.1.cls idx C2 ∈ mWS) (hw : w[o]? = some (.inl (ci, fs))) (hc : vwCl[ci]? = some (C1, T, N)) (hca : (C1, C2) ∈ mNc) (kk : mEv X M d r w' q L (vi 0 :: st) w) : mEv X M d r w' pc L (vr (some o) :: st) w := by
  subst hq
  exact ev_pure kk fun p l e R s m args below meth c H locs ls Q cells slots g C hL hH hS hc1 hs K => va_instNo C.1 C.2.1 C.2.2.2.1 (C.2.2.2.2.1 _ hl) (C.2.2.2.2.2.1.1.2.1 _ hca) (va_recv C.2.2.2.2.2.1.1.1 hH.2 hc (mR_get hw)) hd K
-- the script
theorem ev_slen (hd : decode M.2.1 pc = .ok (.arraylength, 1)) (hq : pc + 1 = q) (kk : mEv X M d r w' q L (vi (Int32.ofNat X.1) :: st) w) : mEv X M d r w' pc L (vx 0 :: st) w := by
  subst hq
  exact ev_pure kk fun p l e R s m args below meth c H locs ls Q cells slots g C hL hH hS hc1 hs K => va_slen C.1 C.2.1 C.2.2.2.2.2.1.2.2.1.1 (Nat.lt_of_lt_of_le C.2.2.2.2.2.1.2.2.1.2.1 C.2.2.2.2.2.1.2.2.1.2.2) (Nat.not_le.mpr C.2.2.2.2.2.1.2.2.1.2.1) hS hd K
theorem ev_sld {i : Int32} (hd : decode M.2.1 pc = .ok (.iaload, 1)) (hq : pc + 1 = q) (hi : vp_in i X.1) (kk : mEv X M d r w' q L (vi (X.2 i.toNatClampNeg) :: st) w) : mEv X M d r w' pc L (vi i :: vx 0 :: st) w := by
  subst hq
  exact ev_pure kk fun p l e R s m args below meth c H locs ls Q cells slots g C hL hH hS hc1 hs K => va_sld C.1 C.2.1 C.2.2.2.2.2.1.2.2.1.1 (Nat.lt_of_lt_of_le C.2.2.2.2.2.1.2.2.1.2.1 C.2.2.2.2.2.1.2.2.1.2.2) (Nat.not_le.mpr C.2.2.2.2.2.1.2.2.1.2.1) hS hi hd K
-- the string
theorem ev_ldcS (hcls : M.1.cls = "PancakePort$Reading") (hd : decode M.2.1 pc = .ok (.ldc 82, 2)) (hq : pc + 2 = q) (kk : mEv X M d r w' q L (vx 1 :: st) w) : mEv X M d r w' pc L st w := by
  subst hq
  exact ev_pure kk fun p l e R s m args below meth c H locs ls Q cells slots g C hL hH hS hc1 hs K => va_ldcS C.1 C.2.1 (own := "PancakePort$Reading") (by rw [← hcls]; exact C.2.2.2.1) C.2.2.2.2.2.1.2.2.2.1 hd K
theorem ev_coder {idx : Nat} (hd : decode M.2.1 pc = .ok (.getfield idx, 3)) (hq : pc + 3 = q) (hl : Cond.fieldLink M.1.cls idx "java/lang/String" "coder" "B" ∈ mWS) (kk : mEv X M d r w' q L (vi 0 :: st) w) : mEv X M d r w' pc L (vx 1 :: st) w := by
  subst hq
  exact ev_pure kk fun p l e R s m args below meth c H locs ls Q cells slots g C hL hH hS hc1 hs K => vk_getf C.1 C.2.1 (C.2.2.2.2.2.1.2.1.1.1 0 (by decide)).2.1 hS C.2.2.2.1 (C.2.2.2.2.1 _ hl) (fun _ h => h) hd K
theorem ev_value {idx : Nat} (hd : decode M.2.1 pc = .ok (.getfield idx, 3)) (hq : pc + 3 = q) (hl : Cond.fieldLink M.1.cls idx "java/lang/String" "value" "[B" ∈ mWS) (kk : mEv X M d r w' q L (vx 2 :: st) w) : mEv X M d r w' pc L (vx 1 :: st) w := by
  subst hq
  exact ev_pure kk fun p l e R s m args below meth c H locs ls Q cells slots g C hL hH hS hc1 hs K => vk_getf C.1 C.2.1 (C.2.2.2.2.2.1.2.1.1.1 0 (by decide)).2.2.1 hS C.2.2.2.1 (C.2.2.2.2.1 _ hl) (fun _ h => h) hd K
theorem ev_compact {idx : Nat} (hd : decode M.2.1 pc = .ok (.getstatic idx, 3)) (hq : pc + 3 = q) (hl : Cond.fieldLink M.1.cls idx "java/lang/String" "COMPACT_STRINGS" "Z" ∈ mWS) (kk : mEv X M d r w' q L (vi 1 :: st) w) : mEv X M d r w' pc L st w := by
  subst hq
  exact ev_pure kk fun p l e R s m args below meth c H locs ls Q cells slots g C hL hH hS hc1 hs K => va_gets C.1 C.2.1 C.2.2.2.2.2.1.2.1.2 hS C.2.2.2.1 (C.2.2.2.2.1 _ hl) (fun _ h => h) hd K
theorem ev_blen (hd : decode M.2.1 pc = .ok (.arraylength, 1)) (hq : pc + 1 = q) (kk : mEv X M d r w' q L (vi 5 :: st) w) : mEv X M d r w' pc L (vx 2 :: st) w := by
  subst hq
  exact ev_pure kk fun p l e R s m args below meth c H locs ls Q cells slots g C hL hH hS hc1 hs K => va_tlen C.1 C.2.1 (C.2.2.2.2.2.1.2.1.1.1 0 (by decide)).2.2.2 hS rfl hd K
theorem ev_bld {i v : Int32} (hd : decode M.2.1 pc = .ok (.baload, 1)) (hq : pc + 1 = q) (hi : vp_in i 5) (hv : ([116, 108, 119, 104, 109] : List Int32).getD i.toNatClampNeg 0 = v) (kk : mEv X M d r w' q L (vi v :: st) w) : mEv X M d r w' pc L (vi i :: vx 2 :: st) w := by
  subst hq
  subst hv
  exact ev_pure kk fun p l e R s m args below meth c H locs ls Q cells slots g C hL hH hS hc1 hs K => va_tb C.1 C.2.1 (C.2.2.2.2.2.1.2.1.1.1 0 (by decide)).2.2.2 hS hi rfl hd K
/-- a method of the string, called on it -/
theorem ev_invStr {as : List mV} {n idx : Nat} (hd : decode M.2.1 pc = .ok (.invokevirtual idx, 3)) (hq : pc + 3 = q) (hl : Cond.methodLink M.1.cls idx M1.1 ∈ mWS) (hcls : M1.1.cls = "java/lang/String") (hcal : mCal M1 n) (hin : Cond.instanceMethod M1.1 ∈ mWS) (hsel : Cond.selects M1.1.cls M1.1 M1.1 ∈ mWS) (hdd : d1 + 1 ≤ d)
    (hst : st = as.reverse ++ vx 1 :: rest) (hn : as.length = n) (hrs : (rest.map mcat).sum ≤ 8) (hm : mMet M1 d1 (vx 1 :: as) w r1 w1) (kk : mEv X M d r w' q L (r1.toList ++ rest) w1) : mEv X M d r w' pc L st w := by
  subst hst
  refine ev_run hm.1 hq kk fun p l e R s m args below meth c H locs ls cells slots g C hL hH hS hc1 hs1 => ⟨_, va_runV (As := as.map (mt g)) (b := g.2.1 1) (Ts := mWS) (C := M1.1.cls) ⟨C.1, C.2.1, C.2.2.1, C.2.2.2.1, C.2.2.2.2.1⟩ (hm.2 l g X) ⟨callB_of n C.2.2.2.2.1 (mGood hcal.1) rfl rfl rfl (C.2.2.2.2.1 _ hcal.2.1) (C.2.2.2.2.1 _ hl) hcal.2.2.1 (mRoom hdd C.2.2.2.2.2.2.1 hcal.2.2.2), C.2.2.2.2.1 _ hin, C.2.2.2.2.1 _ hsel⟩ ⟨mPre_blind, by rw [hcls]; exact vk_recv C.2.2.2.2.2.1.2.1.1 (i := 0) (by decide) hS, fun U hU hW => ⟨rfl, by rw [hU]; exact hH, C.2.2.2.2.2.1.call hS hU hW⟩⟩ rfl (by rw [List.length_map]; exact hn) hL.1 (by rw [List.map_append, List.map_reverse]; rfl) (lv_room (mSum hrs)) hd ⟨hc1, hs1⟩⟩
end EV3
