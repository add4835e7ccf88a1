section EV2
variable {X : mXs} {M : mM} {d : Nat} {r : Option mV} {w' : mW} {pc q : Nat} {L : List (Option mV)} {st : List mV} {w : mW}
theorem mGood {M1 : mM} (h : Cond.code M1.1 M1.2.1 M1.2.2.1 M1.2.2.2 ∈ mWS) : GoodIn mWS (mWs M1) := by
  intro w hw
  have hm : w ∈ mWS := by
    rcases List.mem_cons.mp hw with rfl | h2
    · exact h
    · exact h2
  exact ⟨hm, good_of_word (List.mem_filter.mp hm).2⟩
-- fields
/-- the pool place idx of own names the field kf of the class ci -/
def mFld (own : String) (idx ci kf : Nat) : Prop := ∃ (C : String) (T : u_T) (N : Nat), vwCl[ci]? = some (C, T, N) ∧ (∀ w ∈ u_ws C T N, w ∈ mWS) ∧ kf < N ∧ Cond.fieldLink own idx (T kf).1 (T kf).2.1 (T kf).2.2.1 ∈ mWS
def mFldP (own : String) (idx ci kf : Nat) (ty : FieldType) (fin : Bool) : Prop := ∃ (C : String) (T : u_T) (N : Nat), vwCl[ci]? = some (C, T, N) ∧ (∀ w ∈ u_ws C T N, w ∈ mWS) ∧ kf < N ∧ Cond.fieldLink own idx (T kf).1 (T kf).2.1 (T kf).2.2.1 ∈ mWS ∧
  (∃ ty0 : Nat → FieldType, ∀ k, k < N → parseFieldDescriptor (T k).2.2.1 = some (ty0 k)) ∧ (∀ a, a < N → ∀ b, b < N → a ≠ b → (T a).2.1 ≠ (T b).2.1) ∧ (T kf).2.2.2 = fin ∧ parseFieldDescriptor (T kf).2.2.1 = some ty ∧ (fin = true → (T kf).1 = own)
def mFit (ty : FieldType) (v : mV) : Prop := ∀ g : mG, narrow ty (mt g v) = mt g v ∧ fits ty (mt g v) = true
theorem mFit_i {x : Int32} : mFit .int (vi x) := fun _ => ⟨rfl, rfl⟩
theorem mFit_l {x : Int64} : mFit .long (vl x) := fun _ => ⟨rfl, rfl⟩
theorem mFit_z {x : Int32} (h : x = 0 ∨ x = 1) : mFit .boolean (vi x) := fun _ => by rcases h with rfl | rfl <;> exact ⟨rfl, rfl⟩
theorem mFit_o {C : String} {o : Option Nat} : mFit (.object C) (vr o) := fun _ => by cases o <;> exact ⟨rfl, rfl⟩
theorem mFit_a {t : FieldType} {o : Option Nat} : mFit (.array t) (vr o) := fun _ => by cases o <;> exact ⟨rfl, rfl⟩
theorem ev_get {idx ci kf o : Nat} {fs : List mV} {v : mV} (hd : decode M.2.1 pc = .ok (.getfield idx, 3)) (hq : pc + 3 = q) (hf : mFld M.1.cls idx ci kf) (hw : w[o]? = some (.inl (ci, fs))) (hv : fs[kf]? = some v) (kk : mEv X M d r w' q L (v :: st) w) : mEv X M d r w' pc L (vr (some o) :: st) w := by
  subst hq
  obtain ⟨Cn, T, N, hc, hin, hk, hlink⟩ := hf
  exact ev_pure kk fun p l e R s m args below meth c H locs ls Q cells slots g C hL hH hS hc1 hs K => va_get (D := g.2.2.2.2) (cl := vwCl) (Ts := mWS) C.1 C.2.1 C.2.2.2.2.1 hin C.2.2.2.1 C.2.2.2.2.2.1.1.1 hH.2 o (mR_get hw) hc kf hk (C.2.2.2.2.1 _ hlink) (fun _ h => h) (v := mt g v) (by simp [List.getElem?_map, hv]) hd K
theorem ev_put_at {own C : String} {T : u_T} {N ci kf : Nat} {g : mG} {s : State} {args : Array Value} {k : Nat} {fs : List mV} {v : mV} {H1 : Heap} {cell : Cell} (ty0 : Nat → FieldType) (hts : ∀ w ∈ mWS, w.before args s = true) (hin : ∀ w ∈ u_ws C T N, w ∈ mWS) (hty : ∀ k, k < N → parseFieldDescriptor (T k).2.2.1 = some (ty0 k)) (hnm : ∀ a, a < N → ∀ b, b < N → a ≠ b → (T a).2.1 ≠ (T b).2.1) (hK : mKt g s) (hc : vwCl[ci]? = some (C, T, N)) (hk : kf < N) (hl : kf < fs.length)
    (q2 : cell.cls = g.2.2.2.2.1 ci) (q3 : cell.vm = .none) (q4 : ∀ k, k < N → cell.slots[g.2.2.2.2.2 ci k]? = some (vp_V (fs.map (mt g)) k)) (e1 : H1[k]? = some (cell.setSlot (g.2.2.2.2.2 ci kf) (mt g v))) : va_at g.2.2.2.2 vwCl (k, mcl g (.inl (ci, fs.set kf v))) H1 := by
  have hap := va_apart (own := own) hts hin ty0 hty hnm hK.1 hc
  refine ⟨_, hc, t_OB.to (V := updV (vp_V (fs.map (mt g))) kf (mt g v)) ⟨_, e1, q2, q3, t_set q4 hap hk _⟩ (fun j _ => ?_)⟩
  show updV (vp_V (fs.map (mt g))) kf (mt g v) j = vp_V ((fs.set kf v).map (mt g)) j
  rw [List.map_set]
  exact vp_updV_set (by rw [List.length_map]; exact hl) _ j
theorem ev_put {idx ci kf o : Nat} {fs : List mV} {v : mV} {ty : FieldType} (hd : decode M.2.1 pc = .ok (.putfield idx, 3)) (hq : pc + 3 = q) (hf : mFldP M.1.cls idx ci kf ty false) (hfit : mFit ty v) (hw : w[o]? = some (.inl (ci, fs))) (hl : kf < fs.length) (kk : mEv X M d r w' q L st (w.set o (.inl (ci, fs.set kf v)))) : mEv X M d r w' pc L (v :: vr (some o) :: st) w := by
  subst hq
  obtain ⟨Cn, T, N, hc, hin, hk, hlink, ⟨ty0, hty⟩, hnm, hfin, hdesc, -⟩ := hf
  refine ev_heap kk List.length_set (mSz_set w o _ _ hw (by simp [mSzc])) fun p l e R s m args below meth c H locs ls Q cells slots g C hH hS K => ?_
  obtain ⟨r0, h1, cell, q1, q2, q3, q4⟩ := hH.2 o _ (mR_get hw)
  have hr : r0 = (Cn, T, N) := Option.some.inj (h1.symm.trans hc)
  subst hr
  obtain ⟨hSl, hfc, kC, hkC, hkind⟩ := C.2.2.2.2.2.1.1.1.1 ci _ hc
  obtain ⟨cf, kf0, fi, f, hi, hsl⟩ := hSl kf hk
  have hlay := C.2.2.2.2.1 _ (hin _ (u_in_lay hk))
  unfold u_lay at hlay
  rw [if_neg (by rw [hfin]; decide)] at hlay
  have hst := (u_facts hfc hkC (u_lays C.2.2.2.2.1 hin hk) hi).1
  have h6 := u_store hfc hkC hkind hlay hi hdesc (hfit g).1 (hfit g).2
  refine W.putK C.1 C.2.1 (f := f) ⟨C.2.2.2.1, C.2.2.2.2.1 _ hlink, ⟨_, _, _, hi⟩, hst⟩ (by rw [q2]; exact h6) q1 q3 (by rw [hsl]; exact k2_hasslot (q4 kf hk)) rfl rfl hd fun H' e1 e2 e3 => ?_
  rw [hsl] at e1 ⊢
  exact K H' _ (hH.put hw (ev_put_at (own := M.1.cls) ty0 C.2.2.2.2.1 hin hty hnm C.2.2.2.2.2.1.1 hc hk hl q2 q3 q4 e1) e2 e3) (hS.put e2 e3 (Nat.le_add_right _ _))
theorem ev_putF {idx ci kf o : Nat} {fs : List mV} {v : mV} {ty : FieldType} (hd : decode M.2.1 pc = .ok (.putfield idx, 3)) (hq : pc + 3 = q) (hini : M.1.name = "<init>") (hf : mFldP M.1.cls idx ci kf ty true) (hfit : mFit ty v) (hw : w[o]? = some (.inl (ci, fs))) (hl : kf < fs.length) (kk : mEv X M d r w' q L st (w.set o (.inl (ci, fs.set kf v)))) : mEv X M d r w' pc L (v :: vr (some o) :: st) w := by
  subst hq
  obtain ⟨Cn, T, N, hc, hin, hk, hlink, ⟨ty0, hty⟩, hnm, hfin, hdesc, hdecl⟩ := hf
  refine ev_heap kk List.length_set (mSz_set w o _ _ hw (by simp [mSzc])) fun p l e R s m args below meth c H locs ls Q cells slots g C hH hS K => ?_
  obtain ⟨r0, h1, cell, q1, q2, q3, q4⟩ := hH.2 o _ (mR_get hw)
  have hr : r0 = (Cn, T, N) := Option.some.inj (h1.symm.trans hc)
  subst hr
  obtain ⟨hSl, hfc, kC, hkC, hkind⟩ := C.2.2.2.2.2.1.1.1.1 ci _ hc
  obtain ⟨cf, kf0, fi, f, hi, hsl⟩ := hSl kf hk
  have hlay := C.2.2.2.2.1 _ (hin _ (u_in_lay hk))
  unfold u_lay at hlay
  rw [if_pos hfin] at hlay
  have hst := (u_facts hfc hkC (u_lays C.2.2.2.2.1 hin hk) hi).1
  have hcf : m.cls = cf := by
    obtain ⟨_, _, c', _, _, _, -, -, hf', -, -, -, hown2, -⟩ := Cond.laysFinal_spec hlay
    have e1 : c' = cf := by have := hi.symm.trans hf'; simp at this; exact this.1.symm
    rw [hdecl rfl] at hown2
    rw [← e1]; exact Option.some.inj (C.2.2.2.1.symm.trans hown2)
  have h6 := u_fits hfc hkC hkind (Or.inr hlay) hi hdesc (hfit g).1 (hfit g).2
  refine W.putFinK C.1 C.2.1 C.2.2.2.1 (C.2.2.2.2.1 _ hlink) hi hst hcf (C.2.2.2.2.2.2.2 hini) (by rw [q2]; exact h6) q1 q3 (by rw [hsl]; exact k2_hasslot (q4 kf hk)) rfl rfl hd fun H' e1 e2 e3 => ?_
  rw [hsl] at e1 ⊢
  exact K H' _ (hH.put hw (ev_put_at (own := M.1.cls) ty0 C.2.2.2.2.1 hin hty hnm C.2.2.2.2.2.1.1 hc hk hl q2 q3 q4 e1) e2 e3) (hS.put e2 e3 (Nat.le_add_right _ _))
-- rows of ints and of objects
theorem ev_iaload {a n : Nat} {f : Nat → Int32} {i : Int32} (hd : decode M.2.1 pc = .ok (.iaload, 1)) (hq : pc + 1 = q) (hw : w[a]? = some (.inr (.inl (n, f)))) (hi : vp_in i n) (kk : mEv X M d r w' q L (vi (f i.toNatClampNeg) :: st) w) : mEv X M d r w' pc L (vi i :: vr (some a) :: st) w := by
  subst hq
  exact ev_pure kk fun p l e R s m args below meth c H locs ls Q cells slots g C hL hH hS hc1 hs K => va_iald (f := f) C.1 C.2.1 C.2.2.2.2.2.1.1.1 hH.2 a 0 (mR_get hw) rfl hi hd K
theorem ev_aaload {a n : Nat} {f : Nat → Option Nat} {i : Int32} (hd : decode M.2.1 pc = .ok (.aaload, 1)) (hq : pc + 1 = q) (hw : w[a]? = some (.inr (.inr (n, f)))) (hi : vp_in i n) (kk : mEv X M d r w' q L (vr (f i.toNatClampNeg) :: st) w) : mEv X M d r w' pc L (vi i :: vr (some a) :: st) w := by
  subst hq
  refine ev_pure kk fun p l e R s m args below meth c H locs ls Q cells slots g C hL hH hS hc1 hs K => va_aldq C.1 C.2.1 C.2.2.2.2.2.1.1.1 hH.2 a 1 (mR_get hw) rfl hi hd ?_
  refine cast (congrArg (fun z => W p l e R s m args below meth c H locs cells slots Q (F0 m (pc + 1) ls (z :: st.map (mt g)))) ?_) K
  show mt g (vr (f i.toNatClampNeg)) = va_rf ((f i.toNatClampNeg).map (fun k => g.1 + k))
  cases f i.toNatClampNeg <;> rfl
theorem ev_alen {a n : Nat} {f : Nat → Int32} {v : Int32} (hd : decode M.2.1 pc = .ok (.arraylength, 1)) (hq : pc + 1 = q) (hw : w[a]? = some (.inr (.inl (n, f)))) (hv : Int32.ofNat n = v) (kk : mEv X M d r w' q L (vi v :: st) w) : mEv X M d r w' pc L (vr (some a) :: st) w := by
  subst hq
  exact ev_pure kk fun p l e R s m args below meth c H locs ls Q cells slots g C hL hH hS hc1 hs K => va_alen C.1 C.2.1 C.2.2.2.2.2.1.1.1 hH.2 a 0 (mR_get hw) rfl hv hd K
theorem ev_alenq {a n : Nat} {f : Nat → Option Nat} {v : Int32} (hd : decode M.2.1 pc = .ok (.arraylength, 1)) (hq : pc + 1 = q) (hw : w[a]? = some (.inr (.inr (n, f)))) (hv : Int32.ofNat n = v) (kk : mEv X M d r w' q L (vi v :: st) w) : mEv X M d r w' pc L (vr (some a) :: st) w := by
  subst hq
  exact ev_pure kk fun p l e R s m args below meth c H locs ls Q cells slots g C hL hH hS hc1 hs K => va_alen C.1 C.2.1 C.2.2.2.2.2.1.1.1 hH.2 a 1 (mR_get hw) rfl hv hd K
theorem ev_iastore {a n : Nat} {f : Nat → Int32} {i x : Int32} (hd : decode M.2.1 pc = .ok (.iastore, 1)) (hq : pc + 1 = q) (hw : w[a]? = some (.inr (.inl (n, f)))) (hi : vp_in i n) (kk : mEv X M d r w' q L st (w.set a (.inr (.inl (n, upd f i.toNatClampNeg x))))) : mEv X M d r w' pc L (vi x :: vi i :: vr (some a) :: st) w := by
  subst hq
  refine ev_heap kk List.length_set (mSz_set w a _ _ hw rfl) fun p l e R s m args below meth c H locs ls Q cells slots g C hH hS K => ?_
  have ha := hH.2 a _ (mR_get hw)
  refine W.iast C.1 C.2.1 ha ((C.2.2.2.2.2.1.1.1.2 0 _ rfl).1 n (fun j => .int (f j))) (fun z => by cases z) (by show ¬ (i < 0 ∨ (arrV _ _ _).slots.size ≤ _); rw [arrV_size]; exact hi) rfl rfl hd fun H1 e1 z oq => ?_
  refine K H1 _ (hH.put hw ?_ z oq) (hS.put z oq (Nat.le_add_right _ _))
  show H1[g.1 + a]? = some (vp_cell _ _)
  rw [e1]
  show some ((vp_cell _ (n, .inl f)).setSlot _ _) = some (vp_cell _ (n, .inl _))
  rw [vp_cell_i, vp_cell_i, arrV_store]
  congr 2
  funext j
  by_cases hj : j = i.toNatClampNeg
  · subst hj
    simp [updV, upd]
  · simp [updV, upd, hj]
theorem ev_aastore {a n v ci : Nat} {f : Nat → Option Nat} {i : Int32} {fs : List mV} {C1 : String} {T : u_T} {N : Nat} (hd : decode M.2.1 pc = .ok (.aastore, 1)) (hq : pc + 1 = q) (hw : w[a]? = some (.inr (.inr (n, f)))) (hi : vp_in i n) (hv : w[v]? = some (.inl (ci, fs))) (hc : vwCl[ci]? = some (C1, T, N)) (hca : Cond.castable C1 "PancakePort$Tosser" ∈ mNw ∨ C1 = "PancakePort$Tosser") (kk : mEv X M d r w' q L st (w.set a (.inr (.inr (n, va_up f i.toNatClampNeg (some v)))))) : mEv X M d r w' pc L (vr (some v) :: vi i :: vr (some a) :: st) w := by
  subst hq
  refine ev_heap kk List.length_set (mSz_set w a _ _ hw rfl) fun p l e R s m args below meth c H locs ls Q cells slots g C hH hS K => ?_
  have hlt : i.toNatClampNeg < n := Nat.not_le.mp fun z => hi (Or.inr z)
  have h0 : ¬ i < 0 := fun z => hi (Or.inl z)
  have ha := hH.2 a _ (mR_get hw)
  obtain ⟨r', hr', cellV, g1, g2, g3, -⟩ := hH.2 v _ (mR_get hv)
  have hcls := (C.2.2.2.2.2.1.1.1.1 ci _ hc).2
  obtain ⟨kA, comp, k1, k2, k3, -⟩ := (C.2.2.2.2.2.1.1.1.2 1 _ rfl).2
  obtain ⟨kT, hkT, -⟩ := Vm.findClass_spec k3
  have hasg : s.vm.assignable cellV.cls comp = true := by
    rw [g2]
    rcases hca with hca | rfl
    · obtain ⟨c0, t0, f1, f2, f3⟩ := Cond.castable_spec (va_Nw.use (A := args) rfl (C.2.2.2.2.2.1.2.2.2.2 _ hca))
      cases f1.symm.trans hcls.1
      cases f2.symm.trans k3
      exact f3
    · cases k3.symm.trans hcls.1
      exact va_assign hcls
  obtain ⟨kC, hkC, -⟩ := hcls.2
  refine W.aast C.1 C.2.1 ha (fun z h => by cases h) (fun h => by cases h) k1 k2 rfl hkT ⟨h0, by show _ < (arrV _ _ _).slots.size; rw [arrV_size]; exact hlt⟩ g1 (fun z h => by rw [g3] at h; cases h) (by rw [g2]; exact hkC) hasg rfl rfl hd fun H1 e1 z oq => ?_
  refine K H1 _ (hH.put hw ?_ z oq) (hS.put z oq (Nat.le_add_right _ _))
  show H1[g.1 + a]? = some (vp_cell _ _)
  rw [e1]
  show some ((vp_cell _ (n, .inr (.inr (.inr (.inr _))))).setSlot _ _) = some (vp_cell _ (n, .inr (.inr (.inr (.inr _)))))
  rw [vp_cell_q, vp_cell_q, arrV_store]
  congr 2
  funext j
  by_cases hj : j = i.toNatClampNeg
  · subst hj
    simp [updV, va_up, va_rf]
  · simp [updV, va_up, hj]
-- making
theorem ev_newi {n : Int32} {N : Nat} (hd : decode M.2.1 pc = .ok (.newarray .int, 2)) (hq : pc + 2 = q) (harr : Cond.arrayClass .int ∈ mWS) (hn : ¬ n < 0) (hN : n.toNatClampNeg = N) (hb : N ≤ 100000) (kk : mEv X M d r w' q L (vr (some w.length) :: st) (w ++ [.inr (.inl (N, fun _ => 0))])) : mEv X M d r w' pc L (vi n :: st) w := by
  subst hq
  refine ev_make kk fun p l e R s m args below meth c H locs ls Q cells slots g C hH hS hc1 hs1 K => ?_
  refine va_newaK (atype := .int) C.1 C.2.1 (C.2.2.2.2.1 _ harr) rfl hd rfl hn hN (by show N * 4 ≤ 536870912; omega) hc1 hs1 hH.1 fun H1 cA e1 z1 o1 hAr hNm => ?_
  have hcA : cA = g.2.2.1 := by
    have := (C.2.2.2.2.2.1.1.1.2 0 _ rfl).2
    exact Option.some.inj (hNm.symm.trans this)
  subst hcA
  refine K H1 (hH.push ?_ (by rw [z1, hH.1]) (fun x hx => o1 x (by rw [← hH.1]; exact hx))) ⟨Nat.le_trans hS.1 (by rw [z1, hH.1]; omega), fun x h1 h2 => (o1 x (by rw [← hH.1]; exact Nat.lt_of_lt_of_le h1 hS.1)).trans (hS.2.1 x h1 h2), hS.2.2⟩
  exact e1
theorem ev_newq {n : Int32} {N idx : Nat} (hd : decode M.2.1 pc = .ok (.anewarray idx, 3)) (hq : pc + 3 = q) (hl : Cond.classLink M.1.cls idx "PancakePort$Tosser" ∈ mWS) (hn : ¬ n < 0) (hN : n.toNatClampNeg = N) (hb : N ≤ 100000) (kk : mEv X M d r w' q L (vr (some w.length) :: st) (w ++ [.inr (.inr (N, fun _ => none))])) : mEv X M d r w' pc L (vi n :: st) w := by
  subst hq
  refine ev_make kk fun p l e R s m args below meth c H locs ls Q cells slots g C hH hS hc1 hs1 K => ?_
  subst hN
  refine W.anew C.1 C.2.1 C.2.2.2.1 (C.2.2.2.2.1 _ hl) (va_AO.use C.2.2.2.2.2.1.1.2.2) rfl hd rfl hn (by omega) hc1 hs1 fun cA kA comp f1 f2 f3 f4 => ?_
  generalize hH1 : H.push ({ cls := cA, slots := Array.replicate n.toNatClampNeg .null, vm := .none } : Cell) = H1
  have z1 : H1.size = H.size + 1 := by rw [← hH1, Array.size_push]
  have e1 : H1[H.size]? = some (arrV cA n.toNatClampNeg (fun _ => .null)) := by rw [← hH1, Array.getElem?_push_size, ← arrV_new]
  have o1 : ∀ q : Nat, q < H.size → H1[q]? = H[q]? := fun q hq => by rw [← hH1, Array.getElem?_push, if_neg (Nat.ne_of_lt hq)]
  have hcA : cA = g.2.2.2.1 := by
    obtain ⟨kA', comp', -, -, -, k4⟩ := (C.2.2.2.2.2.1.1.1.2 1 _ rfl).2
    exact Option.some.inj (f1.symm.trans k4)
  subst hcA
  rw [hH.1] at e1 ⊢
  refine K H1 (hH.push ?_ z1 o1) ⟨Nat.le_trans hS.1 (by rw [z1]; omega), fun x h1 h2 => (o1 x (Nat.lt_of_lt_of_le h1 hS.1)).trans (hS.2.1 x h1 h2), hS.2.2⟩
  exact e1
theorem ev_new {idx ci : Nat} {C1 : String} {T : u_T} {N : Nat} {fs : List mV} (ty0 : Nat → FieldType) (hd : decode M.2.1 pc = .ok (.new idx, 3)) (hq : pc + 3 = q) (hc : vwCl[ci]? = some (C1, T, N)) (hin : ∀ w ∈ u_ws C1 T N, w ∈ mWS) (hty : ∀ k, k < N → parseFieldDescriptor (T k).2.2.1 = some (ty0 k)) (hl : Cond.classLink M.1.cls idx C1 ∈ mWS) (hi : Cond.instantiable C1 N ∈ mWS) (hini : Cond.initialized C1 ∈ mWS) (hlen : fs.length = N) (hfs : ∀ (g : mG) (j : Nat), j < N → defaultValue (ty0 j) = vp_V (fs.map (mt g)) j) (kk : mEv X M d r w' q L (vr (some w.length) :: st) (w ++ [.inl (ci, fs)])) : mEv X M d r w' pc L st w := by
  subst hq
  refine ev_make kk fun p l e R s m args below meth c H locs ls Q cells slots g C hH hS hc1 hs1 K => ?_
  have hKn := C.2.2.2.2.2.1.1.1.1 ci _ hc
  subst hlen
  refine W.newcK C.1 C.2.1 C.2.2.2.1 (C.2.2.2.2.1 _ hl) (C.2.2.2.2.1 _ hi) (C.2.2.2.2.1 _ hini) rfl hd hc1 hs1 hKn.2.1 hH.1 fun H1 kC hkC e1 z1 o1 => ?_
  refine K H1 (hH.push ?_ (by rw [z1, hH.1]) (fun x hx => o1 x (by rw [← hH.1]; exact hx))) ⟨Nat.le_trans hS.1 (by rw [z1, hH.1]; omega), fun x h1 h2 => (o1 x (by rw [← hH.1]; exact Nat.lt_of_lt_of_le h1 hS.1)).trans (hS.2.1 x h1 h2), hS.2.2⟩
  exact ⟨_, hc, (u_born ty0 C.2.2.2.2.1 hin hKn hkC e1 hty).to (hfs g)⟩
end EV2
