/-- a contract at one script -/
def mMetX (X : mXs) (M : mM) (d : Nat) (as : List mV) (w : mW) (r : Option mV) (w' : mW) : Prop := (w.length ≤ w'.length ∧ mSz w ≤ mSz w') ∧
  ∀ (l : Launch) (g : mG), Met l M.1 (mWs M) (mRm d (w'.length - w.length) (mSz w' - mSz w)) (mPre g X w as) (mPost g w' r) (w'.length - w.length) (mSz w' - mSz w) (fun q => g.1 ≤ q)
section EVX
variable {X : mXs} {M M1 : mM} {d d1 : Nat} {r r1 : Option mV} {w' w1 : mW} {pc q : Nat} {L : List (Option mV)} {st rest : List mV} {w : mW}
theorem ev_metX {as : List mV} {n : Nat} (hc : plainName M.1.cls = true) (hn : (mLa as).length + n = M.2.2.1) (h : mEv X M d r w' 0 (mLn as n) [] w) : mMetX X M d as w r w' := by
  refine ⟨h.1, fun l g => Met.ofW (cc := M.2.1) (maxL := M.2.2.1) (ret := M.2.2.2) hc rfl ?_⟩
  intro p e s m args below meth c s₁ B hml hv
  obtain ⟨rfl, hH, hB⟩ := hv
  have hts := atoms_spec (ws := mWs M) B.pre
  have hlen : (lg_sl (as.map (mt g))).length ≤ M.2.2.1 := by rw [mLa_len]; omega
  have hl := lv_entry (as.map (mt g)) (n := M.2.2.1) hlen
  rw [lg_entry_eq]
  generalize (lg_sl (as.map (mt g)) ++ List.replicate (M.2.2.1 - (lg_sl (as.map (mt g))).length) Slot.unset).toArray = ls at hl ⊢
  have hk := h.2 p l e (headSpec (mWs M) (mRm d (w'.length - w.length) (mSz w' - mSz w))).room s m _ below meth c s.heap [] ls (MQ below (mPost g w' r) (as.map (mt g)).toArray s (w'.length - w.length) (mSz w' - mSz w) (fun q => g.1 ≤ q)) g w.length (mSz w)
    ⟨B.exec, B.bytes, hml, findClass_of_methodNamed B.named, fun w hw => hts w (List.mem_cons_of_mem _ hw), hB, ⟨Nat.le_refl _, Nat.le_refl _⟩, fun hi => (name_of_methodNamed B.named B.method).1.trans hi⟩
    (Nat.le_refl _) (Nat.le_refl _) (by show w'.length ≤ w.length + (w'.length - w.length); omega) (by show mSz w' ≤ mSz w + (mSz w' - mSz w); omega) ?_ ⟨hl.1, hl.2.1, fun k v hv => hl.2.2 (k, mt g v) (by have := mLa_args (g := g) as 0 k v (mLn_get hv); simpa using this)⟩ hH va_S.rf
  · rw [Nat.sub_self, Nat.sub_self] at hk
    exact hk
  · intro H1 locs1 ls1 pc1 st1 hret hH1 hS1
    have hpost : ∀ t : State, t.heap = H1 → mPost g w' r (as.map (mt g)).toArray s (.returned (r.map (mt g))) t := fun t ht => ⟨rfl, by rw [ht]; exact hH1, by rw [ht]; exact hS1.1, fun x g1 g2 => by rw [ht]; exact hS1.2.1 x g1 g2⟩
    rcases hret with ⟨x, ty, hd, rfl, rfl, ht, hn⟩ | ⟨hd, rfl, rfl, ht⟩ | ⟨x, hd, rfl, rfl, ht⟩ | ⟨o, Cn, hd, rfl, rfl, ht⟩
    · exact W.zret B.exec B.bytes (B.returns.trans ht) hn (fun t ht _ => hpost t ht) hS1.2.2 hd B.notSynchronized
    · exact W.vret B.exec B.bytes (B.returns.trans ht) (fun t ht _ => hpost t ht) hS1.2.2 hd B.notSynchronized
    · exact W.lret B.exec B.bytes (B.returns.trans ht) (fun t ht _ => hpost t ht) hS1.2.2 hd B.notSynchronized
    · exact W.aret B.exec B.bytes (B.returns.trans ht) (Or.inl ⟨Cn, rfl⟩) (by cases o <;> first | exact Or.inl rfl | exact Or.inr ⟨_, rfl⟩) (fun t ht _ => hpost t ht) hS1.2.2 hd B.notSynchronized
theorem ev_invSX {as : List mV} {n idx : Nat} (hd : decode M.2.1 pc = .ok (.invokestatic idx, 3)) (hq : pc + 3 = q) (hl : Cond.methodLink M.1.cls idx M1.1 ∈ mWS) (hcal : mCal M1 n) (hsta : Cond.static M1.1 ∈ mWS) (hdd : d1 + 1 ≤ d)
    (hst : st = as.reverse ++ rest) (hn : as.length = n) (hrs : (rest.map mcat).sum ≤ 8) (hm : mMetX X M1 d1 as w r1 w1) (kk : mEv X M d r w' q L (r1.toList ++ rest) w1) : mEv X M d r w' pc L st w := by
  subst hst
  refine ev_run hm.1 hq kk fun p l e R s m args below meth c H locs ls cells slots g C hL hH hS hc1 hs1 => ⟨_, va_runS (As := as.map (mt g)) (Ts := mWS) ⟨C.1, C.2.1, C.2.2.1, C.2.2.2.1, C.2.2.2.2.1⟩ (hm.2 l g) ⟨callB_of n C.2.2.2.2.1 (mGood hcal.1) rfl rfl rfl (C.2.2.2.2.1 _ hcal.2.1) (C.2.2.2.2.1 _ hl) hcal.2.2.1 (mRoom hdd C.2.2.2.2.2.2.1 hcal.2.2.2), C.2.2.2.2.1 _ hsta⟩ ⟨mPre_blind, fun U hU hW => ⟨rfl, by rw [hU]; exact hH, C.2.2.2.2.2.1.call hS hU hW⟩⟩ rfl (by rw [List.length_map]; exact hn) hL.1 (by rw [List.map_append, List.map_reverse]) (lv_room (mSum hrs)) hd ⟨hc1, hs1⟩⟩
end EVX
