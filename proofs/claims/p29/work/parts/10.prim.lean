-- what the methods are made of, as functions over the world
def mFuel : Nat := 1000
def gV (w : mW) (o : Option Nat) (ci k : Nat) : Option mV := match o with
  | none => none
  | some a => match w[a]? with
    | some (.inl c) => if c.1 = ci then c.2[k]? else none
    | _ => none
def gI (w : mW) (o : Option Nat) (ci k : Nat) : Option Int32 := match gV w o ci k with
  | some (.inl x) => some x
  | _ => none
def gL (w : mW) (o : Option Nat) (ci k : Nat) : Option Int64 := match gV w o ci k with
  | some (.inr (.inl x)) => some x
  | _ => none
def gR (w : mW) (o : Option Nat) (ci k : Nat) : Option (Option Nat) := match gV w o ci k with
  | some (.inr (.inr (.inl x))) => some x
  | _ => none
theorem gV_spec {w : mW} {o : Option Nat} {ci k : Nat} {v : mV} (h : gV w o ci k = some v) : ∃ (a : Nat) (fs : List mV), o = some a ∧ w[a]? = some (.inl (ci, fs)) ∧ fs[k]? = some v := by
  unfold gV at h
  split at h
  · cases h
  · split at h
    · rename_i c hc
      split at h
      · rename_i hci
        exact ⟨_, c.2, rfl, by rw [hc, ← hci], h⟩
      · cases h
    · cases h
theorem gI_spec {w : mW} {o : Option Nat} {ci k : Nat} {v : Int32} (h : gI w o ci k = some v) : gV w o ci k = some (vi v) := by
  unfold gI at h
  split at h
  · rename_i x hx; cases h; exact hx
  · cases h
theorem gL_spec {w : mW} {o : Option Nat} {ci k : Nat} {v : Int64} (h : gL w o ci k = some v) : gV w o ci k = some (vl v) := by
  unfold gL at h
  split at h
  · rename_i x hx; cases h; exact hx
  · cases h
theorem gR_spec {w : mW} {o : Option Nat} {ci k : Nat} {v : Option Nat} (h : gR w o ci k = some v) : gV w o ci k = some (vr v) := by
  unfold gR at h
  split at h
  · rename_i x hx; cases h; exact hx
  · cases h
def pV (w : mW) (o : Option Nat) (ci k : Nat) (v : mV) : Option mW := match o with
  | none => none
  | some a => match w[a]? with
    | some (.inl c) => if c.1 = ci ∧ k < c.2.length then some (w.set a (.inl (ci, c.2.set k v))) else none
    | _ => none
theorem pV_spec {w w1 : mW} {o : Option Nat} {ci k : Nat} {v : mV} (h : pV w o ci k v = some w1) : ∃ (a : Nat) (fs : List mV), o = some a ∧ w[a]? = some (.inl (ci, fs)) ∧ k < fs.length ∧ w1 = w.set a (.inl (ci, fs.set k v)) := by
  unfold pV at h
  split at h
  · cases h
  · split at h
    · rename_i c hc
      split at h
      · rename_i hci
        cases h
        exact ⟨_, c.2, rfl, by rw [hc, ← hci.1], hci.2, rfl⟩
      · cases h
    · cases h
def pI (w : mW) (o : Option Nat) (ci k : Nat) (x : Int32) : Option mW := pV w o ci k (vi x)
def pZ (w : mW) (o : Option Nat) (ci k : Nat) (x : Int32) : Option mW := if x = 0 ∨ x = 1 then pV w o ci k (vi x) else none
def pL (w : mW) (o : Option Nat) (ci k : Nat) (x : Int64) : Option mW := pV w o ci k (vl x)
def pR (w : mW) (o : Option Nat) (ci k : Nat) (x : Option Nat) : Option mW := pV w o ci k (vr x)
def aG (w : mW) (o : Option Nat) : Option (Nat × (Nat → Int32)) := match o with
  | none => none
  | some a => match w[a]? with
    | some (.inr (.inl c)) => some c
    | _ => none
def rG (w : mW) (o : Option Nat) : Option (Nat × (Nat → Option Nat)) := match o with
  | none => none
  | some a => match w[a]? with
    | some (.inr (.inr c)) => some c
    | _ => none
theorem aG_spec {w : mW} {o : Option Nat} {c : Nat × (Nat → Int32)} (h : aG w o = some c) : ∃ a : Nat, o = some a ∧ w[a]? = some (.inr (.inl c)) := by
  unfold aG at h
  split at h
  · cases h
  · split at h
    · rename_i c hc; cases h; exact ⟨_, rfl, hc⟩
    · cases h
theorem rG_spec {w : mW} {o : Option Nat} {c : Nat × (Nat → Option Nat)} (h : rG w o = some c) : ∃ a : Nat, o = some a ∧ w[a]? = some (.inr (.inr c)) := by
  unfold rG at h
  split at h
  · cases h
  · split at h
    · rename_i c hc; cases h; exact ⟨_, rfl, hc⟩
    · cases h
def aL (w : mW) (o : Option Nat) (i : Int32) : Option Int32 := match aG w o with
  | none => none
  | some c => if i.toNatClampNeg < c.1 ∧ ¬ i < 0 then some (c.2 i.toNatClampNeg) else none
def rL (w : mW) (o : Option Nat) (i : Int32) : Option (Option Nat) := match rG w o with
  | none => none
  | some c => if i.toNatClampNeg < c.1 ∧ ¬ i < 0 then some (c.2 i.toNatClampNeg) else none
def aN (w : mW) (o : Option Nat) : Option Int32 := (aG w o).map fun c => Int32.ofNat c.1
def rN (w : mW) (o : Option Nat) : Option Int32 := (rG w o).map fun c => Int32.ofNat c.1
def aS (w : mW) (o : Option Nat) (i x : Int32) : Option mW := match aG w o with
  | none => none
  | some c => if i.toNatClampNeg < c.1 ∧ ¬ i < 0 then some (w.set (o.getD 0) (.inr (.inl (c.1, upd c.2 i.toNatClampNeg x)))) else none
/-- the class of a tosser -/
def tO (w : mW) (o : Option Nat) : Option Nat := match o with
  | none => none
  | some a => match w[a]? with
    | some (.inl c) => if c.1 = 8 ∨ c.1 = 0 ∨ c.1 = 9 ∨ c.1 = 7 ∨ c.1 = 1 then some c.1 else none
    | _ => none
def rS (w : mW) (o : Option Nat) (i : Int32) (x : Option Nat) : Option mW := match rG w o with
  | none => none
  | some c => match tO w x with
    | none => none
    | some _ => if i.toNatClampNeg < c.1 ∧ ¬ i < 0 then some (w.set (o.getD 0) (.inr (.inr (c.1, va_up c.2 i.toNatClampNeg x)))) else none
def iO (w : mW) (o : Option Nat) (t : Nat) : Option Int32 := match o with
  | none => some 0
  | some _ => (tO w o).map fun c => if c = t ∨ (c = 1 ∧ t = 9) then 1 else 0
theorem tO_spec {w : mW} {o : Option Nat} {c : Nat} (h : tO w o = some c) : ∃ (a : Nat) (fs : List mV), o = some a ∧ w[a]? = some (.inl (c, fs)) ∧ (c = 8 ∨ c = 0 ∨ c = 9 ∨ c = 7 ∨ c = 1) := by
  unfold tO at h
  split at h
  · cases h
  · split at h
    · rename_i c hc
      split at h
      · rename_i hci
        cases h
        exact ⟨_, c.2, rfl, hc, hci⟩
      · cases h
    · cases h
theorem mLe_nil {b : List (Option mV)} : mLe [] b := by cases b <;> trivial
theorem mLe_none {a b : List (Option mV)} {x : Option mV} (h : mLe a b) : mLe (none :: a) (x :: b) := h
theorem mLe_some {a b : List (Option mV)} {v : mV} (h : mLe a b) : mLe (some v :: a) (some v :: b) := ⟨rfl, h⟩
section EV4
variable {X : mXs} {M M1 : mM} {d d1 : Nat} {r r1 : Option mV} {w' w1 : mW} {pc q : Nat} {L : List (Option mV)} {st rest : List mV} {w : mW} {o : Option Nat} {idx ci kf : Nat}
theorem ev_gI {x : Int32} (hd : decode M.2.1 pc = .ok (.getfield idx, 3)) (hf : mFld M.1.cls idx ci kf) (h : gI w o ci kf = some x) (hq : pc + 3 = q) (kk : mEv X M d r w' q L (vi x :: st) w) : mEv X M d r w' pc L (vr o :: st) w := by
  obtain ⟨a, fs, rfl, h1, h2⟩ := gV_spec (gI_spec h)
  exact ev_get hd hq hf h1 h2 kk
theorem ev_gL {x : Int64} (hd : decode M.2.1 pc = .ok (.getfield idx, 3)) (hf : mFld M.1.cls idx ci kf) (h : gL w o ci kf = some x) (hq : pc + 3 = q) (kk : mEv X M d r w' q L (vl x :: st) w) : mEv X M d r w' pc L (vr o :: st) w := by
  obtain ⟨a, fs, rfl, h1, h2⟩ := gV_spec (gL_spec h)
  exact ev_get hd hq hf h1 h2 kk
theorem ev_gR {x : Option Nat} (hd : decode M.2.1 pc = .ok (.getfield idx, 3)) (hf : mFld M.1.cls idx ci kf) (h : gR w o ci kf = some x) (hq : pc + 3 = q) (kk : mEv X M d r w' q L (vr x :: st) w) : mEv X M d r w' pc L (vr o :: st) w := by
  obtain ⟨a, fs, rfl, h1, h2⟩ := gV_spec (gR_spec h)
  exact ev_get hd hq hf h1 h2 kk
theorem ev_pI {x : Int32} {w2 : mW} (hd : decode M.2.1 pc = .ok (.putfield idx, 3)) (hf : mFldP M.1.cls idx ci kf .int false) (h : pI w o ci kf x = some w2) (hq : pc + 3 = q) (kk : mEv X M d r w' q L st w2) : mEv X M d r w' pc L (vi x :: vr o :: st) w := by
  obtain ⟨a, fs, rfl, h1, h2, rfl⟩ := pV_spec h
  exact ev_put hd hq hf mFit_i h1 h2 kk
theorem ev_pZ {x : Int32} {w2 : mW} (hd : decode M.2.1 pc = .ok (.putfield idx, 3)) (hf : mFldP M.1.cls idx ci kf .boolean false) (h : pZ w o ci kf x = some w2) (hq : pc + 3 = q) (kk : mEv X M d r w' q L st w2) : mEv X M d r w' pc L (vi x :: vr o :: st) w := by
  unfold pZ at h
  split at h
  · rename_i hx
    obtain ⟨a, fs, rfl, h1, h2, rfl⟩ := pV_spec h
    exact ev_put hd hq hf (mFit_z hx) h1 h2 kk
  · cases h
theorem ev_pL {x : Int64} {w2 : mW} (hd : decode M.2.1 pc = .ok (.putfield idx, 3)) (hf : mFldP M.1.cls idx ci kf .long false) (h : pL w o ci kf x = some w2) (hq : pc + 3 = q) (kk : mEv X M d r w' q L st w2) : mEv X M d r w' pc L (vl x :: vr o :: st) w := by
  obtain ⟨a, fs, rfl, h1, h2, rfl⟩ := pV_spec h
  exact ev_put hd hq hf mFit_l h1 h2 kk
theorem ev_pRF {x : Option Nat} {ty : FieldType} {w2 : mW} (hd : decode M.2.1 pc = .ok (.putfield idx, 3)) (hini : M.1.name = "<init>") (hfit : mFit ty (vr x)) (hf : mFldP M.1.cls idx ci kf ty true) (h : pR w o ci kf x = some w2) (hq : pc + 3 = q) (kk : mEv X M d r w' q L st w2) : mEv X M d r w' pc L (vr x :: vr o :: st) w := by
  obtain ⟨a, fs, rfl, h1, h2, rfl⟩ := pV_spec h
  exact ev_putF hd hq hini hf hfit h1 h2 kk
theorem vp_in_mk {i : Int32} {n : Nat} (h : i.toNatClampNeg < n ∧ ¬ i < 0) : vp_in i n := fun z => by rcases z with z | z; exact h.2 z; omega
theorem ev_aL {i x : Int32} (hd : decode M.2.1 pc = .ok (.iaload, 1)) (h : aL w o i = some x) (hq : pc + 1 = q) (kk : mEv X M d r w' q L (vi x :: st) w) : mEv X M d r w' pc L (vi i :: vr o :: st) w := by
  unfold aL at h
  split at h
  · cases h
  · rename_i c hc
    obtain ⟨a, rfl, h1⟩ := aG_spec hc
    split at h
    · rename_i hi
      cases h
      exact ev_iaload hd hq h1 (vp_in_mk hi) kk
    · cases h
theorem ev_rL {i : Int32} {x : Option Nat} (hd : decode M.2.1 pc = .ok (.aaload, 1)) (h : rL w o i = some x) (hq : pc + 1 = q) (kk : mEv X M d r w' q L (vr x :: st) w) : mEv X M d r w' pc L (vi i :: vr o :: st) w := by
  unfold rL at h
  split at h
  · cases h
  · rename_i c hc
    obtain ⟨a, rfl, h1⟩ := rG_spec hc
    split at h
    · rename_i hi
      cases h
      exact ev_aaload hd hq h1 (vp_in_mk hi) kk
    · cases h
theorem ev_aN {x : Int32} (hd : decode M.2.1 pc = .ok (.arraylength, 1)) (h : aN w o = some x) (hq : pc + 1 = q) (kk : mEv X M d r w' q L (vi x :: st) w) : mEv X M d r w' pc L (vr o :: st) w := by
  obtain ⟨c, hc, rfl⟩ := Option.map_eq_some_iff.mp h
  obtain ⟨a, rfl, h1⟩ := aG_spec hc
  exact ev_alen hd hq h1 rfl kk
theorem ev_rN {x : Int32} (hd : decode M.2.1 pc = .ok (.arraylength, 1)) (h : rN w o = some x) (hq : pc + 1 = q) (kk : mEv X M d r w' q L (vi x :: st) w) : mEv X M d r w' pc L (vr o :: st) w := by
  obtain ⟨c, hc, rfl⟩ := Option.map_eq_some_iff.mp h
  obtain ⟨a, rfl, h1⟩ := rG_spec hc
  exact ev_alenq hd hq h1 rfl kk
theorem ev_aS {i x : Int32} {w2 : mW} (hd : decode M.2.1 pc = .ok (.iastore, 1)) (h : aS w o i x = some w2) (hq : pc + 1 = q) (kk : mEv X M d r w' q L st w2) : mEv X M d r w' pc L (vi x :: vi i :: vr o :: st) w := by
  unfold aS at h
  split at h
  · cases h
  · rename_i c hc
    obtain ⟨a, rfl, h1⟩ := aG_spec hc
    split at h
    · rename_i hi
      cases h
      exact ev_iastore hd hq h1 (vp_in_mk hi) kk
    · cases h
theorem ev_rS {i : Int32} {x : Option Nat} {w2 : mW} (hd : decode M.2.1 pc = .ok (.aastore, 1)) (h0 : Cond.castable "PancakePort$Lacy" "PancakePort$Tosser" ∈ mNw) (h9 : Cond.castable "PancakePort$Wide" "PancakePort$Tosser" ∈ mNw) (h7 : Cond.castable "PancakePort$Thrifty" "PancakePort$Tosser" ∈ mNw) (h11 : Cond.castable "PancakePort$Mayor" "PancakePort$Tosser" ∈ mNw) (h : rS w o i x = some w2) (hq : pc + 1 = q) (kk : mEv X M d r w' q L st w2) : mEv X M d r w' pc L (vr x :: vi i :: vr o :: st) w := by
  unfold rS at h
  split at h
  · cases h
  · rename_i c hc
    obtain ⟨a, rfl, h1⟩ := rG_spec hc
    split at h
    · cases h
    · rename_i t ht
      obtain ⟨b, fs, rfl, h2, hci⟩ := tO_spec ht
      split at h
      · rename_i hi
        cases h
        rcases hci with rfl | rfl | rfl | rfl | rfl
        · exact ev_aastore (C1 := RX8) hd hq h1 (vp_in_mk hi) h2 rfl (Or.inr rfl) kk
        · exact ev_aastore (C1 := RX0) hd hq h1 (vp_in_mk hi) h2 rfl (Or.inl h0) kk
        · exact ev_aastore (C1 := RX9) hd hq h1 (vp_in_mk hi) h2 rfl (Or.inl h9) kk
        · exact ev_aastore (C1 := RX7) hd hq h1 (vp_in_mk hi) h2 rfl (Or.inl h7) kk
        · exact ev_aastore (C1 := RX1) hd hq h1 (vp_in_mk hi) h2 rfl (Or.inl h11) kk
      · cases h
theorem ev_iO {v : Int32} {t : Nat} {C2 : String} (hd : decode M.2.1 pc = .ok (.instanceof idx, 3)) (hl : Cond.classLink M.1.cls idx C2 ∈ mWS) (ht : (t, C2) ∈ ([(0, RX0), (9, RX9), (7, RX7), (1, RX1)] : List (Nat × String))) (hmw : Cond.castable "PancakePort$Mayor" "PancakePort$Wide" ∈ mNw) (h : iO w o t = some v) (hq : pc + 3 = q) (kk : mEv X M d r w' q L (vi v :: st) w) : mEv X M d r w' pc L (vr o :: st) w := by
  unfold iO at h
  split at h
  · cases h
    exact ev_instN hd hq kk
  · obtain ⟨c, hc, rfl⟩ := Option.map_eq_some_iff.mp h
    obtain ⟨b, fs, e, h2, hci⟩ := tO_spec hc
    cases e
    simp only [List.mem_cons, List.not_mem_nil, or_false, Prod.mk.injEq] at ht
    rcases ht with ⟨rfl, rfl⟩ | ⟨rfl, rfl⟩ | ⟨rfl, rfl⟩ | ⟨rfl, rfl⟩ <;> rcases hci with rfl | rfl | rfl | rfl | rfl
    all_goals first
      | exact ev_inst1 hd hq hl h2 rfl (Or.inr rfl) kk
      | exact ev_inst0 hd hq hl h2 rfl (by decide) kk
      | exact ev_inst1 hd hq hl h2 rfl (Or.inl hmw) kk
end EV4
