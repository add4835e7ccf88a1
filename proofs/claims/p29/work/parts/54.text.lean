-- the law writes a port
def tx (S : mT) (f g : Nat → Int32) : mT := uA (uA S 40 f) 39 g
theorem tx_40 {S : mT} {f g f' : Nat → Int32} : uA (tx S f g) 40 f' = tx S f' g := by
  unfold tx
  rw [uA_comm (a := 39) (b := 40) (by decide), uA_u]
theorem tx_39 {S : mT} {f g g' : Nat → Int32} : uA (tx S f g) 39 g' = tx S f g' := uA_u
theorem tx_r40 {S : mT} {f g : Nat → Int32} : (tx S f g).2.1 40 = f := id rfl
theorem tx_r39 {S : mT} {f g : Nat → Int32} : (tx S f g).2.1 39 = g := id rfl
theorem tx_i {S : mT} {f g : Nat → Int32} : (tx S f g).1 = S.1 := id rfl
/-- i sleepers are written: their cells c, their letters -/
def TI (f g : Nat → Int32) (c : Nat → Nat) (i : Nat) : Prop := (∀ e, e < i → f e = nI (c e) ∧ c e < 36) ∧ (∀ e d, e < d → d < i → c e ≠ c d) ∧ (∀ e, e < i → g (3 * e) = nI (48 + c e / 6) ∧ g (3 * e + 1) = nI (48 + c e % 6)) ∧ ∀ e, e + 1 < i → g (3 * e + 2) = nI 44
theorem l_L133 {S : mT} (X : mXs) {f g : Nat → Int32} {c : Nat → Nat} {i a : Nat} (hi : i ≤ 5) (ha : a < 36) (hf : ∀ e, e < i → f e = nI (c e) ∧ c e < 36) (v1 v5 v7 v11 : Int32) (v2 v4 : Option Nat) : f_L_portText_L133 X v1 v2 (some 39) v4 v5 v7 (nI i) v11 (mk (tx S f g)) mFuel (nI a) 0 = some (nI (ps c i a)) := by
  refine (loopF (fun m (a : Nat) k => f_L_portText_L133 X v1 v2 (some 39) v4 v5 v7 (nI i) v11 (mk (tx S f g)) m (nI a) (nI k)) i (fun e a => if c e = a then (a + 1) % 36 else a) nI (fun _ a => a < 36) a ha ?_ ?_ mFuel (by unfold mFuel; omega)).1
  · intro m k a hk ha
    obtain ⟨h1, h2⟩ := hf k hk
    refine ⟨?_, ?_⟩
    · simp only [f_L_portText_L133, f_L_portText_J158]
      rw [if_neg (show ¬ nI i ≤ nI k by rw [n_le (by omega) (by omega)]; omega)]
      refine bnd (dp0_L _ (show k < 6 by omega)) ?_
      rw [tx_r40, h1, nI_1, nI_1, show (36 : Int32) = nI 36 from rfl, n_rem (by omega) (by decide)]
      by_cases z : c k = a
      · rw [if_pos (congrArg nI z), if_pos z]
      · rw [if_neg (show ¬ nI (c k) = nI a by rw [n_eq (by omega) (by omega)]; exact z), if_neg z]
    · by_cases z : c k = a
      · rw [if_pos z]; omega
      · rw [if_neg z]; exact ha
  · intro m a _
    simp only [f_L_portText_L133]
    rw [if_pos (show nI i ≤ nI i by rw [n_le (by omega) (by omega)]; omega)]
theorem l_L123 {S : mT} (X : mXs) {f g : Nat → Int32} {c : Nat → Nat} {i a : Nat} (hi : i ≤ 5) (ha : a < 36) (hf : ∀ e, e < i → f e = nI (c e) ∧ c e < 36) (v1 v5 v7 : Int32) (v2 v4 : Option Nat) : f_L_portText_L123 X v1 v2 (some 39) v4 v5 v7 (nI i) (mk (tx S f g)) mFuel (nI a) 0 = some (nI (it (fun _ b => ps c i b) 6 a)) := by
  refine (loopF (fun m (a : Nat) k => f_L_portText_L123 X v1 v2 (some 39) v4 v5 v7 (nI i) (mk (tx S f g)) m (nI a) (nI k)) 6 (fun _ b => ps c i b) nI (fun _ a => a < 36) a ha ?_ ?_ mFuel (by unfold mFuel; omega)).1
  · intro m k a hk ha
    refine ⟨?_, ps_lt ha⟩
    simp only [f_L_portText_L123]
    rw [if_neg (show ¬ (6 : Int32) ≤ nI k by rw [show (6 : Int32) = nI 6 from rfl, n_le (by omega) (by omega)]; omega)]
    refine bnd (l_L133 X hi ha hf _ _ _ _ _ _) ?_
    rw [nI_1]
  · intro m a _
    simp only [f_L_portText_L123]
    rw [if_pos (by decide)]
theorem l_L78 (X : mXs) (hL : X.1 ≤ 260) {S : mT} {n wd : Nat} (hn : n ≤ 6) (e3 : S.1 38 3 = nI n) (hw : 0 < wd) (hw2 : wd ≤ 6) : ∀ (d i m : Nat) (f g : Nat → Int32) (c : Nat → Nat), i + d = n → TI f g c i → d < m → ∃ (f' g' : Nat → Int32) (c' : Nat → Nat), f_L_portText_L78 X 0 (some 38) (some 39) (some 40) (nI wd) m (nI (3 * i - 1)) (nI i) (mk (tx S f g)) = some (nI (3 * n - 1), mk (tx S f' g')) ∧ TI f' g' c' n
  | 0, i, m, f, g, c, hi, h, hm => by
    obtain ⟨q, rfl⟩ : ∃ q, m = q + 1 := ⟨m - 1, by omega⟩
    have hin : i = n := by omega
    subst hin
    refine ⟨f, g, c, ?_, h⟩
    simp only [f_L_portText_L78]
    refine bnd (b0_L _) ?_
    rw [tx_i, e3, if_pos (show nI i ≤ nI i by rw [n_le (by omega) (by omega)]; omega)]
  | d + 1, i, m, f, g, c, hi, h, hm => by
    obtain ⟨q, rfl⟩ : ∃ q, m = q + 1 := ⟨m - 1, by omega⟩
    obtain ⟨h1, h2, h3, h4⟩ := h
    have i5 : i ≤ 5 := by omega
    have hr1 := atN_lt (cellN X (1 + i)) hw
    have hr2 := atN_lt (cellN X (1 + i) >>> ((3 : Int32) &&& 31)) hw
    have ha : 6 * atN (cellN X (1 + i)) wd + atN (cellN X (1 + i) >>> ((3 : Int32) &&& 31)) wd < 36 := by omega
    obtain ⟨s1, s2⟩ := six (c := c) i5 ha
    generalize hb : it (fun _ b => ps c i b) 6 (6 * atN (cellN X (1 + i)) wd + atN (cellN X (1 + i) >>> ((3 : Int32) &&& 31)) wd) = b at s1 s2
    have hlet : ∀ g1 : Nat → Int32, (∀ j, j < 3 * i - 1 → g1 j = g j) → (1 ≤ i → g1 (3 * i - 1) = nI 44) → TI (upd f i (nI b)) (upd (upd g1 (3 * i) (nI (48 + b / 6))) (3 * i + 1) (nI (48 + b % 6))) (fun e => if e = i then b else c e) (i + 1) := by
      intro g1 k1 k2
      refine ⟨fun e he => ?_, fun e d he hd => ?_, fun e he => ?_, fun e he => ?_⟩
      · show upd f i (nI b) e = nI (if e = i then b else c e) ∧ (if e = i then b else c e) < 36
        rw [upd_at]
        by_cases z : e = i
        · rw [if_pos z, if_pos z]; exact ⟨rfl, s1⟩
        · rw [if_neg z, if_neg z]; exact h1 e (by omega)
      · by_cases z : d = i
        · simp only [if_pos z, if_neg (show ¬ e = i by omega)]
          exact fun w => s2 ⟨e, by omega, w⟩
        · simp only [if_neg z, if_neg (show ¬ e = i by omega)]
          exact h2 e d he (by omega)
      · simp only [upd_at]
        by_cases z : e = i
        · subst z
          rw [if_neg (by omega), if_pos rfl, if_pos rfl, if_pos rfl]
          exact ⟨rfl, rfl⟩
        · obtain ⟨w1, w2⟩ := h3 e (by omega)
          rw [if_neg (by omega), if_neg (by omega), if_neg (by omega), if_neg (by omega), if_neg (by omega), k1 _ (by omega), k1 _ (by omega)]
          exact ⟨w1, w2⟩
      · simp only [upd_at]
        rw [if_neg (by omega), if_neg (by omega)]
        by_cases z : e + 1 = i
        · rw [show 3 * e + 2 = 3 * i - 1 by omega]
          exact k2 (by omega)
        · rw [k1 _ (by omega)]
          exact h4 e (by omega)
    have fin : ∀ g1 : Nat → Int32, (∀ j, j < 3 * i - 1 → g1 j = g j) → (1 ≤ i → g1 (3 * i - 1) = nI 44) → ∃ (f' g' : Nat → Int32) (c' : Nat → Nat), f_L_portText_J191 X (f_L_portText_L78 X 0 (some 38) (some 39) (some 40) (nI wd) q) 0 (some 38) (some 39) (some 40) (nI (3 * i)) (nI wd) (nI i) (nI b) (mk (tx S (upd f i (nI b)) g1)) = some (nI (3 * n - 1), mk (tx S f' g')) ∧ TI f' g' c' n := by
      intro g1 k1 k2
      obtain ⟨f', g', c', r1, r2⟩ := l_L78 X hL hn e3 hw hw2 d (i + 1) q _ _ _ (by omega) (hlet g1 k1 k2) (by omega)
      refine ⟨f', g', c', ?_, r2⟩
      unfold f_L_portText_J191
      rw [show (6 : Int32) = nI 6 from rfl, n_rem (by omega) (by decide), n_div (by omega) (by decide), show (48 : Int32) = nI 48 from rfl, n_add, n_add, nI_1, nI_1, nI_1]
      refine bnd (aS_40 _ _ (show 3 * i < 36 by omega)) ?_
      rw [tx_r39, tx_39]
      refine bnd (aS_40 _ _ (show 3 * i + 1 < 36 by omega)) ?_
      rw [tx_r39, tx_39, show 3 * i + 1 + 1 = 3 * (i + 1) - 1 by omega]
      exact r1
    have key : ∀ R : Option (Int32 × mW), (if nI i ≤ 0 then f_L_portText_J191 X (f_L_portText_L78 X 0 (some 38) (some 39) (some 40) (nI wd) q) 0 (some 38) (some 39) (some 40) (nI (3 * i - 1)) (nI wd) (nI i) (nI b) (mk (tx S (upd f i (nI b)) g)) else Option.bind (aS (mk (tx S (upd f i (nI b)) g)) (some 40) (nI (3 * i - 1)) (44 : Int32)) fun w29 => f_L_portText_J191 X (f_L_portText_L78 X 0 (some 38) (some 39) (some 40) (nI wd) q) 0 (some 38) (some 39) (some 40) (nI (3 * i - 1) + (1 : Int32)) (nI wd) (nI i) (nI b) w29) = R → f_L_portText_L78 X 0 (some 38) (some 39) (some 40) (nI wd) (q + 1) (nI (3 * i - 1)) (nI i) (mk (tx S f g)) = R := by
      intro R hR
      rw [← hR]
      simp only [f_L_portText_L78]
      refine bnd (b0_L _) ?_
      rw [tx_i, e3, if_neg (show ¬ nI n ≤ nI i by rw [n_le (by omega) (by omega)]; omega), show (0 : Int32) + (1 : Int32) + nI i = nI (1 + i) from n_add0 1 i]
      refine bnd (l_cell X hL (by omega) _) ?_
      refine bnd (l_at _ hw (by omega) _) ?_
      refine bnd (l_at _ hw (by omega) _) ?_
      rw [show (6 : Int32) = nI 6 from rfl, n_mul, n_add]
      refine bnd (l_L123 X i5 ha h1 _ _ _ _ _) ?_
      rw [hb]
      refine bnd (dp0_S _ (show i < 6 by omega) _) ?_
      rw [tx_r40, tx_40]
    by_cases z : i = 0
    · subst z
      obtain ⟨f', g', c', r1, r2⟩ := fin g (fun _ _ => rfl) (fun w => absurd w (by omega))
      refine ⟨f', g', c', key _ ?_, r2⟩
      rw [if_pos (show nI 0 ≤ (0 : Int32) by decide)]
      exact r1
    · obtain ⟨f', g', c', r1, r2⟩ := fin (upd g (3 * i - 1) (nI 44)) (fun j hj => by rw [upd_at, if_neg (by omega)]) (fun _ => by rw [upd_at, if_pos rfl])
      refine ⟨f', g', c', key _ ?_, r2⟩
      rw [if_neg (show ¬ nI i ≤ (0 : Int32) by rw [show (0 : Int32) = nI 0 from rfl, n_le (by omega) (by omega)]; omega), show (44 : Int32) = nI 44 from rfl]
      refine bnd (aS_40 _ _ (show 3 * i - 1 < 36 by omega)) ?_
      rw [tx_r39, tx_39, nI_1, show 3 * i - 1 + 1 = 3 * i by omega]
      exact r1
-- the tossers of the text
def KX (X : mXs) (j : Nat) : Nat := atN (cellN X (7 + j)) 5
def AX (X : mXs) (j : Nat) : Nat := atN (cellN X (7 + j) >>> ((3 : Int32) &&& 31)) 5
def BX (X : mXs) (j : Nat) : Nat := atN (cellN X (7 + j) >>> ((6 : Int32) &&& 31)) 5
theorem KX_le (X : mXs) (j : Nat) : KX X j ≤ 4 := by have := atN_lt (cellN X (7 + j)) (m := 5) (by decide); unfold KX; omega
theorem AX_le (X : mXs) (j : Nat) : AX X j ≤ 4 := by have := atN_lt (cellN X (7 + j) >>> ((3 : Int32) &&& 31)) (m := 5) (by decide); unfold AX; omega
theorem BX_le (X : mXs) (j : Nat) : BX X j ≤ 4 := by have := atN_lt (cellN X (7 + j) >>> ((6 : Int32) &&& 31)) (m := 5) (by decide); unfold BX; omega
def ltr (kd : Nat) : Nat := if kd = 0 then 116 else if kd = 1 then 108 else if kd = 2 then 119 else if kd = 3 then 104 else 109
def tz (S : mT) (K A B g : Nat → Int32) : mT := uA (uA (uA (uA S 44 K) 45 A) 46 B) 39 g
theorem tz_44 {S : mT} {K A B g f : Nat → Int32} : uA (tz S K A B g) 44 f = tz S f A B g := by
  refine mT_ext rfl (fun r => ?_) rfl
  unfold tz uA
  simp only
  repeat' split
  all_goals first | rfl | omega
theorem tz_45 {S : mT} {K A B g f : Nat → Int32} : uA (tz S K A B g) 45 f = tz S K f B g := by
  refine mT_ext rfl (fun r => ?_) rfl
  unfold tz uA
  simp only
  repeat' split
  all_goals first | rfl | omega
theorem tz_46 {S : mT} {K A B g f : Nat → Int32} : uA (tz S K A B g) 46 f = tz S K A f g := by
  refine mT_ext rfl (fun r => ?_) rfl
  unfold tz uA
  simp only
  repeat' split
  all_goals first | rfl | omega
theorem tz_39 {S : mT} {K A B g f : Nat → Int32} : uA (tz S K A B g) 39 f = tz S K A B f := uA_u
theorem tz_r44 {S : mT} {K A B g : Nat → Int32} : (tz S K A B g).2.1 44 = K := id rfl
theorem tz_r45 {S : mT} {K A B g : Nat → Int32} : (tz S K A B g).2.1 45 = A := id rfl
theorem tz_r46 {S : mT} {K A B g : Nat → Int32} : (tz S K A B g).2.1 46 = B := id rfl
theorem tz_r39 {S : mT} {K A B g : Nat → Int32} : (tz S K A B g).2.1 39 = g := id rfl
theorem tz_i {S : mT} {K A B g : Nat → Int32} : (tz S K A B g).1 = S.1 := id rfl
def UI (X : mXs) (K A B g : Nat → Int32) (e i : Nat) : Prop := ∀ j, j < i → (K j = nI (KX X j) ∧ A j = nI (AX X j) ∧ B j = nI (BX X j)) ∧ g (e + 4 * j) = nI (if j = 0 then 59 else 44) ∧ g (e + 4 * j + 1) = nI (ltr (KX X j)) ∧ g (e + 4 * j + 2) = nI (48 + AX X j) ∧ g (e + 4 * j + 3) = nI (48 + BX X j)
theorem l_J315 (X : mXs) {S : mT} {K A B g : Nat → Int32} {p i kd : Nat} (hp : p + 3 < 36) (hi : i < 4) (hk : kd ≤ 4) (e : K i = nI kd) (kc : Int32 → Int32 → mW → Option (Int32 × mW)) (sep : Int32) : f_L_portText_J315 X kc 0 (some 38) (some 39) (some 40) (nI (p + 1)) (nI i) (some 40) (nI p) sep (mk (tz S K A B g)) = kc (nI (p + 4)) (nI (i + 1)) (mk (tz S K A B (upd (upd (upd (upd g p sep) (p + 1) (nI (ltr kd))) (p + 2) ((48 : Int32) + A i)) (p + 3) ((48 : Int32) + B i)))) := by
  have hJ : ∀ l : Nat, f_L_portText_J384 X kc 0 (some 38) (some 39) (some 40) (nI (p + 1) + (1 : Int32)) (nI i) (some 40) (nI (p + 1)) (nI l) (mk (tz S K A B (upd g p sep))) = kc (nI (p + 4)) (nI (i + 1)) (mk (tz S K A B (upd (upd (upd (upd g p sep) (p + 1) (nI l)) (p + 2) ((48 : Int32) + A i)) (p + 3) ((48 : Int32) + B i)))) := by
    intro l
    unfold f_L_portText_J384
    rw [nI_1, nI_1, nI_1, nI_1]
    refine bnd (aS_40 _ _ (show p + 1 < 36 by omega)) ?_
    rw [tz_r39, tz_39]
    refine bnd (dp24_L _ hi) ?_
    rw [tz_r45]
    refine bnd (aS_40 _ _ (show p + 2 < 36 by omega)) ?_
    rw [tz_r39, tz_39]
    refine bnd (dp28_L _ hi) ?_
    rw [tz_r46]
    refine bnd (aS_40 _ _ (show p + 3 < 36 by omega)) ?_
    rw [tz_r39, tz_39]
  unfold f_L_portText_J315
  refine bnd (aS_40 _ _ (show p < 36 by omega)) ?_
  rw [tz_r39, tz_39]
  refine bnd (bp2_L _ hi) ?_
  rw [tz_r44, e]
  match kd, hk with
  | 0, _ => exact (if_pos rfl).trans (hJ 116)
  | 1, _ =>
    refine (if_neg (by decide)).trans ?_
    refine bnd (bp2_L _ hi) ?_
    rw [tz_r44, e]
    exact (if_pos rfl).trans (hJ 108)
  | 2, _ =>
    refine (if_neg (by decide)).trans ?_
    refine bnd (bp2_L _ hi) ?_
    rw [tz_r44, e]
    refine (if_neg (by decide)).trans ?_
    refine bnd (bp2_L _ hi) ?_
    rw [tz_r44, e]
    exact (if_pos rfl).trans (hJ 119)
  | 3, _ =>
    refine (if_neg (by decide)).trans ?_
    refine bnd (bp2_L _ hi) ?_
    rw [tz_r44, e]
    refine (if_neg (by decide)).trans ?_
    refine bnd (bp2_L _ hi) ?_
    rw [tz_r44, e]
    refine (if_neg (by decide)).trans ?_
    refine bnd (bp2_L _ hi) ?_
    rw [tz_r44, e]
    exact (if_pos rfl).trans (hJ 104)
  | 4, _ =>
    refine (if_neg (by decide)).trans ?_
    refine bnd (bp2_L _ hi) ?_
    rw [tz_r44, e]
    refine (if_neg (by decide)).trans ?_
    refine bnd (bp2_L _ hi) ?_
    rw [tz_r44, e]
    refine (if_neg (by decide)).trans ?_
    refine bnd (bp2_L _ hi) ?_
    rw [tz_r44, e]
    exact (if_neg (by decide)).trans (hJ 109)
theorem l_L232 (X : mXs) (hL : X.1 ≤ 260) {S : mT} {e t : Nat} (he : e ≤ 17) (ht : t ≤ 4) (e4 : S.1 38 4 = nI t) : ∀ (d i m : Nat) (K A B g : Nat → Int32), i + d = t → UI X K A B g e i → d < m → ∃ K' A' B' g' : Nat → Int32, f_L_portText_L232 X 0 (some 38) (some 39) (some 40) m (nI (e + 4 * i)) (nI i) (mk (tz S K A B g)) = some (nI (e + 4 * t), mk (tz S K' A' B' g')) ∧ UI X K' A' B' g' e t ∧ ∀ j, j < e → g' j = g j
  | 0, i, m, K, A, B, g, hi, h, hm => by
    obtain ⟨q, rfl⟩ : ∃ q, m = q + 1 := ⟨m - 1, by omega⟩
    have hin : i = t := by omega
    subst hin
    refine ⟨K, A, B, g, ?_, h, fun _ _ => rfl⟩
    simp only [f_L_portText_L232]
    refine bnd (b1_L _) ?_
    rw [tz_i, e4, if_pos (show nI i ≤ nI i by rw [n_le (by omega) (by omega)]; omega)]
  | d + 1, i, m, K, A, B, g, hi, h, hm => by
    obtain ⟨q, rfl⟩ : ∃ q, m = q + 1 := ⟨m - 1, by omega⟩
    have i4 : i < 4 := by omega
    have hU : UI X (upd K i (nI (KX X i))) (upd A i (nI (AX X i))) (upd B i (nI (BX X i))) (upd (upd (upd (upd g (e + 4 * i) (nI (if i = 0 then 59 else 44))) (e + 4 * i + 1) (nI (ltr (KX X i)))) (e + 4 * i + 2) (nI (48 + AX X i))) (e + 4 * i + 3) (nI (48 + BX X i))) e (i + 1) := by
      intro j hj
      simp only [upd_at]
      by_cases z : j = i
      · subst z
        rw [if_pos rfl, if_pos rfl, if_pos rfl]
        refine ⟨⟨rfl, rfl, rfl⟩, ?_, ?_, ?_, ?_⟩
        · rw [if_neg (by omega), if_neg (by omega), if_neg (by omega), if_pos rfl]
        · rw [if_neg (by omega), if_neg (by omega), if_pos rfl]
        · rw [if_neg (by omega), if_pos rfl]
        · rw [if_pos rfl]
      · obtain ⟨w1, w2, w3, w4, w5⟩ := h j (by omega)
        rw [if_neg z, if_neg z, if_neg z]
        refine ⟨w1, ?_, ?_, ?_, ?_⟩
        · rw [if_neg (by omega), if_neg (by omega), if_neg (by omega), if_neg (by omega)]; exact w2
        · rw [if_neg (by omega), if_neg (by omega), if_neg (by omega), if_neg (by omega)]; exact w3
        · rw [if_neg (by omega), if_neg (by omega), if_neg (by omega), if_neg (by omega)]; exact w4
        · rw [if_neg (by omega), if_neg (by omega), if_neg (by omega), if_neg (by omega)]; exact w5
    obtain ⟨K', A', B', g', r1, r2, r3⟩ := l_L232 X hL he ht e4 d (i + 1) q _ _ _ _ (by omega) hU (by omega)
    refine ⟨K', A', B', g', ?_, r2, fun j hj => ?_⟩
    · have key : ∀ sep : Nat, sep = (if i = 0 then 59 else 44) → f_L_portText_J315 X (f_L_portText_L232 X 0 (some 38) (some 39) (some 40) q) 0 (some 38) (some 39) (some 40) (nI (e + 4 * i) + (1 : Int32)) (nI i) (some 40) (nI (e + 4 * i)) (nI sep) (mk (tz S (upd K i (nI (KX X i))) (upd A i (nI (AX X i))) (upd B i (nI (BX X i))) g)) = some (nI (e + 4 * t), mk (tz S K' A' B' g')) := by
        intro sep hs
        rw [nI_1, l_J315 X (kd := KX X i) (show e + 4 * i + 3 < 36 by omega) i4 (KX_le X i) (by rw [upd_at, if_pos rfl])]
        rw [show upd A i (nI (AX X i)) i = nI (AX X i) by rw [upd_at, if_pos rfl], show upd B i (nI (BX X i)) i = nI (BX X i) by rw [upd_at, if_pos rfl], show (48 : Int32) + nI (AX X i) = nI (48 + AX X i) from n_add0 48 _, show (48 : Int32) + nI (BX X i) = nI (48 + BX X i) from n_add0 48 _, hs]
        rw [show e + 4 * i + 4 = e + 4 * (i + 1) by omega]
        exact r1
      simp only [f_L_portText_L232]
      refine bnd (b1_L _) ?_
      rw [tz_i, e4, if_neg (show ¬ nI t ≤ nI i by rw [n_le (by omega) (by omega)]; omega), show (0 : Int32) + (7 : Int32) + nI i = nI (7 + i) from n_add0 7 i]
      refine bnd (l_cell X hL (by omega) _) ?_
      refine bnd (l_at _ (m := 5) (by decide) (by decide) _) ?_
      refine bnd (bp2_S _ i4 _) ?_
      rw [tz_r44, tz_44]
      refine bnd (l_at _ (m := 5) (by decide) (by decide) _) ?_
      refine bnd (dp24_S _ i4 _) ?_
      rw [tz_r45, tz_45]
      refine bnd (l_at _ (m := 5) (by decide) (by decide) _) ?_
      refine bnd (dp28_S _ i4 _) ?_
      rw [tz_r46, tz_46]
      by_cases z : i = 0
      · rw [if_pos (show nI i ≤ 0 by rw [z]; decide)]
        exact key 59 (by rw [if_pos z])
      · rw [if_neg (show ¬ nI i ≤ (0 : Int32) by rw [show (0 : Int32) = nI 0 from rfl, n_le (by omega) (by omega)]; omega)]
        exact key 44 (by rw [if_neg z])
    · rw [r3 j hj, upd_at, upd_at, upd_at, upd_at, if_neg (by omega), if_neg (by omega), if_neg (by omega), if_neg (by omega)]
