def btN (kd : Nat) : Nat := match kd with
  | 0 => 3 | 1 => 2 | 2 => 5 | 3 => 1 | _ => 4
theorem bat_n {kd : Nat} (h : kd ≤ 4) : bat kd = nI (btN kd) := by
  match kd, h with
  | 0, _ => rfl
  | 1, _ => rfl
  | 2, _ => rfl
  | 3, _ => rfl
  | 4, _ => rfl
theorem btN_b (kd : Nat) : 1 ≤ btN kd ∧ btN kd ≤ 5 := by
  unfold btN
  split <;> omega
/-- crowd and batter of toss v: tosser v / 36, aim v % 36 -/
def cvf (S : mT) (n v : Nat) : Nat := bN (cvr S (v / 36) (nI (v % 36)) (S.1 38 5)) n
def bf (S : mT) (v : Nat) : Nat := btN (kdO S (v / 36))
def GR (S : mT) (n T r s : Nat) : Nat := Gm 1000000 (fun q => 100 * bf S (T - 1 - q) + 1) (fun q => cvf S n (T - 1 - q)) r s
theorem GR_le (S : mT) (n T r s : Nat) : GR S n T r s ≤ 1000000 := Gm_I _ _ _ _ _
theorem s_price {S : mT} {t v : Nat} (ht : t ≤ 4) (hK : KR S t) (hv : v < 36 * t) : f_X11_priceOf 38 (nI v) (mk S) = some (nI (100 * bf S v + 1)) := by
  have hj : v / 36 < t := by omega
  obtain ⟨kd, e0, g1, g2, g3, g4⟩ := hK (v / 36) hj
  unfold f_X11_priceOf bf
  rw [rR_38_14, bS, show (36 : Int32) = nI 36 from rfl, n_div (by omega) (by decide), aL_44 S (by omega), bS, g2, s_batR g1, bS, kdO_eq g1 g2, bat_n g1, show (100 : Int32) = nI 100 from rfl, n_mul, nI_1]
def w2 (S : mT) (f g : Nat → Int32) : mT := uA (uA S 48 f) 49 g
theorem w2_1 {S : mT} {f g h : Nat → Int32} : uA (w2 S f g) 48 h = w2 S h g := by
  unfold w2
  rw [uA_comm (a := 49) (b := 48) (by decide), uA_u]
theorem w2_2 {S : mT} {f g h : Nat → Int32} : uA (w2 S f g) 49 h = w2 S f h := uA_u
theorem w2_3 {S : mT} {f g : Nat → Int32} : (w2 S f g).2.1 48 = f := id rfl
theorem w2_4 {S : mT} {f g : Nat → Int32} : (w2 S f g).2.1 49 = g := id rfl
theorem w2_0 {S : mT} : w2 S (S.2.1 48) (S.2.1 49) = S := by
  unfold w2
  rw [uA_id, uA_id]
def TB (S : mT) (n T v : Nat) (g : Nat → Int32) : Prop := ∀ x s, v ≤ x → x ≤ T → s < 64 → g (64 * x + s) = nI (GR S n T (T - x) s)
theorem lay0 {S : mT} {n T : Nat} (hT : T ≤ 144) (f : Nat → Int32) : ∃ g, f_X11_layLeast_L10 38 (nI T) mFuel 0 (mk (w2 S f (S.2.1 49))) = some (mk (w2 S f g)) ∧ TB S n T T g := by
  have hl := loopF (fun m (g : Nat → Int32) k => f_X11_layLeast_L10 38 (nI T) m (nI k) (mk (w2 S f g))) 64 (fun k g => upd g (64 * T + k) (if k = 0 then 0 else 1000000)) (fun g => mk (w2 S f g)) (fun k g => ∀ s, s < k → g (64 * T + s) = nI (GR S n T 0 s)) (S.2.1 49) (fun s hs => absurd hs (by omega)) ?_ ?_ mFuel (by unfold mFuel; omega)
  · refine ⟨_, hl.1, fun x s hx hxT hs => ?_⟩
    have : x = T := by omega
    subst this
    rw [Nat.sub_self]
    exact hl.2 s hs
  · intro m k g hk hI
    constructor
    · simp only [f_X11_layLeast_L10, f_X11_layLeast_J36]
      rw [if_neg (show ¬ (64 : Int32) ≤ nI k by rw [show (64 : Int32) = nI 64 from rfl, n_le (by omega) (by omega)]; omega), rR_38_19, bS, show (64 : Int32) * nI T + nI k = nI (64 * T + k) from by rw [show (64 : Int32) = nI 64 from rfl, n_mul, n_add], nI_1]
      by_cases h0 : k = 0
      · rw [if_pos (show nI k = 0 by rw [h0]; rfl), if_pos h0, aS_49 _ _ (show 64 * T + k < 9280 by omega), bS, w2_4, w2_2]
      · rw [if_neg (show ¬ nI k = 0 by rw [show (0 : Int32) = nI 0 from rfl, n_eq (by omega) (by omega)]; exact h0), if_neg h0, aS_49 _ _ (show 64 * T + k < 9280 by omega), bS, w2_4, w2_2]
    · intro s hs
      rw [upd_at]
      by_cases hsk : s = k
      · subst hsk
        rw [if_pos rfl]
        unfold GR
        rw [Gm]
        by_cases h0 : s = 0
        · rw [if_pos h0, if_pos h0]; rfl
        · rw [if_neg h0, if_neg h0]; rfl
      · rw [if_neg (by omega)]
        exact hI s (by omega)
  · intro m g _
    simp only [f_X11_layLeast_L10]
    rw [if_pos (by decide)]
theorem lay1 {S : mT} {n t v : Nat} (ht : t ≤ 4) (hn : n ≤ 6) (hK : KR S t) (hv : v < 36 * t) {f : Nat → Int32} (hf : f v = nI (cvf S n v)) {g0 : Nat → Int32} (hg : TB S n (36 * t) (v + 1) g0) : ∃ g, f_X11_layLeast_L75 38 (nI v) mFuel 0 (mk (w2 S f g0)) = some (mk (w2 S f g)) ∧ TB S n (36 * t) v g := by
  have hc : cvf S n v < 64 := bN_lt64 hn
  have hl := loopF (fun m (g : Nat → Int32) k => f_X11_layLeast_L75 38 (nI v) m (nI k) (mk (w2 S f g))) 64 (fun k g => upd g (64 * v + k) (nI (GR S n (36 * t) (36 * t - v) k))) (fun g => mk (w2 S f g)) (fun k g => TB S n (36 * t) (v + 1) g ∧ ∀ s, s < k → g (64 * v + s) = nI (GR S n (36 * t) (36 * t - v) s)) g0 ⟨hg, fun s hs => absurd hs (by omega)⟩ ?_ ?_ mFuel (by unfold mFuel; omega)
  · refine ⟨_, hl.1, fun x s hx hxT hs => ?_⟩
    by_cases hxv : x = v
    · subst hxv
      exact hl.2.2 s hs
    · exact hl.2.1 x s (by omega) hxT hs
  · intro m k g hk hI
    obtain ⟨hI1, hI2⟩ := hI
    have hw : wo k (cvf S n v) < 64 := wo64 _ hk
    constructor
    · have r3 := hI1 (v + 1) k (Nat.le_refl _) (by omega) hk
      have r9 := hI1 (v + 1) (wo k (cvf S n v)) (Nat.le_refl _) (by omega) hw
      have l3 := GR_le S n (36 * t) (36 * t - (v + 1)) k
      have l9 := GR_le S n (36 * t) (36 * t - (v + 1)) (wo k (cvf S n v))
      have hb := (btN_b (kdO S (v / 36))).2
      have hbf : bf S v ≤ 5 := hb
      have hstep : GR S n (36 * t) (36 * t - v) k = min (GR S n (36 * t) (36 * t - (v + 1)) k) (100 * bf S v + 1 + GR S n (36 * t) (36 * t - (v + 1)) (wo k (cvf S n v))) := by
        unfold GR
        rw [show 36 * t - v = (36 * t - (v + 1)) + 1 by omega, Gm, show 36 * t - 1 - (36 * t - (v + 1)) = v by omega]
      simp only [f_X11_layLeast_L75, f_X11_layLeast_J152]
      rw [if_neg (show ¬ (64 : Int32) ≤ nI k by rw [show (64 : Int32) = nI 64 from rfl, n_le (by omega) (by omega)]; omega), show (64 : Int32) = nI 64 from rfl, n_mul, n_add, n_add, n_add, nI_1]
      refine bnd (rR_38_19 _) ?_
      refine bnd (aL_49 _ (show 64 * v + 64 + k < 9280 by omega)) ?_
      refine bnd (kk_38 _) ?_
      refine bnd (s_price (S := w2 S f g) ht hK hv) ?_
      refine bnd (rR_38_19 _) ?_
      refine bnd (rR_38_18 _) ?_
      refine bnd (aL_48 _ (show v < 144 by omega)) ?_
      rw [w2_3, w2_4, hf, n_wo hk hc, n_add, show 64 * v + 64 + k = 64 * (v + 1) + k by omega, r3]
      refine bnd (aL_49 _ (show 64 * v + 64 + wo k (cvf S n v) < 9280 by omega)) ?_
      rw [w2_4, show 64 * v + 64 + wo k (cvf S n v) = 64 * (v + 1) + wo k (cvf S n v) by omega, r9, n_add, show bf (w2 S f g) v = bf S v from rfl]
      refine bnd (rR_38_19 _) ?_
      by_cases hle : GR S n (36 * t) (36 * t - (v + 1)) k ≤ 100 * bf S v + 1 + GR S n (36 * t) (36 * t - (v + 1)) (wo k (cvf S n v))
      · rw [if_pos ((n_le (by omega) (by omega)).mpr hle), aS_49 _ _ (show 64 * v + k < 9280 by omega), bS, w2_4, w2_2, hstep, Nat.min_eq_left hle]
      · rw [if_neg (fun z => hle ((n_le (by omega) (by omega)).mp z)), aS_49 _ _ (show 64 * v + k < 9280 by omega), bS, w2_4, w2_2, hstep, Nat.min_eq_right (by omega)]
    · refine ⟨fun x s hx hxT hs => ?_, fun s hs => ?_⟩
      · rw [upd_at, if_neg (by omega)]
        exact hI1 x s hx hxT hs
      · rw [upd_at]
        by_cases hsk : s = k
        · rw [hsk, if_pos rfl]
        · rw [if_neg (by omega)]
          exact hI2 s (by omega)
  · intro m g _
    simp only [f_X11_layLeast_L75]
    rw [if_pos (by decide)]
theorem lay2 {S : mT} {n t : Nat} (ht : t ≤ 4) (hn : n ≤ 6) (e : S.1 38 3 = nI n) (hK : KR S t) (hC : NCells S n 9 rNow) : ∀ (v m : Nat) (f g : Nat → Int32), v ≤ 36 * t → v < m → TB S n (36 * t) v g → (∀ x, v ≤ x → x < 36 * t → f x = nI (cvf S n x)) → ∃ f' g', f_X11_layLeast_L47 38 m (nI v - 1) (mk (w2 S f g)) = some (mk (w2 S f' g')) ∧ TB S n (36 * t) 0 g' ∧ (∀ x, x < 36 * t → f' x = nI (cvf S n x))
  | 0, m, f, g, hv, hm, hg, hf => by
    obtain ⟨q, rfl⟩ : ∃ q, m = q + 1 := ⟨m - 1, by omega⟩
    refine ⟨f, g, ?_, hg, fun x hx => hf x (by omega) hx⟩
    simp only [f_X11_layLeast_L47]
    rw [if_pos (by decide)]
  | v + 1, m, f, g, hv, hm, hg, hf => by
    obtain ⟨q, rfl⟩ : ∃ q, m = q + 1 := ⟨m - 1, by omega⟩
    have hf2 : (upd f v (nI (cvf S n v))) v = nI (cvf S n v) := by rw [upd_at, if_pos rfl]
    obtain ⟨g1, k1, k2⟩ := lay1 (f := upd f v (nI (cvf S n v))) ht hn hK (show v < 36 * t by omega) hf2 hg
    obtain ⟨f', g', k3, k4, k5⟩ := lay2 ht hn e hK hC v q (upd f v (nI (cvf S n v))) g1 (by omega) (by omega) k2 (fun x h1 h2 => by
      rw [upd_at]
      by_cases hxv : x = v
      · rw [if_pos hxv, hxv]
      · rw [if_neg hxv]
        exact hf x (by omega) h2)
    refine ⟨f', g', ?_, k4, k5⟩
    simp only [f_X11_layLeast_L47]
    rw [show nI (v + 1) - 1 = nI v from (n_sub (show 1 ≤ v + 1 by omega)), if_neg (show ¬ nI v < 0 by rw [show (0 : Int32) = nI 0 from rfl, n_lt (by omega) (by omega)]; omega), show (36 : Int32) = nI 36 from rfl, n_rem (by omega) (by decide), n_div (by omega) (by decide)]
    refine bnd (rR_38_18 _) ?_
    refine bnd (rI_38_5 _) ?_
    refine bnd (kk_38 _) ?_
    refine bnd (s_covR (S := w2 S f g) hn ht e hK (show v / 36 < t by omega) hC _ _) ?_
    refine bnd (aS_48 _ _ (show v < 144 by omega)) ?_
    rw [w2_1, w2_3]
    refine bnd k1 ?_
    rw [show nI v + (-1 : Int32) = nI v - 1 from (Int32.sub_eq_add_neg _ _).symm]
    exact k3
theorem s_lay {S : mT} {n t : Nat} (ht : t ≤ 4) (hn : n ≤ 6) (e : S.1 38 3 = nI n) (e2 : S.1 38 4 = nI t) (hK : KR S t) (hC : NCells S n 9 rNow) : ∃ f g, f_X11_layLeast 38 (mk S) = some (mk (w2 S f g)) ∧ TB S n (36 * t) 0 g ∧ (∀ x, x < 36 * t → f x = nI (cvf S n x)) := by
  obtain ⟨g0, k1, k2⟩ := lay0 (S := S) (n := n) (T := 36 * t) (by omega) (S.2.1 48)
  obtain ⟨f, g, k3, k4, k5⟩ := lay2 ht hn e hK hC (36 * t) mFuel (S.2.1 48) g0 (Nat.le_refl _) (by unfold mFuel; omega) k2 (fun x h1 h2 => absurd h1 (by omega))
  refine ⟨f, g, ?_, k4, k5⟩
  unfold f_X11_layLeast
  rw [rI_38_4, bS, e2, show (36 : Int32) = nI 36 from rfl, n_mul]
  rw [w2_0] at k1
  refine bnd k1 ?_
  refine bnd k3 ?_
  rfl
