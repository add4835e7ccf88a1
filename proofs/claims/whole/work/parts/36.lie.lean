/-- does tosser j's pancake, thrown at x in wind z, reach cell c -/
def cvc (S : mT) (j : Nat) (x z : Int32) (c : Nat) : Bool := decide (¬ lnd S j x z = -1 ∧ f_X11_reaches (S.2.1 44 j) (lnd S j x z) (nI c) [] = some 1)
theorem s_cvcR {S : mT} {t j c kd : Nat} (hj : j < 4) (hk : kd ≤ 4) (ek : S.2.1 44 j = nI kd) (hc : c < 36) (x z : Int32) : f_X11_coversCell 38 (nI j) x z (nI c) (mk S) = some (if cvc S j x z c = true then 1 else 0) := by
  unfold f_X11_coversCell f_X11_coversCell_J35
  rw [kk_38, bS, s_lndR hj, bS]
  by_cases hl : lnd S j x z = -1
  · rw [if_pos hl, if_neg (show ¬ cvc S j x z c = true by unfold cvc; simp [hl])]
    rfl
  · rcases cel_ok (((x / (6 : Int32)) + S.2.1 45 j) - (2 : Int32)) ((((x - x / (6 : Int32) * (6 : Int32)) + S.2.1 46 j) - (2 : Int32)) + z) with hc' | ⟨l, hl2, hc'⟩
    · exact absurd hc' hl
    · have hc2 : lnd S j x z = nI l := hc'
      rw [if_neg hl, rR_38_14, bS, aL_44 S hj, bS, reaches_w]
      have hr : cvc S j x z c = rch kd l c := by
        unfold cvc rch
        rw [ek, hc2]
        rw [hc2] at hl
        simp only [hl, not_false_eq_true, true_and]
      rw [ek, hc2, (k_rch ⟨kd, by omega⟩ ⟨l, hl2⟩ ⟨c, hc⟩).1, bS, hr]
      show (if (if rch kd l c = true then (1 : Int32) else 0) = 0 then _ else _) = _
      by_cases h : rch kd l c = true
      · rw [if_pos h, if_neg (by decide)]; rfl
      · rw [if_neg h, if_pos rfl]; rfl
theorem cvc_l {S : mT} {j c kd l : Nat} {x z : Int32} (ek : S.2.1 44 j = nI kd) (hl : lnd S j x z = nI l) (hl2 : l < 36) : cvc S j x z c = rch kd l c := by
  unfold cvc rch
  rw [ek, hl]
  have : ¬ nI l = -1 := by rw [eq_T, nT (by omega)]; show ¬ (l : Int) = -1; omega
  simp only [this, not_false_eq_true, true_and]
def stp (kd l : Nat) (u v : Int32) (f : Nat → Int32) : Nat → Int32 := if cel (nI l / 6 + u) (nI l - nI l / 6 * 6 + v) = -1 then f else if spr kd u v = some 0 then f else upd f (cel (nI l / 6 + u) (nI l - nI l / 6 * 6 + v)).toInt.toNat (f (cel (nI l / 6 + u) (nI l - nI l / 6 * 6 + v)).toInt.toNat + 1)
def hid (kd l : Nat) (u v : Int32) (c : Nat) : Int32 := if cel (nI l / 6 + u) (nI l - nI l / 6 * 6 + v) = nI c ∧ ¬ spr kd u v = some 0 then 1 else 0
theorem stp_at {kd l c : Nat} (hc : c < 36) (u v : Int32) (f : Nat → Int32) : stp kd l u v f c = f c + hid kd l u v c := by
  unfold stp hid
  rcases cel_ok (nI l / 6 + u) (nI l - nI l / 6 * 6 + v) with h | ⟨q, hq, h⟩
  · rw [if_pos h, if_neg, n_z]
    rw [h, eq_T, nT (by omega)]
    show ¬ ((-1 : Int) = c ∧ _)
    omega
  · have hne : ¬ nI q = -1 := by rw [eq_T, nT (by omega)]; show ¬ (q : Int) = -1; omega
    rw [h, if_neg hne]
    by_cases hs : spr kd u v = some 0
    · rw [if_pos hs, if_neg (fun z => z.2 hs), n_z]
    · rw [if_neg hs, nT (by omega), show ((q : Int).toNat) = q from rfl, upd_at]
      by_cases hcq : c = q
      · rw [if_pos hcq, if_pos ⟨by rw [hcq], hs⟩, hcq]
      · rw [if_neg hcq, if_neg (fun z => hcq (by have := z.1; rw [n_eq (by omega) (by omega)] at this; omega)), n_z]
def st3 (kd l : Nat) (u : Int32) (f : Nat → Int32) : Nat → Int32 := stp kd l u (-1 + 1 + 1) (stp kd l u (-1 + 1) (stp kd l u (-1) f))
def adf (kd l : Nat) (f : Nat → Int32) : Nat → Int32 := st3 kd l (-1 + 1 + 1) (st3 kd l (-1 + 1) (st3 kd l (-1) f))
theorem k_adf : ∀ (kd : Fin 5) (l c : Fin 36), hid kd.val l.val (-1) (-1) c.val + (hid kd.val l.val (-1) (-1 + 1) c.val + (hid kd.val l.val (-1) (-1 + 1 + 1) c.val + (hid kd.val l.val (-1 + 1) (-1) c.val + (hid kd.val l.val (-1 + 1) (-1 + 1) c.val + (hid kd.val l.val (-1 + 1) (-1 + 1 + 1) c.val + (hid kd.val l.val (-1 + 1 + 1) (-1) c.val + (hid kd.val l.val (-1 + 1 + 1) (-1 + 1) c.val + hid kd.val l.val (-1 + 1 + 1) (-1 + 1 + 1) c.val))))))) = if rch kd.val l.val c.val = true then 1 else 0 := by decide +kernel
theorem adf_at {kd l c : Nat} (hk : kd ≤ 4) (hl : l < 36) (hc : c < 36) (f : Nat → Int32) : adf kd l f c = f c + (if rch kd l c = true then 1 else 0) := by
  rw [← k_adf ⟨kd, by omega⟩ ⟨l, hl⟩ ⟨c, hc⟩]
  unfold adf st3
  simp only [stp_at hc, Int32.add_assoc]
theorem k_spr : ∀ (kd : Fin 5), ((spr kd.val (-1) (-1)).isSome = true ∧ (spr kd.val (-1) (-1 + 1)).isSome = true ∧ (spr kd.val (-1) (-1 + 1 + 1)).isSome = true) ∧ ((spr kd.val (-1 + 1) (-1)).isSome = true ∧ (spr kd.val (-1 + 1) (-1 + 1)).isSome = true ∧ (spr kd.val (-1 + 1) (-1 + 1 + 1)).isSome = true) ∧ ((spr kd.val (-1 + 1 + 1) (-1)).isSome = true ∧ (spr kd.val (-1 + 1 + 1) (-1 + 1)).isSome = true ∧ (spr kd.val (-1 + 1 + 1) (-1 + 1 + 1)).isSome = true) := by decide +kernel
theorem s_stp {S : mT} {kd e l : Nat} (hk : kd ≤ 4) (h : S.2.2.2.2[e]? = some (.inl (cls kd, []))) (u v : Int32) (hs : (spr kd u v).isSome = true) (f : Nat → Int32) (m : Nat) (hv : ¬ (1 : Int32) < v) : f_X10_addChances_L10 0 (some (e + 60)) (nI l) u (m + 1) v (mk (uA S 37 f)) = f_X10_addChances_L10 0 (some (e + 60)) (nI l) u m (v + 1) (mk (uA S 37 (stp kd l u v f))) := by
  simp only [f_X10_addChances_L10, f_X10_addChances_J70]
  rw [if_neg hv, s_celC, bS]
  unfold stp
  rcases cel_ok (nI l / 6 + u) (nI l - nI l / 6 * 6 + v) with hc | ⟨q, hq, hc⟩
  · rw [hc, if_pos rfl, if_pos rfl]
  · have hne : ¬ nI q = -1 := by rw [eq_T, nT (by omega)]; show ¬ (q : Int) = -1; omega
    rw [hc, if_neg hne, if_neg hne, s_dvs (S := uA S 37 f) hk h]
    obtain ⟨r, hr⟩ := Option.isSome_iff_exists.mp hs
    rw [hr, bS]
    by_cases h0 : r = 0
    · rw [if_pos h0, if_pos (by rw [h0])]
    · rw [if_neg h0, if_neg (fun z => h0 (Option.some.inj z)), rR_0_6, bS, bS, s_at (aG_37 _) (by decide) hq, bS, s_put (aG_37 _) (by decide) hq, bS, aW_37, uA_s, uA_u, nT (by omega)]
      rfl
theorem s_st3 {S : mT} {kd e l : Nat} (hk : kd ≤ 4) (h : S.2.2.2.2[e]? = some (.inl (cls kd, []))) (u : Int32) (h1 : (spr kd u (-1)).isSome = true) (h2 : (spr kd u (-1 + 1)).isSome = true) (h3 : (spr kd u (-1 + 1 + 1)).isSome = true) (f : Nat → Int32) : f_X10_addChances_L10 0 (some (e + 60)) (nI l) u mFuel (-1) (mk (uA S 37 f)) = some (mk (uA S 37 (st3 kd l u f))) := by
  rw [show mFuel = 996 + 1 + 1 + 1 + 1 from rfl]
  generalize 996 = m
  rw [s_stp hk h u _ h1 _ _ (by decide), s_stp hk h u _ h2 _ _ (by decide), s_stp hk h u _ h3 _ _ (by decide)]
  simp only [f_X10_addChances_L10]
  rw [if_pos (show (1 : Int32) < -1 + 1 + 1 + 1 by decide)]
  rfl
theorem s_adf {S : mT} {kd e l : Nat} (hk : kd ≤ 4) (h : S.2.2.2.2[e]? = some (.inl (cls kd, []))) (f : Nat → Int32) : f_X10_addChances 0 (some (e + 60)) (nI l) (mk (uA S 37 f)) = some (mk (uA S 37 (adf kd l f))) := by
  obtain ⟨⟨q1, q2, q3⟩, ⟨q4, q5, q6⟩, q7, q8, q9⟩ := k_spr ⟨kd, by omega⟩
  have hst : ∀ (u : Int32) (m : Nat) (g : Nat → Int32), (spr kd u (-1)).isSome = true → (spr kd u (-1 + 1)).isSome = true → (spr kd u (-1 + 1 + 1)).isSome = true → ¬ (1 : Int32) < u → f_X10_addChances_L2 0 (some (e + 60)) (nI l) (m + 1) u (mk (uA S 37 g)) = f_X10_addChances_L2 0 (some (e + 60)) (nI l) m (u + 1) (mk (uA S 37 (st3 kd l u g))) := by
    intro u m g r1 r2 r3 hu
    simp only [f_X10_addChances_L2]
    rw [if_neg hu, s_st3 hk h u r1 r2 r3, bS]
  unfold f_X10_addChances
  rw [show f_X10_addChances_L2 0 (some (e + 60)) (nI l) mFuel (-1) (mk (uA S 37 f)) = some (mk (uA S 37 (adf kd l f))) from ?_, bS]
  rw [show mFuel = 996 + 1 + 1 + 1 + 1 from rfl]
  generalize 996 = m
  rw [hst (-1) _ _ q1 q2 q3 (by decide), hst (-1 + 1) _ _ q4 q5 q6 (by decide), hst (-1 + 1 + 1) _ _ q7 q8 q9 (by decide)]
  simp only [f_X10_addChances_L2]
  rw [if_pos (show (1 : Int32) < -1 + 1 + 1 + 1 by decide)]
  rfl
/-- the chances over all cells after aim k of tosser j -/
def chg (S : mT) (kd j : Nat) (z : Int32) : Nat → (Nat → Int32) → Nat → Int32 := fun k f => if lnd S j (nI k) z = -1 then f else adf kd (lnd S j (nI k) z).toInt.toNat f
theorem chg_at {S : mT} {kd j c : Nat} (hk : kd ≤ 4) (ek : S.2.1 44 j = nI kd) (hc : c < 36) (z : Int32) (f : Nat → Int32) : ∀ n, it (chg S kd j z) n f c = it (fun k x => x + (if cvc S j (nI k) z c = true then 1 else 0)) n (f c)
  | 0 => rfl
  | n + 1 => by
    rw [it, it, ← chg_at hk ek hc z f n]
    generalize it (chg S kd j z) n f = g
    unfold chg
    rcases cel_ok (((nI n / (6 : Int32)) + S.2.1 45 j) - (2 : Int32)) ((((nI n - nI n / (6 : Int32) * (6 : Int32)) + S.2.1 46 j) - (2 : Int32)) + z) with hl | ⟨l, hl2, hl⟩
    · have hl' : lnd S j (nI n) z = -1 := hl
      rw [if_pos hl', if_neg (show ¬ cvc S j (nI n) z c = true by unfold cvc; simp [hl']), n_z]
    · have hl' : lnd S j (nI n) z = nI l := hl
      have hne : ¬ nI l = -1 := by rw [eq_T, nT (by omega)]; show ¬ (l : Int) = -1; omega
      rw [cvc_l ek hl' hl2, hl', if_neg hne, nT (by omega)]
      exact adf_at hk hl2 hc g
theorem s_chI {S : mT} {t j kd e : Nat} (ht : t ≤ 4) (hj : j < t) (hT : NTurn S t 9 rNow) (hk : kd ≤ 4) (h : S.2.2.2.2[e]? = some (.inl (cls kd, []))) (f : Nat → Int32) : f_X10_countChances_L25 0 (nI j) (some (e + 60)) mFuel 0 (mk (uA S 37 f)) = some (mk (uA S 37 (it (chg S kd j (S.1 9 8)) 36 f))) := by
  have hl := loopG (fun m g k => f_X10_countChances_L25 0 (nI j) (some (e + 60)) m (nI k) (mk (uA S 37 g))) 36 (chg S kd j (S.1 9 8)) (fun g => mk (uA S 37 g)) f ?_ ?_ mFuel (by unfold mFuel; omega)
  · exact hl
  · intro m k g hk36
    simp only [f_X10_countChances_L25, f_X10_countChances_J63]
    rw [if_neg (show ¬ (36 : Int32) ≤ nI k by rw [show (36 : Int32) = nI 36 from rfl, n_le (by omega) (by omega)]; omega), rR_0_3, bS, rI_9_8, bS, kk_0, bS, s_lndC (S := uA S 37 g) ht hj hT, bS, oC_s, nI_1, uA_1, show lnd (uA S 37 g) j (nI k) (S.1 9 8) = lnd S j (nI k) (S.1 9 8) from rfl]
    unfold chg
    rcases cel_ok (((nI k / (6 : Int32)) + S.2.1 45 j) - (2 : Int32)) ((((nI k - nI k / (6 : Int32) * (6 : Int32)) + S.2.1 46 j) - (2 : Int32)) + S.1 9 8) with hc | ⟨l, hl2, hc⟩
    · have hc' : lnd S j (nI k) (S.1 9 8) = -1 := hc
      rw [if_pos hc', if_pos hc']
    · have hc' : lnd S j (nI k) (S.1 9 8) = nI l := hc
      have hne : ¬ nI l = -1 := by rw [eq_T, nT (by omega)]; show ¬ (l : Int) = -1; omega
      rw [hc', if_neg hne, if_neg hne, s_adf hk h, bS, nT (by omega)]
      rfl
  · intro m g
    simp only [f_X10_countChances_L25]
    rw [if_pos (by decide)]
def kdO (S : mT) (j : Nat) : Nat := (S.2.1 44 j).toInt.toNat
theorem kdO_eq {S : mT} {j kd : Nat} (hk : kd ≤ 4) (ek : S.2.1 44 j = nI kd) : kdO S j = kd := by
  unfold kdO
  rw [ek, nT (by omega)]
  rfl
def cha (S : mT) (z : Int32) : Nat → (Nat → Int32) → Nat → Int32 := fun j f => it (chg S (kdO S j) j z) 36 f
theorem s_chC {S : mT} {t : Nat} (ht : t ≤ 4) (e2 : S.1 0 8 = nI t) (hK : KR S t) (hT : NTurn S t 9 rNow) : f_X10_countChances 0 (mk S) = some (mk (uA S 37 (it (cha S (S.1 9 8)) t (cpy 36 (fun _ => 0) (S.2.1 37))))) := by
  have hl := loopG (fun m g k => f_X10_countChances_L9 0 m (nI k) (mk (uA S 37 g))) t (cha S (S.1 9 8)) (fun g => mk (uA S 37 g)) (cpy 36 (fun _ => 0) (S.2.1 37)) ?_ ?_ mFuel (by unfold mFuel; omega)
  · unfold f_X10_countChances
    rw [rR_0_6, bS, s_clear 37 36 (by decide) aG_37 aW_37, bS, show f_X10_countChances_L9 0 mFuel 0 (mk (uA S 37 (cpy 36 (fun _ => 0) (S.2.1 37)))) = _ from hl, bS]
  · intro m k g hk
    obtain ⟨kd, e0, g1, g2, g3, g4⟩ := hK k hk
    simp only [f_X10_countChances_L9]
    rw [rI_0_8, bS, uA_1, e2, if_neg (show ¬ nI t ≤ nI k by rw [n_le (by omega) (by omega)]; omega), kk_0, bS, s_taS (S := uA S 37 g) ht e2 hk, bS, show (uA S 37 g).2.2.1 k = some (e0 + 60) from g3, s_chI ht hk hT g1 g4, bS, nI_1]
    unfold cha
    rw [kdO_eq g1 g2]
  · intro m g
    simp only [f_X10_countChances_L9]
    rw [rI_0_8, bS, uA_1, e2, if_pos (show nI t ≤ nI t by rw [n_le (by omega) (by omega)]; omega)]
/-- by how many tosses cell c is covered -/
def tso (S : mT) (z : Int32) (t c : Nat) : Int32 := it (fun j x => it (fun k x => x + (if cvc S j (nI k) z c = true then 1 else 0)) 36 x) t 0
theorem cha_at {S : mT} {t c : Nat} (hK : KR S t) (hc : c < 36) (z : Int32) (f : Nat → Int32) (hf : f c = 0) : ∀ n, n ≤ t → it (cha S z) n f c = it (fun j x => it (fun k x => x + (if cvc S j (nI k) z c = true then 1 else 0)) 36 x) n 0
  | 0, _ => hf
  | n + 1, hn => by
    obtain ⟨kd, e0, g1, g2, g3, g4⟩ := hK n (by omega)
    rw [it, it, ← cha_at hK hc z f hf n (by omega)]
    show it (chg S (kdO S n) n z) 36 _ c = _
    rw [kdO_eq g1 g2, chg_at g1 g2 hc]
theorem s_tso {S : mT} {t c : Nat} (ht : t ≤ 4) (e2 : S.1 38 4 = nI t) (hK : KR S t) (hc : c < 36) : f_X11_tossesOver 38 (nI c) (mk S) = some (tso S (S.1 38 5) t c) := by
  have hl := loopG (fun m x k => f_X11_tossesOver_L4 38 (nI c) (mk S) m x (nI k)) t (fun j x => it (fun k x => x + (if cvc S j (nI k) (S.1 38 5) c = true then 1 else 0)) 36 x) id 0 ?_ ?_ mFuel (by unfold mFuel; omega)
  · unfold f_X11_tossesOver
    rw [id_eq] at hl
    rw [show f_X11_tossesOver_L4 38 (nI c) (mk S) mFuel 0 0 = _ from hl, bS]
    rfl
  · intro m j x hj
    obtain ⟨kd, e0, g1, g2, g3, g4⟩ := hK j hj
    have hi := loopG (fun m x k => f_X11_tossesOver_L15 38 (nI c) (nI j) (mk S) m x (nI k)) 36 (fun k x => x + (if cvc S j (nI k) (S.1 38 5) c = true then 1 else 0)) id x ?_ ?_ mFuel (by unfold mFuel; omega)
    · simp only [f_X11_tossesOver_L4]
      rw [id_eq] at hi
      rw [rI_38_4, bS, e2, if_neg (show ¬ nI t ≤ nI j by rw [n_le (by omega) (by omega)]; omega), show f_X11_tossesOver_L15 38 (nI c) (nI j) (mk S) mFuel x 0 = _ from hi, bS, nI_1]
    · intro m k x hk
      simp only [f_X11_tossesOver_L15, f_X11_tossesOver_J43]
      rw [if_neg (show ¬ (36 : Int32) ≤ nI k by rw [show (36 : Int32) = nI 36 from rfl, n_le (by omega) (by omega)]; omega), rI_38_5, bS, kk_38, bS, s_cvcR (t := t) (by omega) g1 g2 hc, bS, nI_1]
      by_cases h : cvc S j (nI k) (S.1 38 5) c = true
      · rw [if_pos h, if_neg (by decide)]
      · rw [if_neg h, if_pos rfl]
    · intro m x
      simp only [f_X11_tossesOver_L15]
      rw [if_pos (by decide)]
      rfl
  · intro m x
    simp only [f_X11_tossesOver_L4]
    rw [rI_38_4, bS, e2, if_pos (show nI t ≤ nI t by rw [n_le (by omega) (by omega)]; omega)]
    rfl
