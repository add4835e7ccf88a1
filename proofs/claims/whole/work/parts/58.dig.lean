-- loops that carry a world along
theorem loopE {α β : Type} (F : Nat → α → mT → Nat → Option β) (n : Nat) (g : Nat → α → α) (I : α → mT → Prop) (r : α → mT → β)
    (hs : ∀ m k a P, k < n → I a P → ∃ Q, I (g k a) Q ∧ F (m + 1) a P k = F m (g k a) Q (k + 1)) (he : ∀ m a P, I a P → F (m + 1) a P n = some (r a P)) (m : Nat) (a0 : α) (P0 : mT) (h0 : I a0 P0) (hm : n < m) : ∃ Q, I (it g n a0) Q ∧ F m a0 P0 0 = some (r (it g n a0) Q) := by
  have key : ∀ k, k ≤ n → ∀ m, ∃ Q, I (it g k a0) Q ∧ F (m + k) a0 P0 0 = F m (it g k a0) Q k := by
    intro k
    induction k with
    | zero => exact fun _ m => ⟨P0, h0, rfl⟩
    | succ k ih =>
      intro hk m
      obtain ⟨Q, h1, h2⟩ := ih (by omega) (m + 1)
      obtain ⟨R, h3, h4⟩ := hs m k _ Q (by omega) h1
      refine ⟨R, h3, ?_⟩
      rw [show m + (k + 1) = (m + 1) + k by omega, h2, h4]
      rfl
  obtain ⟨q, rfl⟩ : ∃ q, m = (q + 1) + n := ⟨m - n - 1, by omega⟩
  obtain ⟨Q, h1, h2⟩ := key n (Nat.le_refl n) (q + 1)
  exact ⟨Q, h1, by rw [h2, he q _ Q h1]⟩
def hp (h : Int64) (x : Int32) : Int64 := ((31 : Int64) * h) + x.toInt64
/-- all that is known of a world that tells what S tells -/
def FX (N : Nat) (S : mT) (n t c L : Nat) : Prop := Inv N S ∧ (n ≤ 6 ∧ t ≤ 4 ∧ c ≤ 6 ∧ L ≤ 36) ∧ (S.1 0 7 = nI n ∧ S.1 38 3 = nI n ∧ S.1 0 8 = nI t ∧ S.1 38 4 = nI t ∧ S.1 1 1 = nI L ∧ S.1 38 1 = nI L ∧ S.1 38 22 = nI c) ∧ PR S L ∧ KR S t ∧ NCells S n 9 rNow ∧ (∀ i, i < n → S.2.1 41 i = 0 ∨ S.2.1 41 i = 1) ∧ NTurn S t 9 rNow ∧ S.1 9 7 = nI (bN (cvB S 41) n) ∧ S.1 9 8 = S.1 38 5 ∧ S.1 9 9 = S.1 38 6
theorem ob_FX {N n t c L : Nat} {S P : mT} (h : ob P = ob S) (f : FX N S n t c L) : FX N P n t c L := by
  have h1 : FX N (ob S) n t c L := f
  rw [← h] at h1
  exact h1
def HI (S : mT) (h : Int64) (P : mT) : Prop := ob P = ob S ∧ P.2.2.2.1 = h
theorem s_say {S P : mT} {h : Int64} (o : HI S h P) (x : Int32) : ∃ Q, HI S (hp h x) Q ∧ f_X11_say 38 x.toInt64 (mk P) = some (mk Q) := by
  refine ⟨uL P (hp h x), ⟨o.1, rfl⟩, ?_⟩
  unfold f_X11_say
  rw [rL_38_39, bS, wL_38_39, bS, o.2]
  rfl
-- sleepers
def dS (S : mT) (n t : Nat) (h : Int64) : Int64 := it (fun i h => it (fun k h => hp h (sv S n t i (nI k))) 5 h) n h
theorem c_dS1 {N n t c L : Nat} {S P : mT} (f : FX N S n t c L) {i : Nat} (hi : i < n) (h : Int64) (o : ob P = ob S) : ∃ Q, ob Q = ob S ∧ f_X10_digest_L17 0 (nI i) mFuel h 0 (mk P) = some (it (fun k h => hp h (sv S n t i (nI k))) 5 h, mk Q) := by
  refine loopE (fun m a P k => f_X10_digest_L17 0 (nI i) m a (nI k) (mk P)) 5 (fun k h => hp h (sv S n t i (nI k))) (fun _ P => ob P = ob S) (fun a P => (a, mk P)) ?_ ?_ mFuel h P o (by unfold mFuel; omega)
  · intro m k a P hk o
    obtain ⟨p0, ⟨p1, p2, p3, p4⟩, ⟨e1, e2, e3, e4, e5, e6, e7⟩, p5, p6, p7, p8, p9, p10, p11, p12⟩ := ob_FX o f
    obtain ⟨Q, q1, q2⟩ := c_sv p0 p1 p2 e1 e2 e4 p6 hi (nI k)
    refine ⟨Q, q2.trans o, ?_⟩
    simp only [f_X10_digest_L17]
    rw [if_neg (show ¬ (4 : Int32) < nI k by rw [show (4 : Int32) = nI 4 from rfl, n_lt (by omega) (by omega)]; omega), kk_0, bS, q1, bS, ob_sv o, nI_1]
    rfl
  · intro m a P o
    simp only [f_X10_digest_L17]
    rw [if_pos (show (4 : Int32) < nI 5 by decide)]
theorem c_dS {N n t c L : Nat} {S P : mT} (f : FX N S n t c L) (h : Int64) (o : ob P = ob S) : ∃ Q, ob Q = ob S ∧ f_X10_digest_L6 0 mFuel h 0 (mk P) = some (dS S n t h, mk Q) := by
  refine loopE (fun m a P k => f_X10_digest_L6 0 m a (nI k) (mk P)) n (fun i h => it (fun k h => hp h (sv S n t i (nI k))) 5 h) (fun _ P => ob P = ob S) (fun a P => (a, mk P)) ?_ ?_ mFuel h P o ?_
  · intro m k a P hk o
    obtain ⟨p0, ⟨p1, p2, p3, p4⟩, ⟨e1, e2, e3, e4, e5, e6, e7⟩, p5, p6, p7, p8, p9, p10, p11, p12⟩ := ob_FX o f
    obtain ⟨Q, q1, q2⟩ := c_dS1 f hk a o
    refine ⟨Q, q1, ?_⟩
    simp only [f_X10_digest_L6]
    rw [rI_0_7, bS, e1, if_neg (show ¬ nI n ≤ nI k by rw [n_le (by omega) (by omega)]; omega), q2, bS, nI_1]
  · intro m a P o
    obtain ⟨p0, ⟨p1, p2, p3, p4⟩, ⟨e1, e2, e3, e4, e5, e6, e7⟩, p5⟩ := ob_FX o f
    simp only [f_X10_digest_L6]
    rw [rI_0_7, bS, e1, if_pos (show nI n ≤ nI n by rw [n_le (by omega) (by omega)]; omega)]
  · have := f.2.1.1
    unfold mFuel
    omega
theorem r_dS1 {N n t c L : Nat} {S P : mT} (f : FX N S n t c L) {i : Nat} (hi : i < n) (h : Int64) (o : HI S h P) : ∃ Q, HI S (it (fun k h => hp h (sv S n t i (nI k))) 5 h) Q ∧ f_X11_digest_L19 38 (nI i) mFuel 0 (mk P) = some (mk Q) := by
  refine loopE (fun m a P k => f_X11_digest_L19 38 (nI i) m (nI k) (mk P)) 5 (fun k h => hp h (sv S n t i (nI k))) (HI S) (fun _ P => mk P) ?_ ?_ mFuel h P o (by unfold mFuel; omega)
  · intro m k a P hk o
    obtain ⟨p0, ⟨p1, p2, p3, p4⟩, ⟨e1, e2, e3, e4, e5, e6, e7⟩, p5, p6, p7, p8, p9, p10, p11, p12⟩ := ob_FX o.1 f
    obtain ⟨Q, q1, q2⟩ := s_say o (sv S n t i (nI k))
    refine ⟨Q, q1, ?_⟩
    simp only [f_X11_digest_L19]
    rw [if_neg (show ¬ (5 : Int32) ≤ nI k by rw [show (5 : Int32) = nI 5 from rfl, n_le (by omega) (by omega)]; omega), kk_38, bS, r_sv p1 p2 e2 e4 p6 hi, bS, bS, ob_sv o.1, q2, bS, nI_1]
  · intro m a P o
    simp only [f_X11_digest_L19]
    rw [if_pos (show (5 : Int32) ≤ nI 5 by decide)]
theorem r_dS {N n t c L : Nat} {S P : mT} (f : FX N S n t c L) (h : Int64) (o : HI S h P) : ∃ Q, HI S (dS S n t h) Q ∧ f_X11_digest_L9 38 mFuel 0 (mk P) = some (mk Q) := by
  refine loopE (fun m a P k => f_X11_digest_L9 38 m (nI k) (mk P)) n (fun i h => it (fun k h => hp h (sv S n t i (nI k))) 5 h) (HI S) (fun _ P => mk P) ?_ ?_ mFuel h P o ?_
  · intro m k a P hk o
    obtain ⟨p0, ⟨p1, p2, p3, p4⟩, ⟨e1, e2, e3, e4, e5, e6, e7⟩, p5, p6, p7, p8, p9, p10, p11, p12⟩ := ob_FX o.1 f
    obtain ⟨Q, q1, q2⟩ := r_dS1 f hk a o
    refine ⟨Q, q1, ?_⟩
    simp only [f_X11_digest_L9]
    rw [rI_38_3, bS, e2, if_neg (show ¬ nI n ≤ nI k by rw [n_le (by omega) (by omega)]; omega), q2, bS, nI_1]
  · intro m a P o
    obtain ⟨p0, ⟨p1, p2, p3, p4⟩, ⟨e1, e2, e3, e4, e5, e6, e7⟩, p5⟩ := ob_FX o.1 f
    simp only [f_X11_digest_L9]
    rw [rI_38_3, bS, e2, if_pos (show nI n ≤ nI n by rw [n_le (by omega) (by omega)]; omega)]
  · have := f.2.1.1
    unfold mFuel
    omega
-- tossers
def dT1 (S : mT) (n c j : Nat) (h : Int64) : Int64 := it (fun k h => hp h (tv S n c j (nI k))) 9 h
def dT (S : mT) (n t c : Nat) (h : Int64) : Int64 := it (fun j h => hp (hp (dT1 S n c j h) (lnd S j 14 (S.1 38 5))) (nI (bN (cvr S j 14 (S.1 38 5)) n))) t h
theorem c_dT1 {N n t c L : Nat} {S P : mT} (f : FX N S n t c L) {j : Nat} (hj : j < t) (h : Int64) (o : ob P = ob S) : f_X10_digest_L63 0 (nI j) (mk P) mFuel h 0 = some (dT1 S n c j h) := by
  obtain ⟨p0, ⟨p1, p2, p3, p4⟩, ⟨e1, e2, e3, e4, e5, e6, e7⟩, p5, p6, p7, p8, p9, p10, p11, p12⟩ := ob_FX o f
  refine loopG (fun m a k => f_X10_digest_L63 0 (nI j) (mk P) m a (nI k)) 9 (fun k h => hp h (tv S n c j (nI k))) id h ?_ ?_ mFuel (by unfold mFuel; omega)
  · intro m k a hk
    simp only [f_X10_digest_L63]
    rw [if_neg (show ¬ (8 : Int32) < nI k by rw [show (8 : Int32) = nI 8 from rfl, n_lt (by omega) (by omega)]; omega), kk_0, bS, c_tv p0 p1 p2 p3 e3 e2 e7 p6 hj p7 p8, bS, ob_tv o, nI_1]
    rfl
  · intro m a
    simp only [f_X10_digest_L63]
    rw [if_pos (show (8 : Int32) < nI 9 by decide)]
    rfl
theorem c_dT {N n t c L : Nat} {S P : mT} (f : FX N S n t c L) (h : Int64) (o : ob P = ob S) : f_X10_digest_L52 0 (mk P) mFuel h 0 = some (dT S n t c h) := by
  obtain ⟨p0, ⟨p1, p2, p3, p4⟩, ⟨e1, e2, e3, e4, e5, e6, e7⟩, p5, p6, p7, p8, p9, p10, p11, p12⟩ := ob_FX o f
  refine loopG (fun m a k => f_X10_digest_L52 0 (mk P) m a (nI k)) t (fun j h => hp (hp (dT1 S n c j h) (lnd S j 14 (S.1 38 5))) (nI (bN (cvr S j 14 (S.1 38 5)) n))) id h ?_ ?_ mFuel (by unfold mFuel; omega)
  · intro m k a hk
    simp only [f_X10_digest_L52]
    rw [rI_0_8, bS, e3, if_neg (show ¬ nI t ≤ nI k by rw [n_le (by omega) (by omega)]; omega), c_dT1 f hk a o, bS, kk_0, bS, c_lv p0 p2 e4 hk, bS, bS, c_cv p0 p1 p2 e2 e4 p6 p7 hk, bS, ob_lnd o, ob_cvr o, ob_i o rfl, nI_1]
    rfl
  · intro m a
    simp only [f_X10_digest_L52]
    rw [rI_0_8, bS, e3, if_pos (show nI t ≤ nI t by rw [n_le (by omega) (by omega)]; omega)]
    rfl
theorem r_dT1 {N n t c L : Nat} {S P : mT} (f : FX N S n t c L) {j : Nat} (hj : j < t) (h : Int64) (o : HI S h P) : ∃ Q, HI S (dT1 S n c j h) Q ∧ f_X11_sayTosser_L2 38 (nI j) mFuel 0 (mk P) = some (mk Q) := by
  refine loopE (fun m a P k => f_X11_sayTosser_L2 38 (nI j) m (nI k) (mk P)) 9 (fun k h => hp h (tv S n c j (nI k))) (HI S) (fun _ P => mk P) ?_ ?_ mFuel h P o (by unfold mFuel; omega)
  · intro m k a P hk o
    obtain ⟨p0, ⟨p1, p2, p3, p4⟩, ⟨e1, e2, e3, e4, e5, e6, e7⟩, p5, p6, p7, p8, p9, p10, p11, p12⟩ := ob_FX o.1 f
    obtain ⟨Q, q1, q2⟩ := s_say o (tv S n c j (nI k))
    refine ⟨Q, q1, ?_⟩
    simp only [f_X11_sayTosser_L2]
    rw [if_neg (show ¬ (9 : Int32) ≤ nI k by rw [show (9 : Int32) = nI 9 from rfl, n_le (by omega) (by omega)]; omega), kk_38, bS, r_tv p1 p2 p3 e2 e7 p6 hj p7 p8, bS, bS, ob_tv o.1, q2, bS, nI_1]
  · intro m a P o
    simp only [f_X11_sayTosser_L2]
    rw [if_pos (show (9 : Int32) ≤ nI 9 by decide)]
theorem r_dT2 {N n t c L : Nat} {S P : mT} (f : FX N S n t c L) {j : Nat} (hj : j < t) (h : Int64) (o : HI S h P) : ∃ Q, HI S (hp (hp (dT1 S n c j h) (lnd S j 14 (S.1 38 5))) (nI (bN (cvr S j 14 (S.1 38 5)) n))) Q ∧ f_X11_sayTosser 38 (nI j) (mk P) = some (mk Q) := by
  have ht := f.2.1.2.1
  obtain ⟨Q1, o1, q1⟩ := r_dT1 f hj h o
  obtain ⟨Q2, o2, q2⟩ := s_say o1 (lnd S j 14 (S.1 38 5))
  obtain ⟨Q3, o3, q3⟩ := s_say o2 (nI (bN (cvr S j 14 (S.1 38 5)) n))
  refine ⟨Q3, o3, ?_⟩
  have hl : f_X11_landsBy 38 (nI j) 14 (Q1.1 38 5) (mk Q1) = some (lnd S j 14 (S.1 38 5)) := by
    rw [s_lndR (show j < 4 by omega), ob_lnd o1.1, ob_i o1.1 rfl]
  have hc : f_X11_coversOf 38 (nI j) 14 (Q2.1 38 5) (mk Q2) = some (nI (bN (cvr S j 14 (S.1 38 5)) n)) := by
    obtain ⟨p0, ⟨p1, p2, p3, p4⟩, ⟨e1, e2, e3, e4, e5, e6, e7⟩, p5, p6, p7, p8, p9, p10, p11, p12⟩ := ob_FX o2.1 f
    rw [s_covR p1 p2 e2 p6 hj p7, ob_cvr o2.1, ob_i o2.1 rfl]
  unfold f_X11_sayTosser
  refine bnd q1 ?_
  refine bnd (rI_38_5 _) ?_
  refine bnd (kk_38 _) ?_
  refine bnd hl ?_
  refine bnd (kk_38 _) ?_
  refine bnd q2 ?_
  refine bnd (rI_38_5 _) ?_
  refine bnd (kk_38 _) ?_
  refine bnd hc ?_
  refine bnd (kk_38 _) ?_
  refine bnd q3 ?_
  rfl
theorem r_dT {N n t c L : Nat} {S P : mT} (f : FX N S n t c L) (h : Int64) (o : HI S h P) : ∃ Q, HI S (dT S n t c h) Q ∧ f_X11_digest_L49 38 mFuel 0 (mk P) = some (mk Q) := by
  refine loopE (fun m a P k => f_X11_digest_L49 38 m (nI k) (mk P)) t (fun j h => hp (hp (dT1 S n c j h) (lnd S j 14 (S.1 38 5))) (nI (bN (cvr S j 14 (S.1 38 5)) n))) (HI S) (fun _ P => mk P) ?_ ?_ mFuel h P o ?_
  · intro m k a P hk o
    obtain ⟨p0, ⟨p1, p2, p3, p4⟩, ⟨e1, e2, e3, e4, e5, e6, e7⟩, p5, p6, p7, p8, p9, p10, p11, p12⟩ := ob_FX o.1 f
    obtain ⟨Q, q1, q2⟩ := r_dT2 f hk a o
    refine ⟨Q, q1, ?_⟩
    simp only [f_X11_digest_L49]
    rw [rI_38_4, bS, e4, if_neg (show ¬ nI t ≤ nI k by rw [n_le (by omega) (by omega)]; omega), kk_38, bS, q2, bS, nI_1]
  · intro m a P o
    obtain ⟨p0, ⟨p1, p2, p3, p4⟩, ⟨e1, e2, e3, e4, e5, e6, e7⟩, p5⟩ := ob_FX o.1 f
    simp only [f_X11_digest_L49]
    rw [rI_38_4, bS, e4, if_pos (show nI t ≤ nI t by rw [n_le (by omega) (by omega)]; omega)]
  · have := f.2.1.2.1
    unfold mFuel
    omega
-- the port's plans
def dP1 (S : mT) (n T K : Nat) (h : Int64) : Int64 := it (fun k h => hp h (alv S n T K (10 + k))) 6 h
def dP (S : mT) (n t K : Nat) (h : Int64) : Int64 := hp (hp (hp (dP1 S n (36 * t) K (hp (hp h (alv S n (36 * t) K 0)) (alv S n (36 * t) K 1))) (niv S n (36 * t))) (nI (whoV S t 0))) (nI (whoV S t 21))
theorem c_dP {N n t c L K : Nat} {S P : mT} (f : FX N S n t c L) (h0 : ¬ n = 0) (hk : KOK S n (36 * t) (bN (opn S) n) K) (h : Int64) (o : ob P = ob S) : ∃ Q, ob Q = ob S ∧ f_X10_digestOfPlans 0 h (mk P) = some (dP S n t K h, mk Q) := by
  obtain ⟨p0, ⟨p1, p2, p3, p4⟩, ⟨e1, e2, e3, e4, e5, e6, e7⟩, p5, p6, p7, p8, p9, p10, p11, p12⟩ := ob_FX o f
  have hk' : KOK P n (36 * t) (bN (opn P) n) K := by
    rw [ob_opn o]
    exact ob_KOK o hk
  obtain ⟨Q, o1, q1, q2⟩ := c_alv p1 p2 e1 e3 p11 p6 p7 p9 hk'
  have oQ : ob Q = ob S := o1.trans o
  obtain ⟨r0, ⟨r1, r2, r3, r4⟩, ⟨g1, g2, g3, g4, g5, g6, g7⟩, r5, r6, r7, r8, r9, r10, r11, r12⟩ := ob_FX oQ f
  obtain ⟨R, o2, n1⟩ := c_nights r2 r1 h0 g1 g3 r11 r6 r7 r9
  have oR : ob R = ob S := o2.trans oQ
  have hn : f_X10_nights 0 (mk Q) = some (niv S n (36 * t), mk R) := by
    rw [n1, r12]
    exact congrArg (fun z => some (z, mk R)) (ob_niv oQ n (36 * t))
  obtain ⟨t0, ⟨t1, t2, t3, t4⟩, ⟨i1, i2, i3, i4, i5, i6, i7⟩, t5⟩ := ob_FX oR f
  have w0 := c_whoV t0 t1 h0 t2 i2 i4 0 (by decide)
  have w1 := c_whoV t0 t1 h0 t2 i2 i4 21 (by decide)
  rw [ob_who oR] at w0 w1
  have q3 : ∀ x, vOk x → f_X4_tell 31 (nI x) (mk Q) = some (alv S n (36 * t) K x) := fun x hx => by rw [q2 x hx, ob_alv o]
  have hl := loopG (fun m a k => f_X10_digestOfPlans_L56 0 (mk Q) m a (nI (10 + k))) 6 (fun k h => hp h (alv S n (36 * t) K (10 + k))) id (hp (hp h (alv S n (36 * t) K 0)) (alv S n (36 * t) K 1)) ?_ ?_ mFuel (by unfold mFuel; omega)
  · refine ⟨R, oR, ?_⟩
    unfold f_X10_digestOfPlans
    refine bnd (kk_0 _) ?_
    refine bnd (s_every p1 e1) ?_
    refine bnd (rR_0_3 _) ?_
    refine bnd (rI_9_7 _) ?_
    refine bnd (kk_0 _) ?_
    rw [p10, n_wo (full64 p1) (bN_lt64 p1), open_msk p1 p8]
    refine bnd q1 ?_
    refine bnd (rR_0_5 _) ?_
    refine bnd (kk_31 _) ?_
    refine bnd (q3 0 (Or.inl rfl)) ?_
    refine bnd (rR_0_5 _) ?_
    refine bnd (kk_31 _) ?_
    refine bnd (q3 1 (Or.inr (Or.inl rfl))) ?_
    refine bnd hl ?_
    refine bnd (kk_0 _) ?_
    refine bnd hn ?_
    refine bnd (kk_0 _) ?_
    refine bnd w0 ?_
    refine bnd (kk_0 _) ?_
    refine bnd w1 ?_
    rfl
  · intro m k a hk
    simp only [f_X10_digestOfPlans_L56]
    rw [if_neg (show ¬ (15 : Int32) < nI (10 + k) by rw [show (15 : Int32) = nI 15 from rfl, n_lt (by omega) (by omega)]; omega), rR_0_5, bS, kk_31, bS, q3 (10 + k) (Or.inr (Or.inr (by omega))), bS, nI_1]
    rfl
  · intro m a
    simp only [f_X10_digestOfPlans_L56]
    rw [if_pos (show (15 : Int32) < nI (10 + 6) by decide)]
    rfl
theorem r_say_all {N n t c L K : Nat} {S P : mT} (f : FX N S n t c L) (hk : KOK S n (36 * t) (bN (opn S) n) K) {h : Int64} (o : HI S h P) {x : Nat} (hx : vOk x) : ∃ U Q, HI S (hp h (alv S n (36 * t) K x)) Q ∧ f_X11_allOf 38 (nI x) (mk P) = some (alv S n (36 * t) K x, mk U) ∧ f_X11_say 38 (alv S n (36 * t) K x).toInt64 (mk U) = some (mk Q) := by
  obtain ⟨p0, ⟨p1, p2, p3, p4⟩, ⟨e1, e2, e3, e4, e5, e6, e7⟩, p5, p6, p7, p8, p9, p10, p11, p12⟩ := ob_FX o.1 f
  have hk' : KOK P n (36 * t) (bN (opn P) n) K := by
    rw [ob_opn o.1]
    exact ob_KOK o.1 hk
  obtain ⟨U, u1, u2, u3⟩ := r_alv p2 p1 e2 e4 p6 p7 hx hk'
  have oU : HI S h U := ⟨u1.trans o.1, u2.trans o.2⟩
  obtain ⟨Q, o2, q2⟩ := s_say oU (alv S n (36 * t) K x)
  exact ⟨U, Q, o2, by rw [u3, ob_alv o.1], q2⟩
theorem r_dP1 {N n t c L K : Nat} {S P : mT} (f : FX N S n t c L) (hk : KOK S n (36 * t) (bN (opn S) n) K) (h : Int64) (o : HI S h P) : ∃ Q, HI S (dP1 S n (36 * t) K h) Q ∧ f_X11_sayPort_L23 38 mFuel 10 (mk P) = some (mk Q) := by
  refine loopE (fun m a P k => f_X11_sayPort_L23 38 m (nI (10 + k)) (mk P)) 6 (fun k h => hp h (alv S n (36 * t) K (10 + k))) (HI S) (fun _ P => mk P) ?_ ?_ mFuel h P o (by unfold mFuel; omega)
  · intro m k a P hk2 o
    obtain ⟨U, Q, o2, u3, q2⟩ := r_say_all f hk o (show vOk (10 + k) from Or.inr (Or.inr (by omega)))
    refine ⟨Q, o2, ?_⟩
    simp only [f_X11_sayPort_L23]
    rw [if_neg (show ¬ (16 : Int32) ≤ nI (10 + k) by rw [show (16 : Int32) = nI 16 from rfl, n_le (by omega) (by omega)]; omega), kk_38, bS, u3, bS, kk_38, bS, q2, bS, nI_1]
    rfl
  · intro m a P o
    simp only [f_X11_sayPort_L23]
    rw [if_pos (show (16 : Int32) ≤ nI (10 + 6) by decide)]
theorem r_dP {N n t c L K : Nat} {S P : mT} (f : FX N S n t c L) (h0 : ¬ n = 0) (hk : KOK S n (36 * t) (bN (opn S) n) K) (h : Int64) (o : HI S h P) : ∃ Q, HI S (dP S n t K h) Q ∧ f_X11_sayPort 38 (mk P) = some (mk Q) := by
  obtain ⟨U1, Q1, o1, u1, q1⟩ := r_say_all f hk o (x := 0) (Or.inl rfl)
  obtain ⟨U2, Q2, o2, u2, q2⟩ := r_say_all f hk o1 (x := 1) (Or.inr (Or.inl rfl))
  obtain ⟨Q3, o3, q3⟩ := r_dP1 f hk _ o2
  obtain ⟨r0, ⟨r1, r2, r3, r4⟩, ⟨g1, g2, g3, g4, g5, g6, g7⟩, r5, r6, r7, r8, r9, r10, r11, r12⟩ := ob_FX o3.1 f
  obtain ⟨U4, v1, v2, v3⟩ := s_nightsOf r2 r1 h0 g2 g4 r6 r7
  have hn : f_X11_nightsOf 38 (mk Q3) = some (niv S n (36 * t), mk U4) := by
    rw [v3]
    exact congrArg (fun z => some (z, mk U4)) (ob_niv o3.1 n (36 * t))
  have o4 : HI S _ U4 := ⟨v1.trans o3.1, v2.trans o3.2⟩
  obtain ⟨Q5, o5, q5⟩ := s_say o4 (niv S n (36 * t))
  have w0 : f_X11_whoOf 38 0 (mk Q5) = some (nI (whoV S t 0)) := by
    obtain ⟨t0, ⟨t1, t2, t3, t4⟩, ⟨i1, i2, i3, i4, i5, i6, i7⟩, t5⟩ := ob_FX o5.1 f
    rw [r_whoV t2 i4, ob_who o5.1]
  obtain ⟨Q6, o6, q6⟩ := s_say o5 (nI (whoV S t 0))
  have w1 : f_X11_whoOf 38 21 (mk Q6) = some (nI (whoV S t 21)) := by
    obtain ⟨t0, ⟨t1, t2, t3, t4⟩, ⟨i1, i2, i3, i4, i5, i6, i7⟩, t5⟩ := ob_FX o6.1 f
    rw [r_whoV t2 i4, ob_who o6.1]
  obtain ⟨Q7, o7, q7⟩ := s_say o6 (nI (whoV S t 21))
  refine ⟨Q7, o7, ?_⟩
  unfold f_X11_sayPort
  refine bnd (kk_38 _) ?_
  refine bnd u1 ?_
  refine bnd (kk_38 _) ?_
  refine bnd q1 ?_
  refine bnd (kk_38 _) ?_
  refine bnd u2 ?_
  refine bnd (kk_38 _) ?_
  refine bnd q2 ?_
  refine bnd q3 ?_
  refine bnd (kk_38 _) ?_
  refine bnd hn ?_
  refine bnd (kk_38 _) ?_
  refine bnd q5 ?_
  refine bnd (kk_38 _) ?_
  refine bnd w0 ?_
  refine bnd (kk_38 _) ?_
  refine bnd q6 ?_
  refine bnd (kk_38 _) ?_
  refine bnd w1 ?_
  refine bnd (kk_38 _) ?_
  refine bnd q7 ?_
  rfl
-- letters and counts
def dL (S : mT) (L : Nat) (h : Int64) : Int64 := it (fun k h => hp h (S.2.1 39 k)) L h
def dC (S : mT) (n : Nat) (h : Int64) : Int64 := it (fun k h => hp h (ctv S n (nI k))) 12 h
theorem c_dJ {N n t c L : Nat} {S P : mT} (f : FX N S n t c L) (h : Int64) (o : ob P = ob S) : f_X10_digest_J140 0 h (mk P) = some (dC S n (dL S L h), mk P) := by
  obtain ⟨p0, ⟨p1, p2, p3, p4⟩, ⟨e1, e2, e3, e4, e5, e6, e7⟩, p5, p6, p7, p8, p9, p10, p11, p12⟩ := ob_FX o f
  have h1 := loopG (fun m a k => f_X10_digest_L142 0 (mk P) m a (nI k)) L (fun k h => hp h (S.2.1 39 k)) id h ?_ ?_ mFuel (by unfold mFuel; omega)
  · have h2 := loopG (fun m a k => f_X10_digest_L180 0 (mk P) m a (nI k)) 12 (fun k h => hp h (ctv S n (nI k))) id (dL S L h) ?_ ?_ mFuel (by unfold mFuel; omega)
    · unfold f_X10_digest_J140
      refine bnd h1 ?_
      refine bnd h2 ?_
      rfl
    · intro m k a hk
      simp only [f_X10_digest_L180]
      rw [if_neg (show ¬ (11 : Int32) < nI k by rw [show (11 : Int32) = nI 11 from rfl, n_lt (by omega) (by omega)]; omega), kk_0, bS, c_ctv p0 p1 e2, bS, ob_ctv o, nI_1]
      rfl
    · intro m a
      simp only [f_X10_digest_L180]
      rw [if_pos (show (11 : Int32) < nI 12 by decide)]
      rfl
  · intro m k a hk
    simp only [f_X10_digest_L142]
    rw [rR_0_0, bS, rI_1_1, bS, e5, if_neg (show ¬ nI L ≤ nI k by rw [n_le (by omega) (by omega)]; omega), bS, rR_1_0, bS, s_at (aG_2 _) (by decide) (show k < 36 by omega), bS, (p5 k hk).1, ob_a o rfl, nI_1]
    rfl
  · intro m a
    simp only [f_X10_digest_L142]
    rw [rR_0_0, bS, rI_1_1, bS, e5, if_pos (show nI L ≤ nI L by rw [n_le (by omega) (by omega)]; omega)]
    rfl
theorem r_dL {N n t c L : Nat} {S P : mT} (f : FX N S n t c L) (h : Int64) (o : HI S h P) : ∃ Q, HI S (dL S L h) Q ∧ f_X11_digest_L81 38 mFuel 0 (mk P) = some (mk Q) := by
  refine loopE (fun m a P k => f_X11_digest_L81 38 m (nI k) (mk P)) L (fun k h => hp h (S.2.1 39 k)) (HI S) (fun _ P => mk P) ?_ ?_ mFuel h P o ?_
  · intro m k a P hk o
    obtain ⟨p0, ⟨p1, p2, p3, p4⟩, ⟨e1, e2, e3, e4, e5, e6, e7⟩, p5, p6, p7, p8, p9, p10, p11, p12⟩ := ob_FX o.1 f
    obtain ⟨Q, q1, q2⟩ := s_say o (S.2.1 39 k)
    refine ⟨Q, q1, ?_⟩
    simp only [f_X11_digest_L81]
    rw [rI_38_1, bS, e6, if_neg (show ¬ nI L ≤ nI k by rw [n_le (by omega) (by omega)]; omega), rR_38_0, bS, aL_39 _ (show k < 36 by omega), bS, kk_38, bS, ob_a o.1 rfl, q2, bS, nI_1]
  · intro m a P o
    obtain ⟨p0, ⟨p1, p2, p3, p4⟩, ⟨e1, e2, e3, e4, e5, e6, e7⟩, p5⟩ := ob_FX o.1 f
    simp only [f_X11_digest_L81]
    rw [rI_38_1, bS, e6, if_pos (show nI L ≤ nI L by rw [n_le (by omega) (by omega)]; omega)]
  · have := f.2.1.2.2.2
    unfold mFuel
    omega
theorem r_dC {N n t c L : Nat} {S P : mT} (f : FX N S n t c L) (h : Int64) (o : HI S h P) : ∃ Q, HI S (dC S n h) Q ∧ f_X11_digest_L108 38 mFuel 0 (mk P) = some (mk Q) := by
  refine loopE (fun m a P k => f_X11_digest_L108 38 m (nI k) (mk P)) 12 (fun k h => hp h (ctv S n (nI k))) (HI S) (fun _ P => mk P) ?_ ?_ mFuel h P o (by unfold mFuel; omega)
  · intro m k a P hk o
    obtain ⟨p0, ⟨p1, p2, p3, p4⟩, ⟨e1, e2, e3, e4, e5, e6, e7⟩, p5, p6, p7, p8, p9, p10, p11, p12⟩ := ob_FX o.1 f
    obtain ⟨Q, q1, q2⟩ := s_say o (ctv S n (nI k))
    refine ⟨Q, q1, ?_⟩
    simp only [f_X11_digest_L108]
    rw [if_neg (show ¬ (12 : Int32) ≤ nI k by rw [show (12 : Int32) = nI 12 from rfl, n_le (by omega) (by omega)]; omega), kk_38, bS, r_ctv p1 e2, bS, bS, ob_ctv o.1, q2, bS, nI_1]
  · intro m a P o
    simp only [f_X11_digest_L108]
    rw [if_pos (show (12 : Int32) ≤ nI 12 by decide)]
theorem r_dJ {N n t c L : Nat} {S P : mT} (f : FX N S n t c L) (h : Int64) (o : HI S h P) : ∃ Q, ob Q = ob S ∧ f_X11_digest_J79 38 (mk P) = some (dC S n (dL S L h), mk Q) := by
  obtain ⟨Q1, o1, q1⟩ := r_dL f h o
  obtain ⟨Q2, o2, q2⟩ := r_dC f _ o1
  refine ⟨Q2, o2.1, ?_⟩
  unfold f_X11_digest_J79
  refine bnd q1 ?_
  refine bnd q2 ?_
  refine bnd (rL_38_39 _) ?_
  rw [o2.2]
-- 27 digest
def DG (S : mT) (n t c L K : Nat) : Int64 := dC S n (dL S L (if n = 0 then dT S n t c (dS S n t 1217) else dP S n t K (dT S n t c (dS S n t 1217))))
theorem c_dig {N n t c L K : Nat} {S : mT} (f : FX N S n t c L) (hk : KOK S n (36 * t) (bN (opn S) n) K) : ∃ Q, ob Q = ob S ∧ f_X10_digest 0 (mk S) = some (DG S n t c L K, mk Q) := by
  obtain ⟨Q1, o1, q1⟩ := c_dS (P := S) f 1217 rfl
  have q2 := c_dT f (dS S n t 1217) o1
  have e1 : Q1.1 0 7 = nI n := (ob_FX o1 f).2.2.1.1
  unfold DG
  by_cases h0 : n = 0
  · refine ⟨Q1, o1, ?_⟩
    rw [if_pos h0]
    unfold f_X10_digest
    refine bnd q1 ?_
    refine bnd q2 ?_
    refine bnd (kk_0 _) ?_
    refine bnd (s_hasPort f.2.1.1 e1) ?_
    rw [if_pos h0, if_pos rfl]
    exact c_dJ f _ o1
  · obtain ⟨Q3, o3, q3⟩ := c_dP f h0 hk (dT S n t c (dS S n t 1217)) o1
    refine ⟨Q3, o3, ?_⟩
    rw [if_neg h0]
    unfold f_X10_digest
    refine bnd q1 ?_
    refine bnd q2 ?_
    refine bnd (kk_0 _) ?_
    refine bnd (s_hasPort f.2.1.1 e1) ?_
    rw [if_neg h0, if_neg (by decide)]
    refine bnd (kk_0 _) ?_
    refine bnd q3 ?_
    exact c_dJ f _ o3
theorem r_dig {N n t c L K : Nat} {S P : mT} (f : FX N S n t c L) (hk : KOK S n (36 * t) (bN (opn S) n) K) (o : ob P = ob S) : ∃ Q, ob Q = ob S ∧ f_X11_digest 38 (mk P) = some (DG S n t c L K, mk Q) := by
  have o0 : HI S 1217 (uL P 1217) := ⟨o, rfl⟩
  obtain ⟨Q1, o1, q1⟩ := r_dS f 1217 o0
  obtain ⟨Q2, o2, q2⟩ := r_dT f _ o1
  have e2 : Q2.1 38 3 = nI n := (ob_FX o2.1 f).2.2.1.2.1
  unfold DG
  by_cases h0 : n = 0
  · obtain ⟨Q4, o4, q4⟩ := r_dJ f _ o2
    refine ⟨Q4, o4, ?_⟩
    rw [if_pos h0]
    unfold f_X11_digest
    refine bnd (wL_38_39 _ _) ?_
    refine bnd q1 ?_
    refine bnd q2 ?_
    refine bnd (kk_38 _) ?_
    refine bnd (s_lacks f.2.1.1 e2) ?_
    rw [if_pos h0, if_neg (by decide)]
    exact q4
  · obtain ⟨Q3, o3, q3⟩ := r_dP f h0 hk _ o2
    obtain ⟨Q4, o4, q4⟩ := r_dJ f _ o3
    refine ⟨Q4, o4, ?_⟩
    rw [if_neg h0]
    unfold f_X11_digest
    refine bnd (wL_38_39 _ _) ?_
    refine bnd q1 ?_
    refine bnd q2 ?_
    refine bnd (kk_38 _) ?_
    refine bnd (s_lacks f.2.1.1 e2) ?_
    rw [if_neg h0, if_pos rfl]
    refine bnd (kk_38 _) ?_
    refine bnd q3 ?_
    exact q4
theorem op_digest {N : Nat} {S : mT} (h : Inv N S) : ∃ r S1 S2, f_X10_digest 0 (mk S) = some (r, mk S1) ∧ f_X11_digest 38 (mk S1) = some (r, mk S2) ∧ Inv N S2 := by
  obtain ⟨n, t, p, L, ⟨a1, a2, a3, a4, a5, a6, a7⟩, ⟨b1, b2, b3, b4, b5, b6, b7, b8⟩, hP, hK, hN, hI⟩ := id h
  obtain ⟨⟨c, c1, c2, c3, c4⟩, g2, g3, ⟨g4, g5⟩, g6, g7, g8, g9⟩ := hN
  have f : FX N S n t c L := ⟨h, ⟨a1, a2, c1, a6⟩, ⟨b1, b2, b3, b4, b7, b8, c3⟩, hP, hK, g2, g4, g6, g5, g7, g8⟩
  have hk : ∃ K, KOK S n (36 * t) (bN (opn S) n) K := by
    obtain ⟨P, q1, q2, q3, q4⟩ := s_plan a1 a2 (bN_lt64 (p := opn S) a1) b1 b3 g7 hK g2 g6
    by_cases hi : GC S n (36 * t) (36 * t) (bN (opn S) n) < 1048576
    · obtain ⟨K, k1, k2, k3, k4⟩ := q4 hi
      exact ⟨K, fun _ => ⟨k1, k3, fun j hj => (k4 j hj).1⟩⟩
    · exact ⟨0, fun z => absurd z hi⟩
  obtain ⟨K, hk⟩ := hk
  obtain ⟨P, o1, q1⟩ := c_dig f hk
  obtain ⟨Q, o2, q2⟩ := r_dig f hk o1
  exact ⟨_, P, Q, q1, q2, h.same o2⟩
