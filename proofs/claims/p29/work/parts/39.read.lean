-- the page, letter by letter
def kn (a : Nat) : Int32 := (f_J0_indexOf_0f7a4 (((nI a).toUInt32 % 65536).toInt32) []).getD 0
theorem k_kn : ∀ a : Fin 127, f_J0_indexOf_0f7a4 (((nI a.val).toUInt32 % 65536).toInt32) [] = some (kn a.val) ∧ (kn a.val = -1 ∨ kn a.val = nI 0 ∨ kn a.val = nI 1 ∨ kn a.val = nI 2 ∨ kn a.val = nI 3 ∨ kn a.val = nI 4) := by decide +kernel
theorem kn_let : kn 116 = nI 0 ∧ kn 108 = nI 1 ∧ kn 119 = nI 2 ∧ kn 104 = nI 3 ∧ kn 109 = nI 4 := by decide +kernel
theorem ioc_w (a b : Int32) (w : mW) : ∀ (n : Nat) (x : Int32), f_J1_indexOfChar_4cfef_L7 a b w n x = f_J1_indexOfChar_4cfef_L7 a b [] n x
  | 0, _ => rfl
  | n + 1, x => by simp only [f_J1_indexOfChar_4cfef_L7, ioc_w a b w n]
theorem io_w (x : Int32) (w : mW) : f_J0_indexOf_0f7a4 x w = f_J0_indexOf_0f7a4 x [] := by
  simp only [f_J0_indexOf_0f7a4, f_J0_indexOf_7cf53, f_J0_indexOf_7cf53_J36, f_J1_indexOf_4cfef, f_J1_indexOfChar_4cfef, f_J1_canEncode_9a6ad, f_J1_canEncode_9a6ad_J16, f_J1_canEncode_9a6ad_J15, f_J0_isLatin1_aae02, f_J0_isLatin1_aae02_J18, f_J0_isLatin1_aae02_J17, f_J0_coder_7d493, f_J0_coder_7d493_J14, f_J0_length_8abf5, ioc_w _ _ w]
theorem n_m1 {a : Nat} (h : a < 2 ^ 31) : ¬ nI a = -1 := by rw [eq_T, nT h]; show ¬ (a : Int) = -1; omega
theorem k_s48 : ∀ a : Fin 127, (nI a.val - 48).toInt = (a.val : Int) - 48 := by decide +kernel
theorem s48 {a : Nat} (h : a < 127) : (nI a - 48).toInt = (a : Int) - 48 := k_s48 ⟨a, h⟩
/-- the cell that the letters of sleeper i name -/
def cz (c : Nat → Nat) (i : Nat) : Int32 := (((6 : Int32) * (nI (c (3 * i)) - (48 : Int32))) + nI (c (3 * i + 1))) - (48 : Int32)
def goodA (c : Nat → Nat) (k : Nat) : Bool := if k % 3 = 0 then decide (48 ≤ c k ∧ c k ≤ 53) else if k % 3 = 1 then decide (48 ≤ c k ∧ c k ≤ 53) && !anyB (fun i => decide (cz c i = cz c (k / 3))) (k / 3) else decide (c k = 59 ∨ (c k = 44 ∧ k < 17))
def goodB (c : Nat → Nat) (e k : Nat) : Bool := if (k - e - 1) % 4 = 0 then decide (¬ kn (c k) = -1) else if (k - e - 1) % 4 = 3 then decide (c k = 44 ∧ k - e - 1 < 15) else decide (48 ≤ c k ∧ c k ≤ 52)
/-- the reading: where it stops, and where the sleepers end -/
def rd (c : Nat → Nat) : Nat → Nat → Nat → Nat × Nat
  | 0, e, k => (k, e)
  | d + 1, e, k => if e = 0 then (if goodA c k = true then rd c d (if k % 3 = 2 ∧ c k = 59 then k else 0) (k + 1) else (k, 0)) else if goodB c e k = true then rd c d e (k + 1) else (k, e)
theorem n_rem3 {a b : Nat} (ha : a < 1000) (hb : b < 1000) : nI a - nI a / nI b * nI b = nI (a % b) := n_rem (by omega) (by omega)
theorem s_knC {a : Nat} (ha : a < 127) (w : mW) : f_J0_indexOf_0f7a4 (((nI a).toUInt32 % 65536).toInt32) w = some (kn a) := by rw [io_w]; exact (k_kn ⟨a, ha⟩).1
theorem kn_ok {a : Nat} (ha : a < 127) : kn a = -1 ∨ ∃ kd : Nat, kd ≤ 4 ∧ kn a = nI kd := by
  rcases (k_kn ⟨a, ha⟩).2 with h | h | h | h | h | h
  · exact Or.inl h
  · exact Or.inr ⟨0, by omega, h⟩
  · exact Or.inr ⟨1, by omega, h⟩
  · exact Or.inr ⟨2, by omega, h⟩
  · exact Or.inr ⟨3, by omega, h⟩
  · exact Or.inr ⟨4, by omega, h⟩
