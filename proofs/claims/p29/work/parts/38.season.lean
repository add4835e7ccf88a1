theorem n_div {a b : Nat} (ha : a < 2 ^ 31) (hb : b < 2 ^ 31) : nI a / nI b = nI (a / b) := (Int32.ofNat_div ha hb).symm
theorem n_sub {a b : Nat} (h : b ≤ a) : nI a - nI b = nI (a - b) := (Int32.ofNat_sub a b h).symm
theorem n_rem {a b : Nat} (ha : a < 2 ^ 31) (hb : b < 2 ^ 31) : nI a - nI a / nI b * nI b = nI (a % b) := by
  rw [n_div ha hb, n_mul, n_sub (Nat.div_mul_le_self a b)]
  refine congrArg nI ?_
  have := Nat.div_add_mod a b
  have h2 : b * (a / b) = a / b * b := Nat.mul_comm _ _
  omega
def nx (s : Nat) : Nat := (1103515245 * s + 12345) % 2147483648
theorem nx_lt (s : Nat) : nx s < 2 ^ 31 := Nat.mod_lt _ (by decide)
theorem n_64 {s : Nat} (hs : s < 2 ^ 31) : (nI s).toInt64 = Int64.ofNat s := Int32.toInt64_ofNat' (by
  show (s : Int) ≤ 2147483647
  omega)
theorem l_lin {s : Nat} (hs : s < 2 ^ 31) : ((1103515245 : Int64) * (nI s).toInt64) + (12345 : Int64) = Int64.ofNat (1103515245 * s + 12345) := by
  rw [n_64 hs, Int64.ofNat_add, Int64.ofNat_mul]
  rfl
theorem s_nxC {s : Nat} (hs : s < 2 ^ 31) (w : mW) : f_X10_nextSeed (nI s) w = some (nI (nx s)) := by
  unfold f_X10_nextSeed nx
  rw [l_lin hs, show (2147483648 : Int64) = Int64.ofNat 2147483648 from rfl, ← Int64.ofNat_div (by omega) (by decide), ← Int64.ofNat_mul, ← Int64.ofNat_sub _ _ (Nat.div_mul_le_self _ _), Int64.toInt32_ofNat']
  refine congrArg some (congrArg nI ?_)
  omega
theorem s_drC {s m : Nat} (hs : s < 2 ^ 31) (hm : 0 < m) (hm2 : m < 2 ^ 31) (w : mW) : f_X10_draw (nI s) (nI m) w = some (nI (s / 65536 % m)) := by
  unfold f_X10_draw f_X10_draw_J15
  rw [if_neg (show ¬ nI m ≤ 0 by rw [show (0 : Int32) = nI 0 from rfl, n_le (by omega) (by omega)]; omega), if_neg (show ¬ nI m = 0 by rw [show (0 : Int32) = nI 0 from rfl, n_eq (by omega) (by omega)]; omega), show (65536 : Int32) = nI 65536 from rfl, n_div hs (by decide), n_rem (by omega) hm2]
