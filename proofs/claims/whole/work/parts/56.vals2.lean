def whoV (S : mT) (t : Nat) (x : Int32) : Nat := bN (fun k => anyB (hit S k x (S.1 38 5)) 36) t
theorem r_whoV {S : mT} {t : Nat} (ht : t ≤ 4) (e : S.1 38 4 = nI t) (x : Int32) : f_X11_whoOf 38 x (mk S) = some (nI (whoV S t x)) := by
  have hr := loopG (fun m a k => f_X11_whoOf_L4 38 x (mk S) m a (nI k)) t (fun k a => if anyB (hit S k x (S.1 38 5)) 36 then a ||| ((1 : Int32) <<< (nI k &&& 31)) else a) id 0 ?_ ?_ mFuel (by unfold mFuel; omega)
  · rw [it_bits (fun k => anyB (hit S k x (S.1 38 5)) 36) (by omega), id_eq] at hr
    unfold f_X11_whoOf
    rw [show f_X11_whoOf_L4 38 x (mk S) mFuel 0 0 = _ from hr, bS]
    rfl
  · intro m k a hk
    simp only [f_X11_whoOf_L4]
    rw [rI_38_4, bS, e, if_neg (show ¬ nI t ≤ nI k by rw [n_le (by omega) (by omega)]; omega), s_whoI (show k < 4 by omega), bS, nI_1]
  · intro m a
    simp only [f_X11_whoOf_L4]
    rw [rI_38_4, bS, e, if_pos (show nI t ≤ nI t by rw [n_le (by omega) (by omega)]; omega)]
    rfl
theorem ob_who {S P : mT} (h : ob P = ob S) (t : Nat) (x : Int32) : whoV P t x = whoV S t x := by
  have h1 : whoV (ob P) t x = whoV (ob S) t x := by rw [h]
  exact h1
theorem c_whoV {N : Nat} {S : mT} (h : Inv N S) {n t : Nat} (hn : n ≤ 6) (h0 : ¬ n = 0) (ht : t ≤ 4) (e3 : S.1 38 3 = nI n) (e : S.1 38 4 = nI t) (x : Int32) (hx : 0 ≤ x.toInt ∧ x.toInt ≤ 35) : f_X10_who 0 x (mk S) = some (nI (whoV S t x)) := by
  obtain ⟨r, r1, r2⟩ := op_who h x
  unfold f_X11_who f_X11_who_J24 f_X11_who_J22 at r2
  rw [kk_38, bS, s_lacks hn e3, bS, if_neg h0, if_pos rfl, s_isCellR, bS, if_pos hx, if_neg (show ¬ (1 : Int32) = 0 by decide), bS, r_whoV ht e, bS] at r2
  rw [r1]
  exact r2.symm
