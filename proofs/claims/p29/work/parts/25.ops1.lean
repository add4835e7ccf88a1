-- 8 as
theorem s_iO {S : mT} {kd e : Nat} (hk : kd ≤ 4) (h : S.2.2.2.2[e]? = some (.inl (cls kd, []))) (q : Nat) : iO (mk S) (some (e + 41)) q = some (if cls kd = q ∨ (cls kd = 1 ∧ q = 9) then 1 else 0) := by
  unfold iO
  simp only [s_tO hk h, Option.map_some]
-- 15 train
theorem upd_at {f : Nat → Int32} {k : Nat} {x : Int32} {j : Nat} : upd f k x j = if j = k then x else f j := rfl
