theorem s_kindC {S : mT} {kd e : Nat} (hk : kd ≤ 4) (h : S.2.2.2.2[e]? = some (.inl (cls kd, []))) : dv_kind (some (e + 41)) (mk S) = some (nI kd) := by
  unfold dv_kind
  rw [s_tO hk h, bS]
  match kd, hk with
  | 0, _ => rfl
  | 1, _ => rfl
  | 2, _ => rfl
  | 3, _ => rfl
  | 4, _ => rfl
