/-- whether a payment was booked and not taken back -/
def du_v (pcd pbk : Nat → Int32) (p : Nat) : Int32 := if pcd p = 1 ∧ pbk p = 0 then 1 else 0
theorem add_64 {x y : Int32} (h0 : 0 ≤ x.toInt) (h1 : 0 ≤ y.toInt) (h : x.toInt + y.toInt < 2 ^ 31) : x.toInt64 + y.toInt64 = (x + y).toInt64 := by
  have e : (x + y).toInt = x.toInt + y.toInt := by
    rw [Int32.toInt_add]
    exact Int.bmod_eq_of_le (by omega) (by omega)
  refine Int64.toInt_inj.mp ?_
  rw [Int32.toInt_toInt64, e, Int64.toInt_add, Int32.toInt_toInt64, Int32.toInt_toInt64]
  exact Int.bmod_eq_of_le (by omega) (by omega)
theorem rv_due {pcd pbk : Nat → Int32} {a8 p8 : Nat} (ha : a8 < 8) : f_Host_reverse_isDue (nI a8) (du_v pcd pbk p8) = 0 := by
  unfold f_Host_reverse_isDue
  by_cases c : du_v pcd pbk p8 = 0
  · rw [if_pos c]; exact c
  · rw [if_neg c, if_neg (win_8 ha)]
theorem du_1 {pcd pbk : Nat → Int32} {p8 : Nat} (h : pcd p8 = 1) (h2 : pbk p8 = 0) : du_v pcd pbk p8 = 1 := if_pos ⟨h, h2⟩
theorem du_0 {pcd pbk : Nat → Int32} {p8 : Nat} (h : ¬ (pcd p8 = 1 ∧ pbk p8 = 0)) : du_v pcd pbk p8 = 0 := if_neg h
theorem rv_std {pcd pbk : Nat → Int32} {a8 p8 p : Nat} (ha : a8 < 8) (h1 : 0 < p8) (hp : p8 ≤ p) (h5 : p ≤ 512) : f_Host_reverse_standing (nI (op_n pcd pbk p)) (nI a8) (du_v pcd pbk p8) = nI (op_n pcd (if pcd p8 = 1 then (if pbk p8 = 0 then upd pbk p8 1 else pbk) else pbk) p) := by
  unfold f_Host_reverse_standing
  by_cases c : pcd p8 = 1
  · by_cases d : pbk p8 = 0
    · rw [if_pos c, if_pos d, du_1 c d, if_neg (by decide), if_neg (win_8 ha)]
      have := op_send pcd pbk p8 h1 c d p hp
      rw [← this, nI_pred]
    · rw [if_pos c, if_neg d, du_0 (fun q => d q.2), if_pos rfl]
  · rw [if_neg c, du_0 (fun q => c q.1), if_pos rfl]
theorem rv_bal {pcd pbk pam bal : Nat → Int32} {b : Nat → Int64} {a8 p8 : Nat} (ha : a8 < 8) (hb : ∀ j, j < 8 → b j = (bal j).toInt64) (h0 : 0 ≤ (bal a8).toInt) (h1 : 0 ≤ (pam p8).toInt) (h : (bal a8).toInt + (pam p8).toInt < 2 ^ 31) : ∀ j, j < 8 → f_Host_reverse_1 b (nI a8) (pam p8) (du_v pcd pbk p8) j = ((if pcd p8 = 1 then (if pbk p8 = 0 then upd bal a8 (bal a8 + pam p8) else bal) else bal) j).toInt64 := by
  intro j hj
  unfold f_Host_reverse_1
  by_cases c : pcd p8 = 1
  · by_cases d : pbk p8 = 0
    · rw [if_pos c, if_pos d, du_1 c d, if_neg (by decide), if_neg (win_8 ha), nI_clamp (by omega)]
      show (if j = a8 then _ else _) = (if j = a8 then _ else _ : Int32).toInt64
      by_cases e : j = a8
      · rw [if_pos e, if_pos e, hb a8 ha, add_64 h0 h1 h]
      · rw [if_neg e, if_neg e, hb j hj]
    · rw [if_pos c, if_neg d, du_0 (fun q => d q.2), if_pos rfl, hb j hj]
  · rw [if_neg c, du_0 (fun q => c q.1), if_pos rfl, hb j hj]
theorem du_other {pcd pbk : Nat → Int32} {p8 p : Nat} (h : ¬ p = p8) : du_v pcd (if pcd p8 = 1 then (if pbk p8 = 0 then upd pbk p8 1 else pbk) else pbk) p = du_v pcd pbk p := by
  unfold du_v
  have e : (if pcd p8 = 1 then (if pbk p8 = 0 then upd pbk p8 1 else pbk) else pbk) p = pbk p := by
    split
    · split
      · unfold upd; rw [if_neg h]
      · rfl
    · rfl
  rw [e]
theorem du_self {pcd pbk : Nat → Int32} {p8 : Nat} : du_v pcd (if pcd p8 = 1 then (if pbk p8 = 0 then upd pbk p8 1 else pbk) else pbk) p8 = 0 := by
  unfold du_v
  by_cases c : pcd p8 = 1
  · rw [if_pos c]
    by_cases d : pbk p8 = 0
    · rw [if_pos d]
      have e : upd pbk p8 1 p8 = 1 := by unfold upd; rw [if_pos rfl]
      rw [e]
      exact if_neg (fun q => absurd q.2 (by decide))
    · rw [if_neg d]
      exact if_neg (fun q => d q.2)
  · rw [if_neg c]
    exact if_neg (fun q => c q.1)
