theorem in_within : f_Mod_in = f_PC_isWithin := rfl
theorem eq_last {lst : Nat → Int32} {nu oc fl wi fi fc s2 sc co : Int32} (h0 : lst 0 = oc) (h1 : lst 1 = fl) (h2 : lst 2 = wi) (h3 : lst 3 = fi) (h4 : lst 4 = fc) (h5 : lst 5 = s2) (h6 : lst 6 = sc) (h7 : lst 7 = co) (h8 : lst 8 = nu) (x : Int32) : f_PC_last nu oc fl wi fi fc s2 sc co x = f_Mod_last lst x := by
  unfold f_PC_last f_Pmt_tell f_Mod_last f_Mod_in
  by_cases c : x < 0
  · have ne : ∀ k : Nat, k < 100 → ¬ x = nI k := fun k hk e => by rw [e] at c; exact nI_pos (by omega) c
    rw [if_pos c, if_pos rfl, if_neg (show ¬ x = 0 from ne 0 (by decide)), if_neg (show ¬ x = 1 from ne 1 (by decide)), if_neg (show ¬ x = 2 from ne 2 (by decide)), if_neg (show ¬ x = 3 from ne 3 (by decide)), if_neg (show ¬ x = 4 from ne 4 (by decide)), if_neg (show ¬ x = 5 from ne 5 (by decide)), if_neg (show ¬ x = 6 from ne 6 (by decide)), if_neg (show ¬ x = 7 from ne 7 (by decide)), if_neg (show ¬ x = 8 from ne 8 (by decide))]
  · obtain ⟨j, hj, rfl⟩ := nI_of c
    have ne : ∀ k : Nat, k < 100 → 8 < j → k ≤ 8 → ¬ nI j = nI k := fun k hk h8 hk8 e => by have := (nI_eq hj (by omega)).mp e; omega
    rw [if_neg c]
    by_cases c8 : 8 < j
    · rw [if_pos (show (8 : Int32) < nI j from nI_lt (a := 8) c8 hj), if_pos rfl, if_neg (show ¬ nI j = 0 from ne 0 (by decide) c8 (by decide)), if_neg (show ¬ nI j = 1 from ne 1 (by decide) c8 (by decide)), if_neg (show ¬ nI j = 2 from ne 2 (by decide) c8 (by decide)), if_neg (show ¬ nI j = 3 from ne 3 (by decide) c8 (by decide)), if_neg (show ¬ nI j = 4 from ne 4 (by decide) c8 (by decide)), if_neg (show ¬ nI j = 5 from ne 5 (by decide) c8 (by decide)), if_neg (show ¬ nI j = 6 from ne 6 (by decide) c8 (by decide)), if_neg (show ¬ nI j = 7 from ne 7 (by decide) c8 (by decide)), if_neg (show ¬ nI j = 8 from ne 8 (by decide) c8 (by decide))]
    · rw [if_neg (show ¬ (8 : Int32) < nI j from nI_nlt (b := j) (a := 8) (by omega) (by decide)), if_neg (show ¬ (1 : Int32) = 0 by decide), nI_clamp hj]
      rcases (show j = 0 ∨ j = 1 ∨ j = 2 ∨ j = 3 ∨ j = 4 ∨ j = 5 ∨ j = 6 ∨ j = 7 ∨ j = 8 by omega) with q | q | q | q | q | q | q | q | q <;> subst q
      · exact h0.symm
      · exact h1.symm
      · exact h2.symm
      · exact h3.symm
      · exact h4.symm
      · exact h5.symm
      · exact h6.symm
      · exact h7.symm
      · exact h8.symm
theorem eq_data (ds : Int32) (dt : Nat → Int32) (x : Int32) : f_PC_data ds dt x = f_Mod_data ds dt x := by
  unfold f_PC_data f_PC_orRefused
  by_cases c : f_Row_at ds dt x = -1
  · rw [if_pos c]; exact c.symm
  · rw [if_neg c]; rfl
theorem w7 {x : Int32} (h : ¬ f_PC_isWithin x 0 7 = 0) : ∃ j : Nat, j < 8 ∧ x = nI j := by
  unfold f_PC_isWithin at h
  by_cases c : x < 0
  · rw [if_pos c] at h; exact absurd rfl h
  · obtain ⟨j, hj, rfl⟩ := nI_of c
    rw [if_neg c] at h
    rcases Nat.lt_or_ge j 8 with q | q
    · exact ⟨j, q, rfl⟩
    · rw [if_pos (show (7 : Int32) < nI j from nI_lt (a := 7) (by omega) hj)] at h
      exact absurd rfl h
theorem eq_balance {b : Nat → Int64} {bal : Nat → Int32} (hb : ∀ j, j < 8 → b j = (bal j).toInt64) (x : Int32) : f_Host_balanceOf b x = f_Mod_balance bal x := by
  unfold f_Host_balanceOf f_Mod_balance
  rw [in_within]
  by_cases c : f_PC_isWithin x 0 7 = 0
  · rw [if_pos c, if_pos c]
  · rw [if_neg c, if_neg c]
    obtain ⟨j, hj, rfl⟩ := w7 c
    rw [nI_clamp (by omega), hb j hj]
theorem eq_account (x y : Int32) : f_PC_account x y = f_Mod_account x y := rfl
theorem eq_account_1 {b : Nat → Int64} {bal : Nat → Int32} (hb : ∀ j, j < 8 → b j = (bal j).toInt64) (x y : Int32) : ∀ j, j < 8 → f_PC_account_2 b x y j = (f_Mod_account_1 bal x y j).toInt64 := by
  intro j hj
  unfold f_PC_account_2 f_Mod_account_1 f_Host_open_1
  rw [in_within]
  by_cases c : f_PC_isWithin x 0 7 = 0
  · simp only [if_pos c]; exact hb j hj
  · by_cases c2 : f_PC_isWithin y 0 9999999 = 0
    · simp only [if_neg c, if_pos c2]; exact hb j hj
    · simp only [if_neg c, if_neg c2]
      show (if j = _ then _ else _) = (if j = _ then _ else _ : Int32).toInt64
      by_cases e : j = Int32.toNatClampNeg x
      · rw [if_pos e, if_pos e]
      · rw [if_neg e, if_neg e, hb j hj]
theorem eq_account_2 (ak : Nat → Int32) (x y w : Int32) : f_PC_account_3 ak x y w = f_Mod_account_2 ak x y w := by
  unfold f_PC_account_3 f_Mod_account_2 f_Host_open_2
  rw [in_within]
  by_cases c : f_PC_isWithin x 0 7 = 0
  · rw [if_pos c, if_pos c]
  · rw [if_neg c, if_neg c, if_neg c]
theorem eq_account_3 (lt : Nat → Int32) (x y : Int32) : f_PC_account_4 lt x y = f_Mod_account_3 lt x y := by
  unfold f_PC_account_4 f_Mod_account_3 f_Host_open_3
  rw [in_within]
  by_cases c : f_PC_isWithin x 0 7 = 0
  · rw [if_pos c, if_pos c]
  · rw [if_neg c, if_neg c, if_neg c]
theorem w6 {x : Int32} (h : ¬ f_PC_isWithin x 0 6 = 0) : ∃ j : Nat, j < 7 ∧ x = nI j := by
  unfold f_PC_isWithin at h
  by_cases c : x < 0
  · rw [if_pos c] at h; exact absurd rfl h
  · obtain ⟨j, hj, rfl⟩ := nI_of c
    rw [if_neg c] at h
    rcases Nat.lt_or_ge j 7 with q | q
    · exact ⟨j, q, rfl⟩
    · rw [if_pos (show (6 : Int32) < nI j from nI_lt (a := 6) (by omega) hj)] at h
      exact absurd rfl h
/-- the largest value of a setting, on both sides -/
theorem st_big {α : Type} (x y : Int32) (a b : α) : (if x = 1 then (if f_PC_isWithin x 0 6 = 0 then a else if f_PC_isWithin y 0 65535 = 0 then a else b) else if x < 4 then (if f_PC_isWithin x 0 6 = 0 then a else if f_PC_isWithin y 0 999999 = 0 then a else b) else (if f_PC_isWithin x 0 6 = 0 then a else if f_PC_isWithin y 0 65535 = 0 then a else b)) = (if f_PC_isWithin x 0 6 = 0 then a else if f_PC_isWithin y 0 (if x = 0 then 999999 else if x = 2 then 999999 else if x = 3 then 999999 else 65535) = 0 then a else b) := by
  by_cases c : f_PC_isWithin x 0 6 = 0
  · rw [if_pos c, if_pos c, if_pos c, ite_self, ite_self]
  · obtain ⟨j, hj, rfl⟩ := w6 c
    rw [if_neg c, if_neg c, if_neg c]
    rcases (show j = 0 ∨ j = 1 ∨ j = 2 ∨ j = 3 ∨ j = 4 ∨ j = 5 ∨ j = 6 by omega) with q | q | q | q | q | q | q <;> subst q <;> rfl
theorem eq_setting (x y : Int32) : f_PC_setting x y = f_Mod_setting x y := by
  unfold f_PC_setting f_Mod_setting f_Term_set
  rw [st_big, in_within]
  by_cases c : f_PC_isWithin x 0 6 = 0
  · rw [if_pos c, if_pos c, if_pos rfl]
  · rw [if_neg c, if_neg c]
    by_cases c2 : f_PC_isWithin y 0 (if x = 0 then 999999 else if x = 2 then 999999 else if x = 3 then 999999 else 65535) = 0
    · rw [if_pos c2, if_pos c2, if_pos rfl]
    · rw [if_neg c2, if_neg c2, if_neg (by decide)]
theorem eq_setting_1 (g : Nat → Int32) (x y : Int32) : f_Term_set_1 g x y = f_Mod_setting_1 g x y := by
  unfold f_Term_set_1 f_Mod_setting_1
  rw [st_big, in_within]
/-- how many payments up to p are booked and not taken back -/
def op_n (pcd pbk : Nat → Int32) : Nat → Nat
  | 0 => 0
  | p + 1 => op_n pcd pbk p + (if pcd (p + 1) = 1 ∧ pbk (p + 1) = 0 then 1 else 0)
theorem op_le (pcd pbk : Nat → Int32) : ∀ p, op_n pcd pbk p ≤ p
  | 0 => Nat.le_refl _
  | p + 1 => by
    have := op_le pcd pbk p
    rw [op_n]
    split <;> omega
def ct_v (x ap qd z4 py o : Int32) : Int32 := if x = 0 then z4 else (if x = 1 then py else (if x = 2 then qd else (if x = 3 then ap else (if x = 4 then o else (-1)))))
theorem cn_sim {p : Nat} (hp : p ≤ 512) (ap qd x : Int32) (fz pcd pbk : Nat → Int32) : ∀ (k i : Nat), i + k = p → Mod_count_f (nI p) ap qd fz pcd pbk x (k + 1) (i + 1, op_n pcd pbk i) = ct_v x ap qd (fz 4) (nI p) (nI (op_n pcd pbk p))
  | 0, i, h => by
    have e : i = p := by omega
    subst e
    refine Mod_count_d ?_
    show (if nI i < nI (i + 1) then _ else _) = _
    rw [if_pos (nI_lt (by omega) (by omega))]
    unfold ct_v
    by_cases c0 : x = 0
    · rw [if_pos c0, if_pos c0]
    rw [if_neg c0, if_neg c0]
    by_cases c1 : x = 1
    · rw [if_pos c1, if_pos c1]
    rw [if_neg c1, if_neg c1]
    by_cases c2 : x = 2
    · rw [if_pos c2, if_pos c2]
    rw [if_neg c2, if_neg c2]
    by_cases c3 : x = 3
    · rw [if_pos c3, if_pos c3]
    rw [if_neg c3, if_neg c3]
    by_cases c4 : x = 4
    · rw [if_pos c4, if_pos c4]
    rw [if_neg c4, if_neg c4]
  | k + 1, i, h => by
    rw [Mod_count_n (yy_ := (i + 1 + 1, op_n pcd pbk (i + 1))) ?_]
    · exact cn_sim hp ap qd x fz pcd pbk k (i + 1) (by omega)
    · show (if nI p < nI (i + 1) then _ else _) = _
      rw [if_neg (nI_nlt (by omega) (by omega)), op_n]
      by_cases c : pcd (i + 1) = 1
      · rw [if_pos c]
        by_cases c2 : pbk (i + 1) = 0
        · rw [if_pos c2, if_pos ⟨c, c2⟩]
        · rw [if_neg c2, if_neg (fun q => c2 q.2)]; rfl
      · rw [if_neg c, if_neg (fun q => c q.1)]; rfl
theorem eq_count {p : Nat} (hp : p ≤ 512) (ap qd x : Int32) (fz pcd pbk : Nat → Int32) : Mod_count_r (nI p) ap qd fz pcd pbk x = ct_v x ap qd (fz 4) (nI p) (nI (op_n pcd pbk p)) := by
  unfold Mod_count_r
  rw [nI_clamp (by omega)]
  exact cn_sim hp ap qd x fz pcd pbk p 0 (Nat.zero_add _)
/-- a payment more -/
theorem op_up (pcd pbk : Nat → Int32) (c : Int32) : ∀ (p q : Nat), q < p → op_n (upd pcd p c) pbk q = op_n pcd pbk q
  | _, 0, _ => rfl
  | p, q + 1, h => by
    rw [op_n, op_n, op_up pcd pbk c p q (by omega)]
    have e : upd pcd p c (q + 1) = pcd (q + 1) := by unfold upd; rw [if_neg (by omega)]
    rw [e]
theorem op_pay (pcd pbk : Nat → Int32) (c : Int32) (p : Nat) (hb : pbk (p + 1) = 0) : op_n (upd pcd (p + 1) c) pbk (p + 1) = op_n pcd pbk p + (if c = 1 then 1 else 0) := by
  rw [op_n, op_up pcd pbk c (p + 1) p (by omega)]
  have e : upd pcd (p + 1) c (p + 1) = c := by unfold upd; rw [if_pos rfl]
  rw [e, hb]
  by_cases h : c = 1
  · rw [if_pos ⟨h, rfl⟩, if_pos h]
  · rw [if_neg (fun q => h q.1), if_neg h]
theorem op_bk (pcd pbk : Nat → Int32) (v : Int32) : ∀ (p q : Nat), q < p → op_n pcd (upd pbk p v) q = op_n pcd pbk q
  | _, 0, _ => rfl
  | p, q + 1, h => by
    rw [op_n, op_n, op_bk pcd pbk v p q (by omega)]
    have e : upd pbk p v (q + 1) = pbk (q + 1) := by unfold upd; rw [if_neg (by omega)]
    rw [e]
/-- a payment is taken back -/
theorem op_send (pcd pbk : Nat → Int32) (j : Nat) (hj : 0 < j) (h1 : pcd j = 1) (h2 : pbk j = 0) : ∀ p, j ≤ p → op_n pcd (upd pbk j 1) p + 1 = op_n pcd pbk p
  | 0, h => by omega
  | p + 1, h => by
    rw [op_n, op_n]
    by_cases e : j = p + 1
    · subst e
      rw [op_bk pcd pbk 1 (p + 1) p (by omega)]
      have e1 : upd pbk (p + 1) 1 (p + 1) = 1 := by unfold upd; rw [if_pos rfl]
      rw [e1, if_neg (fun q => absurd q.2 (by decide)), if_pos ⟨h1, h2⟩]
    · have e1 : upd pbk j 1 (p + 1) = pbk (p + 1) := by unfold upd; rw [if_neg (fun q => e q.symm)]
      rw [e1]
      have := op_send pcd pbk j hj h1 h2 p (by omega)
      omega
