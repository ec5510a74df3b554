theorem num_f {bd tg no : Int32} {t4 ar : Nat} {M Z : Nat → Nat} {t : Nat} (ht : (Mod_walk_r bd t4 M Z ar tg).2.2.1 = nI t) (htb : t < 2 ^ 31) : ∀ (k i : Nat) (v : Int32), i ≤ t → t - i < k → Mod_number_f bd t4 M Z ar tg no k (i, v) = nb_f M ar (t - i) i v := by
  intro k
  induction k with
  | zero => intro i v _ h; omega
  | succ k ih =>
    intro i v hi hk
    by_cases c : i = t
    · subst c
      rw [Nat.sub_self, Mod_number_d (rr_ := v)]
      · rfl
      · unfold Mod_number_s
        dsimp only
        rw [ht, if_pos (nI_le (Nat.le_refl _) htb)]
    · rw [Mod_number_n (yy_ := (i + 1, (256 * v) + (nI (bt M ar i))))]
      · rw [ih (i + 1) _ (by omega) (by omega), show t - i = (t - (i + 1)) + 1 by omega]
        rfl
      · unfold Mod_number_s
        dsimp only
        rw [ht, if_neg (nI_ge (by omega) htb)]
theorem num_two {bd tg no : Int32} {t4 ar : Nat} {M Z : Nat → Nat} {acc : List ob_T} (hZ : Z ar ≤ 60) (hB : ∀ j, M j ≤ 255) (hA : pm_r M Z ar = .inr acc) : Mod_number_r bd t4 M Z ar tg no = nb_v M ar (fo_s acc tg) no := by
  obtain ⟨h1, h2, h3, h4, h5⟩ := wk_two (bd := bd) (tg := tg) (t4 := t4) hZ hB hA
  unfold Mod_number_r
  rw [has_two hZ hB hA]
  cases ho : fo_s acc tg with
  | none => rw [if_pos (show so_v none = 0 from rfl)]; rfl
  | some x =>
    have hx := (fo_in hZ hB hA ho).1
    rw [ho] at h3 h4
    have h3 : (Mod_walk_r bd t4 M Z ar tg).2.1 = nI x.1 := h3
    have h4 : (Mod_walk_r bd t4 M Z ar tg).2.2.1 = nI (x.1 + x.2.1) := h4
    rw [if_neg (show ¬ so_v (some x) = 0 from show ¬ (1 : Int32) = 0 by decide), h3, nI_clamp (by omega), num_f h4 (by omega) _ _ _ (by omega) (by rw [h4, nI_clamp (by omega)]; omega), Nat.add_sub_cancel_left]
    rfl
theorem c_Mod_has2 (l : Launch) (D : va_G) (cA : Nat → ClassId) (sz : Nat) (mo : Nat) (xm : Nat) (xs : Nat) (xt : Nat) (xk : Nat) (xp : Nat) (xr : Nat) (xc : Nat) (xu : Nat) (xe : Nat) (xb : Nat) (xa : Nat) (xl : Nat) (xg : Nat) (x1 : Nat) (x2 : Nat) (x3 : Nat) (x4 : Nat) (xq : Nat) (xz : Nat) (xd : Nat) (pl : Int32) (ft : Int32) (tw : Int32) (inn : Int32) (bd : Int32) (py : Int32) (ap : Int32) (qd : Int32) (ds : Int32) (fl : Int32) (t4 : Nat) (M : Nat → Nat) (Z : Nat → Nat) (ar : Nat) (tg : Int32) (acc : List ob_T) (har : ar ≤ 4) (hZ : Z ar ≤ 60) (hB : ∀ j, M j ≤ 255) (hA : pm_r M Z ar = .inr acc) : ct_M l D cA yn_Mod_has cd_Mod_has 3 0 0 sz [.ref mo, .int (nI ar), .int tg] [(mo, .inr (9, [.ref xm, .ref xs, .ref xt, .ref xk, .ref xp, .ref xr, .ref xc, .ref xu, .ref xe, .ref xb, .ref xa, .ref xl, .ref xg, .int pl, .int ft, .int tw, .int inn, .int bd, .int py, .ref x1, .ref x2, .ref x3, .ref x4, .int ap, .ref xq, .int qd, .ref xz, .ref xd, .int ds, .int fl, .int (nI t4)])), (xm, .inl (cA 0, 300, .inl (nJ M))), (xs, .inl (cA 0, 5, .inl (nJ Z)))] (fun v_ w_ => ∃ (b9 : Int32), ∃ (u9 : Nat), v_ = some (.int (so_v (fo_s acc tg))) ∧ w_ = [(mo, .inr (9, [.ref xm, .ref xs, .ref xt, .ref xk, .ref xp, .ref xr, .ref xc, .ref xu, .ref xe, .ref xb, .ref xa, .ref xl, .ref xg, .int pl, .int (so_f (fo_s acc tg)), .int (so_t (fo_s acc tg)), .int (so_i (fo_s acc tg)), .int b9, .int py, .ref x1, .ref x2, .ref x3, .ref x4, .int ap, .ref xq, .int qd, .ref xz, .ref xd, .int ds, .int fl, .int (nI u9)])), (xm, .inl (cA 0, 300, .inl (nJ M))), (xs, .inl (cA 0, 5, .inl (nJ Z)))]) := by
  refine gw_cons (c_Mod_has l D cA sz mo xm xs xt xk xp xr xc xu xe xb xa xl xg x1 x2 x3 x4 xq xz xd pl ft tw inn bd py ap qd ds fl t4 M Z ar tg har hZ hB) ?_
  rintro v w ⟨rfl, rfl⟩
  obtain ⟨h1, h2, h3, h4, h5⟩ := wk_two (bd := bd) (tg := tg) (t4 := t4) hZ hB hA
  refine ⟨(Mod_walk_r bd t4 M Z ar tg).2.2.2.2.1, (Mod_walk_r bd t4 M Z ar tg).2.2.2.2.2, by rw [has_two hZ hB hA], ?_⟩
  · rw [h3, h4, h5]
theorem c_Mod_number2 (l : Launch) (D : va_G) (cA : Nat → ClassId) (sz : Nat) (mo : Nat) (xm : Nat) (xs : Nat) (xt : Nat) (xk : Nat) (xp : Nat) (xr : Nat) (xc : Nat) (xu : Nat) (xe : Nat) (xb : Nat) (xa : Nat) (xl : Nat) (xg : Nat) (x1 : Nat) (x2 : Nat) (x3 : Nat) (x4 : Nat) (xq : Nat) (xz : Nat) (xd : Nat) (pl : Int32) (ft : Int32) (tw : Int32) (inn : Int32) (bd : Int32) (py : Int32) (ap : Int32) (qd : Int32) (ds : Int32) (fl : Int32) (t4 : Nat) (M : Nat → Nat) (Z : Nat → Nat) (ar : Nat) (tg : Int32) (no : Int32) (acc : List ob_T) (har : ar ≤ 4) (hZ : Z ar ≤ 60) (hB : ∀ j, M j ≤ 255) (hA : pm_r M Z ar = .inr acc) : ct_M l D cA yn_Mod_number cd_Mod_number 4 0 0 sz [.ref mo, .int (nI ar), .int tg, .int no] [(mo, .inr (9, [.ref xm, .ref xs, .ref xt, .ref xk, .ref xp, .ref xr, .ref xc, .ref xu, .ref xe, .ref xb, .ref xa, .ref xl, .ref xg, .int pl, .int ft, .int tw, .int inn, .int bd, .int py, .ref x1, .ref x2, .ref x3, .ref x4, .int ap, .ref xq, .int qd, .ref xz, .ref xd, .int ds, .int fl, .int (nI t4)])), (xm, .inl (cA 0, 300, .inl (nJ M))), (xs, .inl (cA 0, 5, .inl (nJ Z)))] (fun v_ w_ => ∃ (b9 : Int32), ∃ (u9 : Nat), v_ = some (.int (nb_v M ar (fo_s acc tg) no)) ∧ w_ = [(mo, .inr (9, [.ref xm, .ref xs, .ref xt, .ref xk, .ref xp, .ref xr, .ref xc, .ref xu, .ref xe, .ref xb, .ref xa, .ref xl, .ref xg, .int pl, .int (so_f (fo_s acc tg)), .int (so_t (fo_s acc tg)), .int (so_i (fo_s acc tg)), .int b9, .int py, .ref x1, .ref x2, .ref x3, .ref x4, .int ap, .ref xq, .int qd, .ref xz, .ref xd, .int ds, .int fl, .int (nI u9)])), (xm, .inl (cA 0, 300, .inl (nJ M))), (xs, .inl (cA 0, 5, .inl (nJ Z)))]) := by
  refine gw_cons (c_Mod_number l D cA sz mo xm xs xt xk xp xr xc xu xe xb xa xl xg x1 x2 x3 x4 xq xz xd pl ft tw inn bd py ap qd ds fl t4 M Z ar tg no har hZ hB) ?_
  rintro v w ⟨rfl, rfl⟩
  obtain ⟨h1, h2, h3, h4, h5⟩ := wk_two (bd := bd) (tg := tg) (t4 := t4) hZ hB hA
  refine ⟨(Mod_walk_r bd t4 M Z ar tg).2.2.2.2.1, (Mod_walk_r bd t4 M Z ar tg).2.2.2.2.2, by rw [num_two hZ hB hA], ?_⟩
  · rw [h3, h4, h5]
theorem c_Mod_walk2 (l : Launch) (D : va_G) (cA : Nat → ClassId) (sz : Nat) (mo : Nat) (xm : Nat) (xs : Nat) (xt : Nat) (xk : Nat) (xp : Nat) (xr : Nat) (xc : Nat) (xu : Nat) (xe : Nat) (xb : Nat) (xa : Nat) (xl : Nat) (xg : Nat) (x1 : Nat) (x2 : Nat) (x3 : Nat) (x4 : Nat) (xq : Nat) (xz : Nat) (xd : Nat) (pl : Int32) (ft : Int32) (tw : Int32) (inn : Int32) (bd : Int32) (py : Int32) (ap : Int32) (qd : Int32) (ds : Int32) (fl : Int32) (t4 : Nat) (M : Nat → Nat) (Z : Nat → Nat) (ar : Nat) (tg : Int32) (acc : List ob_T) (har : ar ≤ 4) (hZ : Z ar ≤ 60) (hB : ∀ j, M j ≤ 255) (hA : pm_r M Z ar = .inr acc) : ct_M l D cA yn_Mod_walk cd_Mod_walk 2 0 0 sz [.ref mo, .int (nI ar), .int tg] [(mo, .inr (9, [.ref xm, .ref xs, .ref xt, .ref xk, .ref xp, .ref xr, .ref xc, .ref xu, .ref xe, .ref xb, .ref xa, .ref xl, .ref xg, .int pl, .int ft, .int tw, .int inn, .int bd, .int py, .ref x1, .ref x2, .ref x3, .ref x4, .int ap, .ref xq, .int qd, .ref xz, .ref xd, .int ds, .int fl, .int (nI t4)])), (xm, .inl (cA 0, 300, .inl (nJ M))), (xs, .inl (cA 0, 5, .inl (nJ Z)))] (fun v_ w_ => ∃ (b9 : Int32), ∃ (u9 : Nat), v_ = some (.int (nI acc.length)) ∧ w_ = [(mo, .inr (9, [.ref xm, .ref xs, .ref xt, .ref xk, .ref xp, .ref xr, .ref xc, .ref xu, .ref xe, .ref xb, .ref xa, .ref xl, .ref xg, .int pl, .int (so_f (fo_s acc tg)), .int (so_t (fo_s acc tg)), .int (so_i (fo_s acc tg)), .int b9, .int py, .ref x1, .ref x2, .ref x3, .ref x4, .int ap, .ref xq, .int qd, .ref xz, .ref xd, .int ds, .int fl, .int (nI u9)])), (xm, .inl (cA 0, 300, .inl (nJ M))), (xs, .inl (cA 0, 5, .inl (nJ Z)))]) := by
  refine gw_cons (c_Mod_walk l D cA sz mo xm xs xt xk xp xr xc xu xe xb xa xl xg x1 x2 x3 x4 xq xz xd pl ft tw inn bd py ap qd ds fl t4 M Z ar tg har hZ hB) ?_
  rintro v w ⟨rfl, rfl⟩
  obtain ⟨h1, h2, h3, h4, h5⟩ := wk_two (bd := bd) (tg := tg) (t4 := t4) hZ hB hA
  refine ⟨(Mod_walk_r bd t4 M Z ar tg).2.2.2.2.1, (Mod_walk_r bd t4 M Z ar tg).2.2.2.2.2, by rw [h1], ?_⟩
  · rw [h3, h4, h5]
