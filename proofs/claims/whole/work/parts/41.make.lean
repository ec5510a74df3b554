set_option maxRecDepth 100000 in
set_option maxHeartbeats 4000000 in
theorem c_Mod_make_n (l : Launch) (D : va_G) (cA : Nat → ClassId) (sz : Nat) (mo : Nat) (xm : Nat) (xs : Nat) (xt : Nat) (xk : Nat) (xp : Nat) (xr : Nat) (xc : Nat) (xu : Nat) (xe : Nat) (xb : Nat) (xa : Nat) (xl : Nat) (xg : Nat) (x1 : Nat) (x2 : Nat) (x3 : Nat) (x4 : Nat) (xq : Nat) (xz : Nat) (xd : Nat) (pl : Int32) (ft : Int32) (tw : Int32) (inn : Int32) (bd : Int32) (py : Int32) (ap : Int32) (qd : Int32) (ds : Int32) (fl : Int32) (u4 : Int32) (x : Int32) (y : Int32) (w : Int32) (hx : f_Mod_in x 0 3 = 0) : ct_M l D cA yn_Mod_make cd_Mod_make 2 0 0 sz [.ref mo, .int x, .int y, .int w] [(mo, .inr (9, [.ref xm, .ref xs, .ref xt, .ref xk, .ref xp, .ref xr, .ref xc, .ref xu, .ref xe, .ref xb, .ref xa, .ref xl, .ref xg, .int pl, .int ft, .int tw, .int inn, .int bd, .int py, .ref x1, .ref x2, .ref x3, .ref x4, .int ap, .ref xq, .int qd, .ref xz, .ref xd, .int ds, .int fl, .int u4]))] (fun v_ w_ => v_ = some (.int (-1)) ∧ w_ = [(mo, .inr (9, [.ref xm, .ref xs, .ref xt, .ref xk, .ref xp, .ref xr, .ref xc, .ref xu, .ref xe, .ref xb, .ref xa, .ref xl, .ref xg, .int (-1), .int ft, .int tw, .int inn, .int bd, .int py, .ref x1, .ref x2, .ref x3, .ref x4, .int ap, .ref xq, .int qd, .ref xz, .ref xd, .int ds, .int fl, .int u4]))]) := by
  refine gw_met (by decide) rfl (Nat.le_of_ble_eq_true rfl) ?_
  intro p_ e_ s_ m_ args_ below_ meth_ c_ A_ S g_r g_k g_n hK hA
  refine gw_eq (ws' := [(mo, .inr (9, [.ref xm, .ref xs, .ref xt, .ref xk, .ref xp, .ref xr, .ref xc, .ref xu, .ref xe, .ref xb, .ref xa, .ref xl, .ref xg, .int pl, .int ft, .int tw, .int inn, .int bd, .int py, .ref x1, .ref x2, .ref x3, .ref x4, .int ap, .ref xq, .int qd, .ref xz, .ref xd, .int ds, .int fl, .int u4]))]) (lv' := [(0, .ref mo), (1, .int x), (2, .int y), (3, .int w)]) (st' := []) (pc' := 0) rfl rfl rfl rfl ?_
  refine gw_aload_n S dc_Mod_make_0 rfl 0 rfl ?_
  refine gw_iconst (v := -1) S dc_Mod_make_1 (by decide) ?_
  refine gw_put (ws' := [(mo, .inr (9, [.ref xm, .ref xs, .ref xt, .ref xk, .ref xp, .ref xr, .ref xc, .ref xu, .ref xe, .ref xb, .ref xa, .ref xl, .ref xg, .int (-1), .int ft, .int tw, .int inn, .int bd, .int py, .ref x1, .ref x2, .ref x3, .ref x4, .int ap, .ref xq, .int qd, .ref xz, .ref xd, .int ds, .int fl, .int u4]))]) (ty := .int) S hK.1 ic_Mod rfl 13 (by decide) ty_Mod to_Mod nm_Mod (gw_lk S mw_793) 0 rfl rfl (by decide +kernel) rfl rfl (Nat.le_of_ble_eq_true rfl) rfl dc_Mod_make_2 ?_
  refine gw_iload_n S dc_Mod_make_5 rfl 1 rfl ?_
  refine gw_iconst (v := 0) S dc_Mod_make_6 (by decide) ?_
  refine gw_iconst (v := 3) S dc_Mod_make_7 (by decide) ?_
  refine gw_callSR (As := [.int x, .int 0, .int 3]) (st := []) S hK (c_Mod_in l D cA x 0 3 ) (cw_Mod_101 S.2.2.2.2 rfl rfl ⟨Nat.le_of_ble_eq_true rfl, Nat.le_of_ble_eq_true rfl⟩) [] rfl (by decide) rfl rfl (Nat.le_of_ble_eq_true rfl) dc_Mod_make_8 ⟨Nat.le_of_ble_eq_true rfl, Nat.le_of_ble_eq_true rfl⟩ ?_
  rintro _ rfl
  refine gw_eq (ws' := [(mo, .inr (9, [.ref xm, .ref xs, .ref xt, .ref xk, .ref xp, .ref xr, .ref xc, .ref xu, .ref xe, .ref xb, .ref xa, .ref xl, .ref xg, .int (-1), .int ft, .int tw, .int inn, .int bd, .int py, .ref x1, .ref x2, .ref x3, .ref x4, .int ap, .ref xq, .int qd, .ref xz, .ref xd, .int ds, .int fl, .int u4]))]) (lv' := [(0, .ref mo), (1, .int x), (2, .int y), (3, .int w)]) (st' := [.int (f_Mod_in x 0 3)]) (pc' := 11) rfl rfl rfl rfl ?_
  refine gw_if_eq (tgt := 25) S dc_Mod_make_11 (by decide) (fun c_2 => ?_) (fun c_2 => ?_)
  · -- taken
    refine gw_iconst (v := -1) S dc_Mod_make_25 (by decide) ?_
    exact gw_iret (w := [(mo, .inr (9, [.ref xm, .ref xs, .ref xt, .ref xk, .ref xp, .ref xr, .ref xc, .ref xu, .ref xe, .ref xb, .ref xa, .ref xl, .ref xg, .int (-1), .int ft, .int tw, .int inn, .int bd, .int py, .ref x1, .ref x2, .ref x3, .ref x4, .int ap, .ref xq, .int qd, .ref xz, .ref xd, .int ds, .int fl, .int u4]))]) S g_r g_k  [0] rfl (by decide) ⟨(by simp only [if_pos c_2]), (by simp only [if_pos c_2])⟩ dc_Mod_make_26
  · -- not
    exact absurd hx c_2
set_option maxRecDepth 100000 in
set_option maxHeartbeats 4000000 in
theorem c_Mod_make_p (l : Launch) (D : va_G) (cA : Nat → ClassId) (sz : Nat) (mo : Nat) (xm : Nat) (xs : Nat) (xt : Nat) (xk : Nat) (xp : Nat) (xr : Nat) (xc : Nat) (xu : Nat) (xe : Nat) (xb : Nat) (xa : Nat) (xl : Nat) (xg : Nat) (x1 : Nat) (x2 : Nat) (x3 : Nat) (x4 : Nat) (xq : Nat) (xz : Nat) (xd : Nat) (pl : Int32) (ft : Int32) (tw : Int32) (inn : Int32) (bd : Int32) (py : Int32) (ap : Int32) (qd : Int32) (ds : Int32) (fl : Int32) (u4 : Int32) (ar : Nat) (y : Int32) (w : Int32) (har : ar ≤ 3) (hp : f_Mod_in w 0 9999 = 0) : ct_M l D cA yn_Mod_make cd_Mod_make 2 0 0 sz [.ref mo, .int (nI ar), .int y, .int w] [(mo, .inr (9, [.ref xm, .ref xs, .ref xt, .ref xk, .ref xp, .ref xr, .ref xc, .ref xu, .ref xe, .ref xb, .ref xa, .ref xl, .ref xg, .int pl, .int ft, .int tw, .int inn, .int bd, .int py, .ref x1, .ref x2, .ref x3, .ref x4, .int ap, .ref xq, .int qd, .ref xz, .ref xd, .int ds, .int fl, .int u4]))] (fun v_ w_ => v_ = some (.int (-1)) ∧ w_ = [(mo, .inr (9, [.ref xm, .ref xs, .ref xt, .ref xk, .ref xp, .ref xr, .ref xc, .ref xu, .ref xe, .ref xb, .ref xa, .ref xl, .ref xg, .int (-1), .int ft, .int tw, .int inn, .int bd, .int py, .ref x1, .ref x2, .ref x3, .ref x4, .int ap, .ref xq, .int qd, .ref xz, .ref xd, .int ds, .int fl, .int u4]))]) := by
  refine gw_met (by decide) rfl (Nat.le_of_ble_eq_true rfl) ?_
  intro p_ e_ s_ m_ args_ below_ meth_ c_ A_ S g_r g_k g_n hK hA
  refine gw_eq (ws' := [(mo, .inr (9, [.ref xm, .ref xs, .ref xt, .ref xk, .ref xp, .ref xr, .ref xc, .ref xu, .ref xe, .ref xb, .ref xa, .ref xl, .ref xg, .int pl, .int ft, .int tw, .int inn, .int bd, .int py, .ref x1, .ref x2, .ref x3, .ref x4, .int ap, .ref xq, .int qd, .ref xz, .ref xd, .int ds, .int fl, .int u4]))]) (lv' := [(0, .ref mo), (1, .int (nI ar)), (2, .int y), (3, .int w)]) (st' := []) (pc' := 0) rfl rfl rfl rfl ?_
  refine gw_aload_n S dc_Mod_make_0 rfl 0 rfl ?_
  refine gw_iconst (v := -1) S dc_Mod_make_1 (by decide) ?_
  refine gw_put (ws' := [(mo, .inr (9, [.ref xm, .ref xs, .ref xt, .ref xk, .ref xp, .ref xr, .ref xc, .ref xu, .ref xe, .ref xb, .ref xa, .ref xl, .ref xg, .int (-1), .int ft, .int tw, .int inn, .int bd, .int py, .ref x1, .ref x2, .ref x3, .ref x4, .int ap, .ref xq, .int qd, .ref xz, .ref xd, .int ds, .int fl, .int u4]))]) (ty := .int) S hK.1 ic_Mod rfl 13 (by decide) ty_Mod to_Mod nm_Mod (gw_lk S mw_793) 0 rfl rfl (by decide +kernel) rfl rfl (Nat.le_of_ble_eq_true rfl) rfl dc_Mod_make_2 ?_
  refine gw_iload_n S dc_Mod_make_5 rfl 1 rfl ?_
  refine gw_iconst (v := 0) S dc_Mod_make_6 (by decide) ?_
  refine gw_iconst (v := 3) S dc_Mod_make_7 (by decide) ?_
  refine gw_callSR (As := [.int (nI ar), .int 0, .int 3]) (st := []) S hK (c_Mod_in l D cA (nI ar) 0 3 ) (cw_Mod_101 S.2.2.2.2 rfl rfl ⟨Nat.le_of_ble_eq_true rfl, Nat.le_of_ble_eq_true rfl⟩) [] rfl (by decide) rfl rfl (Nat.le_of_ble_eq_true rfl) dc_Mod_make_8 ⟨Nat.le_of_ble_eq_true rfl, Nat.le_of_ble_eq_true rfl⟩ ?_
  rintro _ rfl
  refine gw_eq (ws' := [(mo, .inr (9, [.ref xm, .ref xs, .ref xt, .ref xk, .ref xp, .ref xr, .ref xc, .ref xu, .ref xe, .ref xb, .ref xa, .ref xl, .ref xg, .int (-1), .int ft, .int tw, .int inn, .int bd, .int py, .ref x1, .ref x2, .ref x3, .ref x4, .int ap, .ref xq, .int qd, .ref xz, .ref xd, .int ds, .int fl, .int u4]))]) (lv' := [(0, .ref mo), (1, .int (nI ar)), (2, .int y), (3, .int w)]) (st' := [.int (f_Mod_in (nI ar) 0 3)]) (pc' := 11) rfl rfl rfl rfl ?_
  refine gw_if_eq (tgt := 25) S dc_Mod_make_11 (by decide) (fun c_2 => ?_) (fun c_2 => ?_)
  · -- taken
    exact absurd c_2 (in_ok (b := 3) (Nat.le_trans har (by decide)) (by decide))
  · -- not
    refine gw_iload_n S dc_Mod_make_14 rfl 3 rfl ?_
    refine gw_iconst (v := 0) S dc_Mod_make_15 (by decide) ?_
    refine gw_sipush (v := 9999) S dc_Mod_make_16 (by decide) ?_
    refine gw_callSR (As := [.int w, .int 0, .int 9999]) (st := []) S hK (c_Mod_in l D cA w 0 9999 ) (cw_Mod_101 S.2.2.2.2 rfl rfl ⟨Nat.le_of_ble_eq_true rfl, Nat.le_of_ble_eq_true rfl⟩) [] rfl (by decide) rfl rfl (Nat.le_of_ble_eq_true rfl) dc_Mod_make_19 ⟨Nat.le_of_ble_eq_true rfl, Nat.le_of_ble_eq_true rfl⟩ ?_
    rintro _ rfl
    refine gw_eq (ws' := [(mo, .inr (9, [.ref xm, .ref xs, .ref xt, .ref xk, .ref xp, .ref xr, .ref xc, .ref xu, .ref xe, .ref xb, .ref xa, .ref xl, .ref xg, .int (-1), .int ft, .int tw, .int inn, .int bd, .int py, .ref x1, .ref x2, .ref x3, .ref x4, .int ap, .ref xq, .int qd, .ref xz, .ref xd, .int ds, .int fl, .int u4]))]) (lv' := [(0, .ref mo), (1, .int (nI ar)), (2, .int y), (3, .int w)]) (st' := [.int (f_Mod_in w 0 9999)]) (pc' := 22) rfl rfl rfl rfl ?_
    refine gw_if_ne (tgt := 27) S dc_Mod_make_22 (by decide) (fun c_4 => ?_) (fun c_4 => ?_)
    · -- taken
      exact absurd hp c_4
    · -- not
      refine gw_iconst (v := -1) S dc_Mod_make_25 (by decide) ?_
      exact gw_iret (w := [(mo, .inr (9, [.ref xm, .ref xs, .ref xt, .ref xk, .ref xp, .ref xr, .ref xc, .ref xu, .ref xe, .ref xb, .ref xa, .ref xl, .ref xg, .int (-1), .int ft, .int tw, .int inn, .int bd, .int py, .ref x1, .ref x2, .ref x3, .ref x4, .int ap, .ref xq, .int qd, .ref xz, .ref xd, .int ds, .int fl, .int u4]))]) S g_r g_k  [0] rfl (by decide) ⟨(by simp only [if_neg c_2, if_pos c_4]), (by simp only [if_neg c_2, if_pos c_4])⟩ dc_Mod_make_26
theorem c_Mod_walkB (l : Launch) (D : va_G) (cA : Nat → ClassId) (sz : Nat) (mo : Nat) (xm : Nat) (xs : Nat) (xt : Nat) (xk : Nat) (xp : Nat) (xr : Nat) (xc : Nat) (xu : Nat) (xe : Nat) (xb : Nat) (xa : Nat) (xl : Nat) (xg : Nat) (x1 : Nat) (x2 : Nat) (x3 : Nat) (x4 : Nat) (xq : Nat) (xz : Nat) (xd : Nat) (pl : Int32) (ft : Int32) (tw : Int32) (inn : Int32) (bd : Int32) (py : Int32) (ap : Int32) (qd : Int32) (ds : Int32) (fl : Int32) (t4 : Nat) (M : Nat → Nat) (Z : Nat → Nat) (ar : Nat) (tg : Int32) (e9 : Nat) (har : ar ≤ 4) (hZ : Z ar ≤ 60) (hB : ∀ j, M j ≤ 255) (hA : pm_r M Z ar = .inl e9) : ct_M l D cA yn_Mod_walk cd_Mod_walk 2 0 0 sz [.ref mo, .int (nI ar), .int tg] [(mo, .inr (9, [.ref xm, .ref xs, .ref xt, .ref xk, .ref xp, .ref xr, .ref xc, .ref xu, .ref xe, .ref xb, .ref xa, .ref xl, .ref xg, .int pl, .int ft, .int tw, .int inn, .int bd, .int py, .ref x1, .ref x2, .ref x3, .ref x4, .int ap, .ref xq, .int qd, .ref xz, .ref xd, .int ds, .int fl, .int (nI t4)])), (xm, .inl (cA 0, 300, .inl (nJ M))), (xs, .inl (cA 0, 5, .inl (nJ Z)))] (fun v_ w_ => ∃ (ft9 : Int32), ∃ (tw9 : Int32), ∃ (in9 : Int32), ∃ (u9 : Nat), v_ = some (.int (-1)) ∧ w_ = [(mo, .inr (9, [.ref xm, .ref xs, .ref xt, .ref xk, .ref xp, .ref xr, .ref xc, .ref xu, .ref xe, .ref xb, .ref xa, .ref xl, .ref xg, .int pl, .int ft9, .int tw9, .int in9, .int (nI e9), .int py, .ref x1, .ref x2, .ref x3, .ref x4, .int ap, .ref xq, .int qd, .ref xz, .ref xd, .int ds, .int fl, .int (nI u9)])), (xm, .inl (cA 0, 300, .inl (nJ M))), (xs, .inl (cA 0, 5, .inl (nJ Z)))]) := by
  refine gw_cons (c_Mod_walk l D cA sz mo xm xs xt xk xp xr xc xu xe xb xa xl xg x1 x2 x3 x4 xq xz xd pl ft tw inn bd py ap qd ds fl t4 M Z ar tg har hZ hB) ?_
  rintro v w ⟨rfl, rfl⟩
  have h := wk_spec (bd := bd) (tg := tg) (t4 := t4) hZ hB
  rw [hA] at h
  have h1 : (Mod_walk_r bd t4 M Z ar tg).1 = -1 := h.1
  have h2 : (Mod_walk_r bd t4 M Z ar tg).2.2.2.2.1 = nI e9 := h.2
  refine ⟨(Mod_walk_r bd t4 M Z ar tg).2.1, (Mod_walk_r bd t4 M Z ar tg).2.2.1, (Mod_walk_r bd t4 M Z ar tg).2.2.2.1, (Mod_walk_r bd t4 M Z ar tg).2.2.2.2.2, by rw [h1], ?_⟩
  rw [h2]
set_option maxRecDepth 100000 in
set_option maxHeartbeats 4000000 in
theorem c_Mod_make_b (l : Launch) (D : va_G) (cA : Nat → ClassId) (sz : Nat) (mo : Nat) (xm : Nat) (xs : Nat) (xt : Nat) (xk : Nat) (xp : Nat) (xr : Nat) (xc : Nat) (xu : Nat) (xe : Nat) (xb : Nat) (xa : Nat) (xl : Nat) (xg : Nat) (x1 : Nat) (x2 : Nat) (x3 : Nat) (x4 : Nat) (xq : Nat) (xz : Nat) (xd : Nat) (pl : Int32) (ft : Int32) (tw : Int32) (inn : Int32) (bd : Int32) (py : Int32) (ap : Int32) (qd : Int32) (ds : Int32) (fl : Int32) (t4 : Nat) (M : Nat → Nat) (Z : Nat → Nat) (ar : Nat) (e9 : Nat) (y : Int32) (w : Int32) (har : ar ≤ 3) (hp : ¬ f_Mod_in w 0 9999 = 0) (hZ : Z 4 ≤ 60) (hB : ∀ j, M j ≤ 255) (hA : pm_r M Z 4 = .inl e9) : ct_M l D cA yn_Mod_make cd_Mod_make 4 0 0 sz [.ref mo, .int (nI ar), .int y, .int w] [(mo, .inr (9, [.ref xm, .ref xs, .ref xt, .ref xk, .ref xp, .ref xr, .ref xc, .ref xu, .ref xe, .ref xb, .ref xa, .ref xl, .ref xg, .int pl, .int ft, .int tw, .int inn, .int bd, .int py, .ref x1, .ref x2, .ref x3, .ref x4, .int ap, .ref xq, .int qd, .ref xz, .ref xd, .int ds, .int fl, .int (nI t4)])), (xm, .inl (cA 0, 300, .inl (nJ M))), (xs, .inl (cA 0, 5, .inl (nJ Z)))] (fun v_ w_ => ∃ (ft9 : Int32), ∃ (tw9 : Int32), ∃ (in9 : Int32), ∃ (b9 : Int32), ∃ (u9 : Nat), v_ = some (.int (-3)) ∧ w_ = [(mo, .inr (9, [.ref xm, .ref xs, .ref xt, .ref xk, .ref xp, .ref xr, .ref xc, .ref xu, .ref xe, .ref xb, .ref xa, .ref xl, .ref xg, .int (nI e9), .int ft9, .int tw9, .int in9, .int b9, .int py, .ref x1, .ref x2, .ref x3, .ref x4, .int ap, .ref xq, .int qd, .ref xz, .ref xd, .int ds, .int fl, .int (nI u9)])), (xm, .inl (cA 0, 300, .inl (nJ M))), (xs, .inl (cA 0, 5, .inl (nJ Z)))]) := by
  refine gw_met (by decide) rfl (Nat.le_of_ble_eq_true rfl) ?_
  intro p_ e_ s_ m_ args_ below_ meth_ c_ A_ S g_r g_k g_n hK hA
  refine gw_eq (ws' := [(mo, .inr (9, [.ref xm, .ref xs, .ref xt, .ref xk, .ref xp, .ref xr, .ref xc, .ref xu, .ref xe, .ref xb, .ref xa, .ref xl, .ref xg, .int pl, .int ft, .int tw, .int inn, .int bd, .int py, .ref x1, .ref x2, .ref x3, .ref x4, .int ap, .ref xq, .int qd, .ref xz, .ref xd, .int ds, .int fl, .int (nI t4)])), (xm, .inl (cA 0, 300, .inl (nJ M))), (xs, .inl (cA 0, 5, .inl (nJ Z)))]) (lv' := [(0, .ref mo), (1, .int (nI ar)), (2, .int y), (3, .int w)]) (st' := []) (pc' := 0) rfl rfl rfl rfl ?_
  refine gw_aload_n S dc_Mod_make_0 rfl 0 rfl ?_
  refine gw_iconst (v := -1) S dc_Mod_make_1 (by decide) ?_
  refine gw_put (ws' := [(mo, .inr (9, [.ref xm, .ref xs, .ref xt, .ref xk, .ref xp, .ref xr, .ref xc, .ref xu, .ref xe, .ref xb, .ref xa, .ref xl, .ref xg, .int (-1), .int ft, .int tw, .int inn, .int bd, .int py, .ref x1, .ref x2, .ref x3, .ref x4, .int ap, .ref xq, .int qd, .ref xz, .ref xd, .int ds, .int fl, .int (nI t4)])), (xm, .inl (cA 0, 300, .inl (nJ M))), (xs, .inl (cA 0, 5, .inl (nJ Z)))]) (ty := .int) S hK.1 ic_Mod rfl 13 (by decide) ty_Mod to_Mod nm_Mod (gw_lk S mw_793) 0 rfl rfl (by decide +kernel) rfl rfl (Nat.le_of_ble_eq_true rfl) rfl dc_Mod_make_2 ?_
  refine gw_iload_n S dc_Mod_make_5 rfl 1 rfl ?_
  refine gw_iconst (v := 0) S dc_Mod_make_6 (by decide) ?_
  refine gw_iconst (v := 3) S dc_Mod_make_7 (by decide) ?_
  refine gw_callSR (As := [.int (nI ar), .int 0, .int 3]) (st := []) S hK (c_Mod_in l D cA (nI ar) 0 3 ) (cw_Mod_101 S.2.2.2.2 rfl rfl ⟨Nat.le_of_ble_eq_true rfl, Nat.le_of_ble_eq_true rfl⟩) [] rfl (by decide) rfl rfl (Nat.le_of_ble_eq_true rfl) dc_Mod_make_8 ⟨Nat.le_of_ble_eq_true rfl, Nat.le_of_ble_eq_true rfl⟩ ?_
  rintro _ rfl
  refine gw_eq (ws' := [(mo, .inr (9, [.ref xm, .ref xs, .ref xt, .ref xk, .ref xp, .ref xr, .ref xc, .ref xu, .ref xe, .ref xb, .ref xa, .ref xl, .ref xg, .int (-1), .int ft, .int tw, .int inn, .int bd, .int py, .ref x1, .ref x2, .ref x3, .ref x4, .int ap, .ref xq, .int qd, .ref xz, .ref xd, .int ds, .int fl, .int (nI t4)])), (xm, .inl (cA 0, 300, .inl (nJ M))), (xs, .inl (cA 0, 5, .inl (nJ Z)))]) (lv' := [(0, .ref mo), (1, .int (nI ar)), (2, .int y), (3, .int w)]) (st' := [.int (f_Mod_in (nI ar) 0 3)]) (pc' := 11) rfl rfl rfl rfl ?_
  refine gw_if_eq (tgt := 25) S dc_Mod_make_11 (by decide) (fun c_2 => ?_) (fun c_2 => ?_)
  · -- taken
    exact absurd c_2 (in_ok (b := 3) (Nat.le_trans har (by decide)) (by decide))
  · -- not
    refine gw_iload_n S dc_Mod_make_14 rfl 3 rfl ?_
    refine gw_iconst (v := 0) S dc_Mod_make_15 (by decide) ?_
    refine gw_sipush (v := 9999) S dc_Mod_make_16 (by decide) ?_
    refine gw_callSR (As := [.int w, .int 0, .int 9999]) (st := []) S hK (c_Mod_in l D cA w 0 9999 ) (cw_Mod_101 S.2.2.2.2 rfl rfl ⟨Nat.le_of_ble_eq_true rfl, Nat.le_of_ble_eq_true rfl⟩) [] rfl (by decide) rfl rfl (Nat.le_of_ble_eq_true rfl) dc_Mod_make_19 ⟨Nat.le_of_ble_eq_true rfl, Nat.le_of_ble_eq_true rfl⟩ ?_
    rintro _ rfl
    refine gw_eq (ws' := [(mo, .inr (9, [.ref xm, .ref xs, .ref xt, .ref xk, .ref xp, .ref xr, .ref xc, .ref xu, .ref xe, .ref xb, .ref xa, .ref xl, .ref xg, .int (-1), .int ft, .int tw, .int inn, .int bd, .int py, .ref x1, .ref x2, .ref x3, .ref x4, .int ap, .ref xq, .int qd, .ref xz, .ref xd, .int ds, .int fl, .int (nI t4)])), (xm, .inl (cA 0, 300, .inl (nJ M))), (xs, .inl (cA 0, 5, .inl (nJ Z)))]) (lv' := [(0, .ref mo), (1, .int (nI ar)), (2, .int y), (3, .int w)]) (st' := [.int (f_Mod_in w 0 9999)]) (pc' := 22) rfl rfl rfl rfl ?_
    refine gw_if_ne (tgt := 27) S dc_Mod_make_22 (by decide) (fun c_4 => ?_) (fun c_4 => ?_)
    · -- taken
      refine gw_aload_n S dc_Mod_make_27 rfl 0 rfl ?_
      refine gw_iconst (v := 4) S dc_Mod_make_28 (by decide) ?_
      refine gw_iconst (v := -1) S dc_Mod_make_29 (by decide) ?_
      refine gw_callV (As := [.int 4, .int (-1)]) (st := []) (wr := []) S hK hA (fun sz => c_Mod_walkB l D cA sz mo xm xs xt xk xp xr xc xu xe xb xa xl xg x1 x2 x3 x4 xq xz xd (-1) ft tw inn bd py ap qd ds fl t4 M Z 4 (-1) e9 (by decide) (by assumption) (by assumption) (by assumption)) (cw_Mod_94 S.2.2.2.2 rfl rfl ⟨Nat.le_of_ble_eq_true rfl, Nat.le_of_ble_eq_true rfl⟩) [0, 1, 2] [] rfl (by decide) rfl (by decide) (by decide) 0 rfl rfl rfl rfl rfl (Nat.le_of_ble_eq_true rfl) dc_Mod_make_30 ⟨Nat.le_of_ble_eq_true rfl, Nat.le_of_ble_eq_true rfl⟩ ?_
      rintro _ _ ⟨ft9_5, tw9_6, in9_7, u9_8, rfl, rfl⟩
      refine gw_eq (ws' := [(mo, .inr (9, [.ref xm, .ref xs, .ref xt, .ref xk, .ref xp, .ref xr, .ref xc, .ref xu, .ref xe, .ref xb, .ref xa, .ref xl, .ref xg, .int (-1), .int ft9_5, .int tw9_6, .int in9_7, .int (nI e9), .int py, .ref x1, .ref x2, .ref x3, .ref x4, .int ap, .ref xq, .int qd, .ref xz, .ref xd, .int ds, .int fl, .int (nI u9_8)])), (xm, .inl (cA 0, 300, .inl (nJ M))), (xs, .inl (cA 0, 5, .inl (nJ Z)))]) (lv' := [(0, .ref mo), (1, .int (nI ar)), (2, .int y), (3, .int w)]) (st' := [.int (-1)]) (pc' := 33) rfl rfl rfl rfl ?_
      refine gw_istore (lv' := [(4, .int (-1)), (0, .ref mo), (1, .int (nI ar)), (2, .int y), (3, .int w)]) S dc_Mod_make_33 (by decide) rfl ?_
      refine gw_iload S dc_Mod_make_35 0 rfl ?_
      refine gw_if_ge (tgt := 51) S dc_Mod_make_37 (by decide) (fun c_9 => by exact absurd c_9 (by decide)) (fun c_9 => ?_)
      refine gw_aload_n S dc_Mod_make_40 rfl 1 rfl ?_
      refine gw_aload_n S dc_Mod_make_41 rfl 1 rfl ?_
      refine gw_get S hK.1 ic_Mod rfl 17 (by decide) (gw_lk S mw_797) 0 rfl rfl dc_Mod_make_42 ?_
      refine gw_put (ws' := [(mo, .inr (9, [.ref xm, .ref xs, .ref xt, .ref xk, .ref xp, .ref xr, .ref xc, .ref xu, .ref xe, .ref xb, .ref xa, .ref xl, .ref xg, .int (nI e9), .int ft9_5, .int tw9_6, .int in9_7, .int (nI e9), .int py, .ref x1, .ref x2, .ref x3, .ref x4, .int ap, .ref xq, .int qd, .ref xz, .ref xd, .int ds, .int fl, .int (nI u9_8)])), (xm, .inl (cA 0, 300, .inl (nJ M))), (xs, .inl (cA 0, 5, .inl (nJ Z)))]) (ty := .int) S hK.1 ic_Mod rfl 13 (by decide) ty_Mod to_Mod nm_Mod (gw_lk S mw_793) 0 rfl rfl (by decide +kernel) rfl rfl (Nat.le_of_ble_eq_true rfl) rfl dc_Mod_make_45 ?_
      refine gw_bipush (v := -3) S dc_Mod_make_48 (by decide) ?_
      exact gw_iret (w := [(mo, .inr (9, [.ref xm, .ref xs, .ref xt, .ref xk, .ref xp, .ref xr, .ref xc, .ref xu, .ref xe, .ref xb, .ref xa, .ref xl, .ref xg, .int (nI e9), .int ft9_5, .int tw9_6, .int in9_7, .int (nI e9), .int py, .ref x1, .ref x2, .ref x3, .ref x4, .int ap, .ref xq, .int qd, .ref xz, .ref xd, .int ds, .int fl, .int (nI u9_8)])), (xm, .inl (cA 0, 300, .inl (nJ M))), (xs, .inl (cA 0, 5, .inl (nJ Z)))]) S g_r g_k  [0, 1, 2] rfl (by decide) ⟨ft9_5, tw9_6, in9_7, nI e9, u9_8, (by simp only [if_neg c_2, if_neg c_4]), (by simp only [if_neg c_2, if_neg c_4])⟩ dc_Mod_make_50
    · -- not
      exact absurd c_4 hp
set_option maxRecDepth 100000 in
set_option maxHeartbeats 4000000 in
theorem c_Mod_make_f (l : Launch) (D : va_G) (cA : Nat → ClassId) (sz : Nat) (mo : Nat) (xm : Nat) (xs : Nat) (xt : Nat) (xk : Nat) (xp : Nat) (xr : Nat) (xc : Nat) (xu : Nat) (xe : Nat) (xb : Nat) (xa : Nat) (xl : Nat) (xg : Nat) (x1 : Nat) (x2 : Nat) (x3 : Nat) (x4 : Nat) (xq : Nat) (xz : Nat) (xd : Nat) (pl : Int32) (ft : Int32) (tw : Int32) (inn : Int32) (bd : Int32) (py : Int32) (ap : Int32) (qd : Int32) (ds : Int32) (fl : Int32) (t4 : Nat) (M : Nat → Nat) (Z : Nat → Nat) (ar : Nat) (acc : List ob_T) (y : Int32) (w : Int32) (har : ar ≤ 3) (hp : ¬ f_Mod_in w 0 9999 = 0) (hZ : Z 4 ≤ 60) (hB : ∀ j, M j ≤ 255) (hA : pm_r M Z 4 = .inr acc) (hc : ¬ nI acc.length ≤ 16) : ct_M l D cA yn_Mod_make cd_Mod_make 4 0 0 sz [.ref mo, .int (nI ar), .int y, .int w] [(mo, .inr (9, [.ref xm, .ref xs, .ref xt, .ref xk, .ref xp, .ref xr, .ref xc, .ref xu, .ref xe, .ref xb, .ref xa, .ref xl, .ref xg, .int pl, .int ft, .int tw, .int inn, .int bd, .int py, .ref x1, .ref x2, .ref x3, .ref x4, .int ap, .ref xq, .int qd, .ref xz, .ref xd, .int ds, .int fl, .int (nI t4)])), (xm, .inl (cA 0, 300, .inl (nJ M))), (xs, .inl (cA 0, 5, .inl (nJ Z)))] (fun v_ w_ => ∃ (ft9 : Int32), ∃ (tw9 : Int32), ∃ (in9 : Int32), ∃ (b9 : Int32), ∃ (u9 : Nat), v_ = some (.int (-2)) ∧ w_ = [(mo, .inr (9, [.ref xm, .ref xs, .ref xt, .ref xk, .ref xp, .ref xr, .ref xc, .ref xu, .ref xe, .ref xb, .ref xa, .ref xl, .ref xg, .int (-1), .int ft9, .int tw9, .int in9, .int b9, .int py, .ref x1, .ref x2, .ref x3, .ref x4, .int ap, .ref xq, .int qd, .ref xz, .ref xd, .int ds, .int fl, .int (nI u9)])), (xm, .inl (cA 0, 300, .inl (nJ M))), (xs, .inl (cA 0, 5, .inl (nJ Z)))]) := by
  refine gw_met (by decide) rfl (Nat.le_of_ble_eq_true rfl) ?_
  intro p_ e_ s_ m_ args_ below_ meth_ c_ A_ S g_r g_k g_n hK hA
  refine gw_eq (ws' := [(mo, .inr (9, [.ref xm, .ref xs, .ref xt, .ref xk, .ref xp, .ref xr, .ref xc, .ref xu, .ref xe, .ref xb, .ref xa, .ref xl, .ref xg, .int pl, .int ft, .int tw, .int inn, .int bd, .int py, .ref x1, .ref x2, .ref x3, .ref x4, .int ap, .ref xq, .int qd, .ref xz, .ref xd, .int ds, .int fl, .int (nI t4)])), (xm, .inl (cA 0, 300, .inl (nJ M))), (xs, .inl (cA 0, 5, .inl (nJ Z)))]) (lv' := [(0, .ref mo), (1, .int (nI ar)), (2, .int y), (3, .int w)]) (st' := []) (pc' := 0) rfl rfl rfl rfl ?_
  refine gw_aload_n S dc_Mod_make_0 rfl 0 rfl ?_
  refine gw_iconst (v := -1) S dc_Mod_make_1 (by decide) ?_
  refine gw_put (ws' := [(mo, .inr (9, [.ref xm, .ref xs, .ref xt, .ref xk, .ref xp, .ref xr, .ref xc, .ref xu, .ref xe, .ref xb, .ref xa, .ref xl, .ref xg, .int (-1), .int ft, .int tw, .int inn, .int bd, .int py, .ref x1, .ref x2, .ref x3, .ref x4, .int ap, .ref xq, .int qd, .ref xz, .ref xd, .int ds, .int fl, .int (nI t4)])), (xm, .inl (cA 0, 300, .inl (nJ M))), (xs, .inl (cA 0, 5, .inl (nJ Z)))]) (ty := .int) S hK.1 ic_Mod rfl 13 (by decide) ty_Mod to_Mod nm_Mod (gw_lk S mw_793) 0 rfl rfl (by decide +kernel) rfl rfl (Nat.le_of_ble_eq_true rfl) rfl dc_Mod_make_2 ?_
  refine gw_iload_n S dc_Mod_make_5 rfl 1 rfl ?_
  refine gw_iconst (v := 0) S dc_Mod_make_6 (by decide) ?_
  refine gw_iconst (v := 3) S dc_Mod_make_7 (by decide) ?_
  refine gw_callSR (As := [.int (nI ar), .int 0, .int 3]) (st := []) S hK (c_Mod_in l D cA (nI ar) 0 3 ) (cw_Mod_101 S.2.2.2.2 rfl rfl ⟨Nat.le_of_ble_eq_true rfl, Nat.le_of_ble_eq_true rfl⟩) [] rfl (by decide) rfl rfl (Nat.le_of_ble_eq_true rfl) dc_Mod_make_8 ⟨Nat.le_of_ble_eq_true rfl, Nat.le_of_ble_eq_true rfl⟩ ?_
  rintro _ rfl
  refine gw_eq (ws' := [(mo, .inr (9, [.ref xm, .ref xs, .ref xt, .ref xk, .ref xp, .ref xr, .ref xc, .ref xu, .ref xe, .ref xb, .ref xa, .ref xl, .ref xg, .int (-1), .int ft, .int tw, .int inn, .int bd, .int py, .ref x1, .ref x2, .ref x3, .ref x4, .int ap, .ref xq, .int qd, .ref xz, .ref xd, .int ds, .int fl, .int (nI t4)])), (xm, .inl (cA 0, 300, .inl (nJ M))), (xs, .inl (cA 0, 5, .inl (nJ Z)))]) (lv' := [(0, .ref mo), (1, .int (nI ar)), (2, .int y), (3, .int w)]) (st' := [.int (f_Mod_in (nI ar) 0 3)]) (pc' := 11) rfl rfl rfl rfl ?_
  refine gw_if_eq (tgt := 25) S dc_Mod_make_11 (by decide) (fun c_2 => ?_) (fun c_2 => ?_)
  · -- taken
    exact absurd c_2 (in_ok (b := 3) (Nat.le_trans har (by decide)) (by decide))
  · -- not
    refine gw_iload_n S dc_Mod_make_14 rfl 3 rfl ?_
    refine gw_iconst (v := 0) S dc_Mod_make_15 (by decide) ?_
    refine gw_sipush (v := 9999) S dc_Mod_make_16 (by decide) ?_
    refine gw_callSR (As := [.int w, .int 0, .int 9999]) (st := []) S hK (c_Mod_in l D cA w 0 9999 ) (cw_Mod_101 S.2.2.2.2 rfl rfl ⟨Nat.le_of_ble_eq_true rfl, Nat.le_of_ble_eq_true rfl⟩) [] rfl (by decide) rfl rfl (Nat.le_of_ble_eq_true rfl) dc_Mod_make_19 ⟨Nat.le_of_ble_eq_true rfl, Nat.le_of_ble_eq_true rfl⟩ ?_
    rintro _ rfl
    refine gw_eq (ws' := [(mo, .inr (9, [.ref xm, .ref xs, .ref xt, .ref xk, .ref xp, .ref xr, .ref xc, .ref xu, .ref xe, .ref xb, .ref xa, .ref xl, .ref xg, .int (-1), .int ft, .int tw, .int inn, .int bd, .int py, .ref x1, .ref x2, .ref x3, .ref x4, .int ap, .ref xq, .int qd, .ref xz, .ref xd, .int ds, .int fl, .int (nI t4)])), (xm, .inl (cA 0, 300, .inl (nJ M))), (xs, .inl (cA 0, 5, .inl (nJ Z)))]) (lv' := [(0, .ref mo), (1, .int (nI ar)), (2, .int y), (3, .int w)]) (st' := [.int (f_Mod_in w 0 9999)]) (pc' := 22) rfl rfl rfl rfl ?_
    refine gw_if_ne (tgt := 27) S dc_Mod_make_22 (by decide) (fun c_4 => ?_) (fun c_4 => ?_)
    · -- taken
      refine gw_aload_n S dc_Mod_make_27 rfl 0 rfl ?_
      refine gw_iconst (v := 4) S dc_Mod_make_28 (by decide) ?_
      refine gw_iconst (v := -1) S dc_Mod_make_29 (by decide) ?_
      refine gw_callV (As := [.int 4, .int (-1)]) (st := []) (wr := []) S hK hA (fun sz => c_Mod_walk2 l D cA sz mo xm xs xt xk xp xr xc xu xe xb xa xl xg x1 x2 x3 x4 xq xz xd (-1) ft tw inn bd py ap qd ds fl t4 M Z 4 (-1) acc (by decide) (by assumption) (by assumption) (by assumption)) (cw_Mod_94 S.2.2.2.2 rfl rfl ⟨Nat.le_of_ble_eq_true rfl, Nat.le_of_ble_eq_true rfl⟩) [0, 1, 2] [] rfl (by decide) rfl (by decide) (by decide) 0 rfl rfl rfl rfl rfl (Nat.le_of_ble_eq_true rfl) dc_Mod_make_30 ⟨Nat.le_of_ble_eq_true rfl, Nat.le_of_ble_eq_true rfl⟩ ?_
      rintro _ _ ⟨b9_5, u9_6, rfl, rfl⟩
      refine gw_eq (ws' := [(mo, .inr (9, [.ref xm, .ref xs, .ref xt, .ref xk, .ref xp, .ref xr, .ref xc, .ref xu, .ref xe, .ref xb, .ref xa, .ref xl, .ref xg, .int (-1), .int (so_f (fo_s acc (-1))), .int (so_t (fo_s acc (-1))), .int (so_i (fo_s acc (-1))), .int b9_5, .int py, .ref x1, .ref x2, .ref x3, .ref x4, .int ap, .ref xq, .int qd, .ref xz, .ref xd, .int ds, .int fl, .int (nI u9_6)])), (xm, .inl (cA 0, 300, .inl (nJ M))), (xs, .inl (cA 0, 5, .inl (nJ Z)))]) (lv' := [(0, .ref mo), (1, .int (nI ar)), (2, .int y), (3, .int w)]) (st' := [.int (nI acc.length)]) (pc' := 33) rfl rfl rfl rfl ?_
      refine gw_istore (lv' := [(4, .int (nI acc.length)), (0, .ref mo), (1, .int (nI ar)), (2, .int y), (3, .int w)]) S dc_Mod_make_33 (by decide) rfl ?_
      refine gw_iload S dc_Mod_make_35 0 rfl ?_
      refine gw_if_ge (tgt := 51) S dc_Mod_make_37 (by decide) (fun c_7 => ?_) (fun c_7 => ?_)
      · -- taken
        refine gw_iload S dc_Mod_make_51 0 rfl ?_
        refine gw_bipush (v := 16) S dc_Mod_make_53 (by decide) ?_
        refine gw_icmp_le (tgt := 61) S dc_Mod_make_55 (by decide) (fun c_8 => ?_) (fun c_8 => ?_)
        · -- taken
          exact absurd c_8 hc
        · -- not
          refine gw_bipush (v := -2) S dc_Mod_make_58 (by decide) ?_
          exact gw_iret (w := [(mo, .inr (9, [.ref xm, .ref xs, .ref xt, .ref xk, .ref xp, .ref xr, .ref xc, .ref xu, .ref xe, .ref xb, .ref xa, .ref xl, .ref xg, .int (-1), .int (so_f (fo_s acc (-1))), .int (so_t (fo_s acc (-1))), .int (so_i (fo_s acc (-1))), .int b9_5, .int py, .ref x1, .ref x2, .ref x3, .ref x4, .int ap, .ref xq, .int qd, .ref xz, .ref xd, .int ds, .int fl, .int (nI u9_6)])), (xm, .inl (cA 0, 300, .inl (nJ M))), (xs, .inl (cA 0, 5, .inl (nJ Z)))]) S g_r g_k  [0, 1, 2] rfl (by decide) ⟨so_f (fo_s acc (-1)), so_t (fo_s acc (-1)), so_i (fo_s acc (-1)), b9_5, u9_6, (by simp only [if_neg c_2, if_neg c_4, if_pos c_7, if_neg c_8]), (by simp only [if_neg c_2, if_neg c_4, if_pos c_7, if_neg c_8])⟩ dc_Mod_make_60
      · -- not
        exact absurd (nI_pos' (by have := (wk_two (bd := bd) (t4 := t4) (tg := -1) hZ hB (by assumption)).2.1; omega)) c_7
    · -- not
      exact absurd c_4 hp
set_option maxRecDepth 100000 in
set_option maxHeartbeats 4000000 in
theorem c_Mod_make_u (l : Launch) (D : va_G) (cA : Nat → ClassId) (sz : Nat) (mo : Nat) (xm : Nat) (xs : Nat) (xt : Nat) (xk : Nat) (xp : Nat) (xr : Nat) (xc : Nat) (xu : Nat) (xe : Nat) (xb : Nat) (xa : Nat) (xl : Nat) (xg : Nat) (x1 : Nat) (x2 : Nat) (x3 : Nat) (x4 : Nat) (xq : Nat) (xz : Nat) (xd : Nat) (pl : Int32) (ft : Int32) (tw : Int32) (inn : Int32) (bd : Int32) (py : Int32) (ap : Int32) (qd : Int32) (ds : Int32) (fl : Int32) (t4 : Nat) (M : Nat → Nat) (Z : Nat → Nat) (ar : Nat) (acc : List ob_T) (y : Int32) (w : Int32) (har : ar ≤ 3) (hp : ¬ f_Mod_in w 0 9999 = 0) (hZ : Z 4 ≤ 60) (hB : ∀ j, M j ≤ 255) (hA : pm_r M Z 4 = .inr acc) (hc : nI acc.length ≤ 16) (hu : ¬ f_Mod_unfit M acc ≤ 0) : ct_M l D cA yn_Mod_make cd_Mod_make 7 0 0 sz [.ref mo, .int (nI ar), .int y, .int w] [(mo, .inr (9, [.ref xm, .ref xs, .ref xt, .ref xk, .ref xp, .ref xr, .ref xc, .ref xu, .ref xe, .ref xb, .ref xa, .ref xl, .ref xg, .int pl, .int ft, .int tw, .int inn, .int bd, .int py, .ref x1, .ref x2, .ref x3, .ref x4, .int ap, .ref xq, .int qd, .ref xz, .ref xd, .int ds, .int fl, .int (nI t4)])), (xm, .inl (cA 0, 300, .inl (nJ M))), (xs, .inl (cA 0, 5, .inl (nJ Z)))] (fun v_ w_ => ∃ (ft9 : Int32), ∃ (tw9 : Int32), ∃ (in9 : Int32), ∃ (b9 : Int32), ∃ (u9 : Nat), v_ = some (.int (-4)) ∧ w_ = [(mo, .inr (9, [.ref xm, .ref xs, .ref xt, .ref xk, .ref xp, .ref xr, .ref xc, .ref xu, .ref xe, .ref xb, .ref xa, .ref xl, .ref xg, .int (f_Mod_unfit M acc), .int ft9, .int tw9, .int in9, .int b9, .int py, .ref x1, .ref x2, .ref x3, .ref x4, .int ap, .ref xq, .int qd, .ref xz, .ref xd, .int ds, .int fl, .int (nI u9)])), (xm, .inl (cA 0, 300, .inl (nJ M))), (xs, .inl (cA 0, 5, .inl (nJ Z)))]) := by
  refine gw_met (by decide) rfl (Nat.le_of_ble_eq_true rfl) ?_
  intro p_ e_ s_ m_ args_ below_ meth_ c_ A_ S g_r g_k g_n hK hA
  refine gw_eq (ws' := [(mo, .inr (9, [.ref xm, .ref xs, .ref xt, .ref xk, .ref xp, .ref xr, .ref xc, .ref xu, .ref xe, .ref xb, .ref xa, .ref xl, .ref xg, .int pl, .int ft, .int tw, .int inn, .int bd, .int py, .ref x1, .ref x2, .ref x3, .ref x4, .int ap, .ref xq, .int qd, .ref xz, .ref xd, .int ds, .int fl, .int (nI t4)])), (xm, .inl (cA 0, 300, .inl (nJ M))), (xs, .inl (cA 0, 5, .inl (nJ Z)))]) (lv' := [(0, .ref mo), (1, .int (nI ar)), (2, .int y), (3, .int w)]) (st' := []) (pc' := 0) rfl rfl rfl rfl ?_
  refine gw_aload_n S dc_Mod_make_0 rfl 0 rfl ?_
  refine gw_iconst (v := -1) S dc_Mod_make_1 (by decide) ?_
  refine gw_put (ws' := [(mo, .inr (9, [.ref xm, .ref xs, .ref xt, .ref xk, .ref xp, .ref xr, .ref xc, .ref xu, .ref xe, .ref xb, .ref xa, .ref xl, .ref xg, .int (-1), .int ft, .int tw, .int inn, .int bd, .int py, .ref x1, .ref x2, .ref x3, .ref x4, .int ap, .ref xq, .int qd, .ref xz, .ref xd, .int ds, .int fl, .int (nI t4)])), (xm, .inl (cA 0, 300, .inl (nJ M))), (xs, .inl (cA 0, 5, .inl (nJ Z)))]) (ty := .int) S hK.1 ic_Mod rfl 13 (by decide) ty_Mod to_Mod nm_Mod (gw_lk S mw_793) 0 rfl rfl (by decide +kernel) rfl rfl (Nat.le_of_ble_eq_true rfl) rfl dc_Mod_make_2 ?_
  refine gw_iload_n S dc_Mod_make_5 rfl 1 rfl ?_
  refine gw_iconst (v := 0) S dc_Mod_make_6 (by decide) ?_
  refine gw_iconst (v := 3) S dc_Mod_make_7 (by decide) ?_
  refine gw_callSR (As := [.int (nI ar), .int 0, .int 3]) (st := []) S hK (c_Mod_in l D cA (nI ar) 0 3 ) (cw_Mod_101 S.2.2.2.2 rfl rfl ⟨Nat.le_of_ble_eq_true rfl, Nat.le_of_ble_eq_true rfl⟩) [] rfl (by decide) rfl rfl (Nat.le_of_ble_eq_true rfl) dc_Mod_make_8 ⟨Nat.le_of_ble_eq_true rfl, Nat.le_of_ble_eq_true rfl⟩ ?_
  rintro _ rfl
  refine gw_eq (ws' := [(mo, .inr (9, [.ref xm, .ref xs, .ref xt, .ref xk, .ref xp, .ref xr, .ref xc, .ref xu, .ref xe, .ref xb, .ref xa, .ref xl, .ref xg, .int (-1), .int ft, .int tw, .int inn, .int bd, .int py, .ref x1, .ref x2, .ref x3, .ref x4, .int ap, .ref xq, .int qd, .ref xz, .ref xd, .int ds, .int fl, .int (nI t4)])), (xm, .inl (cA 0, 300, .inl (nJ M))), (xs, .inl (cA 0, 5, .inl (nJ Z)))]) (lv' := [(0, .ref mo), (1, .int (nI ar)), (2, .int y), (3, .int w)]) (st' := [.int (f_Mod_in (nI ar) 0 3)]) (pc' := 11) rfl rfl rfl rfl ?_
  refine gw_if_eq (tgt := 25) S dc_Mod_make_11 (by decide) (fun c_2 => ?_) (fun c_2 => ?_)
  · -- taken
    exact absurd c_2 (in_ok (b := 3) (Nat.le_trans har (by decide)) (by decide))
  · -- not
    refine gw_iload_n S dc_Mod_make_14 rfl 3 rfl ?_
    refine gw_iconst (v := 0) S dc_Mod_make_15 (by decide) ?_
    refine gw_sipush (v := 9999) S dc_Mod_make_16 (by decide) ?_
    refine gw_callSR (As := [.int w, .int 0, .int 9999]) (st := []) S hK (c_Mod_in l D cA w 0 9999 ) (cw_Mod_101 S.2.2.2.2 rfl rfl ⟨Nat.le_of_ble_eq_true rfl, Nat.le_of_ble_eq_true rfl⟩) [] rfl (by decide) rfl rfl (Nat.le_of_ble_eq_true rfl) dc_Mod_make_19 ⟨Nat.le_of_ble_eq_true rfl, Nat.le_of_ble_eq_true rfl⟩ ?_
    rintro _ rfl
    refine gw_eq (ws' := [(mo, .inr (9, [.ref xm, .ref xs, .ref xt, .ref xk, .ref xp, .ref xr, .ref xc, .ref xu, .ref xe, .ref xb, .ref xa, .ref xl, .ref xg, .int (-1), .int ft, .int tw, .int inn, .int bd, .int py, .ref x1, .ref x2, .ref x3, .ref x4, .int ap, .ref xq, .int qd, .ref xz, .ref xd, .int ds, .int fl, .int (nI t4)])), (xm, .inl (cA 0, 300, .inl (nJ M))), (xs, .inl (cA 0, 5, .inl (nJ Z)))]) (lv' := [(0, .ref mo), (1, .int (nI ar)), (2, .int y), (3, .int w)]) (st' := [.int (f_Mod_in w 0 9999)]) (pc' := 22) rfl rfl rfl rfl ?_
    refine gw_if_ne (tgt := 27) S dc_Mod_make_22 (by decide) (fun c_4 => ?_) (fun c_4 => ?_)
    · -- taken
      refine gw_aload_n S dc_Mod_make_27 rfl 0 rfl ?_
      refine gw_iconst (v := 4) S dc_Mod_make_28 (by decide) ?_
      refine gw_iconst (v := -1) S dc_Mod_make_29 (by decide) ?_
      refine gw_callV (As := [.int 4, .int (-1)]) (st := []) (wr := []) S hK hA (fun sz => c_Mod_walk2 l D cA sz mo xm xs xt xk xp xr xc xu xe xb xa xl xg x1 x2 x3 x4 xq xz xd (-1) ft tw inn bd py ap qd ds fl t4 M Z 4 (-1) acc (by decide) (by assumption) (by assumption) (by assumption)) (cw_Mod_94 S.2.2.2.2 rfl rfl ⟨Nat.le_of_ble_eq_true rfl, Nat.le_of_ble_eq_true rfl⟩) [0, 1, 2] [] rfl (by decide) rfl (by decide) (by decide) 0 rfl rfl rfl rfl rfl (Nat.le_of_ble_eq_true rfl) dc_Mod_make_30 ⟨Nat.le_of_ble_eq_true rfl, Nat.le_of_ble_eq_true rfl⟩ ?_
      rintro _ _ ⟨b9_5, u9_6, rfl, rfl⟩
      refine gw_eq (ws' := [(mo, .inr (9, [.ref xm, .ref xs, .ref xt, .ref xk, .ref xp, .ref xr, .ref xc, .ref xu, .ref xe, .ref xb, .ref xa, .ref xl, .ref xg, .int (-1), .int (so_f (fo_s acc (-1))), .int (so_t (fo_s acc (-1))), .int (so_i (fo_s acc (-1))), .int b9_5, .int py, .ref x1, .ref x2, .ref x3, .ref x4, .int ap, .ref xq, .int qd, .ref xz, .ref xd, .int ds, .int fl, .int (nI u9_6)])), (xm, .inl (cA 0, 300, .inl (nJ M))), (xs, .inl (cA 0, 5, .inl (nJ Z)))]) (lv' := [(0, .ref mo), (1, .int (nI ar)), (2, .int y), (3, .int w)]) (st' := [.int (nI acc.length)]) (pc' := 33) rfl rfl rfl rfl ?_
      refine gw_istore (lv' := [(4, .int (nI acc.length)), (0, .ref mo), (1, .int (nI ar)), (2, .int y), (3, .int w)]) S dc_Mod_make_33 (by decide) rfl ?_
      refine gw_iload S dc_Mod_make_35 0 rfl ?_
      refine gw_if_ge (tgt := 51) S dc_Mod_make_37 (by decide) (fun c_7 => ?_) (fun c_7 => ?_)
      · -- taken
        refine gw_iload S dc_Mod_make_51 0 rfl ?_
        refine gw_bipush (v := 16) S dc_Mod_make_53 (by decide) ?_
        refine gw_icmp_le (tgt := 61) S dc_Mod_make_55 (by decide) (fun c_8 => ?_) (fun c_8 => ?_)
        · -- taken
          refine gw_aload_n S dc_Mod_make_61 rfl 1 rfl ?_
          refine gw_callV (As := []) (st := []) (wr := []) S hK hA (fun sz => c_Mod_unfit l D cA sz mo xm xs xt xk xp xr xc xu xe xb xa xl xg x1 x2 x3 x4 xq xz xd (-1) (so_f (fo_s acc (-1))) (so_t (fo_s acc (-1))) (so_i (fo_s acc (-1))) b9_5 py ap qd ds fl u9_6 M Z acc (by assumption) (by assumption) (by assumption)) (cw_Mod_120 S.2.2.2.2 rfl rfl ⟨Nat.le_of_ble_eq_true rfl, Nat.le_of_ble_eq_true rfl⟩) [0, 1, 2] [] rfl (by decide) rfl (by decide) (by decide) 0 rfl rfl rfl rfl rfl (Nat.le_of_ble_eq_true rfl) dc_Mod_make_62 ⟨Nat.le_of_ble_eq_true rfl, Nat.le_of_ble_eq_true rfl⟩ ?_
          rintro _ _ ⟨ft9_9, tw9_10, in9_11, b9_12, u9_13, rfl, rfl⟩
          refine gw_eq (ws' := [(mo, .inr (9, [.ref xm, .ref xs, .ref xt, .ref xk, .ref xp, .ref xr, .ref xc, .ref xu, .ref xe, .ref xb, .ref xa, .ref xl, .ref xg, .int (-1), .int ft9_9, .int tw9_10, .int in9_11, .int b9_12, .int py, .ref x1, .ref x2, .ref x3, .ref x4, .int ap, .ref xq, .int qd, .ref xz, .ref xd, .int ds, .int fl, .int (nI u9_13)])), (xm, .inl (cA 0, 300, .inl (nJ M))), (xs, .inl (cA 0, 5, .inl (nJ Z)))]) (lv' := [(4, .int (nI acc.length)), (0, .ref mo), (1, .int (nI ar)), (2, .int y), (3, .int w)]) (st' := [.int (f_Mod_unfit M acc)]) (pc' := 65) rfl rfl rfl rfl ?_
          refine gw_istore (lv' := [(5, .int (f_Mod_unfit M acc)), (4, .int (nI acc.length)), (0, .ref mo), (1, .int (nI ar)), (2, .int y), (3, .int w)]) S dc_Mod_make_65 (by decide) rfl ?_
          refine gw_iload S dc_Mod_make_67 0 rfl ?_
          refine gw_if_le (tgt := 81) S dc_Mod_make_69 (by decide) (fun c_14 => ?_) (fun c_14 => ?_)
          · -- taken
            exact absurd c_14 hu
          · -- not
            refine gw_aload_n S dc_Mod_make_72 rfl 2 rfl ?_
            refine gw_iload S dc_Mod_make_73 0 rfl ?_
            refine gw_put (ws' := [(mo, .inr (9, [.ref xm, .ref xs, .ref xt, .ref xk, .ref xp, .ref xr, .ref xc, .ref xu, .ref xe, .ref xb, .ref xa, .ref xl, .ref xg, .int (f_Mod_unfit M acc), .int ft9_9, .int tw9_10, .int in9_11, .int b9_12, .int py, .ref x1, .ref x2, .ref x3, .ref x4, .int ap, .ref xq, .int qd, .ref xz, .ref xd, .int ds, .int fl, .int (nI u9_13)])), (xm, .inl (cA 0, 300, .inl (nJ M))), (xs, .inl (cA 0, 5, .inl (nJ Z)))]) (ty := .int) S hK.1 ic_Mod rfl 13 (by decide) ty_Mod to_Mod nm_Mod (gw_lk S mw_793) 0 rfl rfl (by decide +kernel) rfl rfl (Nat.le_of_ble_eq_true rfl) rfl dc_Mod_make_75 ?_
            refine gw_bipush (v := -4) S dc_Mod_make_78 (by decide) ?_
            exact gw_iret (w := [(mo, .inr (9, [.ref xm, .ref xs, .ref xt, .ref xk, .ref xp, .ref xr, .ref xc, .ref xu, .ref xe, .ref xb, .ref xa, .ref xl, .ref xg, .int (f_Mod_unfit M acc), .int ft9_9, .int tw9_10, .int in9_11, .int b9_12, .int py, .ref x1, .ref x2, .ref x3, .ref x4, .int ap, .ref xq, .int qd, .ref xz, .ref xd, .int ds, .int fl, .int (nI u9_13)])), (xm, .inl (cA 0, 300, .inl (nJ M))), (xs, .inl (cA 0, 5, .inl (nJ Z)))]) S g_r g_k  [0, 1, 2] rfl (by decide) ⟨ft9_9, tw9_10, in9_11, b9_12, u9_13, (by simp only [if_neg c_2, if_neg c_4, if_pos c_7, if_pos c_8, if_neg c_14]), (by simp only [if_neg c_2, if_neg c_4, if_pos c_7, if_pos c_8, if_neg c_14])⟩ dc_Mod_make_80
        · -- not
          exact absurd hc c_8
      · -- not
        exact absurd (nI_pos' (by have := (wk_two (bd := bd) (t4 := t4) (tg := -1) hZ hB (by assumption)).2.1; omega)) c_7
    · -- not
      exact absurd c_4 hp
