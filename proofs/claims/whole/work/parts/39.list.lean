noncomputable def f_Mod_sized (acc : List ob_T) (tg : Int32) (y : Int32) : Int32 := if (so_v (fo_s acc tg)) = 0 then 1 else (if ((so_t (fo_s acc tg)) - (so_f (fo_s acc tg))) = y then 1 else (0))
theorem b_Mod_sized (acc : List ob_T) (tg : Int32) (y : Int32) : f_Mod_sized acc tg y = 0 ∨ f_Mod_sized acc tg y = 1 := by
  unfold f_Mod_sized
  exact (bo_ite (Or.inr rfl) (bo_ite (Or.inr rfl) (Or.inl rfl)))
set_option maxRecDepth 100000 in
set_option maxHeartbeats 4000000 in
theorem c_Mod_sized (l : Launch) (D : va_G) (cA : Nat → ClassId) (sz : Nat) (mo : Nat) (xm : Nat) (xs : Nat) (xt : Nat) (xk : Nat) (xp : Nat) (xr : Nat) (xc : Nat) (xu : Nat) (xe : Nat) (xb : Nat) (xa : Nat) (xl : Nat) (xg : Nat) (x1 : Nat) (x2 : Nat) (x3 : Nat) (x4 : Nat) (xq : Nat) (xz : Nat) (xd : Nat) (pl : Int32) (ft : Int32) (tw : Int32) (inn : Int32) (bd : Int32) (py : Int32) (ap : Int32) (qd : Int32) (ds : Int32) (fl : Int32) (t4 : Nat) (M : Nat → Nat) (Z : Nat → Nat) (acc : List ob_T) (tg : Int32) (y : Int32) (hZ : Z 4 ≤ 60) (hB : ∀ j, M j ≤ 255) (hA : pm_r M Z 4 = .inr acc) : ct_M l D cA yn_Mod_sized cd_Mod_sized 5 0 0 sz [.ref mo, .int tg, .int y] [(mo, .inr (9, [.ref xm, .ref xs, .ref xt, .ref xk, .ref xp, .ref xr, .ref xc, .ref xu, .ref xe, .ref xb, .ref xa, .ref xl, .ref xg, .int pl, .int ft, .int tw, .int inn, .int bd, .int py, .ref x1, .ref x2, .ref x3, .ref x4, .int ap, .ref xq, .int qd, .ref xz, .ref xd, .int ds, .int fl, .int (nI t4)])), (xm, .inl (cA 0, 300, .inl (nJ M))), (xs, .inl (cA 0, 5, .inl (nJ Z)))] (fun v_ w_ => ∃ (ft9 : Int32), ∃ (tw9 : Int32), ∃ (in9 : Int32), ∃ (b9 : Int32), ∃ (u9 : Nat), v_ = some (.int (f_Mod_sized acc tg y)) ∧ w_ = [(mo, .inr (9, [.ref xm, .ref xs, .ref xt, .ref xk, .ref xp, .ref xr, .ref xc, .ref xu, .ref xe, .ref xb, .ref xa, .ref xl, .ref xg, .int pl, .int ft9, .int tw9, .int in9, .int b9, .int py, .ref x1, .ref x2, .ref x3, .ref x4, .int ap, .ref xq, .int qd, .ref xz, .ref xd, .int ds, .int fl, .int (nI u9)])), (xm, .inl (cA 0, 300, .inl (nJ M))), (xs, .inl (cA 0, 5, .inl (nJ Z)))]) := by
  refine gw_met (by decide) rfl (Nat.le_of_ble_eq_true rfl) ?_
  intro p_ e_ s_ m_ args_ below_ meth_ c_ A_ S g_r g_k g_n hK hA
  refine gw_eq (ws' := [(mo, .inr (9, [.ref xm, .ref xs, .ref xt, .ref xk, .ref xp, .ref xr, .ref xc, .ref xu, .ref xe, .ref xb, .ref xa, .ref xl, .ref xg, .int pl, .int ft, .int tw, .int inn, .int bd, .int py, .ref x1, .ref x2, .ref x3, .ref x4, .int ap, .ref xq, .int qd, .ref xz, .ref xd, .int ds, .int fl, .int (nI t4)])), (xm, .inl (cA 0, 300, .inl (nJ M))), (xs, .inl (cA 0, 5, .inl (nJ Z)))]) (lv' := [(0, .ref mo), (1, .int tg), (2, .int y)]) (st' := []) (pc' := 0) rfl rfl rfl rfl ?_
  refine gw_aload_n S dc_Mod_sized_0 rfl 0 rfl ?_
  refine gw_iconst (v := 4) S dc_Mod_sized_1 (by decide) ?_
  refine gw_iload_n S dc_Mod_sized_2 rfl 1 rfl ?_
  refine gw_callV (As := [.int 4, .int tg]) (st := []) (wr := []) S hK hA (fun sz => c_Mod_has2 l D cA sz mo xm xs xt xk xp xr xc xu xe xb xa xl xg x1 x2 x3 x4 xq xz xd pl ft tw inn bd py ap qd ds fl t4 M Z 4 tg acc (by decide) (by assumption) (by assumption) (by assumption)) (cw_Mod_97 S.2.2.2.2 rfl rfl ⟨Nat.le_of_ble_eq_true rfl, Nat.le_of_ble_eq_true rfl⟩) [0, 1, 2] [] rfl (by decide) rfl (by decide) (by decide) 0 rfl rfl rfl rfl rfl (Nat.le_of_ble_eq_true rfl) dc_Mod_sized_3 ⟨Nat.le_of_ble_eq_true rfl, Nat.le_of_ble_eq_true rfl⟩ ?_
  rintro _ _ ⟨b9_1, u9_2, rfl, rfl⟩
  refine gw_eq (ws' := [(mo, .inr (9, [.ref xm, .ref xs, .ref xt, .ref xk, .ref xp, .ref xr, .ref xc, .ref xu, .ref xe, .ref xb, .ref xa, .ref xl, .ref xg, .int pl, .int (so_f (fo_s acc tg)), .int (so_t (fo_s acc tg)), .int (so_i (fo_s acc tg)), .int b9_1, .int py, .ref x1, .ref x2, .ref x3, .ref x4, .int ap, .ref xq, .int qd, .ref xz, .ref xd, .int ds, .int fl, .int (nI u9_2)])), (xm, .inl (cA 0, 300, .inl (nJ M))), (xs, .inl (cA 0, 5, .inl (nJ Z)))]) (lv' := [(0, .ref mo), (1, .int tg), (2, .int y)]) (st' := [.int (so_v (fo_s acc tg))]) (pc' := 6) rfl rfl rfl rfl ?_
  refine gw_if_eq (tgt := 17) S dc_Mod_sized_6 (by decide) (fun c_3 => ?_) (fun c_3 => ?_)
  · -- taken
    refine gw_iconst (v := 1) S dc_Mod_sized_17 (by decide) ?_
    refine gw_goto (tgt := 22) S dc_Mod_sized_18 (by decide) ?_
    exact gw_zret (w := [(mo, .inr (9, [.ref xm, .ref xs, .ref xt, .ref xk, .ref xp, .ref xr, .ref xc, .ref xu, .ref xe, .ref xb, .ref xa, .ref xl, .ref xg, .int pl, .int (so_f (fo_s acc tg)), .int (so_t (fo_s acc tg)), .int (so_i (fo_s acc tg)), .int b9_1, .int py, .ref x1, .ref x2, .ref x3, .ref x4, .int ap, .ref xq, .int qd, .ref xz, .ref xd, .int ds, .int fl, .int (nI u9_2)])), (xm, .inl (cA 0, 300, .inl (nJ M))), (xs, .inl (cA 0, 5, .inl (nJ Z)))]) S g_r g_k rfl [0, 1, 2] rfl (by decide) ⟨so_f (fo_s acc tg), so_t (fo_s acc tg), so_i (fo_s acc tg), b9_1, u9_2, (by simp only [f_Mod_sized, if_pos c_3]), (by simp only [f_Mod_sized, if_pos c_3])⟩ dc_Mod_sized_22
  · -- not
    refine gw_aload_n S dc_Mod_sized_9 rfl 0 rfl ?_
    refine gw_callVR (As := []) (st := []) S hK (c_Mod_bytes l D cA mo xm xs xt xk xp xr xc xu xe xb xa xl xg x1 x2 x3 x4 xq xz xd pl (so_f (fo_s acc tg)) (so_t (fo_s acc tg)) (so_i (fo_s acc tg)) b9_1 py ap qd ds fl u9_2 ) (cw_Mod_105 S.2.2.2.2 rfl rfl ⟨Nat.le_of_ble_eq_true rfl, Nat.le_of_ble_eq_true rfl⟩) [0] rfl (by decide) 0 rfl rfl rfl rfl rfl (Nat.le_of_ble_eq_true rfl) dc_Mod_sized_10 ⟨Nat.le_of_ble_eq_true rfl, Nat.le_of_ble_eq_true rfl⟩ ?_
    rintro _ rfl
    refine gw_eq (ws' := [(mo, .inr (9, [.ref xm, .ref xs, .ref xt, .ref xk, .ref xp, .ref xr, .ref xc, .ref xu, .ref xe, .ref xb, .ref xa, .ref xl, .ref xg, .int pl, .int (so_f (fo_s acc tg)), .int (so_t (fo_s acc tg)), .int (so_i (fo_s acc tg)), .int b9_1, .int py, .ref x1, .ref x2, .ref x3, .ref x4, .int ap, .ref xq, .int qd, .ref xz, .ref xd, .int ds, .int fl, .int (nI u9_2)])), (xm, .inl (cA 0, 300, .inl (nJ M))), (xs, .inl (cA 0, 5, .inl (nJ Z)))]) (lv' := [(0, .ref mo), (1, .int tg), (2, .int y)]) (st' := [.int ((so_t (fo_s acc tg)) - (so_f (fo_s acc tg)))]) (pc' := 13) rfl rfl rfl rfl ?_
    refine gw_iload_n S dc_Mod_sized_13 rfl 2 rfl ?_
    refine gw_icmp_ne (tgt := 21) S dc_Mod_sized_14 (by decide) (fun c_5 => ?_) (fun c_5 => ?_)
    · -- taken
      refine gw_iconst (v := 0) S dc_Mod_sized_21 (by decide) ?_
      exact gw_zret (w := [(mo, .inr (9, [.ref xm, .ref xs, .ref xt, .ref xk, .ref xp, .ref xr, .ref xc, .ref xu, .ref xe, .ref xb, .ref xa, .ref xl, .ref xg, .int pl, .int (so_f (fo_s acc tg)), .int (so_t (fo_s acc tg)), .int (so_i (fo_s acc tg)), .int b9_1, .int py, .ref x1, .ref x2, .ref x3, .ref x4, .int ap, .ref xq, .int qd, .ref xz, .ref xd, .int ds, .int fl, .int (nI u9_2)])), (xm, .inl (cA 0, 300, .inl (nJ M))), (xs, .inl (cA 0, 5, .inl (nJ Z)))]) S g_r g_k rfl [0, 1, 2] rfl (by decide) ⟨so_f (fo_s acc tg), so_t (fo_s acc tg), so_i (fo_s acc tg), b9_1, u9_2, (by simp only [f_Mod_sized, if_neg c_3, if_neg c_5]), (by simp only [f_Mod_sized, if_neg c_3, if_neg c_5])⟩ dc_Mod_sized_22
    · -- not
      refine gw_iconst (v := 1) S dc_Mod_sized_17 (by decide) ?_
      refine gw_goto (tgt := 22) S dc_Mod_sized_18 (by decide) ?_
      exact gw_zret (w := [(mo, .inr (9, [.ref xm, .ref xs, .ref xt, .ref xk, .ref xp, .ref xr, .ref xc, .ref xu, .ref xe, .ref xb, .ref xa, .ref xl, .ref xg, .int pl, .int (so_f (fo_s acc tg)), .int (so_t (fo_s acc tg)), .int (so_i (fo_s acc tg)), .int b9_1, .int py, .ref x1, .ref x2, .ref x3, .ref x4, .int ap, .ref xq, .int qd, .ref xz, .ref xd, .int ds, .int fl, .int (nI u9_2)])), (xm, .inl (cA 0, 300, .inl (nJ M))), (xs, .inl (cA 0, 5, .inl (nJ Z)))]) S g_r g_k rfl [0, 1, 2] rfl (by decide) ⟨so_f (fo_s acc tg), so_t (fo_s acc tg), so_i (fo_s acc tg), b9_1, u9_2, (by simp only [f_Mod_sized, if_neg c_3, if_pos c_5]), (by simp only [f_Mod_sized, if_neg c_3, if_pos c_5])⟩ dc_Mod_sized_22
noncomputable def Mod_list_s (M : Nat → Nat) (acc : List ob_T) (x_ : Nat × Nat × Nat) : (Int32) ⊕ (Nat × Nat × Nat) := match x_ with
  | (p, n, u) => if (nI (sn_f (fo_s acc 140) + sn_n (fo_s acc 140))) ≤ (nI p) then (if 8 < (nI n) then (.inl 0) else (if 40 < (nI u) then (.inl 0) else (.inl 1))) else (if ((nI (bt M 4 p)) &&& 31) = 31 then (if (nI (sn_f (fo_s acc 140) + sn_n (fo_s acc 140))) ≤ (nI (p + 1)) then (.inl 0) else (if (nI (bt M 4 (p + 1))) ≤ 127 then (if (nI ((p + 1) + 1)) < (nI (sn_f (fo_s acc 140) + sn_n (fo_s acc 140))) then (.inr (((p + 1) + 1) + 1, n + 1, u + (bt M 4 ((p + 1) + 1)))) else (.inl 0)) else (.inl 0))) else (if (nI (p + 1)) < (nI (sn_f (fo_s acc 140) + sn_n (fo_s acc 140))) then (.inr ((p + 1) + 1, n + 1, u + (bt M 4 (p + 1)))) else (.inl 0)))
noncomputable def Mod_list_f (M : Nat → Nat) (acc : List ob_T) : Nat → (Nat × Nat × Nat) → Int32
  | 0, _ => 0
  | k_ + 1, xx_ => match Mod_list_s M acc xx_ with
    | .inl rr_ => rr_
    | .inr yy_ => Mod_list_f M acc k_ yy_
theorem Mod_list_n {M : Nat → Nat} {acc : List ob_T} {k_ : Nat} {xx_ yy_ : Nat × Nat × Nat} (h_ : Mod_list_s M acc xx_ = .inr yy_) : Mod_list_f M acc (k_ + 1) xx_ = Mod_list_f M acc k_ yy_ := by rw [Mod_list_f, h_]
theorem Mod_list_d {M : Nat → Nat} {acc : List ob_T} {k_ : Nat} {xx_ : Nat × Nat × Nat} {rr_ : Int32} (h_ : Mod_list_s M acc xx_ = .inl rr_) : Mod_list_f M acc (k_ + 1) xx_ = rr_ := by rw [Mod_list_f, h_]
noncomputable def Mod_list_r (M : Nat → Nat) (acc : List ob_T) : Int32 := if (so_v (fo_s acc 140)) = 0 then 0 else (Mod_list_f M acc ((sn_f (fo_s acc 140) + sn_n (fo_s acc 140) - (sn_f (fo_s acc 140))) + 1) (sn_f (fo_s acc 140), 0, 0))
set_option maxRecDepth 100000 in
set_option maxHeartbeats 4000000 in
theorem c_Mod_list (l : Launch) (D : va_G) (cA : Nat → ClassId) (sz : Nat) (mo : Nat) (xm : Nat) (xs : Nat) (xt : Nat) (xk : Nat) (xp : Nat) (xr : Nat) (xc : Nat) (xu : Nat) (xe : Nat) (xb : Nat) (xa : Nat) (xl : Nat) (xg : Nat) (x1 : Nat) (x2 : Nat) (x3 : Nat) (x4 : Nat) (xq : Nat) (xz : Nat) (xd : Nat) (pl : Int32) (ft : Int32) (tw : Int32) (inn : Int32) (bd : Int32) (py : Int32) (ap : Int32) (qd : Int32) (ds : Int32) (fl : Int32) (t4 : Nat) (M : Nat → Nat) (Z : Nat → Nat) (acc : List ob_T) (hZ : Z 4 ≤ 60) (hB : ∀ j, M j ≤ 255) (hA : pm_r M Z 4 = .inr acc) : ct_M l D cA yn_Mod_list cd_Mod_list 5 0 0 sz [.ref mo] [(mo, .inr (9, [.ref xm, .ref xs, .ref xt, .ref xk, .ref xp, .ref xr, .ref xc, .ref xu, .ref xe, .ref xb, .ref xa, .ref xl, .ref xg, .int pl, .int ft, .int tw, .int inn, .int bd, .int py, .ref x1, .ref x2, .ref x3, .ref x4, .int ap, .ref xq, .int qd, .ref xz, .ref xd, .int ds, .int fl, .int (nI t4)])), (xm, .inl (cA 0, 300, .inl (nJ M))), (xs, .inl (cA 0, 5, .inl (nJ Z)))] (fun v_ w_ => ∃ (ft9 : Int32), ∃ (tw9 : Int32), ∃ (in9 : Int32), ∃ (b9 : Int32), ∃ (u9 : Nat), v_ = some (.int (Mod_list_r M acc)) ∧ w_ = [(mo, .inr (9, [.ref xm, .ref xs, .ref xt, .ref xk, .ref xp, .ref xr, .ref xc, .ref xu, .ref xe, .ref xb, .ref xa, .ref xl, .ref xg, .int pl, .int ft9, .int tw9, .int in9, .int b9, .int py, .ref x1, .ref x2, .ref x3, .ref x4, .int ap, .ref xq, .int qd, .ref xz, .ref xd, .int ds, .int fl, .int (nI u9)])), (xm, .inl (cA 0, 300, .inl (nJ M))), (xs, .inl (cA 0, 5, .inl (nJ Z)))]) := by
  refine gw_met (by decide) rfl (Nat.le_of_ble_eq_true rfl) ?_
  intro p_ e_ s_ m_ args_ below_ meth_ c_ A_ S g_r g_k g_n hK hA
  refine gw_eq (ws' := [(mo, .inr (9, [.ref xm, .ref xs, .ref xt, .ref xk, .ref xp, .ref xr, .ref xc, .ref xu, .ref xe, .ref xb, .ref xa, .ref xl, .ref xg, .int pl, .int ft, .int tw, .int inn, .int bd, .int py, .ref x1, .ref x2, .ref x3, .ref x4, .int ap, .ref xq, .int qd, .ref xz, .ref xd, .int ds, .int fl, .int (nI t4)])), (xm, .inl (cA 0, 300, .inl (nJ M))), (xs, .inl (cA 0, 5, .inl (nJ Z)))]) (lv' := [(0, .ref mo)]) (st' := []) (pc' := 0) rfl rfl rfl rfl ?_
  refine gw_aload_n S dc_Mod_list_0 rfl 0 rfl ?_
  refine gw_iconst (v := 4) S dc_Mod_list_1 (by decide) ?_
  refine gw_sipush (v := 140) S dc_Mod_list_2 (by decide) ?_
  refine gw_callV (As := [.int 4, .int 140]) (st := []) (wr := []) S hK hA (fun sz => c_Mod_has2 l D cA sz mo xm xs xt xk xp xr xc xu xe xb xa xl xg x1 x2 x3 x4 xq xz xd pl ft tw inn bd py ap qd ds fl t4 M Z 4 140 acc (by decide) (by assumption) (by assumption) (by assumption)) (cw_Mod_97 S.2.2.2.2 rfl rfl ⟨Nat.le_of_ble_eq_true rfl, Nat.le_of_ble_eq_true rfl⟩) [0, 1, 2] [] rfl (by decide) rfl (by decide) (by decide) 0 rfl rfl rfl rfl rfl (Nat.le_of_ble_eq_true rfl) dc_Mod_list_5 ⟨Nat.le_of_ble_eq_true rfl, Nat.le_of_ble_eq_true rfl⟩ ?_
  rintro _ _ ⟨b9_1, u9_2, rfl, rfl⟩
  refine gw_eq (ws' := [(mo, .inr (9, [.ref xm, .ref xs, .ref xt, .ref xk, .ref xp, .ref xr, .ref xc, .ref xu, .ref xe, .ref xb, .ref xa, .ref xl, .ref xg, .int pl, .int (so_f (fo_s acc 140)), .int (so_t (fo_s acc 140)), .int (so_i (fo_s acc 140)), .int b9_1, .int py, .ref x1, .ref x2, .ref x3, .ref x4, .int ap, .ref xq, .int qd, .ref xz, .ref xd, .int ds, .int fl, .int (nI u9_2)])), (xm, .inl (cA 0, 300, .inl (nJ M))), (xs, .inl (cA 0, 5, .inl (nJ Z)))]) (lv' := [(0, .ref mo)]) (st' := [.int (so_v (fo_s acc 140))]) (pc' := 8) rfl rfl rfl rfl ?_
  refine gw_if_ne (tgt := 13) S dc_Mod_list_8 (by decide) (fun c_3 => ?_) (fun c_3 => ?_)
  · -- taken
    obtain ⟨hf9, ht9⟩ := so_fn c_3
    have hl9 := sn_le (M := M) (Z := Z) (ar := 4) (tg := 140) hZ hB (by assumption)
    refine gw_aload_n S dc_Mod_list_13 rfl 0 rfl ?_
    refine gw_get S hK.1 ic_Mod rfl 14 (by decide) (gw_lk S mw_794) 0 rfl rfl dc_Mod_list_14 ?_
    refine gw_eq (ws' := [(mo, .inr (9, [.ref xm, .ref xs, .ref xt, .ref xk, .ref xp, .ref xr, .ref xc, .ref xu, .ref xe, .ref xb, .ref xa, .ref xl, .ref xg, .int pl, .int (so_f (fo_s acc 140)), .int (so_t (fo_s acc 140)), .int (so_i (fo_s acc 140)), .int b9_1, .int py, .ref x1, .ref x2, .ref x3, .ref x4, .int ap, .ref xq, .int qd, .ref xz, .ref xd, .int ds, .int fl, .int (nI u9_2)])), (xm, .inl (cA 0, 300, .inl (nJ M))), (xs, .inl (cA 0, 5, .inl (nJ Z)))]) (lv' := [(0, .ref mo)]) (st' := [.int (nI (sn_f (fo_s acc 140)))]) rfl rfl (by rw [hf9]) rfl ?_
    refine gw_istore_n (lv' := [(1, .int (nI (sn_f (fo_s acc 140)))), (0, .ref mo)]) S dc_Mod_list_17 rfl (by decide) rfl ?_
    refine gw_iconst (v := 0) S dc_Mod_list_18 (by decide) ?_
    refine gw_istore_n (lv' := [(2, .int 0), (1, .int (nI (sn_f (fo_s acc 140)))), (0, .ref mo)]) S dc_Mod_list_19 rfl (by decide) rfl ?_
    refine gw_iconst (v := 0) S dc_Mod_list_20 (by decide) ?_
    refine gw_istore_n (lv' := [(3, .int 0), (2, .int 0), (1, .int (nI (sn_f (fo_s acc 140)))), (0, .ref mo)]) S dc_Mod_list_21 rfl (by decide) rfl ?_
    refine gw_drop [3, 2, 1, 0] (lv' := [(0, .ref mo), (1, .int (nI (sn_f (fo_s acc 140)))), (2, .int 0), (3, .int 0)]) rfl ?_
    refine gw_loop (σ := Nat × Nat × Nat × Nat) (fun (x_ : Nat × Nat × Nat × Nat) => match x_ with | (k9, p, n, u) => (sn_f (fo_s acc 140) + sn_n (fo_s acc 140) - p < k9) ∧ (Mod_list_r M acc = Mod_list_f M acc k9 (p, n, u)) ∧ (p ≤ sn_f (fo_s acc 140) + sn_n (fo_s acc 140))) (fun (x_ : Nat × Nat × Nat × Nat) => match x_ with | (k9, p, n, u) => sn_f (fo_s acc 140) + sn_n (fo_s acc 140) - p) (fun (x_ : Nat × Nat × Nat × Nat) => match x_ with | (k9, p, n, u) => [(mo, .inr (9, [.ref xm, .ref xs, .ref xt, .ref xk, .ref xp, .ref xr, .ref xc, .ref xu, .ref xe, .ref xb, .ref xa, .ref xl, .ref xg, .int pl, .int (so_f (fo_s acc 140)), .int (so_t (fo_s acc 140)), .int (so_i (fo_s acc 140)), .int b9_1, .int py, .ref x1, .ref x2, .ref x3, .ref x4, .int ap, .ref xq, .int qd, .ref xz, .ref xd, .int ds, .int fl, .int (nI u9_2)])), (xm, .inl (cA 0, 300, .inl (nJ M))), (xs, .inl (cA 0, 5, .inl (nJ Z)))]) (fun (x_ : Nat × Nat × Nat × Nat) => match x_ with | (k9, p, n, u) => [(0, .ref mo), (1, .int (nI p)), (2, .int (nI n)), (3, .int (nI u))]) ?_ ((sn_f (fo_s acc 140) + sn_n (fo_s acc 140) - (sn_f (fo_s acc 140))) + 1, sn_f (fo_s acc 140), 0, 0) ?_ rfl rfl
    rotate_left
    · exact ⟨Nat.lt_succ_self _, (by simp only [Mod_list_r, if_neg c_3]), (Nat.le_add_right _ _)⟩
    rintro ⟨k9, p, n, u⟩ ⟨hk9, hm9, hp9⟩ ih_4
    obtain ⟨q9, rfl⟩ : ∃ q, k9 = q + 1 := ⟨k9 - 1, by omega⟩
    refine gw_eq (ws' := [(mo, .inr (9, [.ref xm, .ref xs, .ref xt, .ref xk, .ref xp, .ref xr, .ref xc, .ref xu, .ref xe, .ref xb, .ref xa, .ref xl, .ref xg, .int pl, .int (so_f (fo_s acc 140)), .int (so_t (fo_s acc 140)), .int (so_i (fo_s acc 140)), .int b9_1, .int py, .ref x1, .ref x2, .ref x3, .ref x4, .int ap, .ref xq, .int qd, .ref xz, .ref xd, .int ds, .int fl, .int (nI u9_2)])), (xm, .inl (cA 0, 300, .inl (nJ M))), (xs, .inl (cA 0, 5, .inl (nJ Z)))]) (lv' := [(0, .ref mo), (1, .int (nI p)), (2, .int (nI n)), (3, .int (nI u))]) (st' := []) (pc' := 22) rfl rfl rfl rfl ?_
    refine gw_iload_n S dc_Mod_list_22 rfl 1 rfl ?_
    refine gw_aload_n S dc_Mod_list_23 rfl 0 rfl ?_
    refine gw_get S hK.1 ic_Mod rfl 15 (by decide) (gw_lk S mw_795) 0 rfl rfl dc_Mod_list_24 ?_
    refine gw_eq (ws' := [(mo, .inr (9, [.ref xm, .ref xs, .ref xt, .ref xk, .ref xp, .ref xr, .ref xc, .ref xu, .ref xe, .ref xb, .ref xa, .ref xl, .ref xg, .int pl, .int (so_f (fo_s acc 140)), .int (so_t (fo_s acc 140)), .int (so_i (fo_s acc 140)), .int b9_1, .int py, .ref x1, .ref x2, .ref x3, .ref x4, .int ap, .ref xq, .int qd, .ref xz, .ref xd, .int ds, .int fl, .int (nI u9_2)])), (xm, .inl (cA 0, 300, .inl (nJ M))), (xs, .inl (cA 0, 5, .inl (nJ Z)))]) (lv' := [(0, .ref mo), (1, .int (nI p)), (2, .int (nI n)), (3, .int (nI u))]) (st' := [.int (nI (sn_f (fo_s acc 140) + sn_n (fo_s acc 140))), .int (nI p)]) rfl rfl (by rw [ht9]) rfl ?_
    refine gw_icmp_ge (tgt := 99) S dc_Mod_list_27 (by decide) (fun c_5 => ?_) (fun c_5 => ?_)
    · -- taken
      refine gw_iload_n S dc_Mod_list_99 rfl 2 rfl ?_
      refine gw_bipush (v := 8) S dc_Mod_list_100 (by decide) ?_
      refine gw_icmp_gt (tgt := 115) S dc_Mod_list_102 (by decide) (fun c_6 => ?_) (fun c_6 => ?_)
      · -- taken
        refine gw_iconst (v := 0) S dc_Mod_list_115 (by decide) ?_
        have r9 : Mod_list_r M acc = 0 := (hm9.trans (Mod_list_d (by simp only [Mod_list_s, if_pos c_5, if_pos c_6, if_true, if_false])))
        exact gw_zret (w := [(mo, .inr (9, [.ref xm, .ref xs, .ref xt, .ref xk, .ref xp, .ref xr, .ref xc, .ref xu, .ref xe, .ref xb, .ref xa, .ref xl, .ref xg, .int pl, .int (so_f (fo_s acc 140)), .int (so_t (fo_s acc 140)), .int (so_i (fo_s acc 140)), .int b9_1, .int py, .ref x1, .ref x2, .ref x3, .ref x4, .int ap, .ref xq, .int qd, .ref xz, .ref xd, .int ds, .int fl, .int (nI u9_2)])), (xm, .inl (cA 0, 300, .inl (nJ M))), (xs, .inl (cA 0, 5, .inl (nJ Z)))]) S g_r g_k rfl [0, 1, 2] rfl (by decide) ⟨so_f (fo_s acc 140), so_t (fo_s acc 140), so_i (fo_s acc 140), b9_1, u9_2, by first | rw [r9] | rfl, by first | rw [r9] | rfl⟩ dc_Mod_list_116
      · -- not
        refine gw_iload_n S dc_Mod_list_105 rfl 3 rfl ?_
        refine gw_bipush (v := 40) S dc_Mod_list_106 (by decide) ?_
        refine gw_icmp_gt (tgt := 115) S dc_Mod_list_108 (by decide) (fun c_7 => ?_) (fun c_7 => ?_)
        · -- taken
          refine gw_iconst (v := 0) S dc_Mod_list_115 (by decide) ?_
          have r9 : Mod_list_r M acc = 0 := (hm9.trans (Mod_list_d (by simp only [Mod_list_s, if_pos c_5, if_neg c_6, if_pos c_7, if_true, if_false])))
          exact gw_zret (w := [(mo, .inr (9, [.ref xm, .ref xs, .ref xt, .ref xk, .ref xp, .ref xr, .ref xc, .ref xu, .ref xe, .ref xb, .ref xa, .ref xl, .ref xg, .int pl, .int (so_f (fo_s acc 140)), .int (so_t (fo_s acc 140)), .int (so_i (fo_s acc 140)), .int b9_1, .int py, .ref x1, .ref x2, .ref x3, .ref x4, .int ap, .ref xq, .int qd, .ref xz, .ref xd, .int ds, .int fl, .int (nI u9_2)])), (xm, .inl (cA 0, 300, .inl (nJ M))), (xs, .inl (cA 0, 5, .inl (nJ Z)))]) S g_r g_k rfl [0, 1, 2] rfl (by decide) ⟨so_f (fo_s acc 140), so_t (fo_s acc 140), so_i (fo_s acc 140), b9_1, u9_2, by first | rw [r9] | rfl, by first | rw [r9] | rfl⟩ dc_Mod_list_116
        · -- not
          refine gw_iconst (v := 1) S dc_Mod_list_111 (by decide) ?_
          refine gw_goto (tgt := 116) S dc_Mod_list_112 (by decide) ?_
          have r9 : Mod_list_r M acc = 1 := (hm9.trans (Mod_list_d (by simp only [Mod_list_s, if_pos c_5, if_neg c_6, if_neg c_7, if_true, if_false])))
          exact gw_zret (w := [(mo, .inr (9, [.ref xm, .ref xs, .ref xt, .ref xk, .ref xp, .ref xr, .ref xc, .ref xu, .ref xe, .ref xb, .ref xa, .ref xl, .ref xg, .int pl, .int (so_f (fo_s acc 140)), .int (so_t (fo_s acc 140)), .int (so_i (fo_s acc 140)), .int b9_1, .int py, .ref x1, .ref x2, .ref x3, .ref x4, .int ap, .ref xq, .int qd, .ref xz, .ref xd, .int ds, .int fl, .int (nI u9_2)])), (xm, .inl (cA 0, 300, .inl (nJ M))), (xs, .inl (cA 0, 5, .inl (nJ Z)))]) S g_r g_k rfl [0, 1, 2] rfl (by decide) ⟨so_f (fo_s acc 140), so_t (fo_s acc 140), so_i (fo_s acc 140), b9_1, u9_2, by first | rw [r9] | rfl, by first | rw [r9] | rfl⟩ dc_Mod_list_116
    · -- not
      have hp1 : p < sn_f (fo_s acc 140) + sn_n (fo_s acc 140) := lp_lt rfl (by omega) c_5
      refine gw_aload_n S dc_Mod_list_30 rfl 0 rfl ?_
      refine gw_iconst (v := 4) S dc_Mod_list_31 (by decide) ?_
      refine gw_iload_n S dc_Mod_list_32 rfl 1 rfl ?_
      refine gw_callVR (As := [.int 4, .int (nI p)]) (st := []) S hK (c_Mod_at l D cA mo xm xs xt xk xp xr xc xu xe xb xa xl xg x1 x2 x3 x4 xq xz xd pl (so_f (fo_s acc 140)) (so_t (fo_s acc 140)) (so_i (fo_s acc 140)) b9_1 py ap qd ds fl u9_2 M 4 p (by omega)) (cw_Mod_90 S.2.2.2.2 rfl rfl ⟨Nat.le_of_ble_eq_true rfl, Nat.le_of_ble_eq_true rfl⟩) [0, 1] rfl (by decide) 0 rfl rfl rfl rfl rfl (Nat.le_of_ble_eq_true rfl) dc_Mod_list_33 ⟨Nat.le_of_ble_eq_true rfl, Nat.le_of_ble_eq_true rfl⟩ ?_
      rintro _ rfl
      refine gw_eq (ws' := [(mo, .inr (9, [.ref xm, .ref xs, .ref xt, .ref xk, .ref xp, .ref xr, .ref xc, .ref xu, .ref xe, .ref xb, .ref xa, .ref xl, .ref xg, .int pl, .int (so_f (fo_s acc 140)), .int (so_t (fo_s acc 140)), .int (so_i (fo_s acc 140)), .int b9_1, .int py, .ref x1, .ref x2, .ref x3, .ref x4, .int ap, .ref xq, .int qd, .ref xz, .ref xd, .int ds, .int fl, .int (nI u9_2)])), (xm, .inl (cA 0, 300, .inl (nJ M))), (xs, .inl (cA 0, 5, .inl (nJ Z)))]) (lv' := [(0, .ref mo), (1, .int (nI p)), (2, .int (nI n)), (3, .int (nI u))]) (st' := [.int (nI (bt M 4 p))]) (pc' := 36) rfl rfl rfl rfl ?_
      refine gw_bipush (v := 31) S dc_Mod_list_36 (by decide) ?_
      refine gw_iand S dc_Mod_list_38 ?_
      refine gw_bipush (v := 31) S dc_Mod_list_39 (by decide) ?_
      refine gw_icmp_ne (tgt := 68) S dc_Mod_list_41 (by decide) (fun c_9 => ?_) (fun c_9 => ?_)
      · -- taken
        refine gw_iinc (v := nI (p + 1)) (lv' := [(1, .int (nI (p + 1))), (0, .ref mo), (2, .int (nI n)), (3, .int (nI u))]) S dc_Mod_list_68 1 rfl (nI_add _ 1) (by decide) rfl ?_
        refine gw_iload_n S dc_Mod_list_71 rfl 0 rfl ?_
        refine gw_aload_n S dc_Mod_list_72 rfl 1 rfl ?_
        refine gw_get S hK.1 ic_Mod rfl 15 (by decide) (gw_lk S mw_795) 0 rfl rfl dc_Mod_list_73 ?_
        refine gw_eq (ws' := [(mo, .inr (9, [.ref xm, .ref xs, .ref xt, .ref xk, .ref xp, .ref xr, .ref xc, .ref xu, .ref xe, .ref xb, .ref xa, .ref xl, .ref xg, .int pl, .int (so_f (fo_s acc 140)), .int (so_t (fo_s acc 140)), .int (so_i (fo_s acc 140)), .int b9_1, .int py, .ref x1, .ref x2, .ref x3, .ref x4, .int ap, .ref xq, .int qd, .ref xz, .ref xd, .int ds, .int fl, .int (nI u9_2)])), (xm, .inl (cA 0, 300, .inl (nJ M))), (xs, .inl (cA 0, 5, .inl (nJ Z)))]) (lv' := [(1, .int (nI (p + 1))), (0, .ref mo), (2, .int (nI n)), (3, .int (nI u))]) (st' := [.int (nI (sn_f (fo_s acc 140) + sn_n (fo_s acc 140))), .int (nI (p + 1))]) rfl rfl (by rw [ht9]) rfl ?_
        refine gw_icmp_lt (tgt := 81) S dc_Mod_list_76 (by decide) (fun c_10 => ?_) (fun c_10 => ?_)
        · -- taken
          have hp3 : p + 1 < sn_f (fo_s acc 140) + sn_n (fo_s acc 140) := lp_lt2 (by omega) (by omega) c_10
          refine gw_iload_n S dc_Mod_list_81 rfl 3 rfl ?_
          refine gw_aload_n S dc_Mod_list_82 rfl 1 rfl ?_
          refine gw_iconst (v := 4) S dc_Mod_list_83 (by decide) ?_
          refine gw_iload_n S dc_Mod_list_84 rfl 0 rfl ?_
          refine gw_callVR (As := [.int 4, .int (nI (p + 1))]) (st := [.int (nI u)]) S hK (c_Mod_at l D cA mo xm xs xt xk xp xr xc xu xe xb xa xl xg x1 x2 x3 x4 xq xz xd pl (so_f (fo_s acc 140)) (so_t (fo_s acc 140)) (so_i (fo_s acc 140)) b9_1 py ap qd ds fl u9_2 M 4 (p + 1) (by omega)) (cw_Mod_90 S.2.2.2.2 rfl rfl ⟨Nat.le_of_ble_eq_true rfl, Nat.le_of_ble_eq_true rfl⟩) [0, 1] rfl (by decide) 0 rfl rfl rfl rfl rfl (Nat.le_of_ble_eq_true rfl) dc_Mod_list_85 ⟨Nat.le_of_ble_eq_true rfl, Nat.le_of_ble_eq_true rfl⟩ ?_
          rintro _ rfl
          refine gw_eq (ws' := [(mo, .inr (9, [.ref xm, .ref xs, .ref xt, .ref xk, .ref xp, .ref xr, .ref xc, .ref xu, .ref xe, .ref xb, .ref xa, .ref xl, .ref xg, .int pl, .int (so_f (fo_s acc 140)), .int (so_t (fo_s acc 140)), .int (so_i (fo_s acc 140)), .int b9_1, .int py, .ref x1, .ref x2, .ref x3, .ref x4, .int ap, .ref xq, .int qd, .ref xz, .ref xd, .int ds, .int fl, .int (nI u9_2)])), (xm, .inl (cA 0, 300, .inl (nJ M))), (xs, .inl (cA 0, 5, .inl (nJ Z)))]) (lv' := [(1, .int (nI (p + 1))), (0, .ref mo), (2, .int (nI n)), (3, .int (nI u))]) (st' := [.int (nI (bt M 4 (p + 1))), .int (nI u)]) (pc' := 88) rfl rfl rfl rfl ?_
          refine gw_iaddN (a := u) (b := bt M 4 (p + 1)) S dc_Mod_list_88 ?_
          refine gw_istore_n (lv' := [(3, .int (nI (u + (bt M 4 (p + 1))))), (1, .int (nI (p + 1))), (0, .ref mo), (2, .int (nI n))]) S dc_Mod_list_89 rfl (by decide) rfl ?_
          refine gw_iinc (v := nI (n + 1)) (lv' := [(2, .int (nI (n + 1))), (3, .int (nI (u + (bt M 4 (p + 1))))), (1, .int (nI (p + 1))), (0, .ref mo)]) S dc_Mod_list_90 3 rfl (nI_add _ 1) (by decide) rfl ?_
          refine gw_iinc (v := nI ((p + 1) + 1)) (lv' := [(1, .int (nI ((p + 1) + 1))), (2, .int (nI (n + 1))), (3, .int (nI (u + (bt M 4 (p + 1))))), (0, .ref mo)]) S dc_Mod_list_93 2 rfl (nI_add _ 1) (by decide) rfl ?_
          refine gw_goto (tgt := 22) S dc_Mod_list_96 (by decide) ?_
          refine gw_drop [3, 0, 1, 2] (lv' := [(0, .ref mo), (1, .int (nI ((p + 1) + 1))), (2, .int (nI (n + 1))), (3, .int (nI (u + (bt M 4 (p + 1)))))]) rfl ?_
          have m9 : sn_f (fo_s acc 140) + sn_n (fo_s acc 140) - ((p + 1) + 1) < sn_f (fo_s acc 140) + sn_n (fo_s acc 140) - p := (by omega)
          exact ih_4 (q9, (p + 1) + 1, n + 1, u + (bt M 4 (p + 1))) ⟨by omega, hm9.trans (Mod_list_n (by simp only [Mod_list_s, if_neg c_5, if_neg c_9, if_pos c_10, if_true, if_false])), (by omega)⟩ m9
        · -- not
          refine gw_iconst (v := 0) S dc_Mod_list_79 (by decide) ?_
          have r9 : Mod_list_r M acc = 0 := (hm9.trans (Mod_list_d (by simp only [Mod_list_s, if_neg c_5, if_neg c_9, if_neg c_10, if_true, if_false])))
          exact gw_zret (w := [(mo, .inr (9, [.ref xm, .ref xs, .ref xt, .ref xk, .ref xp, .ref xr, .ref xc, .ref xu, .ref xe, .ref xb, .ref xa, .ref xl, .ref xg, .int pl, .int (so_f (fo_s acc 140)), .int (so_t (fo_s acc 140)), .int (so_i (fo_s acc 140)), .int b9_1, .int py, .ref x1, .ref x2, .ref x3, .ref x4, .int ap, .ref xq, .int qd, .ref xz, .ref xd, .int ds, .int fl, .int (nI u9_2)])), (xm, .inl (cA 0, 300, .inl (nJ M))), (xs, .inl (cA 0, 5, .inl (nJ Z)))]) S g_r g_k rfl [0, 1, 2] rfl (by decide) ⟨so_f (fo_s acc 140), so_t (fo_s acc 140), so_i (fo_s acc 140), b9_1, u9_2, by first | rw [r9] | rfl, by first | rw [r9] | rfl⟩ dc_Mod_list_80
      · -- not
        refine gw_iinc (v := nI (p + 1)) (lv' := [(1, .int (nI (p + 1))), (0, .ref mo), (2, .int (nI n)), (3, .int (nI u))]) S dc_Mod_list_44 1 rfl (nI_add _ 1) (by decide) rfl ?_
        refine gw_iload_n S dc_Mod_list_47 rfl 0 rfl ?_
        refine gw_aload_n S dc_Mod_list_48 rfl 1 rfl ?_
        refine gw_get S hK.1 ic_Mod rfl 15 (by decide) (gw_lk S mw_795) 0 rfl rfl dc_Mod_list_49 ?_
        refine gw_eq (ws' := [(mo, .inr (9, [.ref xm, .ref xs, .ref xt, .ref xk, .ref xp, .ref xr, .ref xc, .ref xu, .ref xe, .ref xb, .ref xa, .ref xl, .ref xg, .int pl, .int (so_f (fo_s acc 140)), .int (so_t (fo_s acc 140)), .int (so_i (fo_s acc 140)), .int b9_1, .int py, .ref x1, .ref x2, .ref x3, .ref x4, .int ap, .ref xq, .int qd, .ref xz, .ref xd, .int ds, .int fl, .int (nI u9_2)])), (xm, .inl (cA 0, 300, .inl (nJ M))), (xs, .inl (cA 0, 5, .inl (nJ Z)))]) (lv' := [(1, .int (nI (p + 1))), (0, .ref mo), (2, .int (nI n)), (3, .int (nI u))]) (st' := [.int (nI (sn_f (fo_s acc 140) + sn_n (fo_s acc 140))), .int (nI (p + 1))]) rfl rfl (by rw [ht9]) rfl ?_
        refine gw_icmp_ge (tgt := 66) S dc_Mod_list_52 (by decide) (fun c_12 => ?_) (fun c_12 => ?_)
        · -- taken
          refine gw_iconst (v := 0) S dc_Mod_list_66 (by decide) ?_
          have r9 : Mod_list_r M acc = 0 := (hm9.trans (Mod_list_d (by simp only [Mod_list_s, if_neg c_5, if_pos c_9, if_pos c_12, if_true, if_false])))
          exact gw_zret (w := [(mo, .inr (9, [.ref xm, .ref xs, .ref xt, .ref xk, .ref xp, .ref xr, .ref xc, .ref xu, .ref xe, .ref xb, .ref xa, .ref xl, .ref xg, .int pl, .int (so_f (fo_s acc 140)), .int (so_t (fo_s acc 140)), .int (so_i (fo_s acc 140)), .int b9_1, .int py, .ref x1, .ref x2, .ref x3, .ref x4, .int ap, .ref xq, .int qd, .ref xz, .ref xd, .int ds, .int fl, .int (nI u9_2)])), (xm, .inl (cA 0, 300, .inl (nJ M))), (xs, .inl (cA 0, 5, .inl (nJ Z)))]) S g_r g_k rfl [0, 1, 2] rfl (by decide) ⟨so_f (fo_s acc 140), so_t (fo_s acc 140), so_i (fo_s acc 140), b9_1, u9_2, by first | rw [r9] | rfl, by first | rw [r9] | rfl⟩ dc_Mod_list_67
        · -- not
          have hp2 : p + 1 < sn_f (fo_s acc 140) + sn_n (fo_s acc 140) := lp_lt rfl (by omega) c_12
          refine gw_aload_n S dc_Mod_list_55 rfl 1 rfl ?_
          refine gw_iconst (v := 4) S dc_Mod_list_56 (by decide) ?_
          refine gw_iload_n S dc_Mod_list_57 rfl 0 rfl ?_
          refine gw_callVR (As := [.int 4, .int (nI (p + 1))]) (st := []) S hK (c_Mod_at l D cA mo xm xs xt xk xp xr xc xu xe xb xa xl xg x1 x2 x3 x4 xq xz xd pl (so_f (fo_s acc 140)) (so_t (fo_s acc 140)) (so_i (fo_s acc 140)) b9_1 py ap qd ds fl u9_2 M 4 (p + 1) (by omega)) (cw_Mod_90 S.2.2.2.2 rfl rfl ⟨Nat.le_of_ble_eq_true rfl, Nat.le_of_ble_eq_true rfl⟩) [0, 1] rfl (by decide) 0 rfl rfl rfl rfl rfl (Nat.le_of_ble_eq_true rfl) dc_Mod_list_58 ⟨Nat.le_of_ble_eq_true rfl, Nat.le_of_ble_eq_true rfl⟩ ?_
          rintro _ rfl
          refine gw_eq (ws' := [(mo, .inr (9, [.ref xm, .ref xs, .ref xt, .ref xk, .ref xp, .ref xr, .ref xc, .ref xu, .ref xe, .ref xb, .ref xa, .ref xl, .ref xg, .int pl, .int (so_f (fo_s acc 140)), .int (so_t (fo_s acc 140)), .int (so_i (fo_s acc 140)), .int b9_1, .int py, .ref x1, .ref x2, .ref x3, .ref x4, .int ap, .ref xq, .int qd, .ref xz, .ref xd, .int ds, .int fl, .int (nI u9_2)])), (xm, .inl (cA 0, 300, .inl (nJ M))), (xs, .inl (cA 0, 5, .inl (nJ Z)))]) (lv' := [(1, .int (nI (p + 1))), (0, .ref mo), (2, .int (nI n)), (3, .int (nI u))]) (st' := [.int (nI (bt M 4 (p + 1)))]) (pc' := 61) rfl rfl rfl rfl ?_
          refine gw_bipush (v := 127) S dc_Mod_list_61 (by decide) ?_
          refine gw_icmp_le (tgt := 68) S dc_Mod_list_63 (by decide) (fun c_14 => ?_) (fun c_14 => ?_)
          · -- taken
            refine gw_iinc (v := nI ((p + 1) + 1)) (lv' := [(1, .int (nI ((p + 1) + 1))), (0, .ref mo), (2, .int (nI n)), (3, .int (nI u))]) S dc_Mod_list_68 0 rfl (nI_add _ 1) (by decide) rfl ?_
            refine gw_iload_n S dc_Mod_list_71 rfl 0 rfl ?_
            refine gw_aload_n S dc_Mod_list_72 rfl 1 rfl ?_
            refine gw_get S hK.1 ic_Mod rfl 15 (by decide) (gw_lk S mw_795) 0 rfl rfl dc_Mod_list_73 ?_
            refine gw_eq (ws' := [(mo, .inr (9, [.ref xm, .ref xs, .ref xt, .ref xk, .ref xp, .ref xr, .ref xc, .ref xu, .ref xe, .ref xb, .ref xa, .ref xl, .ref xg, .int pl, .int (so_f (fo_s acc 140)), .int (so_t (fo_s acc 140)), .int (so_i (fo_s acc 140)), .int b9_1, .int py, .ref x1, .ref x2, .ref x3, .ref x4, .int ap, .ref xq, .int qd, .ref xz, .ref xd, .int ds, .int fl, .int (nI u9_2)])), (xm, .inl (cA 0, 300, .inl (nJ M))), (xs, .inl (cA 0, 5, .inl (nJ Z)))]) (lv' := [(1, .int (nI ((p + 1) + 1))), (0, .ref mo), (2, .int (nI n)), (3, .int (nI u))]) (st' := [.int (nI (sn_f (fo_s acc 140) + sn_n (fo_s acc 140))), .int (nI ((p + 1) + 1))]) rfl rfl (by rw [ht9]) rfl ?_
            refine gw_icmp_lt (tgt := 81) S dc_Mod_list_76 (by decide) (fun c_15 => ?_) (fun c_15 => ?_)
            · -- taken
              have hp3 : (p + 1) + 1 < sn_f (fo_s acc 140) + sn_n (fo_s acc 140) := lp_lt2 (by omega) (by omega) c_15
              refine gw_iload_n S dc_Mod_list_81 rfl 3 rfl ?_
              refine gw_aload_n S dc_Mod_list_82 rfl 1 rfl ?_
              refine gw_iconst (v := 4) S dc_Mod_list_83 (by decide) ?_
              refine gw_iload_n S dc_Mod_list_84 rfl 0 rfl ?_
              refine gw_callVR (As := [.int 4, .int (nI ((p + 1) + 1))]) (st := [.int (nI u)]) S hK (c_Mod_at l D cA mo xm xs xt xk xp xr xc xu xe xb xa xl xg x1 x2 x3 x4 xq xz xd pl (so_f (fo_s acc 140)) (so_t (fo_s acc 140)) (so_i (fo_s acc 140)) b9_1 py ap qd ds fl u9_2 M 4 ((p + 1) + 1) (by omega)) (cw_Mod_90 S.2.2.2.2 rfl rfl ⟨Nat.le_of_ble_eq_true rfl, Nat.le_of_ble_eq_true rfl⟩) [0, 1] rfl (by decide) 0 rfl rfl rfl rfl rfl (Nat.le_of_ble_eq_true rfl) dc_Mod_list_85 ⟨Nat.le_of_ble_eq_true rfl, Nat.le_of_ble_eq_true rfl⟩ ?_
              rintro _ rfl
              refine gw_eq (ws' := [(mo, .inr (9, [.ref xm, .ref xs, .ref xt, .ref xk, .ref xp, .ref xr, .ref xc, .ref xu, .ref xe, .ref xb, .ref xa, .ref xl, .ref xg, .int pl, .int (so_f (fo_s acc 140)), .int (so_t (fo_s acc 140)), .int (so_i (fo_s acc 140)), .int b9_1, .int py, .ref x1, .ref x2, .ref x3, .ref x4, .int ap, .ref xq, .int qd, .ref xz, .ref xd, .int ds, .int fl, .int (nI u9_2)])), (xm, .inl (cA 0, 300, .inl (nJ M))), (xs, .inl (cA 0, 5, .inl (nJ Z)))]) (lv' := [(1, .int (nI ((p + 1) + 1))), (0, .ref mo), (2, .int (nI n)), (3, .int (nI u))]) (st' := [.int (nI (bt M 4 ((p + 1) + 1))), .int (nI u)]) (pc' := 88) rfl rfl rfl rfl ?_
              refine gw_iaddN (a := u) (b := bt M 4 ((p + 1) + 1)) S dc_Mod_list_88 ?_
              refine gw_istore_n (lv' := [(3, .int (nI (u + (bt M 4 ((p + 1) + 1))))), (1, .int (nI ((p + 1) + 1))), (0, .ref mo), (2, .int (nI n))]) S dc_Mod_list_89 rfl (by decide) rfl ?_
              refine gw_iinc (v := nI (n + 1)) (lv' := [(2, .int (nI (n + 1))), (3, .int (nI (u + (bt M 4 ((p + 1) + 1))))), (1, .int (nI ((p + 1) + 1))), (0, .ref mo)]) S dc_Mod_list_90 3 rfl (nI_add _ 1) (by decide) rfl ?_
              refine gw_iinc (v := nI (((p + 1) + 1) + 1)) (lv' := [(1, .int (nI (((p + 1) + 1) + 1))), (2, .int (nI (n + 1))), (3, .int (nI (u + (bt M 4 ((p + 1) + 1))))), (0, .ref mo)]) S dc_Mod_list_93 2 rfl (nI_add _ 1) (by decide) rfl ?_
              refine gw_goto (tgt := 22) S dc_Mod_list_96 (by decide) ?_
              refine gw_drop [3, 0, 1, 2] (lv' := [(0, .ref mo), (1, .int (nI (((p + 1) + 1) + 1))), (2, .int (nI (n + 1))), (3, .int (nI (u + (bt M 4 ((p + 1) + 1)))))]) rfl ?_
              have m9 : sn_f (fo_s acc 140) + sn_n (fo_s acc 140) - (((p + 1) + 1) + 1) < sn_f (fo_s acc 140) + sn_n (fo_s acc 140) - p := (by omega)
              exact ih_4 (q9, ((p + 1) + 1) + 1, n + 1, u + (bt M 4 ((p + 1) + 1))) ⟨by omega, hm9.trans (Mod_list_n (by simp only [Mod_list_s, if_neg c_5, if_pos c_9, if_neg c_12, if_pos c_14, if_pos c_15, if_true, if_false])), (by omega)⟩ m9
            · -- not
              refine gw_iconst (v := 0) S dc_Mod_list_79 (by decide) ?_
              have r9 : Mod_list_r M acc = 0 := (hm9.trans (Mod_list_d (by simp only [Mod_list_s, if_neg c_5, if_pos c_9, if_neg c_12, if_pos c_14, if_neg c_15, if_true, if_false])))
              exact gw_zret (w := [(mo, .inr (9, [.ref xm, .ref xs, .ref xt, .ref xk, .ref xp, .ref xr, .ref xc, .ref xu, .ref xe, .ref xb, .ref xa, .ref xl, .ref xg, .int pl, .int (so_f (fo_s acc 140)), .int (so_t (fo_s acc 140)), .int (so_i (fo_s acc 140)), .int b9_1, .int py, .ref x1, .ref x2, .ref x3, .ref x4, .int ap, .ref xq, .int qd, .ref xz, .ref xd, .int ds, .int fl, .int (nI u9_2)])), (xm, .inl (cA 0, 300, .inl (nJ M))), (xs, .inl (cA 0, 5, .inl (nJ Z)))]) S g_r g_k rfl [0, 1, 2] rfl (by decide) ⟨so_f (fo_s acc 140), so_t (fo_s acc 140), so_i (fo_s acc 140), b9_1, u9_2, by first | rw [r9] | rfl, by first | rw [r9] | rfl⟩ dc_Mod_list_80
          · -- not
            refine gw_iconst (v := 0) S dc_Mod_list_66 (by decide) ?_
            have r9 : Mod_list_r M acc = 0 := (hm9.trans (Mod_list_d (by simp only [Mod_list_s, if_neg c_5, if_pos c_9, if_neg c_12, if_neg c_14, if_true, if_false])))
            exact gw_zret (w := [(mo, .inr (9, [.ref xm, .ref xs, .ref xt, .ref xk, .ref xp, .ref xr, .ref xc, .ref xu, .ref xe, .ref xb, .ref xa, .ref xl, .ref xg, .int pl, .int (so_f (fo_s acc 140)), .int (so_t (fo_s acc 140)), .int (so_i (fo_s acc 140)), .int b9_1, .int py, .ref x1, .ref x2, .ref x3, .ref x4, .int ap, .ref xq, .int qd, .ref xz, .ref xd, .int ds, .int fl, .int (nI u9_2)])), (xm, .inl (cA 0, 300, .inl (nJ M))), (xs, .inl (cA 0, 5, .inl (nJ Z)))]) S g_r g_k rfl [0, 1, 2] rfl (by decide) ⟨so_f (fo_s acc 140), so_t (fo_s acc 140), so_i (fo_s acc 140), b9_1, u9_2, by first | rw [r9] | rfl, by first | rw [r9] | rfl⟩ dc_Mod_list_67
  · -- not
    refine gw_iconst (v := 0) S dc_Mod_list_11 (by decide) ?_
    have r9 : Mod_list_r M acc = 0 := (by simp only [Mod_list_r, if_pos c_3])
    exact gw_zret (w := [(mo, .inr (9, [.ref xm, .ref xs, .ref xt, .ref xk, .ref xp, .ref xr, .ref xc, .ref xu, .ref xe, .ref xb, .ref xa, .ref xl, .ref xg, .int pl, .int (so_f (fo_s acc 140)), .int (so_t (fo_s acc 140)), .int (so_i (fo_s acc 140)), .int b9_1, .int py, .ref x1, .ref x2, .ref x3, .ref x4, .int ap, .ref xq, .int qd, .ref xz, .ref xd, .int ds, .int fl, .int (nI u9_2)])), (xm, .inl (cA 0, 300, .inl (nJ M))), (xs, .inl (cA 0, 5, .inl (nJ Z)))]) S g_r g_k rfl [0, 1, 2] rfl (by decide) ⟨so_f (fo_s acc 140), so_t (fo_s acc 140), so_i (fo_s acc 140), b9_1, u9_2, by first | rw [r9] | rfl, by first | rw [r9] | rfl⟩ dc_Mod_list_12
