/-- where a found object's value begins, how long it is -/
def sn_f (o : Option (Nat × Nat × Nat)) : Nat := match o with
  | none => 0
  | some x => x.1
def sn_n (o : Option (Nat × Nat × Nat)) : Nat := match o with
  | none => 0
  | some x => x.2.1
theorem so_fn {o : Option (Nat × Nat × Nat)} (h : ¬ so_v o = 0) : so_f o = nI (sn_f o) ∧ so_t o = nI (sn_f o + sn_n o) := by
  cases o with
  | none => exact absurd rfl h
  | some x => exact ⟨rfl, rfl⟩
theorem sn_le {M Z : Nat → Nat} {ar : Nat} {acc : List ob_T} {tg : Int32} (hZ : Z ar ≤ 60) (hB : ∀ j, M j ≤ 255) (hA : pm_r M Z ar = .inr acc) : sn_f (fo_s acc tg) + sn_n (fo_s acc tg) ≤ 60 := by
  cases h : fo_s acc tg with
  | none => exact Nat.zero_le _
  | some x => exact Nat.le_trans (fo_in hZ hB hA h).1 hZ
theorem nI_sub (a b : Nat) : nI (a + b) - nI a = nI b := by
  rw [← nI_add, Int32.add_comm, Int32.add_sub_cancel]
theorem lp_lt2 {j k : Nat} (hj : j < 2 ^ 31) (hk : k < 2 ^ 31) (c : nI j < nI k) : j < k := by
  rcases Nat.lt_or_ge j k with q | q
  · exact q
  · exact absurd c (nI_nlt q hj)
theorem in_ok {ar : Nat} {b : Int32} (h : ar ≤ Int32.toNatClampNeg b) (hb : 0 ≤ b.toInt) : ¬ f_Mod_in (nI ar) 0 b = 0 := by
  intro q
  have hb' : b = nI (Int32.toNatClampNeg b) := by
    apply Int32.toInt_inj.mp
    rw [nI_toInt (by have := Int32.toInt_lt b; unfold Int32.toNatClampNeg; omega)]
    unfold Int32.toNatClampNeg
    omega
  have hlt : Int32.toNatClampNeg b < 2 ^ 31 := by have := Int32.toInt_lt b; unfold Int32.toNatClampNeg; omega
  refine (in_iff _ _ _).mp q ⟨?_, ?_⟩
  · rw [nI_toInt (by omega)]; exact Int.natCast_nonneg _
  · rw [hb', nI_toInt (by omega), nI_toInt hlt]; exact Int.ofNat_le.mpr h
set_option maxRecDepth 100000 in
set_option maxHeartbeats 4000000 in
theorem c_Mod_card_n (l : Launch) (D : va_G) (cA : Nat → ClassId) (mo : Nat) (xm : Nat) (xs : Nat) (xt : Nat) (xk : Nat) (xp : Nat) (xr : Nat) (xc : Nat) (xu : Nat) (xe : Nat) (xb : Nat) (xa : Nat) (xl : Nat) (xg : Nat) (x1 : Nat) (x2 : Nat) (x3 : Nat) (x4 : Nat) (xq : Nat) (xz : Nat) (xd : Nat) (pl : Int32) (ft : Int32) (tw : Int32) (inn : Int32) (bd : Int32) (py : Int32) (ap : Int32) (qd : Int32) (ds : Int32) (fl : Int32) (u4 : Int32) (x : Int32) (y : Int32) (hx : f_Mod_in x 0 3 = 0) : ct_R l D cA yn_Mod_card cd_Mod_card 2 [.ref mo, .int x, .int y] [(mo, .inr (9, [.ref xm, .ref xs, .ref xt, .ref xk, .ref xp, .ref xr, .ref xc, .ref xu, .ref xe, .ref xb, .ref xa, .ref xl, .ref xg, .int pl, .int ft, .int tw, .int inn, .int bd, .int py, .ref x1, .ref x2, .ref x3, .ref x4, .int ap, .ref xq, .int qd, .ref xz, .ref xd, .int ds, .int fl, .int u4]))] (fun v_ => v_ = some (.int (-1))) := by
  refine gw_metR (by decide) rfl (Nat.le_of_ble_eq_true rfl) ?_
  intro p_ e_ s_ m_ args_ below_ meth_ c_ S g_r g_k hK
  refine gw_eq (ws' := [(mo, .inr (9, [.ref xm, .ref xs, .ref xt, .ref xk, .ref xp, .ref xr, .ref xc, .ref xu, .ref xe, .ref xb, .ref xa, .ref xl, .ref xg, .int pl, .int ft, .int tw, .int inn, .int bd, .int py, .ref x1, .ref x2, .ref x3, .ref x4, .int ap, .ref xq, .int qd, .ref xz, .ref xd, .int ds, .int fl, .int u4]))]) (lv' := [(0, .ref mo), (1, .int x), (2, .int y)]) (st' := []) (pc' := 0) rfl rfl rfl rfl ?_
  refine gw_iload_n S dc_Mod_card_0 rfl 1 rfl ?_
  refine gw_iconst (v := 0) S dc_Mod_card_1 (by decide) ?_
  refine gw_iconst (v := 3) S dc_Mod_card_2 (by decide) ?_
  refine gw_callSR (As := [.int x, .int 0, .int 3]) (st := []) S hK (c_Mod_in l D cA x 0 3 ) (cw_Mod_101 S.2.2.2.2 rfl rfl ⟨Nat.le_of_ble_eq_true rfl, Nat.le_of_ble_eq_true rfl⟩) [] rfl (by decide) rfl rfl (Nat.le_of_ble_eq_true rfl) dc_Mod_card_3 ⟨Nat.le_of_ble_eq_true rfl, Nat.le_of_ble_eq_true rfl⟩ ?_
  rintro _ rfl
  refine gw_eq (ws' := [(mo, .inr (9, [.ref xm, .ref xs, .ref xt, .ref xk, .ref xp, .ref xr, .ref xc, .ref xu, .ref xe, .ref xb, .ref xa, .ref xl, .ref xg, .int pl, .int ft, .int tw, .int inn, .int bd, .int py, .ref x1, .ref x2, .ref x3, .ref x4, .int ap, .ref xq, .int qd, .ref xz, .ref xd, .int ds, .int fl, .int u4]))]) (lv' := [(0, .ref mo), (1, .int x), (2, .int y)]) (st' := [.int (f_Mod_in x 0 3)]) (pc' := 6) rfl rfl rfl rfl ?_
  refine gw_if_eq (tgt := 18) S dc_Mod_card_6 (by decide) (fun c_2 => ?_) (fun c_2 => ?_)
  · -- taken
    refine gw_iconst (v := -1) S dc_Mod_card_18 (by decide) ?_
    exact gw_iretR S g_r g_k  (by simp only [if_pos c_2]) dc_Mod_card_19
  · -- not
    exact absurd hx c_2
set_option maxRecDepth 100000 in
set_option maxHeartbeats 4000000 in
theorem c_Mod_card_z (l : Launch) (D : va_G) (cA : Nat → ClassId) (mo : Nat) (xm : Nat) (xs : Nat) (xt : Nat) (xk : Nat) (xp : Nat) (xr : Nat) (xc : Nat) (xu : Nat) (xe : Nat) (xb : Nat) (xa : Nat) (xl : Nat) (xg : Nat) (x1 : Nat) (x2 : Nat) (x3 : Nat) (x4 : Nat) (xq : Nat) (xz : Nat) (xd : Nat) (pl : Int32) (ft : Int32) (tw : Int32) (inn : Int32) (bd : Int32) (py : Int32) (ap : Int32) (qd : Int32) (ds : Int32) (fl : Int32) (u4 : Int32) (the : Nat → Int32) (ar : Nat) (y : Int32) (har : ar ≤ 3) (hT : the ar = 0) : ct_R l D cA yn_Mod_card cd_Mod_card 2 [.ref mo, .int (nI ar), .int y] [(mo, .inr (9, [.ref xm, .ref xs, .ref xt, .ref xk, .ref xp, .ref xr, .ref xc, .ref xu, .ref xe, .ref xb, .ref xa, .ref xl, .ref xg, .int pl, .int ft, .int tw, .int inn, .int bd, .int py, .ref x1, .ref x2, .ref x3, .ref x4, .int ap, .ref xq, .int qd, .ref xz, .ref xd, .int ds, .int fl, .int u4])), (xt, .inl (cA 2, 4, .inl the))] (fun v_ => v_ = some (.int (-1))) := by
  refine gw_metR (by decide) rfl (Nat.le_of_ble_eq_true rfl) ?_
  intro p_ e_ s_ m_ args_ below_ meth_ c_ S g_r g_k hK
  refine gw_eq (ws' := [(mo, .inr (9, [.ref xm, .ref xs, .ref xt, .ref xk, .ref xp, .ref xr, .ref xc, .ref xu, .ref xe, .ref xb, .ref xa, .ref xl, .ref xg, .int pl, .int ft, .int tw, .int inn, .int bd, .int py, .ref x1, .ref x2, .ref x3, .ref x4, .int ap, .ref xq, .int qd, .ref xz, .ref xd, .int ds, .int fl, .int u4])), (xt, .inl (cA 2, 4, .inl the))]) (lv' := [(0, .ref mo), (1, .int (nI ar)), (2, .int y)]) (st' := []) (pc' := 0) rfl rfl rfl rfl ?_
  refine gw_iload_n S dc_Mod_card_0 rfl 1 rfl ?_
  refine gw_iconst (v := 0) S dc_Mod_card_1 (by decide) ?_
  refine gw_iconst (v := 3) S dc_Mod_card_2 (by decide) ?_
  refine gw_callSR (As := [.int (nI ar), .int 0, .int 3]) (st := []) S hK (c_Mod_in l D cA (nI ar) 0 3 ) (cw_Mod_101 S.2.2.2.2 rfl rfl ⟨Nat.le_of_ble_eq_true rfl, Nat.le_of_ble_eq_true rfl⟩) [] rfl (by decide) rfl rfl (Nat.le_of_ble_eq_true rfl) dc_Mod_card_3 ⟨Nat.le_of_ble_eq_true rfl, Nat.le_of_ble_eq_true rfl⟩ ?_
  rintro _ rfl
  refine gw_eq (ws' := [(mo, .inr (9, [.ref xm, .ref xs, .ref xt, .ref xk, .ref xp, .ref xr, .ref xc, .ref xu, .ref xe, .ref xb, .ref xa, .ref xl, .ref xg, .int pl, .int ft, .int tw, .int inn, .int bd, .int py, .ref x1, .ref x2, .ref x3, .ref x4, .int ap, .ref xq, .int qd, .ref xz, .ref xd, .int ds, .int fl, .int u4])), (xt, .inl (cA 2, 4, .inl the))]) (lv' := [(0, .ref mo), (1, .int (nI ar)), (2, .int y)]) (st' := [.int (f_Mod_in (nI ar) 0 3)]) (pc' := 6) rfl rfl rfl rfl ?_
  refine gw_if_eq (tgt := 18) S dc_Mod_card_6 (by decide) (fun c_2 => ?_) (fun c_2 => ?_)
  · -- taken
    exact absurd c_2 (in_ok (b := 3) (Nat.le_trans har (by decide)) (by decide))
  · -- not
    refine gw_aload_n S dc_Mod_card_9 rfl 0 rfl ?_
    refine gw_get S hK.1 ic_Mod rfl 2 (by decide) (gw_lk S mw_782) 0 rfl rfl dc_Mod_card_10 ?_
    refine gw_iload_n S dc_Mod_card_13 rfl 1 rfl ?_
    refine gw_zaldX (X := ar) S hK.1 1 2 rfl rfl (by omega) (by decide) dc_Mod_card_14 ?_
    refine gw_if_ne (tgt := 20) S dc_Mod_card_15 (by decide) (fun c_3 => ?_) (fun c_3 => ?_)
    · -- taken
      exact absurd hT c_3
    · -- not
      refine gw_iconst (v := -1) S dc_Mod_card_18 (by decide) ?_
      exact gw_iretR S g_r g_k  (by simp only [if_neg c_2, if_pos c_3]) dc_Mod_card_19
set_option maxRecDepth 100000 in
set_option maxHeartbeats 4000000 in
theorem c_Mod_value_n (l : Launch) (D : va_G) (cA : Nat → ClassId) (mo : Nat) (xm : Nat) (xs : Nat) (xt : Nat) (xk : Nat) (xp : Nat) (xr : Nat) (xc : Nat) (xu : Nat) (xe : Nat) (xb : Nat) (xa : Nat) (xl : Nat) (xg : Nat) (x1 : Nat) (x2 : Nat) (x3 : Nat) (x4 : Nat) (xq : Nat) (xz : Nat) (xd : Nat) (pl : Int32) (ft : Int32) (tw : Int32) (inn : Int32) (bd : Int32) (py : Int32) (ap : Int32) (qd : Int32) (ds : Int32) (fl : Int32) (u4 : Int32) (x : Int32) (y : Int32) (w : Int32) (hx : f_Mod_in x 0 3 = 0) : ct_R l D cA yn_Mod_value cd_Mod_value 2 [.ref mo, .int x, .int y, .int w] [(mo, .inr (9, [.ref xm, .ref xs, .ref xt, .ref xk, .ref xp, .ref xr, .ref xc, .ref xu, .ref xe, .ref xb, .ref xa, .ref xl, .ref xg, .int pl, .int ft, .int tw, .int inn, .int bd, .int py, .ref x1, .ref x2, .ref x3, .ref x4, .int ap, .ref xq, .int qd, .ref xz, .ref xd, .int ds, .int fl, .int u4]))] (fun v_ => v_ = some (.int (-1))) := by
  refine gw_metR (by decide) rfl (Nat.le_of_ble_eq_true rfl) ?_
  intro p_ e_ s_ m_ args_ below_ meth_ c_ S g_r g_k hK
  refine gw_eq (ws' := [(mo, .inr (9, [.ref xm, .ref xs, .ref xt, .ref xk, .ref xp, .ref xr, .ref xc, .ref xu, .ref xe, .ref xb, .ref xa, .ref xl, .ref xg, .int pl, .int ft, .int tw, .int inn, .int bd, .int py, .ref x1, .ref x2, .ref x3, .ref x4, .int ap, .ref xq, .int qd, .ref xz, .ref xd, .int ds, .int fl, .int u4]))]) (lv' := [(0, .ref mo), (1, .int x), (2, .int y), (3, .int w)]) (st' := []) (pc' := 0) rfl rfl rfl rfl ?_
  refine gw_iload_n S dc_Mod_value_0 rfl 1 rfl ?_
  refine gw_iconst (v := 0) S dc_Mod_value_1 (by decide) ?_
  refine gw_iconst (v := 3) S dc_Mod_value_2 (by decide) ?_
  refine gw_callSR (As := [.int x, .int 0, .int 3]) (st := []) S hK (c_Mod_in l D cA x 0 3 ) (cw_Mod_101 S.2.2.2.2 rfl rfl ⟨Nat.le_of_ble_eq_true rfl, Nat.le_of_ble_eq_true rfl⟩) [] rfl (by decide) rfl rfl (Nat.le_of_ble_eq_true rfl) dc_Mod_value_3 ⟨Nat.le_of_ble_eq_true rfl, Nat.le_of_ble_eq_true rfl⟩ ?_
  rintro _ rfl
  refine gw_eq (ws' := [(mo, .inr (9, [.ref xm, .ref xs, .ref xt, .ref xk, .ref xp, .ref xr, .ref xc, .ref xu, .ref xe, .ref xb, .ref xa, .ref xl, .ref xg, .int pl, .int ft, .int tw, .int inn, .int bd, .int py, .ref x1, .ref x2, .ref x3, .ref x4, .int ap, .ref xq, .int qd, .ref xz, .ref xd, .int ds, .int fl, .int u4]))]) (lv' := [(0, .ref mo), (1, .int x), (2, .int y), (3, .int w)]) (st' := [.int (f_Mod_in x 0 3)]) (pc' := 6) rfl rfl rfl rfl ?_
  refine gw_if_eq (tgt := 27) S dc_Mod_value_6 (by decide) (fun c_2 => ?_) (fun c_2 => ?_)
  · -- taken
    refine gw_iconst (v := -1) S dc_Mod_value_27 (by decide) ?_
    exact gw_iretR S g_r g_k  (by simp only [if_pos c_2]) dc_Mod_value_28
  · -- not
    exact absurd hx c_2
set_option maxRecDepth 100000 in
set_option maxHeartbeats 4000000 in
theorem c_Mod_value_z (l : Launch) (D : va_G) (cA : Nat → ClassId) (mo : Nat) (xm : Nat) (xs : Nat) (xt : Nat) (xk : Nat) (xp : Nat) (xr : Nat) (xc : Nat) (xu : Nat) (xe : Nat) (xb : Nat) (xa : Nat) (xl : Nat) (xg : Nat) (x1 : Nat) (x2 : Nat) (x3 : Nat) (x4 : Nat) (xq : Nat) (xz : Nat) (xd : Nat) (pl : Int32) (ft : Int32) (tw : Int32) (inn : Int32) (bd : Int32) (py : Int32) (ap : Int32) (qd : Int32) (ds : Int32) (fl : Int32) (u4 : Int32) (the : Nat → Int32) (ar : Nat) (y : Int32) (w : Int32) (har : ar ≤ 3) (hT : the ar = 0) : ct_R l D cA yn_Mod_value cd_Mod_value 2 [.ref mo, .int (nI ar), .int y, .int w] [(mo, .inr (9, [.ref xm, .ref xs, .ref xt, .ref xk, .ref xp, .ref xr, .ref xc, .ref xu, .ref xe, .ref xb, .ref xa, .ref xl, .ref xg, .int pl, .int ft, .int tw, .int inn, .int bd, .int py, .ref x1, .ref x2, .ref x3, .ref x4, .int ap, .ref xq, .int qd, .ref xz, .ref xd, .int ds, .int fl, .int u4])), (xt, .inl (cA 2, 4, .inl the))] (fun v_ => v_ = some (.int (-1))) := by
  refine gw_metR (by decide) rfl (Nat.le_of_ble_eq_true rfl) ?_
  intro p_ e_ s_ m_ args_ below_ meth_ c_ S g_r g_k hK
  refine gw_eq (ws' := [(mo, .inr (9, [.ref xm, .ref xs, .ref xt, .ref xk, .ref xp, .ref xr, .ref xc, .ref xu, .ref xe, .ref xb, .ref xa, .ref xl, .ref xg, .int pl, .int ft, .int tw, .int inn, .int bd, .int py, .ref x1, .ref x2, .ref x3, .ref x4, .int ap, .ref xq, .int qd, .ref xz, .ref xd, .int ds, .int fl, .int u4])), (xt, .inl (cA 2, 4, .inl the))]) (lv' := [(0, .ref mo), (1, .int (nI ar)), (2, .int y), (3, .int w)]) (st' := []) (pc' := 0) rfl rfl rfl rfl ?_
  refine gw_iload_n S dc_Mod_value_0 rfl 1 rfl ?_
  refine gw_iconst (v := 0) S dc_Mod_value_1 (by decide) ?_
  refine gw_iconst (v := 3) S dc_Mod_value_2 (by decide) ?_
  refine gw_callSR (As := [.int (nI ar), .int 0, .int 3]) (st := []) S hK (c_Mod_in l D cA (nI ar) 0 3 ) (cw_Mod_101 S.2.2.2.2 rfl rfl ⟨Nat.le_of_ble_eq_true rfl, Nat.le_of_ble_eq_true rfl⟩) [] rfl (by decide) rfl rfl (Nat.le_of_ble_eq_true rfl) dc_Mod_value_3 ⟨Nat.le_of_ble_eq_true rfl, Nat.le_of_ble_eq_true rfl⟩ ?_
  rintro _ rfl
  refine gw_eq (ws' := [(mo, .inr (9, [.ref xm, .ref xs, .ref xt, .ref xk, .ref xp, .ref xr, .ref xc, .ref xu, .ref xe, .ref xb, .ref xa, .ref xl, .ref xg, .int pl, .int ft, .int tw, .int inn, .int bd, .int py, .ref x1, .ref x2, .ref x3, .ref x4, .int ap, .ref xq, .int qd, .ref xz, .ref xd, .int ds, .int fl, .int u4])), (xt, .inl (cA 2, 4, .inl the))]) (lv' := [(0, .ref mo), (1, .int (nI ar)), (2, .int y), (3, .int w)]) (st' := [.int (f_Mod_in (nI ar) 0 3)]) (pc' := 6) rfl rfl rfl rfl ?_
  refine gw_if_eq (tgt := 27) S dc_Mod_value_6 (by decide) (fun c_2 => ?_) (fun c_2 => ?_)
  · -- taken
    exact absurd c_2 (in_ok (b := 3) (Nat.le_trans har (by decide)) (by decide))
  · -- not
    refine gw_aload_n S dc_Mod_value_9 rfl 0 rfl ?_
    refine gw_get S hK.1 ic_Mod rfl 2 (by decide) (gw_lk S mw_782) 0 rfl rfl dc_Mod_value_10 ?_
    refine gw_iload_n S dc_Mod_value_13 rfl 1 rfl ?_
    refine gw_zaldX (X := ar) S hK.1 1 2 rfl rfl (by omega) (by decide) dc_Mod_value_14 ?_
    refine gw_if_eq (tgt := 27) S dc_Mod_value_15 (by decide) (fun c_3 => ?_) (fun c_3 => ?_)
    · -- taken
      refine gw_iconst (v := -1) S dc_Mod_value_27 (by decide) ?_
      exact gw_iretR S g_r g_k  (by simp only [if_neg c_2, if_pos c_3]) dc_Mod_value_28
    · -- not
      exact absurd hT c_3
set_option maxRecDepth 100000 in
set_option maxHeartbeats 4000000 in
theorem c_Mod_inside_n (l : Launch) (D : va_G) (cA : Nat → ClassId) (mo : Nat) (xm : Nat) (xs : Nat) (xt : Nat) (xk : Nat) (xp : Nat) (xr : Nat) (xc : Nat) (xu : Nat) (xe : Nat) (xb : Nat) (xa : Nat) (xl : Nat) (xg : Nat) (x1 : Nat) (x2 : Nat) (x3 : Nat) (x4 : Nat) (xq : Nat) (xz : Nat) (xd : Nat) (pl : Int32) (ft : Int32) (tw : Int32) (inn : Int32) (bd : Int32) (py : Int32) (ap : Int32) (qd : Int32) (ds : Int32) (fl : Int32) (u4 : Int32) (x : Int32) (y : Int32) (hx : f_Mod_in x 0 3 = 0) : ct_R l D cA yn_Mod_inside cd_Mod_inside 2 [.ref mo, .int x, .int y] [(mo, .inr (9, [.ref xm, .ref xs, .ref xt, .ref xk, .ref xp, .ref xr, .ref xc, .ref xu, .ref xe, .ref xb, .ref xa, .ref xl, .ref xg, .int pl, .int ft, .int tw, .int inn, .int bd, .int py, .ref x1, .ref x2, .ref x3, .ref x4, .int ap, .ref xq, .int qd, .ref xz, .ref xd, .int ds, .int fl, .int u4]))] (fun v_ => v_ = some (.int (-1))) := by
  refine gw_metR (by decide) rfl (Nat.le_of_ble_eq_true rfl) ?_
  intro p_ e_ s_ m_ args_ below_ meth_ c_ S g_r g_k hK
  refine gw_eq (ws' := [(mo, .inr (9, [.ref xm, .ref xs, .ref xt, .ref xk, .ref xp, .ref xr, .ref xc, .ref xu, .ref xe, .ref xb, .ref xa, .ref xl, .ref xg, .int pl, .int ft, .int tw, .int inn, .int bd, .int py, .ref x1, .ref x2, .ref x3, .ref x4, .int ap, .ref xq, .int qd, .ref xz, .ref xd, .int ds, .int fl, .int u4]))]) (lv' := [(0, .ref mo), (1, .int x), (2, .int y)]) (st' := []) (pc' := 0) rfl rfl rfl rfl ?_
  refine gw_iload_n S dc_Mod_inside_0 rfl 1 rfl ?_
  refine gw_iconst (v := 0) S dc_Mod_inside_1 (by decide) ?_
  refine gw_iconst (v := 3) S dc_Mod_inside_2 (by decide) ?_
  refine gw_callSR (As := [.int x, .int 0, .int 3]) (st := []) S hK (c_Mod_in l D cA x 0 3 ) (cw_Mod_101 S.2.2.2.2 rfl rfl ⟨Nat.le_of_ble_eq_true rfl, Nat.le_of_ble_eq_true rfl⟩) [] rfl (by decide) rfl rfl (Nat.le_of_ble_eq_true rfl) dc_Mod_inside_3 ⟨Nat.le_of_ble_eq_true rfl, Nat.le_of_ble_eq_true rfl⟩ ?_
  rintro _ rfl
  refine gw_eq (ws' := [(mo, .inr (9, [.ref xm, .ref xs, .ref xt, .ref xk, .ref xp, .ref xr, .ref xc, .ref xu, .ref xe, .ref xb, .ref xa, .ref xl, .ref xg, .int pl, .int ft, .int tw, .int inn, .int bd, .int py, .ref x1, .ref x2, .ref x3, .ref x4, .int ap, .ref xq, .int qd, .ref xz, .ref xd, .int ds, .int fl, .int u4]))]) (lv' := [(0, .ref mo), (1, .int x), (2, .int y)]) (st' := [.int (f_Mod_in x 0 3)]) (pc' := 6) rfl rfl rfl rfl ?_
  refine gw_if_eq (tgt := 34) S dc_Mod_inside_6 (by decide) (fun c_2 => ?_) (fun c_2 => ?_)
  · -- taken
    refine gw_iconst (v := -1) S dc_Mod_inside_34 (by decide) ?_
    exact gw_iretR S g_r g_k  (by simp only [if_pos c_2]) dc_Mod_inside_35
  · -- not
    exact absurd hx c_2
set_option maxRecDepth 100000 in
set_option maxHeartbeats 4000000 in
theorem c_Mod_inside_z (l : Launch) (D : va_G) (cA : Nat → ClassId) (mo : Nat) (xm : Nat) (xs : Nat) (xt : Nat) (xk : Nat) (xp : Nat) (xr : Nat) (xc : Nat) (xu : Nat) (xe : Nat) (xb : Nat) (xa : Nat) (xl : Nat) (xg : Nat) (x1 : Nat) (x2 : Nat) (x3 : Nat) (x4 : Nat) (xq : Nat) (xz : Nat) (xd : Nat) (pl : Int32) (ft : Int32) (tw : Int32) (inn : Int32) (bd : Int32) (py : Int32) (ap : Int32) (qd : Int32) (ds : Int32) (fl : Int32) (u4 : Int32) (the : Nat → Int32) (ar : Nat) (y : Int32) (har : ar ≤ 3) (hT : the ar = 0) : ct_R l D cA yn_Mod_inside cd_Mod_inside 2 [.ref mo, .int (nI ar), .int y] [(mo, .inr (9, [.ref xm, .ref xs, .ref xt, .ref xk, .ref xp, .ref xr, .ref xc, .ref xu, .ref xe, .ref xb, .ref xa, .ref xl, .ref xg, .int pl, .int ft, .int tw, .int inn, .int bd, .int py, .ref x1, .ref x2, .ref x3, .ref x4, .int ap, .ref xq, .int qd, .ref xz, .ref xd, .int ds, .int fl, .int u4])), (xt, .inl (cA 2, 4, .inl the))] (fun v_ => v_ = some (.int (-1))) := by
  refine gw_metR (by decide) rfl (Nat.le_of_ble_eq_true rfl) ?_
  intro p_ e_ s_ m_ args_ below_ meth_ c_ S g_r g_k hK
  refine gw_eq (ws' := [(mo, .inr (9, [.ref xm, .ref xs, .ref xt, .ref xk, .ref xp, .ref xr, .ref xc, .ref xu, .ref xe, .ref xb, .ref xa, .ref xl, .ref xg, .int pl, .int ft, .int tw, .int inn, .int bd, .int py, .ref x1, .ref x2, .ref x3, .ref x4, .int ap, .ref xq, .int qd, .ref xz, .ref xd, .int ds, .int fl, .int u4])), (xt, .inl (cA 2, 4, .inl the))]) (lv' := [(0, .ref mo), (1, .int (nI ar)), (2, .int y)]) (st' := []) (pc' := 0) rfl rfl rfl rfl ?_
  refine gw_iload_n S dc_Mod_inside_0 rfl 1 rfl ?_
  refine gw_iconst (v := 0) S dc_Mod_inside_1 (by decide) ?_
  refine gw_iconst (v := 3) S dc_Mod_inside_2 (by decide) ?_
  refine gw_callSR (As := [.int (nI ar), .int 0, .int 3]) (st := []) S hK (c_Mod_in l D cA (nI ar) 0 3 ) (cw_Mod_101 S.2.2.2.2 rfl rfl ⟨Nat.le_of_ble_eq_true rfl, Nat.le_of_ble_eq_true rfl⟩) [] rfl (by decide) rfl rfl (Nat.le_of_ble_eq_true rfl) dc_Mod_inside_3 ⟨Nat.le_of_ble_eq_true rfl, Nat.le_of_ble_eq_true rfl⟩ ?_
  rintro _ rfl
  refine gw_eq (ws' := [(mo, .inr (9, [.ref xm, .ref xs, .ref xt, .ref xk, .ref xp, .ref xr, .ref xc, .ref xu, .ref xe, .ref xb, .ref xa, .ref xl, .ref xg, .int pl, .int ft, .int tw, .int inn, .int bd, .int py, .ref x1, .ref x2, .ref x3, .ref x4, .int ap, .ref xq, .int qd, .ref xz, .ref xd, .int ds, .int fl, .int u4])), (xt, .inl (cA 2, 4, .inl the))]) (lv' := [(0, .ref mo), (1, .int (nI ar)), (2, .int y)]) (st' := [.int (f_Mod_in (nI ar) 0 3)]) (pc' := 6) rfl rfl rfl rfl ?_
  refine gw_if_eq (tgt := 34) S dc_Mod_inside_6 (by decide) (fun c_2 => ?_) (fun c_2 => ?_)
  · -- taken
    exact absurd c_2 (in_ok (b := 3) (Nat.le_trans har (by decide)) (by decide))
  · -- not
    refine gw_aload_n S dc_Mod_inside_9 rfl 0 rfl ?_
    refine gw_get S hK.1 ic_Mod rfl 2 (by decide) (gw_lk S mw_782) 0 rfl rfl dc_Mod_inside_10 ?_
    refine gw_iload_n S dc_Mod_inside_13 rfl 1 rfl ?_
    refine gw_zaldX (X := ar) S hK.1 1 2 rfl rfl (by omega) (by decide) dc_Mod_inside_14 ?_
    refine gw_if_eq (tgt := 34) S dc_Mod_inside_15 (by decide) (fun c_3 => ?_) (fun c_3 => ?_)
    · -- taken
      refine gw_iconst (v := -1) S dc_Mod_inside_34 (by decide) ?_
      exact gw_iretR S g_r g_k  (by simp only [if_neg c_2, if_pos c_3]) dc_Mod_inside_35
    · -- not
      exact absurd hT c_3
noncomputable def f_Mod_card_y (M : Nat → Nat) (ar : Nat) (acc : List ob_T) (y : Int32) (trs : Nat → Int32) (cou : Nat → Int32) (run : Nat → Int32) (see : Nat → Int32) : Int32 := if y = 0 then (trs ar) else (if y = 1 then (cou ar) else (if y = 2 then (run ar) else (if y = 3 then (if (see ar) = 0 then 0 else (1)) else (if y = 4 then (nI acc.length) else (if y = 5 then (nb_v M ar (fo_s acc 90) 0) else (-1))))))
set_option maxRecDepth 100000 in
set_option maxHeartbeats 4000000 in
theorem c_Mod_card_y (l : Launch) (D : va_G) (cA : Nat → ClassId) (sz : Nat) (mo : Nat) (xm : Nat) (xs : Nat) (xt : Nat) (xk : Nat) (xp : Nat) (xr : Nat) (xc : Nat) (xu : Nat) (xe : Nat) (xb : Nat) (xa : Nat) (xl : Nat) (xg : Nat) (x1 : Nat) (x2 : Nat) (x3 : Nat) (x4 : Nat) (xq : Nat) (xz : Nat) (xd : Nat) (pl : Int32) (ft : Int32) (tw : Int32) (inn : Int32) (bd : Int32) (py : Int32) (ap : Int32) (qd : Int32) (ds : Int32) (fl : Int32) (t4 : Nat) (M : Nat → Nat) (Z : Nat → Nat) (ar : Nat) (acc : List ob_T) (the : Nat → Int32) (y : Int32) (trs : Nat → Int32) (cou : Nat → Int32) (run : Nat → Int32) (see : Nat → Int32) (har : ar ≤ 3) (hZ : Z ar ≤ 60) (hB : ∀ j, M j ≤ 255) (hA : pm_r M Z ar = .inr acc) (hT : ¬ the ar = 0) : ct_M l D cA yn_Mod_card cd_Mod_card 5 0 0 sz [.ref mo, .int (nI ar), .int y] [(mo, .inr (9, [.ref xm, .ref xs, .ref xt, .ref xk, .ref xp, .ref xr, .ref xc, .ref xu, .ref xe, .ref xb, .ref xa, .ref xl, .ref xg, .int pl, .int ft, .int tw, .int inn, .int bd, .int py, .ref x1, .ref x2, .ref x3, .ref x4, .int ap, .ref xq, .int qd, .ref xz, .ref xd, .int ds, .int fl, .int (nI t4)])), (xm, .inl (cA 0, 300, .inl (nJ M))), (xs, .inl (cA 0, 5, .inl (nJ Z))), (xt, .inl (cA 2, 4, .inl the)), (xr, .inl (cA 0, 4, .inl trs)), (xc, .inl (cA 0, 4, .inl cou)), (xu, .inl (cA 0, 4, .inl run)), (xe, .inl (cA 2, 4, .inl see))] (fun v_ w_ => ∃ (ft9 : Int32), ∃ (tw9 : Int32), ∃ (in9 : Int32), ∃ (b9 : Int32), ∃ (u9 : Nat), v_ = some (.int (f_Mod_card_y M ar acc y trs cou run see)) ∧ w_ = [(mo, .inr (9, [.ref xm, .ref xs, .ref xt, .ref xk, .ref xp, .ref xr, .ref xc, .ref xu, .ref xe, .ref xb, .ref xa, .ref xl, .ref xg, .int pl, .int ft9, .int tw9, .int in9, .int b9, .int py, .ref x1, .ref x2, .ref x3, .ref x4, .int ap, .ref xq, .int qd, .ref xz, .ref xd, .int ds, .int fl, .int (nI u9)])), (xm, .inl (cA 0, 300, .inl (nJ M))), (xs, .inl (cA 0, 5, .inl (nJ Z))), (xt, .inl (cA 2, 4, .inl the)), (xr, .inl (cA 0, 4, .inl trs)), (xc, .inl (cA 0, 4, .inl cou)), (xu, .inl (cA 0, 4, .inl run)), (xe, .inl (cA 2, 4, .inl see))]) := by
  refine gw_met (by decide) rfl (Nat.le_of_ble_eq_true rfl) ?_
  intro p_ e_ s_ m_ args_ below_ meth_ c_ A_ S g_r g_k g_n hK hA
  refine gw_eq (ws' := [(mo, .inr (9, [.ref xm, .ref xs, .ref xt, .ref xk, .ref xp, .ref xr, .ref xc, .ref xu, .ref xe, .ref xb, .ref xa, .ref xl, .ref xg, .int pl, .int ft, .int tw, .int inn, .int bd, .int py, .ref x1, .ref x2, .ref x3, .ref x4, .int ap, .ref xq, .int qd, .ref xz, .ref xd, .int ds, .int fl, .int (nI t4)])), (xm, .inl (cA 0, 300, .inl (nJ M))), (xs, .inl (cA 0, 5, .inl (nJ Z))), (xt, .inl (cA 2, 4, .inl the)), (xr, .inl (cA 0, 4, .inl trs)), (xc, .inl (cA 0, 4, .inl cou)), (xu, .inl (cA 0, 4, .inl run)), (xe, .inl (cA 2, 4, .inl see))]) (lv' := [(0, .ref mo), (1, .int (nI ar)), (2, .int y)]) (st' := []) (pc' := 0) rfl rfl rfl rfl ?_
  refine gw_iload_n S dc_Mod_card_0 rfl 1 rfl ?_
  refine gw_iconst (v := 0) S dc_Mod_card_1 (by decide) ?_
  refine gw_iconst (v := 3) S dc_Mod_card_2 (by decide) ?_
  refine gw_callSR (As := [.int (nI ar), .int 0, .int 3]) (st := []) S hK (c_Mod_in l D cA (nI ar) 0 3 ) (cw_Mod_101 S.2.2.2.2 rfl rfl ⟨Nat.le_of_ble_eq_true rfl, Nat.le_of_ble_eq_true rfl⟩) [] rfl (by decide) rfl rfl (Nat.le_of_ble_eq_true rfl) dc_Mod_card_3 ⟨Nat.le_of_ble_eq_true rfl, Nat.le_of_ble_eq_true rfl⟩ ?_
  rintro _ rfl
  refine gw_eq (ws' := [(mo, .inr (9, [.ref xm, .ref xs, .ref xt, .ref xk, .ref xp, .ref xr, .ref xc, .ref xu, .ref xe, .ref xb, .ref xa, .ref xl, .ref xg, .int pl, .int ft, .int tw, .int inn, .int bd, .int py, .ref x1, .ref x2, .ref x3, .ref x4, .int ap, .ref xq, .int qd, .ref xz, .ref xd, .int ds, .int fl, .int (nI t4)])), (xm, .inl (cA 0, 300, .inl (nJ M))), (xs, .inl (cA 0, 5, .inl (nJ Z))), (xt, .inl (cA 2, 4, .inl the)), (xr, .inl (cA 0, 4, .inl trs)), (xc, .inl (cA 0, 4, .inl cou)), (xu, .inl (cA 0, 4, .inl run)), (xe, .inl (cA 2, 4, .inl see))]) (lv' := [(0, .ref mo), (1, .int (nI ar)), (2, .int y)]) (st' := [.int (f_Mod_in (nI ar) 0 3)]) (pc' := 6) rfl rfl rfl rfl ?_
  refine gw_if_eq (tgt := 18) S dc_Mod_card_6 (by decide) (fun c_2 => ?_) (fun c_2 => ?_)
  · -- taken
    exact absurd c_2 (in_ok (b := 3) (Nat.le_trans har (by decide)) (by decide))
  · -- not
    refine gw_aload_n S dc_Mod_card_9 rfl 0 rfl ?_
    refine gw_get S hK.1 ic_Mod rfl 2 (by decide) (gw_lk S mw_782) 0 rfl rfl dc_Mod_card_10 ?_
    refine gw_iload_n S dc_Mod_card_13 rfl 1 rfl ?_
    refine gw_zaldX (X := ar) S hK.1 3 2 rfl rfl (by omega) (by decide) dc_Mod_card_14 ?_
    refine gw_if_ne (tgt := 20) S dc_Mod_card_15 (by decide) (fun c_3 => ?_) (fun c_3 => ?_)
    · -- taken
      refine gw_iload_n S dc_Mod_card_20 rfl 2 rfl ?_
      rcases Classical.em (y = 0) with c_4 | c_4
      · -- case 0
        refine gw_tableIn (tgt := 60) S dc_Mod_card_21 (by rw [c_4]; decide) (by rw [c_4]; decide) (by rw [c_4]; rfl) (by decide) ?_
        refine gw_aload_n S dc_Mod_card_60 rfl 0 rfl ?_
        refine gw_get S hK.1 ic_Mod rfl 5 (by decide) (gw_lk S mw_785) 0 rfl rfl dc_Mod_card_61 ?_
        refine gw_iload_n S dc_Mod_card_64 rfl 1 rfl ?_
        refine gw_ialdX (X := ar) S hK.1 4 0 rfl rfl (by omega) (by decide) dc_Mod_card_65 ?_
        exact gw_iret (w := [(mo, .inr (9, [.ref xm, .ref xs, .ref xt, .ref xk, .ref xp, .ref xr, .ref xc, .ref xu, .ref xe, .ref xb, .ref xa, .ref xl, .ref xg, .int pl, .int ft, .int tw, .int inn, .int bd, .int py, .ref x1, .ref x2, .ref x3, .ref x4, .int ap, .ref xq, .int qd, .ref xz, .ref xd, .int ds, .int fl, .int (nI t4)])), (xm, .inl (cA 0, 300, .inl (nJ M))), (xs, .inl (cA 0, 5, .inl (nJ Z))), (xt, .inl (cA 2, 4, .inl the)), (xr, .inl (cA 0, 4, .inl trs)), (xc, .inl (cA 0, 4, .inl cou)), (xu, .inl (cA 0, 4, .inl run)), (xe, .inl (cA 2, 4, .inl see))]) S g_r g_k  [0, 1, 2, 3, 4, 5, 6, 7] rfl (by decide) ⟨ft, tw, inn, bd, t4, (by simp only [f_Mod_card_y, if_neg c_2, if_neg c_3, if_pos c_4]), (by simp only [f_Mod_card_y, if_neg c_2, if_neg c_3, if_pos c_4])⟩ dc_Mod_card_66
      · -- else
        rcases Classical.em (y = 1) with c_5 | c_5
        · -- case 1
          refine gw_tableIn (tgt := 67) S dc_Mod_card_21 (by rw [c_5]; decide) (by rw [c_5]; decide) (by rw [c_5]; rfl) (by decide) ?_
          refine gw_aload_n S dc_Mod_card_67 rfl 0 rfl ?_
          refine gw_get S hK.1 ic_Mod rfl 6 (by decide) (gw_lk S mw_786) 0 rfl rfl dc_Mod_card_68 ?_
          refine gw_iload_n S dc_Mod_card_71 rfl 1 rfl ?_
          refine gw_ialdX (X := ar) S hK.1 5 0 rfl rfl (by omega) (by decide) dc_Mod_card_72 ?_
          exact gw_iret (w := [(mo, .inr (9, [.ref xm, .ref xs, .ref xt, .ref xk, .ref xp, .ref xr, .ref xc, .ref xu, .ref xe, .ref xb, .ref xa, .ref xl, .ref xg, .int pl, .int ft, .int tw, .int inn, .int bd, .int py, .ref x1, .ref x2, .ref x3, .ref x4, .int ap, .ref xq, .int qd, .ref xz, .ref xd, .int ds, .int fl, .int (nI t4)])), (xm, .inl (cA 0, 300, .inl (nJ M))), (xs, .inl (cA 0, 5, .inl (nJ Z))), (xt, .inl (cA 2, 4, .inl the)), (xr, .inl (cA 0, 4, .inl trs)), (xc, .inl (cA 0, 4, .inl cou)), (xu, .inl (cA 0, 4, .inl run)), (xe, .inl (cA 2, 4, .inl see))]) S g_r g_k  [0, 1, 2, 3, 4, 5, 6, 7] rfl (by decide) ⟨ft, tw, inn, bd, t4, (by simp only [f_Mod_card_y, if_neg c_2, if_neg c_3, if_neg c_4, if_pos c_5]), (by simp only [f_Mod_card_y, if_neg c_2, if_neg c_3, if_neg c_4, if_pos c_5])⟩ dc_Mod_card_73
        · -- else
          rcases Classical.em (y = 2) with c_6 | c_6
          · -- case 2
            refine gw_tableIn (tgt := 74) S dc_Mod_card_21 (by rw [c_6]; decide) (by rw [c_6]; decide) (by rw [c_6]; rfl) (by decide) ?_
            refine gw_aload_n S dc_Mod_card_74 rfl 0 rfl ?_
            refine gw_get S hK.1 ic_Mod rfl 7 (by decide) (gw_lk S mw_787) 0 rfl rfl dc_Mod_card_75 ?_
            refine gw_iload_n S dc_Mod_card_78 rfl 1 rfl ?_
            refine gw_ialdX (X := ar) S hK.1 6 0 rfl rfl (by omega) (by decide) dc_Mod_card_79 ?_
            exact gw_iret (w := [(mo, .inr (9, [.ref xm, .ref xs, .ref xt, .ref xk, .ref xp, .ref xr, .ref xc, .ref xu, .ref xe, .ref xb, .ref xa, .ref xl, .ref xg, .int pl, .int ft, .int tw, .int inn, .int bd, .int py, .ref x1, .ref x2, .ref x3, .ref x4, .int ap, .ref xq, .int qd, .ref xz, .ref xd, .int ds, .int fl, .int (nI t4)])), (xm, .inl (cA 0, 300, .inl (nJ M))), (xs, .inl (cA 0, 5, .inl (nJ Z))), (xt, .inl (cA 2, 4, .inl the)), (xr, .inl (cA 0, 4, .inl trs)), (xc, .inl (cA 0, 4, .inl cou)), (xu, .inl (cA 0, 4, .inl run)), (xe, .inl (cA 2, 4, .inl see))]) S g_r g_k  [0, 1, 2, 3, 4, 5, 6, 7] rfl (by decide) ⟨ft, tw, inn, bd, t4, (by simp only [f_Mod_card_y, if_neg c_2, if_neg c_3, if_neg c_4, if_neg c_5, if_pos c_6]), (by simp only [f_Mod_card_y, if_neg c_2, if_neg c_3, if_neg c_4, if_neg c_5, if_pos c_6])⟩ dc_Mod_card_80
          · -- else
            rcases Classical.em (y = 3) with c_7 | c_7
            · -- case 3
              refine gw_tableIn (tgt := 81) S dc_Mod_card_21 (by rw [c_7]; decide) (by rw [c_7]; decide) (by rw [c_7]; rfl) (by decide) ?_
              refine gw_aload_n S dc_Mod_card_81 rfl 0 rfl ?_
              refine gw_get S hK.1 ic_Mod rfl 8 (by decide) (gw_lk S mw_788) 0 rfl rfl dc_Mod_card_82 ?_
              refine gw_iload_n S dc_Mod_card_85 rfl 1 rfl ?_
              refine gw_zaldX (X := ar) S hK.1 7 2 rfl rfl (by omega) (by decide) dc_Mod_card_86 ?_
              refine gw_if_eq (tgt := 94) S dc_Mod_card_87 (by decide) (fun c_8 => ?_) (fun c_8 => ?_)
              · -- taken
                refine gw_iconst (v := 0) S dc_Mod_card_94 (by decide) ?_
                exact gw_iret (w := [(mo, .inr (9, [.ref xm, .ref xs, .ref xt, .ref xk, .ref xp, .ref xr, .ref xc, .ref xu, .ref xe, .ref xb, .ref xa, .ref xl, .ref xg, .int pl, .int ft, .int tw, .int inn, .int bd, .int py, .ref x1, .ref x2, .ref x3, .ref x4, .int ap, .ref xq, .int qd, .ref xz, .ref xd, .int ds, .int fl, .int (nI t4)])), (xm, .inl (cA 0, 300, .inl (nJ M))), (xs, .inl (cA 0, 5, .inl (nJ Z))), (xt, .inl (cA 2, 4, .inl the)), (xr, .inl (cA 0, 4, .inl trs)), (xc, .inl (cA 0, 4, .inl cou)), (xu, .inl (cA 0, 4, .inl run)), (xe, .inl (cA 2, 4, .inl see))]) S g_r g_k  [0, 1, 2, 3, 4, 5, 6, 7] rfl (by decide) ⟨ft, tw, inn, bd, t4, (by simp only [f_Mod_card_y, if_neg c_2, if_neg c_3, if_neg c_4, if_neg c_5, if_neg c_6, if_pos c_7, if_pos c_8]), (by simp only [f_Mod_card_y, if_neg c_2, if_neg c_3, if_neg c_4, if_neg c_5, if_neg c_6, if_pos c_7, if_pos c_8])⟩ dc_Mod_card_95
              · -- not
                refine gw_iconst (v := 1) S dc_Mod_card_90 (by decide) ?_
                refine gw_goto (tgt := 95) S dc_Mod_card_91 (by decide) ?_
                exact gw_iret (w := [(mo, .inr (9, [.ref xm, .ref xs, .ref xt, .ref xk, .ref xp, .ref xr, .ref xc, .ref xu, .ref xe, .ref xb, .ref xa, .ref xl, .ref xg, .int pl, .int ft, .int tw, .int inn, .int bd, .int py, .ref x1, .ref x2, .ref x3, .ref x4, .int ap, .ref xq, .int qd, .ref xz, .ref xd, .int ds, .int fl, .int (nI t4)])), (xm, .inl (cA 0, 300, .inl (nJ M))), (xs, .inl (cA 0, 5, .inl (nJ Z))), (xt, .inl (cA 2, 4, .inl the)), (xr, .inl (cA 0, 4, .inl trs)), (xc, .inl (cA 0, 4, .inl cou)), (xu, .inl (cA 0, 4, .inl run)), (xe, .inl (cA 2, 4, .inl see))]) S g_r g_k  [0, 1, 2, 3, 4, 5, 6, 7] rfl (by decide) ⟨ft, tw, inn, bd, t4, (by simp only [f_Mod_card_y, if_neg c_2, if_neg c_3, if_neg c_4, if_neg c_5, if_neg c_6, if_pos c_7, if_neg c_8]), (by simp only [f_Mod_card_y, if_neg c_2, if_neg c_3, if_neg c_4, if_neg c_5, if_neg c_6, if_pos c_7, if_neg c_8])⟩ dc_Mod_card_95
            · -- else
              rcases Classical.em (y = 4) with c_9 | c_9
              · -- case 4
                refine gw_tableIn (tgt := 96) S dc_Mod_card_21 (by rw [c_9]; decide) (by rw [c_9]; decide) (by rw [c_9]; rfl) (by decide) ?_
                refine gw_aload_n S dc_Mod_card_96 rfl 0 rfl ?_
                refine gw_iload_n S dc_Mod_card_97 rfl 1 rfl ?_
                refine gw_iconst (v := -1) S dc_Mod_card_98 (by decide) ?_
                refine gw_callV (As := [.int (nI ar), .int (-1)]) (st := []) (wr := [(xt, .inl (cA 2, 4, .inl the)), (xr, .inl (cA 0, 4, .inl trs)), (xc, .inl (cA 0, 4, .inl cou)), (xu, .inl (cA 0, 4, .inl run)), (xe, .inl (cA 2, 4, .inl see))]) S hK hA (fun sz => c_Mod_walk2 l D cA sz mo xm xs xt xk xp xr xc xu xe xb xa xl xg x1 x2 x3 x4 xq xz xd pl ft tw inn bd py ap qd ds fl t4 M Z ar (-1) acc (by omega) (by assumption) (by assumption) (by assumption)) (cw_Mod_94 S.2.2.2.2 rfl rfl ⟨Nat.le_of_ble_eq_true rfl, Nat.le_of_ble_eq_true rfl⟩) [0, 1, 2] [3, 4, 5, 6, 7] rfl (by decide) rfl (by decide) (by decide) 0 rfl rfl rfl rfl rfl (Nat.le_of_ble_eq_true rfl) dc_Mod_card_99 ⟨Nat.le_of_ble_eq_true rfl, Nat.le_of_ble_eq_true rfl⟩ ?_
                rintro _ _ ⟨b9_10, u9_11, rfl, rfl⟩
                refine gw_eq (ws' := [(xt, .inl (cA 2, 4, .inl the)), (xr, .inl (cA 0, 4, .inl trs)), (xc, .inl (cA 0, 4, .inl cou)), (xu, .inl (cA 0, 4, .inl run)), (xe, .inl (cA 2, 4, .inl see)), (mo, .inr (9, [.ref xm, .ref xs, .ref xt, .ref xk, .ref xp, .ref xr, .ref xc, .ref xu, .ref xe, .ref xb, .ref xa, .ref xl, .ref xg, .int pl, .int (so_f (fo_s acc (-1))), .int (so_t (fo_s acc (-1))), .int (so_i (fo_s acc (-1))), .int b9_10, .int py, .ref x1, .ref x2, .ref x3, .ref x4, .int ap, .ref xq, .int qd, .ref xz, .ref xd, .int ds, .int fl, .int (nI u9_11)])), (xm, .inl (cA 0, 300, .inl (nJ M))), (xs, .inl (cA 0, 5, .inl (nJ Z)))]) (lv' := [(0, .ref mo), (1, .int (nI ar)), (2, .int y)]) (st' := [.int (nI acc.length)]) (pc' := 102) rfl rfl rfl rfl ?_
                exact gw_iret (w := [(mo, .inr (9, [.ref xm, .ref xs, .ref xt, .ref xk, .ref xp, .ref xr, .ref xc, .ref xu, .ref xe, .ref xb, .ref xa, .ref xl, .ref xg, .int pl, .int (so_f (fo_s acc (-1))), .int (so_t (fo_s acc (-1))), .int (so_i (fo_s acc (-1))), .int b9_10, .int py, .ref x1, .ref x2, .ref x3, .ref x4, .int ap, .ref xq, .int qd, .ref xz, .ref xd, .int ds, .int fl, .int (nI u9_11)])), (xm, .inl (cA 0, 300, .inl (nJ M))), (xs, .inl (cA 0, 5, .inl (nJ Z))), (xt, .inl (cA 2, 4, .inl the)), (xr, .inl (cA 0, 4, .inl trs)), (xc, .inl (cA 0, 4, .inl cou)), (xu, .inl (cA 0, 4, .inl run)), (xe, .inl (cA 2, 4, .inl see))]) S g_r g_k  [5, 6, 7, 0, 1, 2, 3, 4] rfl (by decide) ⟨so_f (fo_s acc (-1)), so_t (fo_s acc (-1)), so_i (fo_s acc (-1)), b9_10, u9_11, (by simp only [f_Mod_card_y, if_neg c_2, if_neg c_3, if_neg c_4, if_neg c_5, if_neg c_6, if_neg c_7, if_pos c_9]), (by simp only [f_Mod_card_y, if_neg c_2, if_neg c_3, if_neg c_4, if_neg c_5, if_neg c_6, if_neg c_7, if_pos c_9])⟩ dc_Mod_card_102
              · -- else
                rcases Classical.em (y = 5) with c_12 | c_12
                · -- case 5
                  refine gw_tableIn (tgt := 103) S dc_Mod_card_21 (by rw [c_12]; decide) (by rw [c_12]; decide) (by rw [c_12]; rfl) (by decide) ?_
                  refine gw_aload_n S dc_Mod_card_103 rfl 0 rfl ?_
                  refine gw_iload_n S dc_Mod_card_104 rfl 1 rfl ?_
                  refine gw_bipush (v := 90) S dc_Mod_card_105 (by decide) ?_
                  refine gw_iconst (v := 0) S dc_Mod_card_107 (by decide) ?_
                  refine gw_callV (As := [.int (nI ar), .int 90, .int 0]) (st := []) (wr := [(xt, .inl (cA 2, 4, .inl the)), (xr, .inl (cA 0, 4, .inl trs)), (xc, .inl (cA 0, 4, .inl cou)), (xu, .inl (cA 0, 4, .inl run)), (xe, .inl (cA 2, 4, .inl see))]) S hK hA (fun sz => c_Mod_number2 l D cA sz mo xm xs xt xk xp xr xc xu xe xb xa xl xg x1 x2 x3 x4 xq xz xd pl ft tw inn bd py ap qd ds fl t4 M Z ar 90 0 acc (by omega) (by assumption) (by assumption) (by assumption)) (cw_Mod_139 S.2.2.2.2 rfl rfl ⟨Nat.le_of_ble_eq_true rfl, Nat.le_of_ble_eq_true rfl⟩) [0, 1, 2] [3, 4, 5, 6, 7] rfl (by decide) rfl (by decide) (by decide) 0 rfl rfl rfl rfl rfl (Nat.le_of_ble_eq_true rfl) dc_Mod_card_108 ⟨Nat.le_of_ble_eq_true rfl, Nat.le_of_ble_eq_true rfl⟩ ?_
                  rintro _ _ ⟨b9_13, u9_14, rfl, rfl⟩
                  refine gw_eq (ws' := [(xt, .inl (cA 2, 4, .inl the)), (xr, .inl (cA 0, 4, .inl trs)), (xc, .inl (cA 0, 4, .inl cou)), (xu, .inl (cA 0, 4, .inl run)), (xe, .inl (cA 2, 4, .inl see)), (mo, .inr (9, [.ref xm, .ref xs, .ref xt, .ref xk, .ref xp, .ref xr, .ref xc, .ref xu, .ref xe, .ref xb, .ref xa, .ref xl, .ref xg, .int pl, .int (so_f (fo_s acc 90)), .int (so_t (fo_s acc 90)), .int (so_i (fo_s acc 90)), .int b9_13, .int py, .ref x1, .ref x2, .ref x3, .ref x4, .int ap, .ref xq, .int qd, .ref xz, .ref xd, .int ds, .int fl, .int (nI u9_14)])), (xm, .inl (cA 0, 300, .inl (nJ M))), (xs, .inl (cA 0, 5, .inl (nJ Z)))]) (lv' := [(0, .ref mo), (1, .int (nI ar)), (2, .int y)]) (st' := [.int (nb_v M ar (fo_s acc 90) 0)]) (pc' := 111) rfl rfl rfl rfl ?_
                  exact gw_iret (w := [(mo, .inr (9, [.ref xm, .ref xs, .ref xt, .ref xk, .ref xp, .ref xr, .ref xc, .ref xu, .ref xe, .ref xb, .ref xa, .ref xl, .ref xg, .int pl, .int (so_f (fo_s acc 90)), .int (so_t (fo_s acc 90)), .int (so_i (fo_s acc 90)), .int b9_13, .int py, .ref x1, .ref x2, .ref x3, .ref x4, .int ap, .ref xq, .int qd, .ref xz, .ref xd, .int ds, .int fl, .int (nI u9_14)])), (xm, .inl (cA 0, 300, .inl (nJ M))), (xs, .inl (cA 0, 5, .inl (nJ Z))), (xt, .inl (cA 2, 4, .inl the)), (xr, .inl (cA 0, 4, .inl trs)), (xc, .inl (cA 0, 4, .inl cou)), (xu, .inl (cA 0, 4, .inl run)), (xe, .inl (cA 2, 4, .inl see))]) S g_r g_k  [5, 6, 7, 0, 1, 2, 3, 4] rfl (by decide) ⟨so_f (fo_s acc 90), so_t (fo_s acc 90), so_i (fo_s acc 90), b9_13, u9_14, (by simp only [f_Mod_card_y, if_neg c_2, if_neg c_3, if_neg c_4, if_neg c_5, if_neg c_6, if_neg c_7, if_neg c_9, if_pos c_12]), (by simp only [f_Mod_card_y, if_neg c_2, if_neg c_3, if_neg c_4, if_neg c_5, if_neg c_6, if_neg c_7, if_neg c_9, if_pos c_12])⟩ dc_Mod_card_111
                · -- else
                  have nc_4 := lv_neT c_4 (a := 0) (by decide)
                  have nc_5 := lv_neT c_5 (a := 1) (by decide)
                  have nc_6 := lv_neT c_6 (a := 2) (by decide)
                  have nc_7 := lv_neT c_7 (a := 3) (by decide)
                  have nc_9 := lv_neT c_9 (a := 4) (by decide)
                  have nc_12 := lv_neT c_12 (a := 5) (by decide)
                  refine gw_tableOut (tgt := 112) S dc_Mod_card_21 (by omega) (by decide) ?_
                  refine gw_iconst (v := -1) S dc_Mod_card_112 (by decide) ?_
                  exact gw_iret (w := [(mo, .inr (9, [.ref xm, .ref xs, .ref xt, .ref xk, .ref xp, .ref xr, .ref xc, .ref xu, .ref xe, .ref xb, .ref xa, .ref xl, .ref xg, .int pl, .int ft, .int tw, .int inn, .int bd, .int py, .ref x1, .ref x2, .ref x3, .ref x4, .int ap, .ref xq, .int qd, .ref xz, .ref xd, .int ds, .int fl, .int (nI t4)])), (xm, .inl (cA 0, 300, .inl (nJ M))), (xs, .inl (cA 0, 5, .inl (nJ Z))), (xt, .inl (cA 2, 4, .inl the)), (xr, .inl (cA 0, 4, .inl trs)), (xc, .inl (cA 0, 4, .inl cou)), (xu, .inl (cA 0, 4, .inl run)), (xe, .inl (cA 2, 4, .inl see))]) S g_r g_k  [0, 1, 2, 3, 4, 5, 6, 7] rfl (by decide) ⟨ft, tw, inn, bd, t4, (by simp only [f_Mod_card_y, if_neg c_2, if_neg c_3, if_neg c_4, if_neg c_5, if_neg c_6, if_neg c_7, if_neg c_9, if_neg c_12]), (by simp only [f_Mod_card_y, if_neg c_2, if_neg c_3, if_neg c_4, if_neg c_5, if_neg c_6, if_neg c_7, if_neg c_9, if_neg c_12])⟩ dc_Mod_card_113
    · -- not
      exact absurd c_3 hT
theorem val_i {a n : Nat} {w : Int32} (hl : a + n ≤ 60) (c : ¬ nI (a + n) - nI a ≤ w) (c0 : ¬ w < 0) : w = nI (Int32.toNatClampNeg w) ∧ Int32.toNatClampNeg w < n := by
  rw [nI_sub] at c
  have h0 : 0 ≤ w.toInt := by
    rcases Int.lt_or_le w.toInt 0 with q | q
    · exact absurd (Int32.lt_iff_toInt_lt.mpr q) c0
    · exact q
  have hw : w = nI (Int32.toNatClampNeg w) := by
    apply Int32.toInt_inj.mp
    rw [nI_toInt (by have := Int32.toInt_lt w; unfold Int32.toNatClampNeg; omega)]
    unfold Int32.toNatClampNeg
    omega
  have hlt : Int32.toNatClampNeg w < 2 ^ 31 := by have := Int32.toInt_lt w; unfold Int32.toNatClampNeg; omega
  refine ⟨hw, ?_⟩
  rw [hw] at c
  exact lp_lt rfl hlt c
noncomputable def f_Mod_value_y (M : Nat → Nat) (ar : Nat) (acc : List ob_T) (tg : Int32) (w : Int32) : Int32 := if (so_v (fo_s acc tg)) = 0 then (-1) else (if w < 0 then (-1) else (if ((so_t (fo_s acc tg)) - (so_f (fo_s acc tg))) ≤ w then (-1) else (nI (bt M ar ((sn_f (fo_s acc tg)) + (Int32.toNatClampNeg w))))))
set_option maxRecDepth 100000 in
set_option maxHeartbeats 4000000 in
theorem c_Mod_value_y (l : Launch) (D : va_G) (cA : Nat → ClassId) (sz : Nat) (mo : Nat) (xm : Nat) (xs : Nat) (xt : Nat) (xk : Nat) (xp : Nat) (xr : Nat) (xc : Nat) (xu : Nat) (xe : Nat) (xb : Nat) (xa : Nat) (xl : Nat) (xg : Nat) (x1 : Nat) (x2 : Nat) (x3 : Nat) (x4 : Nat) (xq : Nat) (xz : Nat) (xd : Nat) (pl : Int32) (ft : Int32) (tw : Int32) (inn : Int32) (bd : Int32) (py : Int32) (ap : Int32) (qd : Int32) (ds : Int32) (fl : Int32) (t4 : Nat) (M : Nat → Nat) (Z : Nat → Nat) (ar : Nat) (acc : List ob_T) (the : Nat → Int32) (tg : Int32) (w : Int32) (har : ar ≤ 3) (hZ : Z ar ≤ 60) (hB : ∀ j, M j ≤ 255) (hA : pm_r M Z ar = .inr acc) (hT : ¬ the ar = 0) : ct_M l D cA yn_Mod_value cd_Mod_value 5 0 0 sz [.ref mo, .int (nI ar), .int tg, .int w] [(mo, .inr (9, [.ref xm, .ref xs, .ref xt, .ref xk, .ref xp, .ref xr, .ref xc, .ref xu, .ref xe, .ref xb, .ref xa, .ref xl, .ref xg, .int pl, .int ft, .int tw, .int inn, .int bd, .int py, .ref x1, .ref x2, .ref x3, .ref x4, .int ap, .ref xq, .int qd, .ref xz, .ref xd, .int ds, .int fl, .int (nI t4)])), (xm, .inl (cA 0, 300, .inl (nJ M))), (xs, .inl (cA 0, 5, .inl (nJ Z))), (xt, .inl (cA 2, 4, .inl the))] (fun v_ w_ => ∃ (ft9 : Int32), ∃ (tw9 : Int32), ∃ (in9 : Int32), ∃ (b9 : Int32), ∃ (u9 : Nat), v_ = some (.int (f_Mod_value_y M ar acc tg w)) ∧ w_ = [(mo, .inr (9, [.ref xm, .ref xs, .ref xt, .ref xk, .ref xp, .ref xr, .ref xc, .ref xu, .ref xe, .ref xb, .ref xa, .ref xl, .ref xg, .int pl, .int ft9, .int tw9, .int in9, .int b9, .int py, .ref x1, .ref x2, .ref x3, .ref x4, .int ap, .ref xq, .int qd, .ref xz, .ref xd, .int ds, .int fl, .int (nI u9)])), (xm, .inl (cA 0, 300, .inl (nJ M))), (xs, .inl (cA 0, 5, .inl (nJ Z))), (xt, .inl (cA 2, 4, .inl the))]) := by
  refine gw_met (by decide) rfl (Nat.le_of_ble_eq_true rfl) ?_
  intro p_ e_ s_ m_ args_ below_ meth_ c_ A_ S g_r g_k g_n hK hA
  refine gw_eq (ws' := [(mo, .inr (9, [.ref xm, .ref xs, .ref xt, .ref xk, .ref xp, .ref xr, .ref xc, .ref xu, .ref xe, .ref xb, .ref xa, .ref xl, .ref xg, .int pl, .int ft, .int tw, .int inn, .int bd, .int py, .ref x1, .ref x2, .ref x3, .ref x4, .int ap, .ref xq, .int qd, .ref xz, .ref xd, .int ds, .int fl, .int (nI t4)])), (xm, .inl (cA 0, 300, .inl (nJ M))), (xs, .inl (cA 0, 5, .inl (nJ Z))), (xt, .inl (cA 2, 4, .inl the))]) (lv' := [(0, .ref mo), (1, .int (nI ar)), (2, .int tg), (3, .int w)]) (st' := []) (pc' := 0) rfl rfl rfl rfl ?_
  refine gw_iload_n S dc_Mod_value_0 rfl 1 rfl ?_
  refine gw_iconst (v := 0) S dc_Mod_value_1 (by decide) ?_
  refine gw_iconst (v := 3) S dc_Mod_value_2 (by decide) ?_
  refine gw_callSR (As := [.int (nI ar), .int 0, .int 3]) (st := []) S hK (c_Mod_in l D cA (nI ar) 0 3 ) (cw_Mod_101 S.2.2.2.2 rfl rfl ⟨Nat.le_of_ble_eq_true rfl, Nat.le_of_ble_eq_true rfl⟩) [] rfl (by decide) rfl rfl (Nat.le_of_ble_eq_true rfl) dc_Mod_value_3 ⟨Nat.le_of_ble_eq_true rfl, Nat.le_of_ble_eq_true rfl⟩ ?_
  rintro _ rfl
  refine gw_eq (ws' := [(mo, .inr (9, [.ref xm, .ref xs, .ref xt, .ref xk, .ref xp, .ref xr, .ref xc, .ref xu, .ref xe, .ref xb, .ref xa, .ref xl, .ref xg, .int pl, .int ft, .int tw, .int inn, .int bd, .int py, .ref x1, .ref x2, .ref x3, .ref x4, .int ap, .ref xq, .int qd, .ref xz, .ref xd, .int ds, .int fl, .int (nI t4)])), (xm, .inl (cA 0, 300, .inl (nJ M))), (xs, .inl (cA 0, 5, .inl (nJ Z))), (xt, .inl (cA 2, 4, .inl the))]) (lv' := [(0, .ref mo), (1, .int (nI ar)), (2, .int tg), (3, .int w)]) (st' := [.int (f_Mod_in (nI ar) 0 3)]) (pc' := 6) rfl rfl rfl rfl ?_
  refine gw_if_eq (tgt := 27) S dc_Mod_value_6 (by decide) (fun c_2 => ?_) (fun c_2 => ?_)
  · -- taken
    exact absurd c_2 (in_ok (b := 3) (Nat.le_trans har (by decide)) (by decide))
  · -- not
    refine gw_aload_n S dc_Mod_value_9 rfl 0 rfl ?_
    refine gw_get S hK.1 ic_Mod rfl 2 (by decide) (gw_lk S mw_782) 0 rfl rfl dc_Mod_value_10 ?_
    refine gw_iload_n S dc_Mod_value_13 rfl 1 rfl ?_
    refine gw_zaldX (X := ar) S hK.1 3 2 rfl rfl (by omega) (by decide) dc_Mod_value_14 ?_
    refine gw_if_eq (tgt := 27) S dc_Mod_value_15 (by decide) (fun c_3 => ?_) (fun c_3 => ?_)
    · -- taken
      exact absurd c_3 hT
    · -- not
      refine gw_aload_n S dc_Mod_value_18 rfl 0 rfl ?_
      refine gw_iload_n S dc_Mod_value_19 rfl 1 rfl ?_
      refine gw_iload_n S dc_Mod_value_20 rfl 2 rfl ?_
      refine gw_callV (As := [.int (nI ar), .int tg]) (st := []) (wr := [(xt, .inl (cA 2, 4, .inl the))]) S hK hA (fun sz => c_Mod_has2 l D cA sz mo xm xs xt xk xp xr xc xu xe xb xa xl xg x1 x2 x3 x4 xq xz xd pl ft tw inn bd py ap qd ds fl t4 M Z ar tg acc (by omega) (by assumption) (by assumption) (by assumption)) (cw_Mod_97 S.2.2.2.2 rfl rfl ⟨Nat.le_of_ble_eq_true rfl, Nat.le_of_ble_eq_true rfl⟩) [0, 1, 2] [3] rfl (by decide) rfl (by decide) (by decide) 0 rfl rfl rfl rfl rfl (Nat.le_of_ble_eq_true rfl) dc_Mod_value_21 ⟨Nat.le_of_ble_eq_true rfl, Nat.le_of_ble_eq_true rfl⟩ ?_
      rintro _ _ ⟨b9_4, u9_5, rfl, rfl⟩
      refine gw_eq (ws' := [(xt, .inl (cA 2, 4, .inl the)), (mo, .inr (9, [.ref xm, .ref xs, .ref xt, .ref xk, .ref xp, .ref xr, .ref xc, .ref xu, .ref xe, .ref xb, .ref xa, .ref xl, .ref xg, .int pl, .int (so_f (fo_s acc tg)), .int (so_t (fo_s acc tg)), .int (so_i (fo_s acc tg)), .int b9_4, .int py, .ref x1, .ref x2, .ref x3, .ref x4, .int ap, .ref xq, .int qd, .ref xz, .ref xd, .int ds, .int fl, .int (nI u9_5)])), (xm, .inl (cA 0, 300, .inl (nJ M))), (xs, .inl (cA 0, 5, .inl (nJ Z)))]) (lv' := [(0, .ref mo), (1, .int (nI ar)), (2, .int tg), (3, .int w)]) (st' := [.int (so_v (fo_s acc tg))]) (pc' := 24) rfl rfl rfl rfl ?_
      refine gw_if_ne (tgt := 29) S dc_Mod_value_24 (by decide) (fun c_6 => ?_) (fun c_6 => ?_)
      · -- taken
        obtain ⟨hf9, ht9⟩ := so_fn c_6
        have hl9 := sn_le (M := M) (Z := Z) (ar := ar) (tg := tg) hZ hB (by assumption)
        refine gw_iload_n S dc_Mod_value_29 rfl 3 rfl ?_
        refine gw_if_lt (tgt := 55) S dc_Mod_value_30 (by decide) (fun c_7 => ?_) (fun c_7 => ?_)
        · -- taken
          refine gw_iconst (v := -1) S dc_Mod_value_55 (by decide) ?_
          exact gw_iret (w := [(mo, .inr (9, [.ref xm, .ref xs, .ref xt, .ref xk, .ref xp, .ref xr, .ref xc, .ref xu, .ref xe, .ref xb, .ref xa, .ref xl, .ref xg, .int pl, .int (so_f (fo_s acc tg)), .int (so_t (fo_s acc tg)), .int (so_i (fo_s acc tg)), .int b9_4, .int py, .ref x1, .ref x2, .ref x3, .ref x4, .int ap, .ref xq, .int qd, .ref xz, .ref xd, .int ds, .int fl, .int (nI u9_5)])), (xm, .inl (cA 0, 300, .inl (nJ M))), (xs, .inl (cA 0, 5, .inl (nJ Z))), (xt, .inl (cA 2, 4, .inl the))]) S g_r g_k  [1, 2, 3, 0] rfl (by decide) ⟨so_f (fo_s acc tg), so_t (fo_s acc tg), so_i (fo_s acc tg), b9_4, u9_5, (by simp only [f_Mod_value_y, if_neg c_2, if_neg c_3, if_neg c_6, if_pos c_7]), (by simp only [f_Mod_value_y, if_neg c_2, if_neg c_3, if_neg c_6, if_pos c_7])⟩ dc_Mod_value_56
        · -- not
          refine gw_iload_n S dc_Mod_value_33 rfl 3 rfl ?_
          refine gw_aload_n S dc_Mod_value_34 rfl 0 rfl ?_
          refine gw_callVR (As := []) (st := [.int w]) S hK (c_Mod_bytes l D cA mo xm xs xt xk xp xr xc xu xe xb xa xl xg x1 x2 x3 x4 xq xz xd pl (so_f (fo_s acc tg)) (so_t (fo_s acc tg)) (so_i (fo_s acc tg)) b9_4 py ap qd ds fl u9_5 ) (cw_Mod_105 S.2.2.2.2 rfl rfl ⟨Nat.le_of_ble_eq_true rfl, Nat.le_of_ble_eq_true rfl⟩) [1] rfl (by decide) 0 rfl rfl rfl rfl rfl (Nat.le_of_ble_eq_true rfl) dc_Mod_value_35 ⟨Nat.le_of_ble_eq_true rfl, Nat.le_of_ble_eq_true rfl⟩ ?_
          rintro _ rfl
          refine gw_eq (ws' := [(xt, .inl (cA 2, 4, .inl the)), (mo, .inr (9, [.ref xm, .ref xs, .ref xt, .ref xk, .ref xp, .ref xr, .ref xc, .ref xu, .ref xe, .ref xb, .ref xa, .ref xl, .ref xg, .int pl, .int (so_f (fo_s acc tg)), .int (so_t (fo_s acc tg)), .int (so_i (fo_s acc tg)), .int b9_4, .int py, .ref x1, .ref x2, .ref x3, .ref x4, .int ap, .ref xq, .int qd, .ref xz, .ref xd, .int ds, .int fl, .int (nI u9_5)])), (xm, .inl (cA 0, 300, .inl (nJ M))), (xs, .inl (cA 0, 5, .inl (nJ Z)))]) (lv' := [(0, .ref mo), (1, .int (nI ar)), (2, .int tg), (3, .int w)]) (st' := [.int ((so_t (fo_s acc tg)) - (so_f (fo_s acc tg))), .int w]) (pc' := 38) rfl rfl rfl rfl ?_
          refine gw_icmp_ge (tgt := 55) S dc_Mod_value_38 (by decide) (fun c_9 => ?_) (fun c_9 => ?_)
          · -- taken
            refine gw_iconst (v := -1) S dc_Mod_value_55 (by decide) ?_
            exact gw_iret (w := [(mo, .inr (9, [.ref xm, .ref xs, .ref xt, .ref xk, .ref xp, .ref xr, .ref xc, .ref xu, .ref xe, .ref xb, .ref xa, .ref xl, .ref xg, .int pl, .int (so_f (fo_s acc tg)), .int (so_t (fo_s acc tg)), .int (so_i (fo_s acc tg)), .int b9_4, .int py, .ref x1, .ref x2, .ref x3, .ref x4, .int ap, .ref xq, .int qd, .ref xz, .ref xd, .int ds, .int fl, .int (nI u9_5)])), (xm, .inl (cA 0, 300, .inl (nJ M))), (xs, .inl (cA 0, 5, .inl (nJ Z))), (xt, .inl (cA 2, 4, .inl the))]) S g_r g_k  [1, 2, 3, 0] rfl (by decide) ⟨so_f (fo_s acc tg), so_t (fo_s acc tg), so_i (fo_s acc tg), b9_4, u9_5, (by simp only [f_Mod_value_y, if_neg c_2, if_neg c_3, if_neg c_6, if_neg c_7, if_pos c_9]), (by simp only [f_Mod_value_y, if_neg c_2, if_neg c_3, if_neg c_6, if_neg c_7, if_pos c_9])⟩ dc_Mod_value_56
          · -- not
            obtain ⟨hx9, hy9⟩ := val_i hl9 (by rw [← hf9, ← ht9]; exact c_9) c_7
            refine gw_aload_n S dc_Mod_value_41 rfl 0 rfl ?_
            refine gw_iload_n S dc_Mod_value_42 rfl 1 rfl ?_
            refine gw_aload_n S dc_Mod_value_43 rfl 0 rfl ?_
            refine gw_get S hK.1 ic_Mod rfl 14 (by decide) (gw_lk S mw_794) 1 rfl rfl dc_Mod_value_44 ?_
            refine gw_iload_n S dc_Mod_value_47 rfl 3 rfl ?_
            refine gw_eq (ws' := [(xt, .inl (cA 2, 4, .inl the)), (mo, .inr (9, [.ref xm, .ref xs, .ref xt, .ref xk, .ref xp, .ref xr, .ref xc, .ref xu, .ref xe, .ref xb, .ref xa, .ref xl, .ref xg, .int pl, .int (so_f (fo_s acc tg)), .int (so_t (fo_s acc tg)), .int (so_i (fo_s acc tg)), .int b9_4, .int py, .ref x1, .ref x2, .ref x3, .ref x4, .int ap, .ref xq, .int qd, .ref xz, .ref xd, .int ds, .int fl, .int (nI u9_5)])), (xm, .inl (cA 0, 300, .inl (nJ M))), (xs, .inl (cA 0, 5, .inl (nJ Z)))]) (lv' := [(0, .ref mo), (1, .int (nI ar)), (2, .int tg), (3, .int w)]) (st' := [.int (nI (Int32.toNatClampNeg w)), .int (nI (sn_f (fo_s acc tg))), .int (nI ar), .ref mo]) rfl rfl (by rw [← hx9, hf9]) rfl ?_
            refine gw_iaddN (a := sn_f (fo_s acc tg)) (b := Int32.toNatClampNeg w) S dc_Mod_value_48 ?_
            refine gw_callVR (As := [.int (nI ar), .int (nI ((sn_f (fo_s acc tg)) + (Int32.toNatClampNeg w)))]) (st := []) S hK (c_Mod_at l D cA mo xm xs xt xk xp xr xc xu xe xb xa xl xg x1 x2 x3 x4 xq xz xd pl (so_f (fo_s acc tg)) (so_t (fo_s acc tg)) (so_i (fo_s acc tg)) b9_4 py ap qd ds fl u9_5 M ar ((sn_f (fo_s acc tg)) + (Int32.toNatClampNeg w)) (by omega)) (cw_Mod_90 S.2.2.2.2 rfl rfl ⟨Nat.le_of_ble_eq_true rfl, Nat.le_of_ble_eq_true rfl⟩) [1, 2] rfl (by decide) 0 rfl rfl rfl rfl rfl (Nat.le_of_ble_eq_true rfl) dc_Mod_value_49 ⟨Nat.le_of_ble_eq_true rfl, Nat.le_of_ble_eq_true rfl⟩ ?_
            rintro _ rfl
            refine gw_eq (ws' := [(xt, .inl (cA 2, 4, .inl the)), (mo, .inr (9, [.ref xm, .ref xs, .ref xt, .ref xk, .ref xp, .ref xr, .ref xc, .ref xu, .ref xe, .ref xb, .ref xa, .ref xl, .ref xg, .int pl, .int (so_f (fo_s acc tg)), .int (so_t (fo_s acc tg)), .int (so_i (fo_s acc tg)), .int b9_4, .int py, .ref x1, .ref x2, .ref x3, .ref x4, .int ap, .ref xq, .int qd, .ref xz, .ref xd, .int ds, .int fl, .int (nI u9_5)])), (xm, .inl (cA 0, 300, .inl (nJ M))), (xs, .inl (cA 0, 5, .inl (nJ Z)))]) (lv' := [(0, .ref mo), (1, .int (nI ar)), (2, .int tg), (3, .int w)]) (st' := [.int (nI (bt M ar ((sn_f (fo_s acc tg)) + (Int32.toNatClampNeg w))))]) (pc' := 52) rfl rfl rfl rfl ?_
            refine gw_goto (tgt := 56) S dc_Mod_value_52 (by decide) ?_
            exact gw_iret (w := [(mo, .inr (9, [.ref xm, .ref xs, .ref xt, .ref xk, .ref xp, .ref xr, .ref xc, .ref xu, .ref xe, .ref xb, .ref xa, .ref xl, .ref xg, .int pl, .int (so_f (fo_s acc tg)), .int (so_t (fo_s acc tg)), .int (so_i (fo_s acc tg)), .int b9_4, .int py, .ref x1, .ref x2, .ref x3, .ref x4, .int ap, .ref xq, .int qd, .ref xz, .ref xd, .int ds, .int fl, .int (nI u9_5)])), (xm, .inl (cA 0, 300, .inl (nJ M))), (xs, .inl (cA 0, 5, .inl (nJ Z))), (xt, .inl (cA 2, 4, .inl the))]) S g_r g_k  [1, 2, 3, 0] rfl (by decide) ⟨so_f (fo_s acc tg), so_t (fo_s acc tg), so_i (fo_s acc tg), b9_4, u9_5, (by simp only [f_Mod_value_y, if_neg c_2, if_neg c_3, if_neg c_6, if_neg c_7, if_neg c_9]), (by simp only [f_Mod_value_y, if_neg c_2, if_neg c_3, if_neg c_6, if_neg c_7, if_neg c_9])⟩ dc_Mod_value_56
      · -- not
        refine gw_iconst (v := -1) S dc_Mod_value_27 (by decide) ?_
        exact gw_iret (w := [(mo, .inr (9, [.ref xm, .ref xs, .ref xt, .ref xk, .ref xp, .ref xr, .ref xc, .ref xu, .ref xe, .ref xb, .ref xa, .ref xl, .ref xg, .int pl, .int (so_f (fo_s acc tg)), .int (so_t (fo_s acc tg)), .int (so_i (fo_s acc tg)), .int b9_4, .int py, .ref x1, .ref x2, .ref x3, .ref x4, .int ap, .ref xq, .int qd, .ref xz, .ref xd, .int ds, .int fl, .int (nI u9_5)])), (xm, .inl (cA 0, 300, .inl (nJ M))), (xs, .inl (cA 0, 5, .inl (nJ Z))), (xt, .inl (cA 2, 4, .inl the))]) S g_r g_k  [1, 2, 3, 0] rfl (by decide) ⟨so_f (fo_s acc tg), so_t (fo_s acc tg), so_i (fo_s acc tg), b9_4, u9_5, (by simp only [f_Mod_value_y, if_neg c_2, if_neg c_3, if_pos c_6]), (by simp only [f_Mod_value_y, if_neg c_2, if_neg c_3, if_pos c_6])⟩ dc_Mod_value_28
noncomputable def f_Mod_inside_y (acc : List ob_T) (tg : Int32) : Int32 := if (so_v (fo_s acc tg)) = 0 then (-1) else (so_i (fo_s acc tg))
set_option maxRecDepth 100000 in
set_option maxHeartbeats 4000000 in
theorem c_Mod_inside_y (l : Launch) (D : va_G) (cA : Nat → ClassId) (sz : Nat) (mo : Nat) (xm : Nat) (xs : Nat) (xt : Nat) (xk : Nat) (xp : Nat) (xr : Nat) (xc : Nat) (xu : Nat) (xe : Nat) (xb : Nat) (xa : Nat) (xl : Nat) (xg : Nat) (x1 : Nat) (x2 : Nat) (x3 : Nat) (x4 : Nat) (xq : Nat) (xz : Nat) (xd : Nat) (pl : Int32) (ft : Int32) (tw : Int32) (inn : Int32) (bd : Int32) (py : Int32) (ap : Int32) (qd : Int32) (ds : Int32) (fl : Int32) (t4 : Nat) (M : Nat → Nat) (Z : Nat → Nat) (ar : Nat) (acc : List ob_T) (the : Nat → Int32) (tg : Int32) (har : ar ≤ 3) (hZ : Z ar ≤ 60) (hB : ∀ j, M j ≤ 255) (hA : pm_r M Z ar = .inr acc) (hT : ¬ the ar = 0) : ct_M l D cA yn_Mod_inside cd_Mod_inside 5 0 0 sz [.ref mo, .int (nI ar), .int tg] [(mo, .inr (9, [.ref xm, .ref xs, .ref xt, .ref xk, .ref xp, .ref xr, .ref xc, .ref xu, .ref xe, .ref xb, .ref xa, .ref xl, .ref xg, .int pl, .int ft, .int tw, .int inn, .int bd, .int py, .ref x1, .ref x2, .ref x3, .ref x4, .int ap, .ref xq, .int qd, .ref xz, .ref xd, .int ds, .int fl, .int (nI t4)])), (xm, .inl (cA 0, 300, .inl (nJ M))), (xs, .inl (cA 0, 5, .inl (nJ Z))), (xt, .inl (cA 2, 4, .inl the))] (fun v_ w_ => ∃ (ft9 : Int32), ∃ (tw9 : Int32), ∃ (in9 : Int32), ∃ (b9 : Int32), ∃ (u9 : Nat), v_ = some (.int (f_Mod_inside_y acc tg)) ∧ w_ = [(mo, .inr (9, [.ref xm, .ref xs, .ref xt, .ref xk, .ref xp, .ref xr, .ref xc, .ref xu, .ref xe, .ref xb, .ref xa, .ref xl, .ref xg, .int pl, .int ft9, .int tw9, .int in9, .int b9, .int py, .ref x1, .ref x2, .ref x3, .ref x4, .int ap, .ref xq, .int qd, .ref xz, .ref xd, .int ds, .int fl, .int (nI u9)])), (xm, .inl (cA 0, 300, .inl (nJ M))), (xs, .inl (cA 0, 5, .inl (nJ Z))), (xt, .inl (cA 2, 4, .inl the))]) := by
  refine gw_met (by decide) rfl (Nat.le_of_ble_eq_true rfl) ?_
  intro p_ e_ s_ m_ args_ below_ meth_ c_ A_ S g_r g_k g_n hK hA
  refine gw_eq (ws' := [(mo, .inr (9, [.ref xm, .ref xs, .ref xt, .ref xk, .ref xp, .ref xr, .ref xc, .ref xu, .ref xe, .ref xb, .ref xa, .ref xl, .ref xg, .int pl, .int ft, .int tw, .int inn, .int bd, .int py, .ref x1, .ref x2, .ref x3, .ref x4, .int ap, .ref xq, .int qd, .ref xz, .ref xd, .int ds, .int fl, .int (nI t4)])), (xm, .inl (cA 0, 300, .inl (nJ M))), (xs, .inl (cA 0, 5, .inl (nJ Z))), (xt, .inl (cA 2, 4, .inl the))]) (lv' := [(0, .ref mo), (1, .int (nI ar)), (2, .int tg)]) (st' := []) (pc' := 0) rfl rfl rfl rfl ?_
  refine gw_iload_n S dc_Mod_inside_0 rfl 1 rfl ?_
  refine gw_iconst (v := 0) S dc_Mod_inside_1 (by decide) ?_
  refine gw_iconst (v := 3) S dc_Mod_inside_2 (by decide) ?_
  refine gw_callSR (As := [.int (nI ar), .int 0, .int 3]) (st := []) S hK (c_Mod_in l D cA (nI ar) 0 3 ) (cw_Mod_101 S.2.2.2.2 rfl rfl ⟨Nat.le_of_ble_eq_true rfl, Nat.le_of_ble_eq_true rfl⟩) [] rfl (by decide) rfl rfl (Nat.le_of_ble_eq_true rfl) dc_Mod_inside_3 ⟨Nat.le_of_ble_eq_true rfl, Nat.le_of_ble_eq_true rfl⟩ ?_
  rintro _ rfl
  refine gw_eq (ws' := [(mo, .inr (9, [.ref xm, .ref xs, .ref xt, .ref xk, .ref xp, .ref xr, .ref xc, .ref xu, .ref xe, .ref xb, .ref xa, .ref xl, .ref xg, .int pl, .int ft, .int tw, .int inn, .int bd, .int py, .ref x1, .ref x2, .ref x3, .ref x4, .int ap, .ref xq, .int qd, .ref xz, .ref xd, .int ds, .int fl, .int (nI t4)])), (xm, .inl (cA 0, 300, .inl (nJ M))), (xs, .inl (cA 0, 5, .inl (nJ Z))), (xt, .inl (cA 2, 4, .inl the))]) (lv' := [(0, .ref mo), (1, .int (nI ar)), (2, .int tg)]) (st' := [.int (f_Mod_in (nI ar) 0 3)]) (pc' := 6) rfl rfl rfl rfl ?_
  refine gw_if_eq (tgt := 34) S dc_Mod_inside_6 (by decide) (fun c_2 => ?_) (fun c_2 => ?_)
  · -- taken
    exact absurd c_2 (in_ok (b := 3) (Nat.le_trans har (by decide)) (by decide))
  · -- not
    refine gw_aload_n S dc_Mod_inside_9 rfl 0 rfl ?_
    refine gw_get S hK.1 ic_Mod rfl 2 (by decide) (gw_lk S mw_782) 0 rfl rfl dc_Mod_inside_10 ?_
    refine gw_iload_n S dc_Mod_inside_13 rfl 1 rfl ?_
    refine gw_zaldX (X := ar) S hK.1 3 2 rfl rfl (by omega) (by decide) dc_Mod_inside_14 ?_
    refine gw_if_eq (tgt := 34) S dc_Mod_inside_15 (by decide) (fun c_3 => ?_) (fun c_3 => ?_)
    · -- taken
      exact absurd c_3 hT
    · -- not
      refine gw_aload_n S dc_Mod_inside_18 rfl 0 rfl ?_
      refine gw_iload_n S dc_Mod_inside_19 rfl 1 rfl ?_
      refine gw_iload_n S dc_Mod_inside_20 rfl 2 rfl ?_
      refine gw_callV (As := [.int (nI ar), .int tg]) (st := []) (wr := [(xt, .inl (cA 2, 4, .inl the))]) S hK hA (fun sz => c_Mod_has2 l D cA sz mo xm xs xt xk xp xr xc xu xe xb xa xl xg x1 x2 x3 x4 xq xz xd pl ft tw inn bd py ap qd ds fl t4 M Z ar tg acc (by omega) (by assumption) (by assumption) (by assumption)) (cw_Mod_97 S.2.2.2.2 rfl rfl ⟨Nat.le_of_ble_eq_true rfl, Nat.le_of_ble_eq_true rfl⟩) [0, 1, 2] [3] rfl (by decide) rfl (by decide) (by decide) 0 rfl rfl rfl rfl rfl (Nat.le_of_ble_eq_true rfl) dc_Mod_inside_21 ⟨Nat.le_of_ble_eq_true rfl, Nat.le_of_ble_eq_true rfl⟩ ?_
      rintro _ _ ⟨b9_4, u9_5, rfl, rfl⟩
      refine gw_eq (ws' := [(xt, .inl (cA 2, 4, .inl the)), (mo, .inr (9, [.ref xm, .ref xs, .ref xt, .ref xk, .ref xp, .ref xr, .ref xc, .ref xu, .ref xe, .ref xb, .ref xa, .ref xl, .ref xg, .int pl, .int (so_f (fo_s acc tg)), .int (so_t (fo_s acc tg)), .int (so_i (fo_s acc tg)), .int b9_4, .int py, .ref x1, .ref x2, .ref x3, .ref x4, .int ap, .ref xq, .int qd, .ref xz, .ref xd, .int ds, .int fl, .int (nI u9_5)])), (xm, .inl (cA 0, 300, .inl (nJ M))), (xs, .inl (cA 0, 5, .inl (nJ Z)))]) (lv' := [(0, .ref mo), (1, .int (nI ar)), (2, .int tg)]) (st' := [.int (so_v (fo_s acc tg))]) (pc' := 24) rfl rfl rfl rfl ?_
      refine gw_if_eq (tgt := 34) S dc_Mod_inside_24 (by decide) (fun c_6 => ?_) (fun c_6 => ?_)
      · -- taken
        refine gw_iconst (v := -1) S dc_Mod_inside_34 (by decide) ?_
        exact gw_iret (w := [(mo, .inr (9, [.ref xm, .ref xs, .ref xt, .ref xk, .ref xp, .ref xr, .ref xc, .ref xu, .ref xe, .ref xb, .ref xa, .ref xl, .ref xg, .int pl, .int (so_f (fo_s acc tg)), .int (so_t (fo_s acc tg)), .int (so_i (fo_s acc tg)), .int b9_4, .int py, .ref x1, .ref x2, .ref x3, .ref x4, .int ap, .ref xq, .int qd, .ref xz, .ref xd, .int ds, .int fl, .int (nI u9_5)])), (xm, .inl (cA 0, 300, .inl (nJ M))), (xs, .inl (cA 0, 5, .inl (nJ Z))), (xt, .inl (cA 2, 4, .inl the))]) S g_r g_k  [1, 2, 3, 0] rfl (by decide) ⟨so_f (fo_s acc tg), so_t (fo_s acc tg), so_i (fo_s acc tg), b9_4, u9_5, (by simp only [f_Mod_inside_y, if_neg c_2, if_neg c_3, if_pos c_6]), (by simp only [f_Mod_inside_y, if_neg c_2, if_neg c_3, if_pos c_6])⟩ dc_Mod_inside_35
      · -- not
        refine gw_aload_n S dc_Mod_inside_27 rfl 0 rfl ?_
        refine gw_get S hK.1 ic_Mod rfl 16 (by decide) (gw_lk S mw_796) 1 rfl rfl dc_Mod_inside_28 ?_
        refine gw_goto (tgt := 35) S dc_Mod_inside_31 (by decide) ?_
        exact gw_iret (w := [(mo, .inr (9, [.ref xm, .ref xs, .ref xt, .ref xk, .ref xp, .ref xr, .ref xc, .ref xu, .ref xe, .ref xb, .ref xa, .ref xl, .ref xg, .int pl, .int (so_f (fo_s acc tg)), .int (so_t (fo_s acc tg)), .int (so_i (fo_s acc tg)), .int b9_4, .int py, .ref x1, .ref x2, .ref x3, .ref x4, .int ap, .ref xq, .int qd, .ref xz, .ref xd, .int ds, .int fl, .int (nI u9_5)])), (xm, .inl (cA 0, 300, .inl (nJ M))), (xs, .inl (cA 0, 5, .inl (nJ Z))), (xt, .inl (cA 2, 4, .inl the))]) S g_r g_k  [1, 2, 3, 0] rfl (by decide) ⟨so_f (fo_s acc tg), so_t (fo_s acc tg), so_i (fo_s acc tg), b9_4, u9_5, (by simp only [f_Mod_inside_y, if_neg c_2, if_neg c_3, if_neg c_6]), (by simp only [f_Mod_inside_y, if_neg c_2, if_neg c_3, if_neg c_6])⟩ dc_Mod_inside_35
