noncomputable def f_Mod_send_r  : Int32 := -1
set_option maxRecDepth 100000 in
set_option maxHeartbeats 4000000 in
theorem c_Mod_send_r (l : Launch) (D : va_G) (cA : Nat → ClassId) (mo : Nat) (xm : Nat) (xs : Nat) (xt : Nat) (xk : Nat) (xp : Nat) (xr : Nat) (xc : Nat) (xu : Nat) (xe : Nat) (xb : Nat) (xa : Nat) (xl : Nat) (xg : Nat) (x1 : Nat) (x2 : Nat) (x3 : Nat) (x4 : Nat) (xq : Nat) (xz : Nat) (xd : Nat) (pl : Int32) (ft : Int32) (tw : Int32) (inn : Int32) (bd : Int32) (py : Int32) (ap : Int32) (ds : Int32) (fl : Int32) (u4 : Int32) (qn : Nat) (g : Nat → Int32) (x : Int32) (hb : f_Mod_in x 0 2 = 0 ∨ g 2 = 0 ∨ qn = 0) (hq9 : qn ≤ 6) : ct_R l D cA yn_Mod_send cd_Mod_send 2 [.ref mo, .int x] [(mo, .inr (9, [.ref xm, .ref xs, .ref xt, .ref xk, .ref xp, .ref xr, .ref xc, .ref xu, .ref xe, .ref xb, .ref xa, .ref xl, .ref xg, .int pl, .int ft, .int tw, .int inn, .int bd, .int py, .ref x1, .ref x2, .ref x3, .ref x4, .int ap, .ref xq, .int (nI qn), .ref xz, .ref xd, .int ds, .int fl, .int u4])), (xg, .inl (cA 0, 7, .inl g))] (fun v_ => v_ = some (.int f_Mod_send_r)) := by
  refine gw_metR (by decide) rfl (Nat.le_of_ble_eq_true rfl) ?_
  intro p_ e_ s_ m_ args_ below_ meth_ c_ S g_r g_k hK
  refine gw_eq (ws' := [(mo, .inr (9, [.ref xm, .ref xs, .ref xt, .ref xk, .ref xp, .ref xr, .ref xc, .ref xu, .ref xe, .ref xb, .ref xa, .ref xl, .ref xg, .int pl, .int ft, .int tw, .int inn, .int bd, .int py, .ref x1, .ref x2, .ref x3, .ref x4, .int ap, .ref xq, .int (nI qn), .ref xz, .ref xd, .int ds, .int fl, .int u4])), (xg, .inl (cA 0, 7, .inl g))]) (lv' := [(0, .ref mo), (1, .int x)]) (st' := []) (pc' := 0) rfl rfl rfl rfl ?_
  refine gw_iload_n S dc_Mod_send_0 rfl 1 rfl ?_
  refine gw_iconst (v := 0) S dc_Mod_send_1 (by decide) ?_
  refine gw_iconst (v := 2) S dc_Mod_send_2 (by decide) ?_
  refine gw_callSR (As := [.int x, .int 0, .int 2]) (st := []) S hK (c_Mod_in l D cA x 0 2 ) (cw_Mod_101 S.2.2.2.2 rfl rfl ⟨Nat.le_of_ble_eq_true rfl, Nat.le_of_ble_eq_true rfl⟩) [] rfl (by decide) rfl rfl (Nat.le_of_ble_eq_true rfl) dc_Mod_send_3 ⟨Nat.le_of_ble_eq_true rfl, Nat.le_of_ble_eq_true rfl⟩ ?_
  rintro _ rfl
  refine gw_eq (ws' := [(mo, .inr (9, [.ref xm, .ref xs, .ref xt, .ref xk, .ref xp, .ref xr, .ref xc, .ref xu, .ref xe, .ref xb, .ref xa, .ref xl, .ref xg, .int pl, .int ft, .int tw, .int inn, .int bd, .int py, .ref x1, .ref x2, .ref x3, .ref x4, .int ap, .ref xq, .int (nI qn), .ref xz, .ref xd, .int ds, .int fl, .int u4])), (xg, .inl (cA 0, 7, .inl g))]) (lv' := [(0, .ref mo), (1, .int x)]) (st' := [.int (f_Mod_in x 0 2)]) (pc' := 6) rfl rfl rfl rfl ?_
  refine gw_if_eq (tgt := 25) S dc_Mod_send_6 (by decide) (fun c_2 => ?_) (fun c_2 => ?_)
  · -- taken
    refine gw_iconst (v := -1) S dc_Mod_send_25 (by decide) ?_
    exact gw_iretR S g_r g_k  (by simp only [f_Mod_send_r, if_pos c_2]) dc_Mod_send_26
  · -- not
    refine gw_aload_n S dc_Mod_send_9 rfl 0 rfl ?_
    refine gw_get S hK.1 ic_Mod rfl 12 (by decide) (gw_lk S mw_792) 0 rfl rfl dc_Mod_send_10 ?_
    refine gw_iconst (v := 2) S dc_Mod_send_13 (by decide) ?_
    refine gw_iald S hK.1 1 0 rfl rfl (by unfold vp_in; decide) dc_Mod_send_14 ?_
    refine gw_eq (ws' := [(mo, .inr (9, [.ref xm, .ref xs, .ref xt, .ref xk, .ref xp, .ref xr, .ref xc, .ref xu, .ref xe, .ref xb, .ref xa, .ref xl, .ref xg, .int pl, .int ft, .int tw, .int inn, .int bd, .int py, .ref x1, .ref x2, .ref x3, .ref x4, .int ap, .ref xq, .int (nI qn), .ref xz, .ref xd, .int ds, .int fl, .int u4])), (xg, .inl (cA 0, 7, .inl g))]) (lv' := [(0, .ref mo), (1, .int x)]) (st' := [.int (g 2)]) (pc' := 15) rfl rfl rfl rfl ?_
    refine gw_if_eq (tgt := 25) S dc_Mod_send_15 (by decide) (fun c_3 => ?_) (fun c_3 => ?_)
    · -- taken
      refine gw_iconst (v := -1) S dc_Mod_send_25 (by decide) ?_
      exact gw_iretR S g_r g_k  (by simp only [f_Mod_send_r, if_neg c_2, if_pos c_3]) dc_Mod_send_26
    · -- not
      refine gw_aload_n S dc_Mod_send_18 rfl 0 rfl ?_
      refine gw_get S hK.1 ic_Mod rfl 25 (by decide) (gw_lk S mw_805) 0 rfl rfl dc_Mod_send_19 ?_
      refine gw_if_ne (tgt := 27) S dc_Mod_send_22 (by decide) (fun c_4 => ?_) (fun c_4 => ?_)
      · -- taken
        rcases hb with q | q | q <;> first | contradiction | exact absurd (show nI qn = 0 by rw [q]; rfl) c_4
      · -- not
        refine gw_iconst (v := -1) S dc_Mod_send_25 (by decide) ?_
        exact gw_iretR S g_r g_k  (by simp only [f_Mod_send_r, if_neg c_2, if_neg c_3, if_pos c_4]) dc_Mod_send_26
set_option maxRecDepth 100000 in
set_option maxHeartbeats 4000000 in
theorem c_Mod_send_1 (l : Launch) (D : va_G) (cA : Nat → ClassId) (mo : Nat) (xm : Nat) (xs : Nat) (xt : Nat) (xk : Nat) (xp : Nat) (xr : Nat) (xc : Nat) (xu : Nat) (xe : Nat) (xb : Nat) (xa : Nat) (xl : Nat) (xg : Nat) (x1 : Nat) (x2 : Nat) (x3 : Nat) (x4 : Nat) (xq : Nat) (xz : Nat) (xd : Nat) (pl : Int32) (ft : Int32) (tw : Int32) (inn : Int32) (bd : Int32) (py : Int32) (ap : Int32) (ds : Int32) (fl : Int32) (u4 : Int32) (qn : Nat) (g : Nat → Int32) (hc2 : ¬ g 2 = 0) (hq0 : 0 < qn) (hq9 : qn ≤ 6) : ct_R l D cA yn_Mod_send cd_Mod_send 2 [.ref mo, .int 1] [(mo, .inr (9, [.ref xm, .ref xs, .ref xt, .ref xk, .ref xp, .ref xr, .ref xc, .ref xu, .ref xe, .ref xb, .ref xa, .ref xl, .ref xg, .int pl, .int ft, .int tw, .int inn, .int bd, .int py, .ref x1, .ref x2, .ref x3, .ref x4, .int ap, .ref xq, .int (nI qn), .ref xz, .ref xd, .int ds, .int fl, .int u4])), (xg, .inl (cA 0, 7, .inl g))] (fun v_ => v_ = some (.int 0)) := by
  refine gw_metR (by decide) rfl (Nat.le_of_ble_eq_true rfl) ?_
  intro p_ e_ s_ m_ args_ below_ meth_ c_ S g_r g_k hK
  refine gw_eq (ws' := [(mo, .inr (9, [.ref xm, .ref xs, .ref xt, .ref xk, .ref xp, .ref xr, .ref xc, .ref xu, .ref xe, .ref xb, .ref xa, .ref xl, .ref xg, .int pl, .int ft, .int tw, .int inn, .int bd, .int py, .ref x1, .ref x2, .ref x3, .ref x4, .int ap, .ref xq, .int (nI qn), .ref xz, .ref xd, .int ds, .int fl, .int u4])), (xg, .inl (cA 0, 7, .inl g))]) (lv' := [(0, .ref mo), (1, .int 1)]) (st' := []) (pc' := 0) rfl rfl rfl rfl ?_
  refine gw_iload_n S dc_Mod_send_0 rfl 1 rfl ?_
  refine gw_iconst (v := 0) S dc_Mod_send_1 (by decide) ?_
  refine gw_iconst (v := 2) S dc_Mod_send_2 (by decide) ?_
  refine gw_callSR (As := [.int 1, .int 0, .int 2]) (st := []) S hK (c_Mod_in l D cA 1 0 2 ) (cw_Mod_101 S.2.2.2.2 rfl rfl ⟨Nat.le_of_ble_eq_true rfl, Nat.le_of_ble_eq_true rfl⟩) [] rfl (by decide) rfl rfl (Nat.le_of_ble_eq_true rfl) dc_Mod_send_3 ⟨Nat.le_of_ble_eq_true rfl, Nat.le_of_ble_eq_true rfl⟩ ?_
  rintro _ rfl
  refine gw_eq (ws' := [(mo, .inr (9, [.ref xm, .ref xs, .ref xt, .ref xk, .ref xp, .ref xr, .ref xc, .ref xu, .ref xe, .ref xb, .ref xa, .ref xl, .ref xg, .int pl, .int ft, .int tw, .int inn, .int bd, .int py, .ref x1, .ref x2, .ref x3, .ref x4, .int ap, .ref xq, .int (nI qn), .ref xz, .ref xd, .int ds, .int fl, .int u4])), (xg, .inl (cA 0, 7, .inl g))]) (lv' := [(0, .ref mo), (1, .int 1)]) (st' := [.int (f_Mod_in 1 0 2)]) (pc' := 6) rfl rfl rfl rfl ?_
  refine gw_if_eq (tgt := 25) S dc_Mod_send_6 (by decide) (fun c_2 => ?_) (fun c_2 => ?_)
  · -- taken
    exact absurd c_2 (by decide)
  · -- not
    refine gw_aload_n S dc_Mod_send_9 rfl 0 rfl ?_
    refine gw_get S hK.1 ic_Mod rfl 12 (by decide) (gw_lk S mw_792) 0 rfl rfl dc_Mod_send_10 ?_
    refine gw_iconst (v := 2) S dc_Mod_send_13 (by decide) ?_
    refine gw_iald S hK.1 1 0 rfl rfl (by unfold vp_in; decide) dc_Mod_send_14 ?_
    refine gw_eq (ws' := [(mo, .inr (9, [.ref xm, .ref xs, .ref xt, .ref xk, .ref xp, .ref xr, .ref xc, .ref xu, .ref xe, .ref xb, .ref xa, .ref xl, .ref xg, .int pl, .int ft, .int tw, .int inn, .int bd, .int py, .ref x1, .ref x2, .ref x3, .ref x4, .int ap, .ref xq, .int (nI qn), .ref xz, .ref xd, .int ds, .int fl, .int u4])), (xg, .inl (cA 0, 7, .inl g))]) (lv' := [(0, .ref mo), (1, .int 1)]) (st' := [.int (g 2)]) (pc' := 15) rfl rfl rfl rfl ?_
    refine gw_if_eq (tgt := 25) S dc_Mod_send_15 (by decide) (fun c_3 => ?_) (fun c_3 => ?_)
    · -- taken
      exact absurd c_3 hc2
    · -- not
      refine gw_aload_n S dc_Mod_send_18 rfl 0 rfl ?_
      refine gw_get S hK.1 ic_Mod rfl 25 (by decide) (gw_lk S mw_805) 0 rfl rfl dc_Mod_send_19 ?_
      refine gw_if_ne (tgt := 27) S dc_Mod_send_22 (by decide) (fun c_4 => ?_) (fun c_4 => ?_)
      · -- taken
        refine gw_iload_n S dc_Mod_send_27 rfl 1 rfl ?_
        refine gw_iconst (v := 1) S dc_Mod_send_28 (by decide) ?_
        refine gw_icmp_ne (tgt := 34) S dc_Mod_send_29 (by decide) (fun c_5 => by exact absurd c_5 (by decide)) (fun c_5 => ?_)
        refine gw_iconst (v := 0) S dc_Mod_send_32 (by decide) ?_
        exact gw_iretR S g_r g_k  (by simp only [if_neg c_2, if_neg c_3, if_neg c_4]) dc_Mod_send_33
      · -- not
        exact absurd c_4 (nI_ne0 hq0 (by omega))
noncomputable def f_Mod_send_2  : Int32 := 0
noncomputable def f_Mod_send_2_2 (bal : Nat → Int32) (pam : Nat → Int32) (pcd : Nat → Int32) (pbk : Nat → Int32) (p8 : Nat) (a8 : Nat) : Nat → Int32 := if (pcd p8) = 1 then (if (pbk p8) = 0 then (upd bal a8 ((bal a8) + (pam p8))) else (bal)) else (bal)
noncomputable def f_Mod_send_2_7 (pcd : Nat → Int32) (pbk : Nat → Int32) (p8 : Nat) : Nat → Int32 := if (pcd p8) = 1 then (if (pbk p8) = 0 then (upd pbk p8 (vp_nar .boolean 1)) else (pbk)) else (pbk)
set_option maxRecDepth 100000 in
set_option maxHeartbeats 4000000 in
theorem c_Mod_send_2 (l : Launch) (D : va_G) (cA : Nat → ClassId) (sz : Nat) (mo : Nat) (xm : Nat) (xs : Nat) (xt : Nat) (xk : Nat) (xp : Nat) (xr : Nat) (xc : Nat) (xu : Nat) (xe : Nat) (xb : Nat) (xa : Nat) (xl : Nat) (xg : Nat) (x1 : Nat) (x2 : Nat) (x3 : Nat) (x4 : Nat) (xq : Nat) (xz : Nat) (xd : Nat) (pl : Int32) (ft : Int32) (tw : Int32) (inn : Int32) (bd : Int32) (py : Int32) (ap : Int32) (ds : Int32) (fl : Int32) (u4 : Int32) (qn : Nat) (g : Nat → Int32) (bal : Nat → Int32) (que : Nat → Int32) (pac : Nat → Int32) (pam : Nat → Int32) (pcd : Nat → Int32) (pbk : Nat → Int32) (p8 : Nat) (a8 : Nat) (hc2 : ¬ g 2 = 0) (hq0 : 0 < qn) (hq9 : qn ≤ 6) (hp8 : que 0 = nI p8) (hp5 : p8 ≤ 512) (ha8 : pac p8 = nI a8) (ha7 : a8 < 8) : ct_M l D cA yn_Mod_send cd_Mod_send 2 0 0 sz [.ref mo, .int 2] [(mo, .inr (9, [.ref xm, .ref xs, .ref xt, .ref xk, .ref xp, .ref xr, .ref xc, .ref xu, .ref xe, .ref xb, .ref xa, .ref xl, .ref xg, .int pl, .int ft, .int tw, .int inn, .int bd, .int py, .ref x1, .ref x2, .ref x3, .ref x4, .int ap, .ref xq, .int (nI qn), .ref xz, .ref xd, .int ds, .int fl, .int u4])), (xg, .inl (cA 0, 7, .inl g)), (xb, .inl (cA 0, 8, .inl bal)), (xq, .inl (cA 0, 7, .inl que)), (x1, .inl (cA 0, 513, .inl pac)), (x2, .inl (cA 0, 513, .inl pam)), (x3, .inl (cA 0, 513, .inl pcd)), (x4, .inl (cA 2, 513, .inl pbk))] (fun v_ w_ => v_ = some (.int f_Mod_send_2) ∧ w_ = [(mo, .inr (9, [.ref xm, .ref xs, .ref xt, .ref xk, .ref xp, .ref xr, .ref xc, .ref xu, .ref xe, .ref xb, .ref xa, .ref xl, .ref xg, .int pl, .int ft, .int tw, .int inn, .int bd, .int py, .ref x1, .ref x2, .ref x3, .ref x4, .int ap, .ref xq, .int (nI qn), .ref xz, .ref xd, .int ds, .int fl, .int u4])), (xg, .inl (cA 0, 7, .inl g)), (xb, .inl (cA 0, 8, .inl (f_Mod_send_2_2 bal pam pcd pbk p8 a8))), (xq, .inl (cA 0, 7, .inl que)), (x1, .inl (cA 0, 513, .inl pac)), (x2, .inl (cA 0, 513, .inl pam)), (x3, .inl (cA 0, 513, .inl pcd)), (x4, .inl (cA 2, 513, .inl (f_Mod_send_2_7 pcd pbk p8)))]) := by
  refine gw_met (by decide) rfl (Nat.le_of_ble_eq_true rfl) ?_
  intro p_ e_ s_ m_ args_ below_ meth_ c_ A_ S g_r g_k g_n hK hA
  refine gw_eq (ws' := [(mo, .inr (9, [.ref xm, .ref xs, .ref xt, .ref xk, .ref xp, .ref xr, .ref xc, .ref xu, .ref xe, .ref xb, .ref xa, .ref xl, .ref xg, .int pl, .int ft, .int tw, .int inn, .int bd, .int py, .ref x1, .ref x2, .ref x3, .ref x4, .int ap, .ref xq, .int (nI qn), .ref xz, .ref xd, .int ds, .int fl, .int u4])), (xg, .inl (cA 0, 7, .inl g)), (xb, .inl (cA 0, 8, .inl bal)), (xq, .inl (cA 0, 7, .inl que)), (x1, .inl (cA 0, 513, .inl pac)), (x2, .inl (cA 0, 513, .inl pam)), (x3, .inl (cA 0, 513, .inl pcd)), (x4, .inl (cA 2, 513, .inl pbk))]) (lv' := [(0, .ref mo), (1, .int 2)]) (st' := []) (pc' := 0) rfl rfl rfl rfl ?_
  refine gw_iload_n S dc_Mod_send_0 rfl 1 rfl ?_
  refine gw_iconst (v := 0) S dc_Mod_send_1 (by decide) ?_
  refine gw_iconst (v := 2) S dc_Mod_send_2 (by decide) ?_
  refine gw_callSR (As := [.int 2, .int 0, .int 2]) (st := []) S hK (c_Mod_in l D cA 2 0 2 ) (cw_Mod_101 S.2.2.2.2 rfl rfl ⟨Nat.le_of_ble_eq_true rfl, Nat.le_of_ble_eq_true rfl⟩) [] rfl (by decide) rfl rfl (Nat.le_of_ble_eq_true rfl) dc_Mod_send_3 ⟨Nat.le_of_ble_eq_true rfl, Nat.le_of_ble_eq_true rfl⟩ ?_
  rintro _ rfl
  refine gw_eq (ws' := [(mo, .inr (9, [.ref xm, .ref xs, .ref xt, .ref xk, .ref xp, .ref xr, .ref xc, .ref xu, .ref xe, .ref xb, .ref xa, .ref xl, .ref xg, .int pl, .int ft, .int tw, .int inn, .int bd, .int py, .ref x1, .ref x2, .ref x3, .ref x4, .int ap, .ref xq, .int (nI qn), .ref xz, .ref xd, .int ds, .int fl, .int u4])), (xg, .inl (cA 0, 7, .inl g)), (xb, .inl (cA 0, 8, .inl bal)), (xq, .inl (cA 0, 7, .inl que)), (x1, .inl (cA 0, 513, .inl pac)), (x2, .inl (cA 0, 513, .inl pam)), (x3, .inl (cA 0, 513, .inl pcd)), (x4, .inl (cA 2, 513, .inl pbk))]) (lv' := [(0, .ref mo), (1, .int 2)]) (st' := [.int (f_Mod_in 2 0 2)]) (pc' := 6) rfl rfl rfl rfl ?_
  refine gw_if_eq (tgt := 25) S dc_Mod_send_6 (by decide) (fun c_2 => ?_) (fun c_2 => ?_)
  · -- taken
    exact absurd c_2 (by decide)
  · -- not
    refine gw_aload_n S dc_Mod_send_9 rfl 0 rfl ?_
    refine gw_get S hK.1 ic_Mod rfl 12 (by decide) (gw_lk S mw_792) 0 rfl rfl dc_Mod_send_10 ?_
    refine gw_iconst (v := 2) S dc_Mod_send_13 (by decide) ?_
    refine gw_iald S hK.1 1 0 rfl rfl (by unfold vp_in; decide) dc_Mod_send_14 ?_
    refine gw_eq (ws' := [(mo, .inr (9, [.ref xm, .ref xs, .ref xt, .ref xk, .ref xp, .ref xr, .ref xc, .ref xu, .ref xe, .ref xb, .ref xa, .ref xl, .ref xg, .int pl, .int ft, .int tw, .int inn, .int bd, .int py, .ref x1, .ref x2, .ref x3, .ref x4, .int ap, .ref xq, .int (nI qn), .ref xz, .ref xd, .int ds, .int fl, .int u4])), (xg, .inl (cA 0, 7, .inl g)), (xb, .inl (cA 0, 8, .inl bal)), (xq, .inl (cA 0, 7, .inl que)), (x1, .inl (cA 0, 513, .inl pac)), (x2, .inl (cA 0, 513, .inl pam)), (x3, .inl (cA 0, 513, .inl pcd)), (x4, .inl (cA 2, 513, .inl pbk))]) (lv' := [(0, .ref mo), (1, .int 2)]) (st' := [.int (g 2)]) (pc' := 15) rfl rfl rfl rfl ?_
    refine gw_if_eq (tgt := 25) S dc_Mod_send_15 (by decide) (fun c_3 => ?_) (fun c_3 => ?_)
    · -- taken
      exact absurd c_3 hc2
    · -- not
      refine gw_aload_n S dc_Mod_send_18 rfl 0 rfl ?_
      refine gw_get S hK.1 ic_Mod rfl 25 (by decide) (gw_lk S mw_805) 0 rfl rfl dc_Mod_send_19 ?_
      refine gw_if_ne (tgt := 27) S dc_Mod_send_22 (by decide) (fun c_4 => ?_) (fun c_4 => ?_)
      · -- taken
        refine gw_iload_n S dc_Mod_send_27 rfl 1 rfl ?_
        refine gw_iconst (v := 1) S dc_Mod_send_28 (by decide) ?_
        refine gw_icmp_ne (tgt := 34) S dc_Mod_send_29 (by decide) (fun c_5 => ?_) (fun c_5 => by exact absurd c_5 (by decide))
        refine gw_aload_n S dc_Mod_send_34 rfl 0 rfl ?_
        refine gw_get S hK.1 ic_Mod rfl 24 (by decide) (gw_lk S mw_804) 0 rfl rfl dc_Mod_send_35 ?_
        refine gw_iconst (v := 0) S dc_Mod_send_38 (by decide) ?_
        refine gw_iald S hK.1 3 0 rfl rfl (by unfold vp_in; decide) dc_Mod_send_39 ?_
        refine gw_eq (ws' := [(mo, .inr (9, [.ref xm, .ref xs, .ref xt, .ref xk, .ref xp, .ref xr, .ref xc, .ref xu, .ref xe, .ref xb, .ref xa, .ref xl, .ref xg, .int pl, .int ft, .int tw, .int inn, .int bd, .int py, .ref x1, .ref x2, .ref x3, .ref x4, .int ap, .ref xq, .int (nI qn), .ref xz, .ref xd, .int ds, .int fl, .int u4])), (xg, .inl (cA 0, 7, .inl g)), (xb, .inl (cA 0, 8, .inl bal)), (xq, .inl (cA 0, 7, .inl que)), (x1, .inl (cA 0, 513, .inl pac)), (x2, .inl (cA 0, 513, .inl pam)), (x3, .inl (cA 0, 513, .inl pcd)), (x4, .inl (cA 2, 513, .inl pbk))]) (lv' := [(0, .ref mo), (1, .int 2)]) (st' := [.int (que 0)]) (pc' := 40) rfl rfl rfl rfl ?_
        refine gw_eq (ws' := [(mo, .inr (9, [.ref xm, .ref xs, .ref xt, .ref xk, .ref xp, .ref xr, .ref xc, .ref xu, .ref xe, .ref xb, .ref xa, .ref xl, .ref xg, .int pl, .int ft, .int tw, .int inn, .int bd, .int py, .ref x1, .ref x2, .ref x3, .ref x4, .int ap, .ref xq, .int (nI qn), .ref xz, .ref xd, .int ds, .int fl, .int u4])), (xg, .inl (cA 0, 7, .inl g)), (xb, .inl (cA 0, 8, .inl bal)), (xq, .inl (cA 0, 7, .inl que)), (x1, .inl (cA 0, 513, .inl pac)), (x2, .inl (cA 0, 513, .inl pam)), (x3, .inl (cA 0, 513, .inl pcd)), (x4, .inl (cA 2, 513, .inl pbk))]) (lv' := [(0, .ref mo), (1, .int 2)]) (st' := [.int (nI p8)]) rfl rfl (by rw [hp8]) rfl ?_
        refine gw_istore_n (lv' := [(2, .int (nI p8)), (0, .ref mo), (1, .int 2)]) S dc_Mod_send_40 rfl (by decide) rfl ?_
        refine gw_aload_n S dc_Mod_send_41 rfl 1 rfl ?_
        refine gw_get S hK.1 ic_Mod rfl 21 (by decide) (gw_lk S mw_801) 0 rfl rfl dc_Mod_send_42 ?_
        refine gw_iload_n S dc_Mod_send_45 rfl 0 rfl ?_
        refine gw_ialdX (X := p8) S hK.1 6 0 rfl rfl (by omega) (by decide) dc_Mod_send_46 ?_
        refine gw_iconst (v := 1) S dc_Mod_send_47 (by decide) ?_
        refine gw_icmp_ne (tgt := 87) S dc_Mod_send_48 (by decide) (fun c_6 => ?_) (fun c_6 => ?_)
        · -- taken
          refine gw_iload_n S dc_Mod_send_87 rfl 2 rfl ?_
          refine gw_iconst (v := 2) S dc_Mod_send_88 (by decide) ?_
          refine gw_icmp_ne (tgt := 94) S dc_Mod_send_89 (by decide) (fun c_7 => by exact absurd c_7 (by decide)) (fun c_7 => ?_)
          refine gw_iconst (v := 0) S dc_Mod_send_92 (by decide) ?_
          exact gw_iret (w := [(mo, .inr (9, [.ref xm, .ref xs, .ref xt, .ref xk, .ref xp, .ref xr, .ref xc, .ref xu, .ref xe, .ref xb, .ref xa, .ref xl, .ref xg, .int pl, .int ft, .int tw, .int inn, .int bd, .int py, .ref x1, .ref x2, .ref x3, .ref x4, .int ap, .ref xq, .int (nI qn), .ref xz, .ref xd, .int ds, .int fl, .int u4])), (xg, .inl (cA 0, 7, .inl g)), (xb, .inl (cA 0, 8, .inl bal)), (xq, .inl (cA 0, 7, .inl que)), (x1, .inl (cA 0, 513, .inl pac)), (x2, .inl (cA 0, 513, .inl pam)), (x3, .inl (cA 0, 513, .inl pcd)), (x4, .inl (cA 2, 513, .inl pbk))]) S g_r g_k  [0, 1, 2, 3, 4, 5, 6, 7] rfl (by decide) ⟨(by simp only [f_Mod_send_2, f_Mod_send_2_2, f_Mod_send_2_7, if_neg c_2, if_neg c_3, if_neg c_4, if_neg c_6]), (by simp only [f_Mod_send_2, f_Mod_send_2_2, f_Mod_send_2_7, if_neg c_2, if_neg c_3, if_neg c_4, if_neg c_6])⟩ dc_Mod_send_93
        · -- not
          refine gw_aload_n S dc_Mod_send_51 rfl 1 rfl ?_
          refine gw_get S hK.1 ic_Mod rfl 22 (by decide) (gw_lk S mw_802) 0 rfl rfl dc_Mod_send_52 ?_
          refine gw_iload_n S dc_Mod_send_55 rfl 0 rfl ?_
          refine gw_zaldX (X := p8) S hK.1 7 2 rfl rfl (by omega) (by decide) dc_Mod_send_56 ?_
          refine gw_if_ne (tgt := 87) S dc_Mod_send_57 (by decide) (fun c_8 => ?_) (fun c_8 => ?_)
          · -- taken
            refine gw_iload_n S dc_Mod_send_87 rfl 2 rfl ?_
            refine gw_iconst (v := 2) S dc_Mod_send_88 (by decide) ?_
            refine gw_icmp_ne (tgt := 94) S dc_Mod_send_89 (by decide) (fun c_9 => by exact absurd c_9 (by decide)) (fun c_9 => ?_)
            refine gw_iconst (v := 0) S dc_Mod_send_92 (by decide) ?_
            exact gw_iret (w := [(mo, .inr (9, [.ref xm, .ref xs, .ref xt, .ref xk, .ref xp, .ref xr, .ref xc, .ref xu, .ref xe, .ref xb, .ref xa, .ref xl, .ref xg, .int pl, .int ft, .int tw, .int inn, .int bd, .int py, .ref x1, .ref x2, .ref x3, .ref x4, .int ap, .ref xq, .int (nI qn), .ref xz, .ref xd, .int ds, .int fl, .int u4])), (xg, .inl (cA 0, 7, .inl g)), (xb, .inl (cA 0, 8, .inl bal)), (xq, .inl (cA 0, 7, .inl que)), (x1, .inl (cA 0, 513, .inl pac)), (x2, .inl (cA 0, 513, .inl pam)), (x3, .inl (cA 0, 513, .inl pcd)), (x4, .inl (cA 2, 513, .inl pbk))]) S g_r g_k  [0, 1, 2, 3, 4, 5, 6, 7] rfl (by decide) ⟨(by simp only [f_Mod_send_2, f_Mod_send_2_2, f_Mod_send_2_7, if_neg c_2, if_neg c_3, if_neg c_4, if_pos c_6, if_neg c_8]), (by simp only [f_Mod_send_2, f_Mod_send_2_2, f_Mod_send_2_7, if_neg c_2, if_neg c_3, if_neg c_4, if_pos c_6, if_neg c_8])⟩ dc_Mod_send_93
          · -- not
            refine gw_aload_n S dc_Mod_send_60 rfl 1 rfl ?_
            refine gw_get S hK.1 ic_Mod rfl 22 (by decide) (gw_lk S mw_802) 0 rfl rfl dc_Mod_send_61 ?_
            refine gw_iload_n S dc_Mod_send_64 rfl 0 rfl ?_
            refine gw_iconst (v := 1) S dc_Mod_send_65 (by decide) ?_
            refine gw_zastX (X := p8) (ws' := [(mo, .inr (9, [.ref xm, .ref xs, .ref xt, .ref xk, .ref xp, .ref xr, .ref xc, .ref xu, .ref xe, .ref xb, .ref xa, .ref xl, .ref xg, .int pl, .int ft, .int tw, .int inn, .int bd, .int py, .ref x1, .ref x2, .ref x3, .ref x4, .int ap, .ref xq, .int (nI qn), .ref xz, .ref xd, .int ds, .int fl, .int u4])), (xg, .inl (cA 0, 7, .inl g)), (xb, .inl (cA 0, 8, .inl bal)), (xq, .inl (cA 0, 7, .inl que)), (x1, .inl (cA 0, 513, .inl pac)), (x2, .inl (cA 0, 513, .inl pam)), (x3, .inl (cA 0, 513, .inl pcd)), (x4, .inl (cA 2, 513, .inl (upd pbk p8 (vp_nar .boolean 1))))]) S hK.1 7 2 rfl rfl (by omega) (by decide) rfl dc_Mod_send_66 ?_
            refine gw_aload_n S dc_Mod_send_67 rfl 1 rfl ?_
            refine gw_get S hK.1 ic_Mod rfl 9 (by decide) (gw_lk S mw_789) 0 rfl rfl dc_Mod_send_68 ?_
            refine gw_aload_n S dc_Mod_send_71 rfl 1 rfl ?_
            refine gw_get S hK.1 ic_Mod rfl 19 (by decide) (gw_lk S mw_799) 0 rfl rfl dc_Mod_send_72 ?_
            refine gw_iload_n S dc_Mod_send_75 rfl 0 rfl ?_
            refine gw_ialdX (X := p8) S hK.1 4 0 rfl rfl (by omega) (by decide) dc_Mod_send_76 ?_
            refine gw_eq (ws' := [(mo, .inr (9, [.ref xm, .ref xs, .ref xt, .ref xk, .ref xp, .ref xr, .ref xc, .ref xu, .ref xe, .ref xb, .ref xa, .ref xl, .ref xg, .int pl, .int ft, .int tw, .int inn, .int bd, .int py, .ref x1, .ref x2, .ref x3, .ref x4, .int ap, .ref xq, .int (nI qn), .ref xz, .ref xd, .int ds, .int fl, .int u4])), (xg, .inl (cA 0, 7, .inl g)), (xb, .inl (cA 0, 8, .inl bal)), (xq, .inl (cA 0, 7, .inl que)), (x1, .inl (cA 0, 513, .inl pac)), (x2, .inl (cA 0, 513, .inl pam)), (x3, .inl (cA 0, 513, .inl pcd)), (x4, .inl (cA 2, 513, .inl (upd pbk p8 (vp_nar .boolean 1))))]) (lv' := [(2, .int (nI p8)), (0, .ref mo), (1, .int 2)]) (st' := [.int (nI a8), .ref xb]) rfl rfl (by rw [ha8]) rfl ?_
            refine gw_dup2_11 S dc_Mod_send_77 rfl rfl ?_
            refine gw_ialdX (X := a8) S hK.1 2 0 rfl rfl (by omega) (by decide) dc_Mod_send_78 ?_
            refine gw_aload_n S dc_Mod_send_79 rfl 1 rfl ?_
            refine gw_get S hK.1 ic_Mod rfl 20 (by decide) (gw_lk S mw_800) 0 rfl rfl dc_Mod_send_80 ?_
            refine gw_iload_n S dc_Mod_send_83 rfl 0 rfl ?_
            refine gw_ialdX (X := p8) S hK.1 5 0 rfl rfl (by omega) (by decide) dc_Mod_send_84 ?_
            refine gw_iadd S dc_Mod_send_85 ?_
            refine gw_iastX (X := a8) (ws' := [(mo, .inr (9, [.ref xm, .ref xs, .ref xt, .ref xk, .ref xp, .ref xr, .ref xc, .ref xu, .ref xe, .ref xb, .ref xa, .ref xl, .ref xg, .int pl, .int ft, .int tw, .int inn, .int bd, .int py, .ref x1, .ref x2, .ref x3, .ref x4, .int ap, .ref xq, .int (nI qn), .ref xz, .ref xd, .int ds, .int fl, .int u4])), (xg, .inl (cA 0, 7, .inl g)), (xb, .inl (cA 0, 8, .inl (upd bal a8 ((bal a8) + (pam p8))))), (xq, .inl (cA 0, 7, .inl que)), (x1, .inl (cA 0, 513, .inl pac)), (x2, .inl (cA 0, 513, .inl pam)), (x3, .inl (cA 0, 513, .inl pcd)), (x4, .inl (cA 2, 513, .inl (upd pbk p8 (vp_nar .boolean 1))))]) S hK.1 2 0 rfl rfl (by omega) (by decide) rfl dc_Mod_send_86 ?_
            refine gw_iload_n S dc_Mod_send_87 rfl 2 rfl ?_
            refine gw_iconst (v := 2) S dc_Mod_send_88 (by decide) ?_
            refine gw_icmp_ne (tgt := 94) S dc_Mod_send_89 (by decide) (fun c_10 => by exact absurd c_10 (by decide)) (fun c_10 => ?_)
            refine gw_iconst (v := 0) S dc_Mod_send_92 (by decide) ?_
            exact gw_iret (w := [(mo, .inr (9, [.ref xm, .ref xs, .ref xt, .ref xk, .ref xp, .ref xr, .ref xc, .ref xu, .ref xe, .ref xb, .ref xa, .ref xl, .ref xg, .int pl, .int ft, .int tw, .int inn, .int bd, .int py, .ref x1, .ref x2, .ref x3, .ref x4, .int ap, .ref xq, .int (nI qn), .ref xz, .ref xd, .int ds, .int fl, .int u4])), (xg, .inl (cA 0, 7, .inl g)), (xb, .inl (cA 0, 8, .inl (upd bal a8 ((bal a8) + (pam p8))))), (xq, .inl (cA 0, 7, .inl que)), (x1, .inl (cA 0, 513, .inl pac)), (x2, .inl (cA 0, 513, .inl pam)), (x3, .inl (cA 0, 513, .inl pcd)), (x4, .inl (cA 2, 513, .inl (upd pbk p8 (vp_nar .boolean 1))))]) S g_r g_k  [0, 1, 2, 3, 4, 5, 6, 7] rfl (by decide) ⟨(by simp only [f_Mod_send_2, f_Mod_send_2_2, f_Mod_send_2_7, if_neg c_2, if_neg c_3, if_neg c_4, if_pos c_6, if_pos c_8]), (by simp only [f_Mod_send_2, f_Mod_send_2_2, f_Mod_send_2_7, if_neg c_2, if_neg c_3, if_neg c_4, if_pos c_6, if_pos c_8])⟩ dc_Mod_send_93
      · -- not
        exact absurd c_4 (nI_ne0 hq0 (by omega))
noncomputable def Mod_send_s (qn : Nat) (que : Nat → Int32) (x_ : Nat × (Nat → Int32)) : ((Nat → Int32)) ⊕ (Nat × (Nat → Int32)) := match x_ with
  | (k, qf) => if (nI qn) ≤ (nI k) then (.inl qf) else (.inr (k + 1, upd qf (k - 1) (qf k)))
noncomputable def Mod_send_f (qn : Nat) (que : Nat → Int32) : Nat → (Nat × (Nat → Int32)) → (Nat → Int32)
  | 0, _ => (fun _ => 0)
  | k_ + 1, xx_ => match Mod_send_s qn que xx_ with
    | .inl rr_ => rr_
    | .inr yy_ => Mod_send_f qn que k_ yy_
theorem Mod_send_n {qn : Nat} {que : Nat → Int32} {k_ : Nat} {xx_ yy_ : Nat × (Nat → Int32)} (h_ : Mod_send_s qn que xx_ = .inr yy_) : Mod_send_f qn que (k_ + 1) xx_ = Mod_send_f qn que k_ yy_ := by rw [Mod_send_f, h_]
theorem Mod_send_d {qn : Nat} {que : Nat → Int32} {k_ : Nat} {xx_ : Nat × (Nat → Int32)} {rr_ : (Nat → Int32)} (h_ : Mod_send_s qn que xx_ = .inl rr_) : Mod_send_f qn que (k_ + 1) xx_ = rr_ := by rw [Mod_send_f, h_]
noncomputable def Mod_send_r (qn : Nat) (que : Nat → Int32) : (Nat → Int32) := Mod_send_f qn que ((qn - 1) + 1) (1, que)
set_option maxRecDepth 100000 in
set_option maxHeartbeats 4000000 in
theorem c_Mod_send_0 (l : Launch) (D : va_G) (cA : Nat → ClassId) (sz : Nat) (mo : Nat) (xm : Nat) (xs : Nat) (xt : Nat) (xk : Nat) (xp : Nat) (xr : Nat) (xc : Nat) (xu : Nat) (xe : Nat) (xb : Nat) (xa : Nat) (xl : Nat) (xg : Nat) (x1 : Nat) (x2 : Nat) (x3 : Nat) (x4 : Nat) (xq : Nat) (xz : Nat) (xd : Nat) (pl : Int32) (ft : Int32) (tw : Int32) (inn : Int32) (bd : Int32) (py : Int32) (ap : Int32) (ds : Int32) (fl : Int32) (u4 : Int32) (qn : Nat) (g : Nat → Int32) (bal : Nat → Int32) (que : Nat → Int32) (pac : Nat → Int32) (pam : Nat → Int32) (pcd : Nat → Int32) (pbk : Nat → Int32) (p8 : Nat) (a8 : Nat) (bal1 : Nat → Int32) (pbk1 : Nat → Int32) (hc2 : ¬ g 2 = 0) (hq0 : 0 < qn) (hq9 : qn ≤ 6) (hp8 : que 0 = nI p8) (hp5 : p8 ≤ 512) (ha8 : pac p8 = nI a8) (ha7 : a8 < 8) (hbal : ((if (pcd p8) = 1 then (if (pbk p8) = 0 then (upd bal a8 ((bal a8) + (pam p8))) else (bal)) else (bal)) : Nat → Int32) = bal1) (hpbk : ((if (pcd p8) = 1 then (if (pbk p8) = 0 then (upd pbk p8 (vp_nar .boolean 1)) else (pbk)) else (pbk)) : Nat → Int32) = pbk1) : ct_M l D cA yn_Mod_send cd_Mod_send 2 0 0 sz [.ref mo, .int 0] [(mo, .inr (9, [.ref xm, .ref xs, .ref xt, .ref xk, .ref xp, .ref xr, .ref xc, .ref xu, .ref xe, .ref xb, .ref xa, .ref xl, .ref xg, .int pl, .int ft, .int tw, .int inn, .int bd, .int py, .ref x1, .ref x2, .ref x3, .ref x4, .int ap, .ref xq, .int (nI qn), .ref xz, .ref xd, .int ds, .int fl, .int u4])), (xg, .inl (cA 0, 7, .inl g)), (xb, .inl (cA 0, 8, .inl bal)), (xq, .inl (cA 0, 7, .inl que)), (x1, .inl (cA 0, 513, .inl pac)), (x2, .inl (cA 0, 513, .inl pam)), (x3, .inl (cA 0, 513, .inl pcd)), (x4, .inl (cA 2, 513, .inl pbk))] (fun v_ w_ => v_ = some (.int 1) ∧ w_ = [(mo, .inr (9, [.ref xm, .ref xs, .ref xt, .ref xk, .ref xp, .ref xr, .ref xc, .ref xu, .ref xe, .ref xb, .ref xa, .ref xl, .ref xg, .int pl, .int ft, .int tw, .int inn, .int bd, .int py, .ref x1, .ref x2, .ref x3, .ref x4, .int ap, .ref xq, .int (nI (qn - 1)), .ref xz, .ref xd, .int ds, .int fl, .int u4])), (xg, .inl (cA 0, 7, .inl g)), (xb, .inl (cA 0, 8, .inl bal1)), (xq, .inl (cA 0, 7, .inl (Mod_send_r qn que))), (x1, .inl (cA 0, 513, .inl pac)), (x2, .inl (cA 0, 513, .inl pam)), (x3, .inl (cA 0, 513, .inl pcd)), (x4, .inl (cA 2, 513, .inl pbk1))]) := by
  refine gw_met (by decide) rfl (Nat.le_of_ble_eq_true rfl) ?_
  intro p_ e_ s_ m_ args_ below_ meth_ c_ A_ S g_r g_k g_n hK hA
  refine gw_eq (ws' := [(mo, .inr (9, [.ref xm, .ref xs, .ref xt, .ref xk, .ref xp, .ref xr, .ref xc, .ref xu, .ref xe, .ref xb, .ref xa, .ref xl, .ref xg, .int pl, .int ft, .int tw, .int inn, .int bd, .int py, .ref x1, .ref x2, .ref x3, .ref x4, .int ap, .ref xq, .int (nI qn), .ref xz, .ref xd, .int ds, .int fl, .int u4])), (xg, .inl (cA 0, 7, .inl g)), (xb, .inl (cA 0, 8, .inl bal)), (xq, .inl (cA 0, 7, .inl que)), (x1, .inl (cA 0, 513, .inl pac)), (x2, .inl (cA 0, 513, .inl pam)), (x3, .inl (cA 0, 513, .inl pcd)), (x4, .inl (cA 2, 513, .inl pbk))]) (lv' := [(0, .ref mo), (1, .int 0)]) (st' := []) (pc' := 0) rfl rfl rfl rfl ?_
  refine gw_iload_n S dc_Mod_send_0 rfl 1 rfl ?_
  refine gw_iconst (v := 0) S dc_Mod_send_1 (by decide) ?_
  refine gw_iconst (v := 2) S dc_Mod_send_2 (by decide) ?_
  refine gw_callSR (As := [.int 0, .int 0, .int 2]) (st := []) S hK (c_Mod_in l D cA 0 0 2 ) (cw_Mod_101 S.2.2.2.2 rfl rfl ⟨Nat.le_of_ble_eq_true rfl, Nat.le_of_ble_eq_true rfl⟩) [] rfl (by decide) rfl rfl (Nat.le_of_ble_eq_true rfl) dc_Mod_send_3 ⟨Nat.le_of_ble_eq_true rfl, Nat.le_of_ble_eq_true rfl⟩ ?_
  rintro _ rfl
  refine gw_eq (ws' := [(mo, .inr (9, [.ref xm, .ref xs, .ref xt, .ref xk, .ref xp, .ref xr, .ref xc, .ref xu, .ref xe, .ref xb, .ref xa, .ref xl, .ref xg, .int pl, .int ft, .int tw, .int inn, .int bd, .int py, .ref x1, .ref x2, .ref x3, .ref x4, .int ap, .ref xq, .int (nI qn), .ref xz, .ref xd, .int ds, .int fl, .int u4])), (xg, .inl (cA 0, 7, .inl g)), (xb, .inl (cA 0, 8, .inl bal)), (xq, .inl (cA 0, 7, .inl que)), (x1, .inl (cA 0, 513, .inl pac)), (x2, .inl (cA 0, 513, .inl pam)), (x3, .inl (cA 0, 513, .inl pcd)), (x4, .inl (cA 2, 513, .inl pbk))]) (lv' := [(0, .ref mo), (1, .int 0)]) (st' := [.int (f_Mod_in 0 0 2)]) (pc' := 6) rfl rfl rfl rfl ?_
  refine gw_if_eq (tgt := 25) S dc_Mod_send_6 (by decide) (fun c_2 => ?_) (fun c_2 => ?_)
  · -- taken
    exact absurd c_2 (by decide)
  · -- not
    refine gw_aload_n S dc_Mod_send_9 rfl 0 rfl ?_
    refine gw_get S hK.1 ic_Mod rfl 12 (by decide) (gw_lk S mw_792) 0 rfl rfl dc_Mod_send_10 ?_
    refine gw_iconst (v := 2) S dc_Mod_send_13 (by decide) ?_
    refine gw_iald S hK.1 1 0 rfl rfl (by unfold vp_in; decide) dc_Mod_send_14 ?_
    refine gw_eq (ws' := [(mo, .inr (9, [.ref xm, .ref xs, .ref xt, .ref xk, .ref xp, .ref xr, .ref xc, .ref xu, .ref xe, .ref xb, .ref xa, .ref xl, .ref xg, .int pl, .int ft, .int tw, .int inn, .int bd, .int py, .ref x1, .ref x2, .ref x3, .ref x4, .int ap, .ref xq, .int (nI qn), .ref xz, .ref xd, .int ds, .int fl, .int u4])), (xg, .inl (cA 0, 7, .inl g)), (xb, .inl (cA 0, 8, .inl bal)), (xq, .inl (cA 0, 7, .inl que)), (x1, .inl (cA 0, 513, .inl pac)), (x2, .inl (cA 0, 513, .inl pam)), (x3, .inl (cA 0, 513, .inl pcd)), (x4, .inl (cA 2, 513, .inl pbk))]) (lv' := [(0, .ref mo), (1, .int 0)]) (st' := [.int (g 2)]) (pc' := 15) rfl rfl rfl rfl ?_
    refine gw_if_eq (tgt := 25) S dc_Mod_send_15 (by decide) (fun c_3 => ?_) (fun c_3 => ?_)
    · -- taken
      exact absurd c_3 hc2
    · -- not
      refine gw_aload_n S dc_Mod_send_18 rfl 0 rfl ?_
      refine gw_get S hK.1 ic_Mod rfl 25 (by decide) (gw_lk S mw_805) 0 rfl rfl dc_Mod_send_19 ?_
      refine gw_if_ne (tgt := 27) S dc_Mod_send_22 (by decide) (fun c_4 => ?_) (fun c_4 => ?_)
      · -- taken
        refine gw_iload_n S dc_Mod_send_27 rfl 1 rfl ?_
        refine gw_iconst (v := 1) S dc_Mod_send_28 (by decide) ?_
        refine gw_icmp_ne (tgt := 34) S dc_Mod_send_29 (by decide) (fun c_5 => ?_) (fun c_5 => by exact absurd c_5 (by decide))
        refine gw_aload_n S dc_Mod_send_34 rfl 0 rfl ?_
        refine gw_get S hK.1 ic_Mod rfl 24 (by decide) (gw_lk S mw_804) 0 rfl rfl dc_Mod_send_35 ?_
        refine gw_iconst (v := 0) S dc_Mod_send_38 (by decide) ?_
        refine gw_iald S hK.1 3 0 rfl rfl (by unfold vp_in; decide) dc_Mod_send_39 ?_
        refine gw_eq (ws' := [(mo, .inr (9, [.ref xm, .ref xs, .ref xt, .ref xk, .ref xp, .ref xr, .ref xc, .ref xu, .ref xe, .ref xb, .ref xa, .ref xl, .ref xg, .int pl, .int ft, .int tw, .int inn, .int bd, .int py, .ref x1, .ref x2, .ref x3, .ref x4, .int ap, .ref xq, .int (nI qn), .ref xz, .ref xd, .int ds, .int fl, .int u4])), (xg, .inl (cA 0, 7, .inl g)), (xb, .inl (cA 0, 8, .inl bal)), (xq, .inl (cA 0, 7, .inl que)), (x1, .inl (cA 0, 513, .inl pac)), (x2, .inl (cA 0, 513, .inl pam)), (x3, .inl (cA 0, 513, .inl pcd)), (x4, .inl (cA 2, 513, .inl pbk))]) (lv' := [(0, .ref mo), (1, .int 0)]) (st' := [.int (que 0)]) (pc' := 40) rfl rfl rfl rfl ?_
        refine gw_eq (ws' := [(mo, .inr (9, [.ref xm, .ref xs, .ref xt, .ref xk, .ref xp, .ref xr, .ref xc, .ref xu, .ref xe, .ref xb, .ref xa, .ref xl, .ref xg, .int pl, .int ft, .int tw, .int inn, .int bd, .int py, .ref x1, .ref x2, .ref x3, .ref x4, .int ap, .ref xq, .int (nI qn), .ref xz, .ref xd, .int ds, .int fl, .int u4])), (xg, .inl (cA 0, 7, .inl g)), (xb, .inl (cA 0, 8, .inl bal)), (xq, .inl (cA 0, 7, .inl que)), (x1, .inl (cA 0, 513, .inl pac)), (x2, .inl (cA 0, 513, .inl pam)), (x3, .inl (cA 0, 513, .inl pcd)), (x4, .inl (cA 2, 513, .inl pbk))]) (lv' := [(0, .ref mo), (1, .int 0)]) (st' := [.int (nI p8)]) rfl rfl (by rw [hp8]) rfl ?_
        refine gw_istore_n (lv' := [(2, .int (nI p8)), (0, .ref mo), (1, .int 0)]) S dc_Mod_send_40 rfl (by decide) rfl ?_
        refine gw_jw (ws2 := [(mo, .inr (9, [.ref xm, .ref xs, .ref xt, .ref xk, .ref xp, .ref xr, .ref xc, .ref xu, .ref xe, .ref xb, .ref xa, .ref xl, .ref xg, .int pl, .int ft, .int tw, .int inn, .int bd, .int py, .ref x1, .ref x2, .ref x3, .ref x4, .int ap, .ref xq, .int (nI qn), .ref xz, .ref xd, .int ds, .int fl, .int u4])), (xg, .inl (cA 0, 7, .inl g)), (xb, .inl (cA 0, 8, .inl (if (pcd p8) = 1 then (if (pbk p8) = 0 then (upd bal a8 ((bal a8) + (pam p8))) else (bal)) else (bal)))), (xq, .inl (cA 0, 7, .inl que)), (x1, .inl (cA 0, 513, .inl pac)), (x2, .inl (cA 0, 513, .inl pam)), (x3, .inl (cA 0, 513, .inl pcd)), (x4, .inl (cA 2, 513, .inl (if (pcd p8) = 1 then (if (pbk p8) = 0 then (upd pbk p8 (vp_nar .boolean 1)) else (pbk)) else (pbk))))]) (lv2 := [(0, .ref mo), (1, .int 0), (2, .int (nI p8))]) (st2 := []) (pc2 := 87) ?_ (fun kJ_6 => ?_)
        rotate_left
        · -- join at 87
          refine gw_aload_n S dc_Mod_send_41 rfl 1 rfl ?_
          refine gw_get S hK.1 ic_Mod rfl 21 (by decide) (gw_lk S mw_801) 0 rfl rfl dc_Mod_send_42 ?_
          refine gw_iload_n S dc_Mod_send_45 rfl 0 rfl ?_
          refine gw_ialdX (X := p8) S hK.1 6 0 rfl rfl (by omega) (by decide) dc_Mod_send_46 ?_
          refine gw_iconst (v := 1) S dc_Mod_send_47 (by decide) ?_
          refine gw_icmp_ne (tgt := 87) S dc_Mod_send_48 (by decide) (fun c_7 => ?_) (fun c_7 => ?_)
          · -- taken
            refine gw_drop [1, 2, 0] (lv' := [(0, .ref mo), (1, .int 0), (2, .int (nI p8))]) rfl ?_
            exact kJ_6 _ _ _ (by simp only [if_neg c_7]) (by simp only [if_neg c_7]) (by simp only [if_neg c_7])
          · -- not
            refine gw_aload_n S dc_Mod_send_51 rfl 1 rfl ?_
            refine gw_get S hK.1 ic_Mod rfl 22 (by decide) (gw_lk S mw_802) 0 rfl rfl dc_Mod_send_52 ?_
            refine gw_iload_n S dc_Mod_send_55 rfl 0 rfl ?_
            refine gw_zaldX (X := p8) S hK.1 7 2 rfl rfl (by omega) (by decide) dc_Mod_send_56 ?_
            refine gw_if_ne (tgt := 87) S dc_Mod_send_57 (by decide) (fun c_8 => ?_) (fun c_8 => ?_)
            · -- taken
              refine gw_drop [1, 2, 0] (lv' := [(0, .ref mo), (1, .int 0), (2, .int (nI p8))]) rfl ?_
              exact kJ_6 _ _ _ (by simp only [if_pos c_7, if_neg c_8]) (by simp only [if_pos c_7, if_neg c_8]) (by simp only [if_pos c_7, if_neg c_8])
            · -- not
              refine gw_aload_n S dc_Mod_send_60 rfl 1 rfl ?_
              refine gw_get S hK.1 ic_Mod rfl 22 (by decide) (gw_lk S mw_802) 0 rfl rfl dc_Mod_send_61 ?_
              refine gw_iload_n S dc_Mod_send_64 rfl 0 rfl ?_
              refine gw_iconst (v := 1) S dc_Mod_send_65 (by decide) ?_
              refine gw_zastX (X := p8) (ws' := [(mo, .inr (9, [.ref xm, .ref xs, .ref xt, .ref xk, .ref xp, .ref xr, .ref xc, .ref xu, .ref xe, .ref xb, .ref xa, .ref xl, .ref xg, .int pl, .int ft, .int tw, .int inn, .int bd, .int py, .ref x1, .ref x2, .ref x3, .ref x4, .int ap, .ref xq, .int (nI qn), .ref xz, .ref xd, .int ds, .int fl, .int u4])), (xg, .inl (cA 0, 7, .inl g)), (xb, .inl (cA 0, 8, .inl bal)), (xq, .inl (cA 0, 7, .inl que)), (x1, .inl (cA 0, 513, .inl pac)), (x2, .inl (cA 0, 513, .inl pam)), (x3, .inl (cA 0, 513, .inl pcd)), (x4, .inl (cA 2, 513, .inl (upd pbk p8 (vp_nar .boolean 1))))]) S hK.1 7 2 rfl rfl (by omega) (by decide) rfl dc_Mod_send_66 ?_
              refine gw_aload_n S dc_Mod_send_67 rfl 1 rfl ?_
              refine gw_get S hK.1 ic_Mod rfl 9 (by decide) (gw_lk S mw_789) 0 rfl rfl dc_Mod_send_68 ?_
              refine gw_aload_n S dc_Mod_send_71 rfl 1 rfl ?_
              refine gw_get S hK.1 ic_Mod rfl 19 (by decide) (gw_lk S mw_799) 0 rfl rfl dc_Mod_send_72 ?_
              refine gw_iload_n S dc_Mod_send_75 rfl 0 rfl ?_
              refine gw_ialdX (X := p8) S hK.1 4 0 rfl rfl (by omega) (by decide) dc_Mod_send_76 ?_
              refine gw_eq (ws' := [(mo, .inr (9, [.ref xm, .ref xs, .ref xt, .ref xk, .ref xp, .ref xr, .ref xc, .ref xu, .ref xe, .ref xb, .ref xa, .ref xl, .ref xg, .int pl, .int ft, .int tw, .int inn, .int bd, .int py, .ref x1, .ref x2, .ref x3, .ref x4, .int ap, .ref xq, .int (nI qn), .ref xz, .ref xd, .int ds, .int fl, .int u4])), (xg, .inl (cA 0, 7, .inl g)), (xb, .inl (cA 0, 8, .inl bal)), (xq, .inl (cA 0, 7, .inl que)), (x1, .inl (cA 0, 513, .inl pac)), (x2, .inl (cA 0, 513, .inl pam)), (x3, .inl (cA 0, 513, .inl pcd)), (x4, .inl (cA 2, 513, .inl (upd pbk p8 (vp_nar .boolean 1))))]) (lv' := [(2, .int (nI p8)), (0, .ref mo), (1, .int 0)]) (st' := [.int (nI a8), .ref xb]) rfl rfl (by rw [ha8]) rfl ?_
              refine gw_dup2_11 S dc_Mod_send_77 rfl rfl ?_
              refine gw_ialdX (X := a8) S hK.1 2 0 rfl rfl (by omega) (by decide) dc_Mod_send_78 ?_
              refine gw_aload_n S dc_Mod_send_79 rfl 1 rfl ?_
              refine gw_get S hK.1 ic_Mod rfl 20 (by decide) (gw_lk S mw_800) 0 rfl rfl dc_Mod_send_80 ?_
              refine gw_iload_n S dc_Mod_send_83 rfl 0 rfl ?_
              refine gw_ialdX (X := p8) S hK.1 5 0 rfl rfl (by omega) (by decide) dc_Mod_send_84 ?_
              refine gw_iadd S dc_Mod_send_85 ?_
              refine gw_iastX (X := a8) (ws' := [(mo, .inr (9, [.ref xm, .ref xs, .ref xt, .ref xk, .ref xp, .ref xr, .ref xc, .ref xu, .ref xe, .ref xb, .ref xa, .ref xl, .ref xg, .int pl, .int ft, .int tw, .int inn, .int bd, .int py, .ref x1, .ref x2, .ref x3, .ref x4, .int ap, .ref xq, .int (nI qn), .ref xz, .ref xd, .int ds, .int fl, .int u4])), (xg, .inl (cA 0, 7, .inl g)), (xb, .inl (cA 0, 8, .inl (upd bal a8 ((bal a8) + (pam p8))))), (xq, .inl (cA 0, 7, .inl que)), (x1, .inl (cA 0, 513, .inl pac)), (x2, .inl (cA 0, 513, .inl pam)), (x3, .inl (cA 0, 513, .inl pcd)), (x4, .inl (cA 2, 513, .inl (upd pbk p8 (vp_nar .boolean 1))))]) S hK.1 2 0 rfl rfl (by omega) (by decide) rfl dc_Mod_send_86 ?_
              refine gw_drop [1, 2, 0] (lv' := [(0, .ref mo), (1, .int 0), (2, .int (nI p8))]) rfl ?_
              exact kJ_6 _ _ _ (by simp only [if_pos c_7, if_pos c_8]) (by simp only [if_pos c_7, if_pos c_8]) (by simp only [if_pos c_7, if_pos c_8])
        refine gw_eq (ws' := [(mo, .inr (9, [.ref xm, .ref xs, .ref xt, .ref xk, .ref xp, .ref xr, .ref xc, .ref xu, .ref xe, .ref xb, .ref xa, .ref xl, .ref xg, .int pl, .int ft, .int tw, .int inn, .int bd, .int py, .ref x1, .ref x2, .ref x3, .ref x4, .int ap, .ref xq, .int (nI qn), .ref xz, .ref xd, .int ds, .int fl, .int u4])), (xg, .inl (cA 0, 7, .inl g)), (xb, .inl (cA 0, 8, .inl bal1)), (xq, .inl (cA 0, 7, .inl que)), (x1, .inl (cA 0, 513, .inl pac)), (x2, .inl (cA 0, 513, .inl pam)), (x3, .inl (cA 0, 513, .inl pcd)), (x4, .inl (cA 2, 513, .inl pbk1))]) (lv' := [(0, .ref mo), (1, .int 0), (2, .int (nI p8))]) (st' := []) (by rw [hbal, hpbk]) rfl rfl rfl ?_
        refine gw_iload_n S dc_Mod_send_87 rfl 1 rfl ?_
        refine gw_iconst (v := 2) S dc_Mod_send_88 (by decide) ?_
        refine gw_icmp_ne (tgt := 94) S dc_Mod_send_89 (by decide) (fun c_9 => ?_) (fun c_9 => by exact absurd c_9 (by decide))
        refine gw_iconst (v := 1) S dc_Mod_send_94 (by decide) ?_
        refine gw_istore_n (lv' := [(3, .int 1), (0, .ref mo), (1, .int 0), (2, .int (nI p8))]) S dc_Mod_send_95 rfl (by decide) rfl ?_
        refine gw_drop [1, 2, 3, 0] (lv' := [(0, .ref mo), (1, .int 0), (2, .int (nI p8)), (3, .int 1)]) rfl ?_
        refine gw_loop (σ := Nat × Nat × (Nat → Int32)) (fun (x_ : Nat × Nat × (Nat → Int32)) => match x_ with | (k9, k, qf) => (qn - k < k9) ∧ (Mod_send_r qn que = Mod_send_f qn que k9 (k, qf)) ∧ (1 ≤ k) ∧ (k ≤ qn)) (fun (x_ : Nat × Nat × (Nat → Int32)) => match x_ with | (k9, k, qf) => qn - k) (fun (x_ : Nat × Nat × (Nat → Int32)) => match x_ with | (k9, k, qf) => [(mo, .inr (9, [.ref xm, .ref xs, .ref xt, .ref xk, .ref xp, .ref xr, .ref xc, .ref xu, .ref xe, .ref xb, .ref xa, .ref xl, .ref xg, .int pl, .int ft, .int tw, .int inn, .int bd, .int py, .ref x1, .ref x2, .ref x3, .ref x4, .int ap, .ref xq, .int (nI qn), .ref xz, .ref xd, .int ds, .int fl, .int u4])), (xg, .inl (cA 0, 7, .inl g)), (xb, .inl (cA 0, 8, .inl bal1)), (xq, .inl (cA 0, 7, .inl qf)), (x1, .inl (cA 0, 513, .inl pac)), (x2, .inl (cA 0, 513, .inl pam)), (x3, .inl (cA 0, 513, .inl pcd)), (x4, .inl (cA 2, 513, .inl pbk1))]) (fun (x_ : Nat × Nat × (Nat → Int32)) => match x_ with | (k9, k, qf) => [(0, .ref mo), (1, .int 0), (2, .int (nI p8)), (3, .int (nI k))]) ?_ ((qn - 1) + 1, 1, que) ?_ rfl rfl
        rotate_left
        · exact ⟨Nat.lt_succ_self _, (by simp only [Mod_send_r, if_neg c_2, if_neg c_3, if_neg c_4]), (by omega), (by omega)⟩
        rintro ⟨k9, k, qf⟩ ⟨hk9, hm9, hk1, hk2⟩ ih_10
        obtain ⟨q9, rfl⟩ : ∃ q, k9 = q + 1 := ⟨k9 - 1, by omega⟩
        refine gw_eq (ws' := [(mo, .inr (9, [.ref xm, .ref xs, .ref xt, .ref xk, .ref xp, .ref xr, .ref xc, .ref xu, .ref xe, .ref xb, .ref xa, .ref xl, .ref xg, .int pl, .int ft, .int tw, .int inn, .int bd, .int py, .ref x1, .ref x2, .ref x3, .ref x4, .int ap, .ref xq, .int (nI qn), .ref xz, .ref xd, .int ds, .int fl, .int u4])), (xg, .inl (cA 0, 7, .inl g)), (xb, .inl (cA 0, 8, .inl bal1)), (xq, .inl (cA 0, 7, .inl qf)), (x1, .inl (cA 0, 513, .inl pac)), (x2, .inl (cA 0, 513, .inl pam)), (x3, .inl (cA 0, 513, .inl pcd)), (x4, .inl (cA 2, 513, .inl pbk1))]) (lv' := [(0, .ref mo), (1, .int 0), (2, .int (nI p8)), (3, .int (nI k))]) (st' := []) (pc' := 96) rfl rfl rfl rfl ?_
        refine gw_iload_n S dc_Mod_send_96 rfl 3 rfl ?_
        refine gw_aload_n S dc_Mod_send_97 rfl 0 rfl ?_
        refine gw_get S hK.1 ic_Mod rfl 25 (by decide) (gw_lk S mw_805) 0 rfl rfl dc_Mod_send_98 ?_
        refine gw_icmp_ge (tgt := 124) S dc_Mod_send_101 (by decide) (fun c_11 => ?_) (fun c_11 => ?_)
        · -- taken
          refine gw_aload_n S dc_Mod_send_124 rfl 0 rfl ?_
          refine gw_dup S dc_Mod_send_125 rfl ?_
          refine gw_get S hK.1 ic_Mod rfl 25 (by decide) (gw_lk S mw_805) 0 rfl rfl dc_Mod_send_126 ?_
          refine gw_iconst (v := 1) S dc_Mod_send_129 (by decide) ?_
          refine gw_isub S dc_Mod_send_130 ?_
          refine gw_eq (ws' := [(mo, .inr (9, [.ref xm, .ref xs, .ref xt, .ref xk, .ref xp, .ref xr, .ref xc, .ref xu, .ref xe, .ref xb, .ref xa, .ref xl, .ref xg, .int pl, .int ft, .int tw, .int inn, .int bd, .int py, .ref x1, .ref x2, .ref x3, .ref x4, .int ap, .ref xq, .int (nI qn), .ref xz, .ref xd, .int ds, .int fl, .int u4])), (xg, .inl (cA 0, 7, .inl g)), (xb, .inl (cA 0, 8, .inl bal1)), (xq, .inl (cA 0, 7, .inl qf)), (x1, .inl (cA 0, 513, .inl pac)), (x2, .inl (cA 0, 513, .inl pam)), (x3, .inl (cA 0, 513, .inl pcd)), (x4, .inl (cA 2, 513, .inl pbk1))]) (lv' := [(0, .ref mo), (1, .int 0), (2, .int (nI p8)), (3, .int (nI k))]) (st' := [.int (nI (qn - 1)), .ref mo]) (pc' := 131) rfl rfl (by rw [show (nI qn - 1 : Int32) = nI (qn - 1) from pk_sub (b := 1) (by omega)]) rfl ?_
          refine gw_put (ws' := [(mo, .inr (9, [.ref xm, .ref xs, .ref xt, .ref xk, .ref xp, .ref xr, .ref xc, .ref xu, .ref xe, .ref xb, .ref xa, .ref xl, .ref xg, .int pl, .int ft, .int tw, .int inn, .int bd, .int py, .ref x1, .ref x2, .ref x3, .ref x4, .int ap, .ref xq, .int (nI (qn - 1)), .ref xz, .ref xd, .int ds, .int fl, .int u4])), (xg, .inl (cA 0, 7, .inl g)), (xb, .inl (cA 0, 8, .inl bal1)), (xq, .inl (cA 0, 7, .inl qf)), (x1, .inl (cA 0, 513, .inl pac)), (x2, .inl (cA 0, 513, .inl pam)), (x3, .inl (cA 0, 513, .inl pcd)), (x4, .inl (cA 2, 513, .inl pbk1))]) (ty := .int) S hK.1 ic_Mod rfl 25 (by decide) ty_Mod to_Mod nm_Mod (gw_lk S mw_805) 0 rfl rfl (by decide +kernel) rfl rfl (Nat.le_of_ble_eq_true rfl) rfl dc_Mod_send_131 ?_
          refine gw_iconst (v := 1) S dc_Mod_send_134 (by decide) ?_
          have r9 : Mod_send_r qn que = qf := (hm9.trans (Mod_send_d (by simp only [Mod_send_s, if_pos c_11, if_true, if_false])))
          exact gw_iret (w := [(mo, .inr (9, [.ref xm, .ref xs, .ref xt, .ref xk, .ref xp, .ref xr, .ref xc, .ref xu, .ref xe, .ref xb, .ref xa, .ref xl, .ref xg, .int pl, .int ft, .int tw, .int inn, .int bd, .int py, .ref x1, .ref x2, .ref x3, .ref x4, .int ap, .ref xq, .int (nI (qn - 1)), .ref xz, .ref xd, .int ds, .int fl, .int u4])), (xg, .inl (cA 0, 7, .inl g)), (xb, .inl (cA 0, 8, .inl bal1)), (xq, .inl (cA 0, 7, .inl qf)), (x1, .inl (cA 0, 513, .inl pac)), (x2, .inl (cA 0, 513, .inl pam)), (x3, .inl (cA 0, 513, .inl pcd)), (x4, .inl (cA 2, 513, .inl pbk1))]) S g_r g_k  [0, 1, 2, 3, 4, 5, 6, 7] rfl (by decide) ⟨by first | rw [r9] | rfl, by first | rw [r9] | rfl⟩ dc_Mod_send_135
        · -- not
          have hk1 : k < qn := lp_lt rfl (by omega) c_11
          refine gw_aload_n S dc_Mod_send_104 rfl 0 rfl ?_
          refine gw_get S hK.1 ic_Mod rfl 24 (by decide) (gw_lk S mw_804) 0 rfl rfl dc_Mod_send_105 ?_
          refine gw_iload_n S dc_Mod_send_108 rfl 3 rfl ?_
          refine gw_iconst (v := 1) S dc_Mod_send_109 (by decide) ?_
          refine gw_isub S dc_Mod_send_110 ?_
          refine gw_eq (ws' := [(mo, .inr (9, [.ref xm, .ref xs, .ref xt, .ref xk, .ref xp, .ref xr, .ref xc, .ref xu, .ref xe, .ref xb, .ref xa, .ref xl, .ref xg, .int pl, .int ft, .int tw, .int inn, .int bd, .int py, .ref x1, .ref x2, .ref x3, .ref x4, .int ap, .ref xq, .int (nI qn), .ref xz, .ref xd, .int ds, .int fl, .int u4])), (xg, .inl (cA 0, 7, .inl g)), (xb, .inl (cA 0, 8, .inl bal1)), (xq, .inl (cA 0, 7, .inl qf)), (x1, .inl (cA 0, 513, .inl pac)), (x2, .inl (cA 0, 513, .inl pam)), (x3, .inl (cA 0, 513, .inl pcd)), (x4, .inl (cA 2, 513, .inl pbk1))]) (lv' := [(0, .ref mo), (1, .int 0), (2, .int (nI p8)), (3, .int (nI k))]) (st' := [.int (nI (k - 1)), .ref xq]) (pc' := 111) rfl rfl (by rw [show (nI k - 1 : Int32) = nI (k - 1) from pk_sub (b := 1) (by omega)]) rfl ?_
          refine gw_aload_n S dc_Mod_send_111 rfl 0 rfl ?_
          refine gw_get S hK.1 ic_Mod rfl 24 (by decide) (gw_lk S mw_804) 0 rfl rfl dc_Mod_send_112 ?_
          refine gw_iload_n S dc_Mod_send_115 rfl 3 rfl ?_
          refine gw_ialdX (X := k) S hK.1 3 0 rfl rfl (by omega) (by decide) dc_Mod_send_116 ?_
          refine gw_iastX (X := k - 1) (ws' := [(mo, .inr (9, [.ref xm, .ref xs, .ref xt, .ref xk, .ref xp, .ref xr, .ref xc, .ref xu, .ref xe, .ref xb, .ref xa, .ref xl, .ref xg, .int pl, .int ft, .int tw, .int inn, .int bd, .int py, .ref x1, .ref x2, .ref x3, .ref x4, .int ap, .ref xq, .int (nI qn), .ref xz, .ref xd, .int ds, .int fl, .int u4])), (xg, .inl (cA 0, 7, .inl g)), (xb, .inl (cA 0, 8, .inl bal1)), (xq, .inl (cA 0, 7, .inl (upd qf (k - 1) (qf k)))), (x1, .inl (cA 0, 513, .inl pac)), (x2, .inl (cA 0, 513, .inl pam)), (x3, .inl (cA 0, 513, .inl pcd)), (x4, .inl (cA 2, 513, .inl pbk1))]) S hK.1 3 0 rfl rfl (by omega) (by decide) rfl dc_Mod_send_117 ?_
          refine gw_iinc (v := nI (k + 1)) (lv' := [(3, .int (nI (k + 1))), (0, .ref mo), (1, .int 0), (2, .int (nI p8))]) S dc_Mod_send_118 3 rfl (nI_add _ 1) (by decide) rfl ?_
          refine gw_goto (tgt := 96) S dc_Mod_send_121 (by decide) ?_
          refine gw_drop [1, 2, 3, 0] (lv' := [(0, .ref mo), (1, .int 0), (2, .int (nI p8)), (3, .int (nI (k + 1)))]) rfl ?_
          refine gw_eq (ws' := [(mo, .inr (9, [.ref xm, .ref xs, .ref xt, .ref xk, .ref xp, .ref xr, .ref xc, .ref xu, .ref xe, .ref xb, .ref xa, .ref xl, .ref xg, .int pl, .int ft, .int tw, .int inn, .int bd, .int py, .ref x1, .ref x2, .ref x3, .ref x4, .int ap, .ref xq, .int (nI qn), .ref xz, .ref xd, .int ds, .int fl, .int u4])), (xg, .inl (cA 0, 7, .inl g)), (xb, .inl (cA 0, 8, .inl bal1)), (xq, .inl (cA 0, 7, .inl (upd qf (k - 1) (qf k)))), (x1, .inl (cA 0, 513, .inl pac)), (x2, .inl (cA 0, 513, .inl pam)), (x3, .inl (cA 0, 513, .inl pcd)), (x4, .inl (cA 2, 513, .inl pbk1))]) (lv' := [(0, .ref mo), (1, .int 0), (2, .int (nI p8)), (3, .int (nI (k + 1)))]) (st' := []) (pc' := 96) rfl rfl rfl rfl ?_
          have m9 : qn - (k + 1) < qn - k := (by omega)
          exact ih_10 (q9, k + 1, upd qf (k - 1) (qf k)) ⟨by omega, hm9.trans (Mod_send_n (by simp only [Mod_send_s, if_neg c_11, if_true, if_false])), (by omega), (by omega)⟩ m9
      · -- not
        exact absurd c_4 (nI_ne0 hq0 (by omega))
