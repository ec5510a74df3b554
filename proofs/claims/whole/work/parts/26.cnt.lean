noncomputable def Mod_cryptogram_s (ds : Int32) (dt : Nat → Int32) (k : Int32) (an : Int32) (ct : Int32) (x_ : Nat × Int32) : (Int32) ⊕ (Nat × Int32) := match x_ with
  | (i, v) => if ds ≤ (nI i) then (.inl v) else (.inr (i + 1, f_Mod_stir v (dt i)))
noncomputable def Mod_cryptogram_f (ds : Int32) (dt : Nat → Int32) (k : Int32) (an : Int32) (ct : Int32) : Nat → (Nat × Int32) → Int32
  | 0, _ => 0
  | k_ + 1, xx_ => match Mod_cryptogram_s ds dt k an ct xx_ with
    | .inl rr_ => rr_
    | .inr yy_ => Mod_cryptogram_f ds dt k an ct k_ yy_
theorem Mod_cryptogram_n {ds : Int32} {dt : Nat → Int32} {k : Int32} {an : Int32} {ct : Int32} {k_ : Nat} {xx_ yy_ : Nat × Int32} (h_ : Mod_cryptogram_s ds dt k an ct xx_ = .inr yy_) : Mod_cryptogram_f ds dt k an ct (k_ + 1) xx_ = Mod_cryptogram_f ds dt k an ct k_ yy_ := by rw [Mod_cryptogram_f, h_]
theorem Mod_cryptogram_d {ds : Int32} {dt : Nat → Int32} {k : Int32} {an : Int32} {ct : Int32} {k_ : Nat} {xx_ : Nat × Int32} {rr_ : Int32} (h_ : Mod_cryptogram_s ds dt k an ct xx_ = .inl rr_) : Mod_cryptogram_f ds dt k an ct (k_ + 1) xx_ = rr_ := by rw [Mod_cryptogram_f, h_]
noncomputable def Mod_cryptogram_r (ds : Int32) (dt : Nat → Int32) (k : Int32) (an : Int32) (ct : Int32) : Int32 := Mod_cryptogram_f ds dt k an ct (((Int32.toNatClampNeg ds) - 0) + 1) (0, f_Mod_stir (f_Mod_stir (f_Mod_stir k an) ((ct / 256) - (ct / 256) / 256 * 256)) (ct - ct / 256 * 256))
set_option maxRecDepth 100000 in
set_option maxHeartbeats 4000000 in
theorem c_Mod_cryptogram (l : Launch) (D : va_G) (cA : Nat → ClassId) (mo : Nat) (xm : Nat) (xs : Nat) (xt : Nat) (xk : Nat) (xp : Nat) (xr : Nat) (xc : Nat) (xu : Nat) (xe : Nat) (xb : Nat) (xa : Nat) (xl : Nat) (xg : Nat) (x1 : Nat) (x2 : Nat) (x3 : Nat) (x4 : Nat) (xq : Nat) (xz : Nat) (xd : Nat) (pl : Int32) (ft : Int32) (tw : Int32) (inn : Int32) (bd : Int32) (py : Int32) (ap : Int32) (qd : Int32) (ds : Int32) (fl : Int32) (u4 : Int32) (dt : Nat → Int32) (k : Int32) (an : Int32) (ct : Int32) (hd : rw_ok ds 40) : ct_R l D cA yn_Mod_cryptogram cd_Mod_cryptogram 2 [.ref mo, .int k, .int an, .int ct] [(mo, .inr (9, [.ref xm, .ref xs, .ref xt, .ref xk, .ref xp, .ref xr, .ref xc, .ref xu, .ref xe, .ref xb, .ref xa, .ref xl, .ref xg, .int pl, .int ft, .int tw, .int inn, .int bd, .int py, .ref x1, .ref x2, .ref x3, .ref x4, .int ap, .ref xq, .int qd, .ref xz, .ref xd, .int ds, .int fl, .int u4])), (xd, .inl (cA 0, 40, .inl dt))] (fun v_ => v_ = some (.int (Mod_cryptogram_r ds dt k an ct))) := by
  refine gw_metR (by decide) rfl (Nat.le_of_ble_eq_true rfl) ?_
  intro p_ e_ s_ m_ args_ below_ meth_ c_ S g_r g_k hK
  refine gw_eq (ws' := [(mo, .inr (9, [.ref xm, .ref xs, .ref xt, .ref xk, .ref xp, .ref xr, .ref xc, .ref xu, .ref xe, .ref xb, .ref xa, .ref xl, .ref xg, .int pl, .int ft, .int tw, .int inn, .int bd, .int py, .ref x1, .ref x2, .ref x3, .ref x4, .int ap, .ref xq, .int qd, .ref xz, .ref xd, .int ds, .int fl, .int u4])), (xd, .inl (cA 0, 40, .inl dt))]) (lv' := [(0, .ref mo), (1, .int k), (2, .int an), (3, .int ct)]) (st' := []) (pc' := 0) rfl rfl rfl rfl ?_
  obtain ⟨d9, hd9, hN9, en9⟩ := nw_of hd
  have ec : Int32.toNatClampNeg ds = d9 := by rw [en9, nI_clamp (by omega)]
  refine gw_iload_n S dc_Mod_cryptogram_0 rfl 1 rfl ?_
  refine gw_iload_n S dc_Mod_cryptogram_1 rfl 2 rfl ?_
  refine gw_callSR (As := [.int k, .int an]) (st := []) S hK (c_Mod_stir l D cA k an ) (cw_Mod_127 S.2.2.2.2 rfl rfl ⟨Nat.le_of_ble_eq_true rfl, Nat.le_of_ble_eq_true rfl⟩) [] rfl (by decide) rfl rfl (Nat.le_of_ble_eq_true rfl) dc_Mod_cryptogram_2 ⟨Nat.le_of_ble_eq_true rfl, Nat.le_of_ble_eq_true rfl⟩ ?_
  rintro _ rfl
  refine gw_eq (ws' := [(mo, .inr (9, [.ref xm, .ref xs, .ref xt, .ref xk, .ref xp, .ref xr, .ref xc, .ref xu, .ref xe, .ref xb, .ref xa, .ref xl, .ref xg, .int pl, .int ft, .int tw, .int inn, .int bd, .int py, .ref x1, .ref x2, .ref x3, .ref x4, .int ap, .ref xq, .int qd, .ref xz, .ref xd, .int ds, .int fl, .int u4])), (xd, .inl (cA 0, 40, .inl dt))]) (lv' := [(0, .ref mo), (1, .int k), (2, .int an), (3, .int ct)]) (st' := [.int (f_Mod_stir k an)]) (pc' := 5) rfl rfl rfl rfl ?_
  refine gw_iload_n S dc_Mod_cryptogram_5 rfl 3 rfl ?_
  refine gw_sipush (v := 256) S dc_Mod_cryptogram_6 (by decide) ?_
  refine gw_idiv S dc_Mod_cryptogram_9 (by decide) ?_
  refine gw_sipush (v := 256) S dc_Mod_cryptogram_10 (by decide) ?_
  refine gw_irem S dc_Mod_cryptogram_13 (by decide) ?_
  refine gw_callSR (As := [.int (f_Mod_stir k an), .int ((ct / 256) - (ct / 256) / 256 * 256)]) (st := []) S hK (c_Mod_stir l D cA (f_Mod_stir k an) ((ct / 256) - (ct / 256) / 256 * 256) ) (cw_Mod_127 S.2.2.2.2 rfl rfl ⟨Nat.le_of_ble_eq_true rfl, Nat.le_of_ble_eq_true rfl⟩) [] rfl (by decide) rfl rfl (Nat.le_of_ble_eq_true rfl) dc_Mod_cryptogram_14 ⟨Nat.le_of_ble_eq_true rfl, Nat.le_of_ble_eq_true rfl⟩ ?_
  rintro _ rfl
  refine gw_eq (ws' := [(mo, .inr (9, [.ref xm, .ref xs, .ref xt, .ref xk, .ref xp, .ref xr, .ref xc, .ref xu, .ref xe, .ref xb, .ref xa, .ref xl, .ref xg, .int pl, .int ft, .int tw, .int inn, .int bd, .int py, .ref x1, .ref x2, .ref x3, .ref x4, .int ap, .ref xq, .int qd, .ref xz, .ref xd, .int ds, .int fl, .int u4])), (xd, .inl (cA 0, 40, .inl dt))]) (lv' := [(0, .ref mo), (1, .int k), (2, .int an), (3, .int ct)]) (st' := [.int (f_Mod_stir (f_Mod_stir k an) ((ct / 256) - (ct / 256) / 256 * 256))]) (pc' := 17) rfl rfl rfl rfl ?_
  refine gw_iload_n S dc_Mod_cryptogram_17 rfl 3 rfl ?_
  refine gw_sipush (v := 256) S dc_Mod_cryptogram_18 (by decide) ?_
  refine gw_irem S dc_Mod_cryptogram_21 (by decide) ?_
  refine gw_callSR (As := [.int (f_Mod_stir (f_Mod_stir k an) ((ct / 256) - (ct / 256) / 256 * 256)), .int (ct - ct / 256 * 256)]) (st := []) S hK (c_Mod_stir l D cA (f_Mod_stir (f_Mod_stir k an) ((ct / 256) - (ct / 256) / 256 * 256)) (ct - ct / 256 * 256) ) (cw_Mod_127 S.2.2.2.2 rfl rfl ⟨Nat.le_of_ble_eq_true rfl, Nat.le_of_ble_eq_true rfl⟩) [] rfl (by decide) rfl rfl (Nat.le_of_ble_eq_true rfl) dc_Mod_cryptogram_22 ⟨Nat.le_of_ble_eq_true rfl, Nat.le_of_ble_eq_true rfl⟩ ?_
  rintro _ rfl
  refine gw_eq (ws' := [(mo, .inr (9, [.ref xm, .ref xs, .ref xt, .ref xk, .ref xp, .ref xr, .ref xc, .ref xu, .ref xe, .ref xb, .ref xa, .ref xl, .ref xg, .int pl, .int ft, .int tw, .int inn, .int bd, .int py, .ref x1, .ref x2, .ref x3, .ref x4, .int ap, .ref xq, .int qd, .ref xz, .ref xd, .int ds, .int fl, .int u4])), (xd, .inl (cA 0, 40, .inl dt))]) (lv' := [(0, .ref mo), (1, .int k), (2, .int an), (3, .int ct)]) (st' := [.int (f_Mod_stir (f_Mod_stir (f_Mod_stir k an) ((ct / 256) - (ct / 256) / 256 * 256)) (ct - ct / 256 * 256))]) (pc' := 25) rfl rfl rfl rfl ?_
  refine gw_istore (lv' := [(4, .int (f_Mod_stir (f_Mod_stir (f_Mod_stir k an) ((ct / 256) - (ct / 256) / 256 * 256)) (ct - ct / 256 * 256))), (0, .ref mo), (1, .int k), (2, .int an), (3, .int ct)]) S dc_Mod_cryptogram_25 (by decide) rfl ?_
  refine gw_iconst (v := 0) S dc_Mod_cryptogram_27 (by decide) ?_
  refine gw_istore (lv' := [(5, .int 0), (4, .int (f_Mod_stir (f_Mod_stir (f_Mod_stir k an) ((ct / 256) - (ct / 256) / 256 * 256)) (ct - ct / 256 * 256))), (0, .ref mo), (1, .int k), (2, .int an), (3, .int ct)]) S dc_Mod_cryptogram_28 (by decide) rfl ?_
  refine gw_drop [2, 1, 0] (lv' := [(0, .ref mo), (4, .int (f_Mod_stir (f_Mod_stir (f_Mod_stir k an) ((ct / 256) - (ct / 256) / 256 * 256)) (ct - ct / 256 * 256))), (5, .int 0)]) rfl ?_
  refine gw_loop (σ := Nat × Nat × Int32) (fun (x_ : Nat × Nat × Int32) => match x_ with | (k9, i, v) => ((Int32.toNatClampNeg ds) - i < k9) ∧ (Mod_cryptogram_r ds dt k an ct = Mod_cryptogram_f ds dt k an ct k9 (i, v)) ∧ (i ≤ Int32.toNatClampNeg ds)) (fun (x_ : Nat × Nat × Int32) => match x_ with | (k9, i, v) => (Int32.toNatClampNeg ds) - i) (fun (x_ : Nat × Nat × Int32) => match x_ with | (k9, i, v) => [(mo, .inr (9, [.ref xm, .ref xs, .ref xt, .ref xk, .ref xp, .ref xr, .ref xc, .ref xu, .ref xe, .ref xb, .ref xa, .ref xl, .ref xg, .int pl, .int ft, .int tw, .int inn, .int bd, .int py, .ref x1, .ref x2, .ref x3, .ref x4, .int ap, .ref xq, .int qd, .ref xz, .ref xd, .int ds, .int fl, .int u4])), (xd, .inl (cA 0, 40, .inl dt))]) (fun (x_ : Nat × Nat × Int32) => match x_ with | (k9, i, v) => [(0, .ref mo), (4, .int v), (5, .int (nI i))]) ?_ (((Int32.toNatClampNeg ds) - 0) + 1, 0, f_Mod_stir (f_Mod_stir (f_Mod_stir k an) ((ct / 256) - (ct / 256) / 256 * 256)) (ct - ct / 256 * 256)) ?_ rfl rfl
  rotate_left
  · exact ⟨Nat.lt_succ_self _, (by simp only [Mod_cryptogram_r]), Nat.zero_le _⟩
  rintro ⟨k9, i, v⟩ ⟨hk9, hm9, hi9⟩ ih_4
  obtain ⟨q9, rfl⟩ : ∃ q, k9 = q + 1 := ⟨k9 - 1, by omega⟩
  refine gw_eq (ws' := [(mo, .inr (9, [.ref xm, .ref xs, .ref xt, .ref xk, .ref xp, .ref xr, .ref xc, .ref xu, .ref xe, .ref xb, .ref xa, .ref xl, .ref xg, .int pl, .int ft, .int tw, .int inn, .int bd, .int py, .ref x1, .ref x2, .ref x3, .ref x4, .int ap, .ref xq, .int qd, .ref xz, .ref xd, .int ds, .int fl, .int u4])), (xd, .inl (cA 0, 40, .inl dt))]) (lv' := [(0, .ref mo), (4, .int v), (5, .int (nI i))]) (st' := []) (pc' := 30) rfl rfl rfl rfl ?_
  refine gw_iload S dc_Mod_cryptogram_30 2 rfl ?_
  refine gw_aload_n S dc_Mod_cryptogram_32 rfl 0 rfl ?_
  refine gw_get S hK.1 ic_Mod rfl 28 (by decide) (gw_lk S mw_808) 0 rfl rfl dc_Mod_cryptogram_33 ?_
  refine gw_icmp_ge (tgt := 59) S dc_Mod_cryptogram_36 (by decide) (fun c_5 => ?_) (fun c_5 => ?_)
  · -- taken
    refine gw_iload S dc_Mod_cryptogram_59 1 rfl ?_
    have r9 : Mod_cryptogram_r ds dt k an ct = v := (hm9.trans (Mod_cryptogram_d (by simp only [Mod_cryptogram_s, if_pos c_5, if_true, if_false])))
    exact gw_iretR S g_r g_k  (by rw [r9]) dc_Mod_cryptogram_61
  · -- not
    have hlt : i < d9 := lp_lt en9 (by rw [ec] at hi9; omega) c_5
    refine gw_iload S dc_Mod_cryptogram_39 1 rfl ?_
    refine gw_aload_n S dc_Mod_cryptogram_41 rfl 0 rfl ?_
    refine gw_get S hK.1 ic_Mod rfl 27 (by decide) (gw_lk S mw_807) 0 rfl rfl dc_Mod_cryptogram_42 ?_
    refine gw_iload S dc_Mod_cryptogram_45 2 rfl ?_
    refine gw_ialdX (X := i) S hK.1 1 0 rfl rfl (by omega) (by decide) dc_Mod_cryptogram_47 ?_
    refine gw_callSR (As := [.int v, .int (dt i)]) (st := []) S hK (c_Mod_stir l D cA v (dt i) ) (cw_Mod_127 S.2.2.2.2 rfl rfl ⟨Nat.le_of_ble_eq_true rfl, Nat.le_of_ble_eq_true rfl⟩) [] rfl (by decide) rfl rfl (Nat.le_of_ble_eq_true rfl) dc_Mod_cryptogram_48 ⟨Nat.le_of_ble_eq_true rfl, Nat.le_of_ble_eq_true rfl⟩ ?_
    rintro _ rfl
    refine gw_eq (ws' := [(mo, .inr (9, [.ref xm, .ref xs, .ref xt, .ref xk, .ref xp, .ref xr, .ref xc, .ref xu, .ref xe, .ref xb, .ref xa, .ref xl, .ref xg, .int pl, .int ft, .int tw, .int inn, .int bd, .int py, .ref x1, .ref x2, .ref x3, .ref x4, .int ap, .ref xq, .int qd, .ref xz, .ref xd, .int ds, .int fl, .int u4])), (xd, .inl (cA 0, 40, .inl dt))]) (lv' := [(0, .ref mo), (4, .int v), (5, .int (nI i))]) (st' := [.int (f_Mod_stir v (dt i))]) (pc' := 51) rfl rfl rfl rfl ?_
    refine gw_istore (lv' := [(4, .int (f_Mod_stir v (dt i))), (0, .ref mo), (5, .int (nI i))]) S dc_Mod_cryptogram_51 (by decide) rfl ?_
    refine gw_iinc (v := nI (i + 1)) (lv' := [(5, .int (nI (i + 1))), (4, .int (f_Mod_stir v (dt i))), (0, .ref mo)]) S dc_Mod_cryptogram_53 2 rfl (nI_add _ 1) (by decide) rfl ?_
    refine gw_goto (tgt := 30) S dc_Mod_cryptogram_56 (by decide) ?_
    refine gw_drop [2, 1, 0] (lv' := [(0, .ref mo), (4, .int (f_Mod_stir v (dt i))), (5, .int (nI (i + 1)))]) rfl ?_
    refine gw_eq (ws' := [(mo, .inr (9, [.ref xm, .ref xs, .ref xt, .ref xk, .ref xp, .ref xr, .ref xc, .ref xu, .ref xe, .ref xb, .ref xa, .ref xl, .ref xg, .int pl, .int ft, .int tw, .int inn, .int bd, .int py, .ref x1, .ref x2, .ref x3, .ref x4, .int ap, .ref xq, .int qd, .ref xz, .ref xd, .int ds, .int fl, .int u4])), (xd, .inl (cA 0, 40, .inl dt))]) (lv' := [(0, .ref mo), (4, .int (f_Mod_stir v (dt i))), (5, .int (nI (i + 1)))]) (st' := []) (pc' := 30) rfl rfl rfl rfl ?_
    have m9 : (Int32.toNatClampNeg ds) - (i + 1) < (Int32.toNatClampNeg ds) - i := (by rw [ec]; omega)
    exact ih_4 (q9, i + 1, f_Mod_stir v (dt i)) ⟨by omega, hm9.trans (Mod_cryptogram_n (by simp only [Mod_cryptogram_s, if_neg c_5, if_true, if_false])), (by rw [ec]; exact hlt)⟩ m9
noncomputable def f_Mod_pin (g : Nat → Int32) (pin : Nat → Int32) (trs : Nat → Int32) (ar : Nat) (y : Int32) : Int32 := if (g 3) = 0 then 0 else (if 0 ≤ y then (if (trs ar) = 0 then 0 else (if y = (pin ar) then 1 else (0))) else (0))
noncomputable def f_Mod_pin_flags (fl : Int32) (g : Nat → Int32) (trs : Nat → Int32) (ar : Nat) (y : Int32) : Int32 := if (g 3) = 0 then (fl ||| 16) else (if 0 ≤ y then (if (trs ar) = 0 then (fl ||| 32) else (fl)) else (fl ||| 16))
noncomputable def f_Mod_pin_3 (g : Nat → Int32) (pin : Nat → Int32) (trs : Nat → Int32) (ar : Nat) (y : Int32) : Nat → Int32 := if (g 3) = 0 then trs else (if 0 ≤ y then (if (trs ar) = 0 then trs else (if y = (pin ar) then (upd trs ar 3) else (upd trs ar ((trs ar) - 1)))) else (trs))
theorem b_Mod_pin (g : Nat → Int32) (pin : Nat → Int32) (trs : Nat → Int32) (ar : Nat) (y : Int32) : f_Mod_pin g pin trs ar y = 0 ∨ f_Mod_pin g pin trs ar y = 1 := by
  unfold f_Mod_pin
  exact (bo_ite (Or.inl rfl) (bo_ite (bo_ite (Or.inl rfl) (bo_ite (Or.inr rfl) (Or.inl rfl))) (Or.inl rfl)))
set_option maxRecDepth 100000 in
set_option maxHeartbeats 4000000 in
theorem c_Mod_pin (l : Launch) (D : va_G) (cA : Nat → ClassId) (sz : Nat) (mo : Nat) (xm : Nat) (xs : Nat) (xt : Nat) (xk : Nat) (xp : Nat) (xr : Nat) (xc : Nat) (xu : Nat) (xe : Nat) (xb : Nat) (xa : Nat) (xl : Nat) (xg : Nat) (x1 : Nat) (x2 : Nat) (x3 : Nat) (x4 : Nat) (xq : Nat) (xz : Nat) (xd : Nat) (pl : Int32) (ft : Int32) (tw : Int32) (inn : Int32) (bd : Int32) (py : Int32) (ap : Int32) (qd : Int32) (ds : Int32) (fl : Int32) (u4 : Int32) (g : Nat → Int32) (pin : Nat → Int32) (trs : Nat → Int32) (ar : Nat) (y : Int32) (har : ar < 4) : ct_M l D cA yn_Mod_pin cd_Mod_pin 1 0 0 sz [.ref mo, .int (nI ar), .int y] [(mo, .inr (9, [.ref xm, .ref xs, .ref xt, .ref xk, .ref xp, .ref xr, .ref xc, .ref xu, .ref xe, .ref xb, .ref xa, .ref xl, .ref xg, .int pl, .int ft, .int tw, .int inn, .int bd, .int py, .ref x1, .ref x2, .ref x3, .ref x4, .int ap, .ref xq, .int qd, .ref xz, .ref xd, .int ds, .int fl, .int u4])), (xg, .inl (cA 0, 7, .inl g)), (xp, .inl (cA 0, 4, .inl pin)), (xr, .inl (cA 0, 4, .inl trs))] (fun v_ w_ => v_ = some (.int (f_Mod_pin g pin trs ar y)) ∧ w_ = [(mo, .inr (9, [.ref xm, .ref xs, .ref xt, .ref xk, .ref xp, .ref xr, .ref xc, .ref xu, .ref xe, .ref xb, .ref xa, .ref xl, .ref xg, .int pl, .int ft, .int tw, .int inn, .int bd, .int py, .ref x1, .ref x2, .ref x3, .ref x4, .int ap, .ref xq, .int qd, .ref xz, .ref xd, .int ds, .int (f_Mod_pin_flags fl g trs ar y), .int u4])), (xg, .inl (cA 0, 7, .inl g)), (xp, .inl (cA 0, 4, .inl pin)), (xr, .inl (cA 0, 4, .inl (f_Mod_pin_3 g pin trs ar y)))]) := by
  refine gw_met (by decide) rfl (Nat.le_of_ble_eq_true rfl) ?_
  intro p_ e_ s_ m_ args_ below_ meth_ c_ A_ S g_r g_k g_n hK hA
  refine gw_eq (ws' := [(mo, .inr (9, [.ref xm, .ref xs, .ref xt, .ref xk, .ref xp, .ref xr, .ref xc, .ref xu, .ref xe, .ref xb, .ref xa, .ref xl, .ref xg, .int pl, .int ft, .int tw, .int inn, .int bd, .int py, .ref x1, .ref x2, .ref x3, .ref x4, .int ap, .ref xq, .int qd, .ref xz, .ref xd, .int ds, .int fl, .int u4])), (xg, .inl (cA 0, 7, .inl g)), (xp, .inl (cA 0, 4, .inl pin)), (xr, .inl (cA 0, 4, .inl trs))]) (lv' := [(0, .ref mo), (1, .int (nI ar)), (2, .int y)]) (st' := []) (pc' := 0) rfl rfl rfl rfl ?_
  refine gw_aload_n S dc_Mod_pin_0 rfl 0 rfl ?_
  refine gw_get S hK.1 ic_Mod rfl 12 (by decide) (gw_lk S mw_792) 0 rfl rfl dc_Mod_pin_1 ?_
  refine gw_iconst (v := 3) S dc_Mod_pin_4 (by decide) ?_
  refine gw_iald S hK.1 1 0 rfl rfl (by unfold vp_in; decide) dc_Mod_pin_5 ?_
  refine gw_eq (ws' := [(mo, .inr (9, [.ref xm, .ref xs, .ref xt, .ref xk, .ref xp, .ref xr, .ref xc, .ref xu, .ref xe, .ref xb, .ref xa, .ref xl, .ref xg, .int pl, .int ft, .int tw, .int inn, .int bd, .int py, .ref x1, .ref x2, .ref x3, .ref x4, .int ap, .ref xq, .int qd, .ref xz, .ref xd, .int ds, .int fl, .int u4])), (xg, .inl (cA 0, 7, .inl g)), (xp, .inl (cA 0, 4, .inl pin)), (xr, .inl (cA 0, 4, .inl trs))]) (lv' := [(0, .ref mo), (1, .int (nI ar)), (2, .int y)]) (st' := [.int (g 3)]) (pc' := 6) rfl rfl rfl rfl ?_
  refine gw_if_eq (tgt := 13) S dc_Mod_pin_6 (by decide) (fun c_1 => ?_) (fun c_1 => ?_)
  · -- taken
    refine gw_aload_n S dc_Mod_pin_13 rfl 0 rfl ?_
    refine gw_dup S dc_Mod_pin_14 rfl ?_
    refine gw_get S hK.1 ic_Mod rfl 29 (by decide) (gw_lk S mw_809) 0 rfl rfl dc_Mod_pin_15 ?_
    refine gw_bipush (v := 16) S dc_Mod_pin_18 (by decide) ?_
    refine gw_ior S dc_Mod_pin_20 ?_
    refine gw_put (ws' := [(mo, .inr (9, [.ref xm, .ref xs, .ref xt, .ref xk, .ref xp, .ref xr, .ref xc, .ref xu, .ref xe, .ref xb, .ref xa, .ref xl, .ref xg, .int pl, .int ft, .int tw, .int inn, .int bd, .int py, .ref x1, .ref x2, .ref x3, .ref x4, .int ap, .ref xq, .int qd, .ref xz, .ref xd, .int ds, .int (fl ||| 16), .int u4])), (xg, .inl (cA 0, 7, .inl g)), (xp, .inl (cA 0, 4, .inl pin)), (xr, .inl (cA 0, 4, .inl trs))]) (ty := .int) S hK.1 ic_Mod rfl 29 (by decide) ty_Mod to_Mod nm_Mod (gw_lk S mw_809) 0 rfl rfl (by decide +kernel) rfl rfl (Nat.le_of_ble_eq_true rfl) rfl dc_Mod_pin_21 ?_
    refine gw_goto (tgt := 79) S dc_Mod_pin_24 (by decide) ?_
    refine gw_iconst (v := 0) S dc_Mod_pin_79 (by decide) ?_
    exact gw_zret (w := [(mo, .inr (9, [.ref xm, .ref xs, .ref xt, .ref xk, .ref xp, .ref xr, .ref xc, .ref xu, .ref xe, .ref xb, .ref xa, .ref xl, .ref xg, .int pl, .int ft, .int tw, .int inn, .int bd, .int py, .ref x1, .ref x2, .ref x3, .ref x4, .int ap, .ref xq, .int qd, .ref xz, .ref xd, .int ds, .int (fl ||| 16), .int u4])), (xg, .inl (cA 0, 7, .inl g)), (xp, .inl (cA 0, 4, .inl pin)), (xr, .inl (cA 0, 4, .inl trs))]) S g_r g_k rfl [0, 1, 2, 3] rfl (by decide) ⟨(by simp only [f_Mod_pin, f_Mod_pin_flags, f_Mod_pin_3, if_pos c_1]), (by simp only [f_Mod_pin, f_Mod_pin_flags, f_Mod_pin_3, if_pos c_1])⟩ dc_Mod_pin_80
  · -- not
    refine gw_iload_n S dc_Mod_pin_9 rfl 2 rfl ?_
    refine gw_if_ge (tgt := 27) S dc_Mod_pin_10 (by decide) (fun c_2 => ?_) (fun c_2 => ?_)
    · -- taken
      refine gw_aload_n S dc_Mod_pin_27 rfl 0 rfl ?_
      refine gw_get S hK.1 ic_Mod rfl 5 (by decide) (gw_lk S mw_785) 0 rfl rfl dc_Mod_pin_28 ?_
      refine gw_iload_n S dc_Mod_pin_31 rfl 1 rfl ?_
      refine gw_ialdX (X := ar) S hK.1 3 0 rfl rfl (by omega) (by decide) dc_Mod_pin_32 ?_
      refine gw_if_ne (tgt := 50) S dc_Mod_pin_33 (by decide) (fun c_3 => ?_) (fun c_3 => ?_)
      · -- taken
        refine gw_iload_n S dc_Mod_pin_50 rfl 2 rfl ?_
        refine gw_aload_n S dc_Mod_pin_51 rfl 0 rfl ?_
        refine gw_get S hK.1 ic_Mod rfl 4 (by decide) (gw_lk S mw_784) 0 rfl rfl dc_Mod_pin_52 ?_
        refine gw_iload_n S dc_Mod_pin_55 rfl 1 rfl ?_
        refine gw_ialdX (X := ar) S hK.1 2 0 rfl rfl (by omega) (by decide) dc_Mod_pin_56 ?_
        refine gw_icmp_ne (tgt := 69) S dc_Mod_pin_57 (by decide) (fun c_4 => ?_) (fun c_4 => ?_)
        · -- taken
          refine gw_aload_n S dc_Mod_pin_69 rfl 0 rfl ?_
          refine gw_get S hK.1 ic_Mod rfl 5 (by decide) (gw_lk S mw_785) 0 rfl rfl dc_Mod_pin_70 ?_
          refine gw_iload_n S dc_Mod_pin_73 rfl 1 rfl ?_
          refine gw_dup2_11 S dc_Mod_pin_74 rfl rfl ?_
          refine gw_ialdX (X := ar) S hK.1 3 0 rfl rfl (by omega) (by decide) dc_Mod_pin_75 ?_
          refine gw_iconst (v := 1) S dc_Mod_pin_76 (by decide) ?_
          refine gw_isub S dc_Mod_pin_77 ?_
          refine gw_iastX (X := ar) (ws' := [(mo, .inr (9, [.ref xm, .ref xs, .ref xt, .ref xk, .ref xp, .ref xr, .ref xc, .ref xu, .ref xe, .ref xb, .ref xa, .ref xl, .ref xg, .int pl, .int ft, .int tw, .int inn, .int bd, .int py, .ref x1, .ref x2, .ref x3, .ref x4, .int ap, .ref xq, .int qd, .ref xz, .ref xd, .int ds, .int fl, .int u4])), (xg, .inl (cA 0, 7, .inl g)), (xp, .inl (cA 0, 4, .inl pin)), (xr, .inl (cA 0, 4, .inl (upd trs ar ((trs ar) - 1))))]) S hK.1 3 0 rfl rfl (by omega) (by decide) rfl dc_Mod_pin_78 ?_
          refine gw_iconst (v := 0) S dc_Mod_pin_79 (by decide) ?_
          exact gw_zret (w := [(mo, .inr (9, [.ref xm, .ref xs, .ref xt, .ref xk, .ref xp, .ref xr, .ref xc, .ref xu, .ref xe, .ref xb, .ref xa, .ref xl, .ref xg, .int pl, .int ft, .int tw, .int inn, .int bd, .int py, .ref x1, .ref x2, .ref x3, .ref x4, .int ap, .ref xq, .int qd, .ref xz, .ref xd, .int ds, .int fl, .int u4])), (xg, .inl (cA 0, 7, .inl g)), (xp, .inl (cA 0, 4, .inl pin)), (xr, .inl (cA 0, 4, .inl (upd trs ar ((trs ar) - 1))))]) S g_r g_k rfl [0, 1, 2, 3] rfl (by decide) ⟨(by simp only [f_Mod_pin, f_Mod_pin_flags, f_Mod_pin_3, if_neg c_1, if_pos c_2, if_neg c_3, if_neg c_4]), (by simp only [f_Mod_pin, f_Mod_pin_flags, f_Mod_pin_3, if_neg c_1, if_pos c_2, if_neg c_3, if_neg c_4])⟩ dc_Mod_pin_80
        · -- not
          refine gw_aload_n S dc_Mod_pin_60 rfl 0 rfl ?_
          refine gw_get S hK.1 ic_Mod rfl 5 (by decide) (gw_lk S mw_785) 0 rfl rfl dc_Mod_pin_61 ?_
          refine gw_iload_n S dc_Mod_pin_64 rfl 1 rfl ?_
          refine gw_iconst (v := 3) S dc_Mod_pin_65 (by decide) ?_
          refine gw_iastX (X := ar) (ws' := [(mo, .inr (9, [.ref xm, .ref xs, .ref xt, .ref xk, .ref xp, .ref xr, .ref xc, .ref xu, .ref xe, .ref xb, .ref xa, .ref xl, .ref xg, .int pl, .int ft, .int tw, .int inn, .int bd, .int py, .ref x1, .ref x2, .ref x3, .ref x4, .int ap, .ref xq, .int qd, .ref xz, .ref xd, .int ds, .int fl, .int u4])), (xg, .inl (cA 0, 7, .inl g)), (xp, .inl (cA 0, 4, .inl pin)), (xr, .inl (cA 0, 4, .inl (upd trs ar 3)))]) S hK.1 3 0 rfl rfl (by omega) (by decide) rfl dc_Mod_pin_66 ?_
          refine gw_iconst (v := 1) S dc_Mod_pin_67 (by decide) ?_
          exact gw_zret (w := [(mo, .inr (9, [.ref xm, .ref xs, .ref xt, .ref xk, .ref xp, .ref xr, .ref xc, .ref xu, .ref xe, .ref xb, .ref xa, .ref xl, .ref xg, .int pl, .int ft, .int tw, .int inn, .int bd, .int py, .ref x1, .ref x2, .ref x3, .ref x4, .int ap, .ref xq, .int qd, .ref xz, .ref xd, .int ds, .int fl, .int u4])), (xg, .inl (cA 0, 7, .inl g)), (xp, .inl (cA 0, 4, .inl pin)), (xr, .inl (cA 0, 4, .inl (upd trs ar 3)))]) S g_r g_k rfl [0, 1, 2, 3] rfl (by decide) ⟨(by simp only [f_Mod_pin, f_Mod_pin_flags, f_Mod_pin_3, if_neg c_1, if_pos c_2, if_neg c_3, if_pos c_4]), (by simp only [f_Mod_pin, f_Mod_pin_flags, f_Mod_pin_3, if_neg c_1, if_pos c_2, if_neg c_3, if_pos c_4])⟩ dc_Mod_pin_68
      · -- not
        refine gw_aload_n S dc_Mod_pin_36 rfl 0 rfl ?_
        refine gw_dup S dc_Mod_pin_37 rfl ?_
        refine gw_get S hK.1 ic_Mod rfl 29 (by decide) (gw_lk S mw_809) 0 rfl rfl dc_Mod_pin_38 ?_
        refine gw_bipush (v := 32) S dc_Mod_pin_41 (by decide) ?_
        refine gw_ior S dc_Mod_pin_43 ?_
        refine gw_put (ws' := [(mo, .inr (9, [.ref xm, .ref xs, .ref xt, .ref xk, .ref xp, .ref xr, .ref xc, .ref xu, .ref xe, .ref xb, .ref xa, .ref xl, .ref xg, .int pl, .int ft, .int tw, .int inn, .int bd, .int py, .ref x1, .ref x2, .ref x3, .ref x4, .int ap, .ref xq, .int qd, .ref xz, .ref xd, .int ds, .int (fl ||| 32), .int u4])), (xg, .inl (cA 0, 7, .inl g)), (xp, .inl (cA 0, 4, .inl pin)), (xr, .inl (cA 0, 4, .inl trs))]) (ty := .int) S hK.1 ic_Mod rfl 29 (by decide) ty_Mod to_Mod nm_Mod (gw_lk S mw_809) 0 rfl rfl (by decide +kernel) rfl rfl (Nat.le_of_ble_eq_true rfl) rfl dc_Mod_pin_44 ?_
        refine gw_goto (tgt := 79) S dc_Mod_pin_47 (by decide) ?_
        refine gw_iconst (v := 0) S dc_Mod_pin_79 (by decide) ?_
        exact gw_zret (w := [(mo, .inr (9, [.ref xm, .ref xs, .ref xt, .ref xk, .ref xp, .ref xr, .ref xc, .ref xu, .ref xe, .ref xb, .ref xa, .ref xl, .ref xg, .int pl, .int ft, .int tw, .int inn, .int bd, .int py, .ref x1, .ref x2, .ref x3, .ref x4, .int ap, .ref xq, .int qd, .ref xz, .ref xd, .int ds, .int (fl ||| 32), .int u4])), (xg, .inl (cA 0, 7, .inl g)), (xp, .inl (cA 0, 4, .inl pin)), (xr, .inl (cA 0, 4, .inl trs))]) S g_r g_k rfl [0, 1, 2, 3] rfl (by decide) ⟨(by simp only [f_Mod_pin, f_Mod_pin_flags, f_Mod_pin_3, if_neg c_1, if_pos c_2, if_pos c_3]), (by simp only [f_Mod_pin, f_Mod_pin_flags, f_Mod_pin_3, if_neg c_1, if_pos c_2, if_pos c_3])⟩ dc_Mod_pin_80
    · -- not
      refine gw_aload_n S dc_Mod_pin_13 rfl 0 rfl ?_
      refine gw_dup S dc_Mod_pin_14 rfl ?_
      refine gw_get S hK.1 ic_Mod rfl 29 (by decide) (gw_lk S mw_809) 0 rfl rfl dc_Mod_pin_15 ?_
      refine gw_bipush (v := 16) S dc_Mod_pin_18 (by decide) ?_
      refine gw_ior S dc_Mod_pin_20 ?_
      refine gw_put (ws' := [(mo, .inr (9, [.ref xm, .ref xs, .ref xt, .ref xk, .ref xp, .ref xr, .ref xc, .ref xu, .ref xe, .ref xb, .ref xa, .ref xl, .ref xg, .int pl, .int ft, .int tw, .int inn, .int bd, .int py, .ref x1, .ref x2, .ref x3, .ref x4, .int ap, .ref xq, .int qd, .ref xz, .ref xd, .int ds, .int (fl ||| 16), .int u4])), (xg, .inl (cA 0, 7, .inl g)), (xp, .inl (cA 0, 4, .inl pin)), (xr, .inl (cA 0, 4, .inl trs))]) (ty := .int) S hK.1 ic_Mod rfl 29 (by decide) ty_Mod to_Mod nm_Mod (gw_lk S mw_809) 0 rfl rfl (by decide +kernel) rfl rfl (Nat.le_of_ble_eq_true rfl) rfl dc_Mod_pin_21 ?_
      refine gw_goto (tgt := 79) S dc_Mod_pin_24 (by decide) ?_
      refine gw_iconst (v := 0) S dc_Mod_pin_79 (by decide) ?_
      exact gw_zret (w := [(mo, .inr (9, [.ref xm, .ref xs, .ref xt, .ref xk, .ref xp, .ref xr, .ref xc, .ref xu, .ref xe, .ref xb, .ref xa, .ref xl, .ref xg, .int pl, .int ft, .int tw, .int inn, .int bd, .int py, .ref x1, .ref x2, .ref x3, .ref x4, .int ap, .ref xq, .int qd, .ref xz, .ref xd, .int ds, .int (fl ||| 16), .int u4])), (xg, .inl (cA 0, 7, .inl g)), (xp, .inl (cA 0, 4, .inl pin)), (xr, .inl (cA 0, 4, .inl trs))]) S g_r g_k rfl [0, 1, 2, 3] rfl (by decide) ⟨(by simp only [f_Mod_pin, f_Mod_pin_flags, f_Mod_pin_3, if_neg c_1, if_neg c_2]), (by simp only [f_Mod_pin, f_Mod_pin_flags, f_Mod_pin_3, if_neg c_1, if_neg c_2])⟩ dc_Mod_pin_80
noncomputable def Mod_count_s (py : Int32) (ap : Int32) (qd : Int32) (fz : Nat → Int32) (pcd : Nat → Int32) (pbk : Nat → Int32) (x : Int32) (x_ : Nat × Nat) : (Int32) ⊕ (Nat × Nat) := match x_ with
  | (i, o) => if py < (nI i) then (if x = 0 then (.inl (fz 4)) else (if x = 1 then (.inl py) else (if x = 2 then (.inl qd) else (if x = 3 then (.inl ap) else (if x = 4 then (.inl (nI o)) else (.inl (-1))))))) else (.inr (i + 1, if (pcd i) = 1 then (if (pbk i) = 0 then (o + 1) else (o)) else (o)))
noncomputable def Mod_count_f (py : Int32) (ap : Int32) (qd : Int32) (fz : Nat → Int32) (pcd : Nat → Int32) (pbk : Nat → Int32) (x : Int32) : Nat → (Nat × Nat) → Int32
  | 0, _ => 0
  | k_ + 1, xx_ => match Mod_count_s py ap qd fz pcd pbk x xx_ with
    | .inl rr_ => rr_
    | .inr yy_ => Mod_count_f py ap qd fz pcd pbk x k_ yy_
theorem Mod_count_n {py : Int32} {ap : Int32} {qd : Int32} {fz : Nat → Int32} {pcd : Nat → Int32} {pbk : Nat → Int32} {x : Int32} {k_ : Nat} {xx_ yy_ : Nat × Nat} (h_ : Mod_count_s py ap qd fz pcd pbk x xx_ = .inr yy_) : Mod_count_f py ap qd fz pcd pbk x (k_ + 1) xx_ = Mod_count_f py ap qd fz pcd pbk x k_ yy_ := by rw [Mod_count_f, h_]
theorem Mod_count_d {py : Int32} {ap : Int32} {qd : Int32} {fz : Nat → Int32} {pcd : Nat → Int32} {pbk : Nat → Int32} {x : Int32} {k_ : Nat} {xx_ : Nat × Nat} {rr_ : Int32} (h_ : Mod_count_s py ap qd fz pcd pbk x xx_ = .inl rr_) : Mod_count_f py ap qd fz pcd pbk x (k_ + 1) xx_ = rr_ := by rw [Mod_count_f, h_]
noncomputable def Mod_count_r (py : Int32) (ap : Int32) (qd : Int32) (fz : Nat → Int32) (pcd : Nat → Int32) (pbk : Nat → Int32) (x : Int32) : Int32 := Mod_count_f py ap qd fz pcd pbk x (((Int32.toNatClampNeg py) + 1 - 1) + 1) (1, 0)
set_option maxRecDepth 100000 in
set_option maxHeartbeats 4000000 in
theorem c_Mod_count (l : Launch) (D : va_G) (cA : Nat → ClassId) (mo : Nat) (xm : Nat) (xs : Nat) (xt : Nat) (xk : Nat) (xp : Nat) (xr : Nat) (xc : Nat) (xu : Nat) (xe : Nat) (xb : Nat) (xa : Nat) (xl : Nat) (xg : Nat) (x1 : Nat) (x2 : Nat) (x3 : Nat) (x4 : Nat) (xq : Nat) (xz : Nat) (xd : Nat) (pl : Int32) (ft : Int32) (tw : Int32) (inn : Int32) (bd : Int32) (py : Int32) (ap : Int32) (qd : Int32) (ds : Int32) (fl : Int32) (u4 : Int32) (fz : Nat → Int32) (pcd : Nat → Int32) (pbk : Nat → Int32) (x : Int32) (hp : rw_ok py 512) : ct_R l D cA yn_Mod_count cd_Mod_count 1 [.ref mo, .int x] [(mo, .inr (9, [.ref xm, .ref xs, .ref xt, .ref xk, .ref xp, .ref xr, .ref xc, .ref xu, .ref xe, .ref xb, .ref xa, .ref xl, .ref xg, .int pl, .int ft, .int tw, .int inn, .int bd, .int py, .ref x1, .ref x2, .ref x3, .ref x4, .int ap, .ref xq, .int qd, .ref xz, .ref xd, .int ds, .int fl, .int u4])), (xs, .inl (cA 0, 5, .inl fz)), (x3, .inl (cA 0, 513, .inl pcd)), (x4, .inl (cA 2, 513, .inl pbk))] (fun v_ => v_ = some (.int (Mod_count_r py ap qd fz pcd pbk x))) := by
  refine gw_metR (by decide) rfl (Nat.le_of_ble_eq_true rfl) ?_
  intro p_ e_ s_ m_ args_ below_ meth_ c_ S g_r g_k hK
  refine gw_eq (ws' := [(mo, .inr (9, [.ref xm, .ref xs, .ref xt, .ref xk, .ref xp, .ref xr, .ref xc, .ref xu, .ref xe, .ref xb, .ref xa, .ref xl, .ref xg, .int pl, .int ft, .int tw, .int inn, .int bd, .int py, .ref x1, .ref x2, .ref x3, .ref x4, .int ap, .ref xq, .int qd, .ref xz, .ref xd, .int ds, .int fl, .int u4])), (xs, .inl (cA 0, 5, .inl fz)), (x3, .inl (cA 0, 513, .inl pcd)), (x4, .inl (cA 2, 513, .inl pbk))]) (lv' := [(0, .ref mo), (1, .int x)]) (st' := []) (pc' := 0) rfl rfl rfl rfl ?_
  obtain ⟨d9, hd9, hN9, en9⟩ := nw_of hp
  have ec : Int32.toNatClampNeg py = d9 := by rw [en9, nI_clamp (by omega)]
  refine gw_iconst (v := 0) S dc_Mod_count_0 (by decide) ?_
  refine gw_istore_n (lv' := [(2, .int 0), (0, .ref mo), (1, .int x)]) S dc_Mod_count_1 rfl (by decide) rfl ?_
  refine gw_iconst (v := 1) S dc_Mod_count_2 (by decide) ?_
  refine gw_istore_n (lv' := [(3, .int 1), (2, .int 0), (0, .ref mo), (1, .int x)]) S dc_Mod_count_3 rfl (by decide) rfl ?_
  refine gw_drop [2, 3, 1, 0] (lv' := [(0, .ref mo), (1, .int x), (2, .int 0), (3, .int 1)]) rfl ?_
  refine gw_loop (σ := Nat × Nat × Nat) (fun (x_ : Nat × Nat × Nat) => match x_ with | (k9, i, o) => ((Int32.toNatClampNeg py) + 1 - i < k9) ∧ (Mod_count_r py ap qd fz pcd pbk x = Mod_count_f py ap qd fz pcd pbk x k9 (i, o)) ∧ (i ≤ (Int32.toNatClampNeg py) + 1)) (fun (x_ : Nat × Nat × Nat) => match x_ with | (k9, i, o) => (Int32.toNatClampNeg py) + 1 - i) (fun (x_ : Nat × Nat × Nat) => match x_ with | (k9, i, o) => [(mo, .inr (9, [.ref xm, .ref xs, .ref xt, .ref xk, .ref xp, .ref xr, .ref xc, .ref xu, .ref xe, .ref xb, .ref xa, .ref xl, .ref xg, .int pl, .int ft, .int tw, .int inn, .int bd, .int py, .ref x1, .ref x2, .ref x3, .ref x4, .int ap, .ref xq, .int qd, .ref xz, .ref xd, .int ds, .int fl, .int u4])), (xs, .inl (cA 0, 5, .inl fz)), (x3, .inl (cA 0, 513, .inl pcd)), (x4, .inl (cA 2, 513, .inl pbk))]) (fun (x_ : Nat × Nat × Nat) => match x_ with | (k9, i, o) => [(0, .ref mo), (1, .int x), (2, .int (nI o)), (3, .int (nI i))]) ?_ (((Int32.toNatClampNeg py) + 1 - 1) + 1, 1, 0) ?_ rfl rfl
  rotate_left
  · exact ⟨Nat.lt_succ_self _, (by simp only [Mod_count_r]), (by omega)⟩
  rintro ⟨k9, i, o⟩ ⟨hk9, hm9, hi9⟩ ih_1
  obtain ⟨q9, rfl⟩ : ∃ q, k9 = q + 1 := ⟨k9 - 1, by omega⟩
  refine gw_eq (ws' := [(mo, .inr (9, [.ref xm, .ref xs, .ref xt, .ref xk, .ref xp, .ref xr, .ref xc, .ref xu, .ref xe, .ref xb, .ref xa, .ref xl, .ref xg, .int pl, .int ft, .int tw, .int inn, .int bd, .int py, .ref x1, .ref x2, .ref x3, .ref x4, .int ap, .ref xq, .int qd, .ref xz, .ref xd, .int ds, .int fl, .int u4])), (xs, .inl (cA 0, 5, .inl fz)), (x3, .inl (cA 0, 513, .inl pcd)), (x4, .inl (cA 2, 513, .inl pbk))]) (lv' := [(0, .ref mo), (1, .int x), (2, .int (nI o)), (3, .int (nI i))]) (st' := []) (pc' := 4) rfl rfl rfl rfl ?_
  refine gw_iload_n S dc_Mod_count_4 rfl 3 rfl ?_
  refine gw_aload_n S dc_Mod_count_5 rfl 0 rfl ?_
  refine gw_get S hK.1 ic_Mod rfl 18 (by decide) (gw_lk S mw_798) 0 rfl rfl dc_Mod_count_6 ?_
  refine gw_icmp_gt (tgt := 40) S dc_Mod_count_9 (by decide) (fun c_2 => ?_) (fun c_2 => ?_)
  · -- taken
    refine gw_iload_n S dc_Mod_count_40 rfl 1 rfl ?_
    rcases Classical.em (x = 0) with c_3 | c_3
    · -- case 0
      refine gw_tableIn (tgt := 76) S dc_Mod_count_41 (by rw [c_3]; decide) (by rw [c_3]; decide) (by rw [c_3]; rfl) (by decide) ?_
      refine gw_aload_n S dc_Mod_count_76 rfl 0 rfl ?_
      refine gw_get S hK.1 ic_Mod rfl 1 (by decide) (gw_lk S mw_781) 0 rfl rfl dc_Mod_count_77 ?_
      refine gw_iconst (v := 4) S dc_Mod_count_80 (by decide) ?_
      refine gw_iald S hK.1 1 0 rfl rfl (by unfold vp_in; decide) dc_Mod_count_81 ?_
      refine gw_eq (ws' := [(mo, .inr (9, [.ref xm, .ref xs, .ref xt, .ref xk, .ref xp, .ref xr, .ref xc, .ref xu, .ref xe, .ref xb, .ref xa, .ref xl, .ref xg, .int pl, .int ft, .int tw, .int inn, .int bd, .int py, .ref x1, .ref x2, .ref x3, .ref x4, .int ap, .ref xq, .int qd, .ref xz, .ref xd, .int ds, .int fl, .int u4])), (xs, .inl (cA 0, 5, .inl fz)), (x3, .inl (cA 0, 513, .inl pcd)), (x4, .inl (cA 2, 513, .inl pbk))]) (lv' := [(0, .ref mo), (1, .int x), (2, .int (nI o)), (3, .int (nI i))]) (st' := [.int (fz 4)]) (pc' := 82) rfl rfl rfl rfl ?_
      have r9 : Mod_count_r py ap qd fz pcd pbk x = fz 4 := (hm9.trans (Mod_count_d (by simp only [Mod_count_s, if_pos c_2, if_pos c_3, if_true, if_false])))
      exact gw_iretR S g_r g_k  (by rw [r9]) dc_Mod_count_82
    · -- else
      rcases Classical.em (x = 1) with c_4 | c_4
      · -- case 1
        refine gw_tableIn (tgt := 83) S dc_Mod_count_41 (by rw [c_4]; decide) (by rw [c_4]; decide) (by rw [c_4]; rfl) (by decide) ?_
        refine gw_aload_n S dc_Mod_count_83 rfl 0 rfl ?_
        refine gw_get S hK.1 ic_Mod rfl 18 (by decide) (gw_lk S mw_798) 0 rfl rfl dc_Mod_count_84 ?_
        have r9 : Mod_count_r py ap qd fz pcd pbk x = py := (hm9.trans (Mod_count_d (by simp only [Mod_count_s, if_pos c_2, if_neg c_3, if_pos c_4, if_true, if_false])))
        exact gw_iretR S g_r g_k  (by rw [r9]) dc_Mod_count_87
      · -- else
        rcases Classical.em (x = 2) with c_5 | c_5
        · -- case 2
          refine gw_tableIn (tgt := 88) S dc_Mod_count_41 (by rw [c_5]; decide) (by rw [c_5]; decide) (by rw [c_5]; rfl) (by decide) ?_
          refine gw_aload_n S dc_Mod_count_88 rfl 0 rfl ?_
          refine gw_get S hK.1 ic_Mod rfl 25 (by decide) (gw_lk S mw_805) 0 rfl rfl dc_Mod_count_89 ?_
          have r9 : Mod_count_r py ap qd fz pcd pbk x = qd := (hm9.trans (Mod_count_d (by simp only [Mod_count_s, if_pos c_2, if_neg c_3, if_neg c_4, if_pos c_5, if_true, if_false])))
          exact gw_iretR S g_r g_k  (by rw [r9]) dc_Mod_count_92
        · -- else
          rcases Classical.em (x = 3) with c_6 | c_6
          · -- case 3
            refine gw_tableIn (tgt := 93) S dc_Mod_count_41 (by rw [c_6]; decide) (by rw [c_6]; decide) (by rw [c_6]; rfl) (by decide) ?_
            refine gw_aload_n S dc_Mod_count_93 rfl 0 rfl ?_
            refine gw_get S hK.1 ic_Mod rfl 23 (by decide) (gw_lk S mw_803) 0 rfl rfl dc_Mod_count_94 ?_
            have r9 : Mod_count_r py ap qd fz pcd pbk x = ap := (hm9.trans (Mod_count_d (by simp only [Mod_count_s, if_pos c_2, if_neg c_3, if_neg c_4, if_neg c_5, if_pos c_6, if_true, if_false])))
            exact gw_iretR S g_r g_k  (by rw [r9]) dc_Mod_count_97
          · -- else
            rcases Classical.em (x = 4) with c_7 | c_7
            · -- case 4
              refine gw_tableIn (tgt := 98) S dc_Mod_count_41 (by rw [c_7]; decide) (by rw [c_7]; decide) (by rw [c_7]; rfl) (by decide) ?_
              refine gw_iload_n S dc_Mod_count_98 rfl 2 rfl ?_
              have r9 : Mod_count_r py ap qd fz pcd pbk x = nI o := (hm9.trans (Mod_count_d (by simp only [Mod_count_s, if_pos c_2, if_neg c_3, if_neg c_4, if_neg c_5, if_neg c_6, if_pos c_7, if_true, if_false])))
              exact gw_iretR S g_r g_k  (by rw [r9]) dc_Mod_count_99
            · -- else
              have nc_3 := lv_neT c_3 (a := 0) (by decide)
              have nc_4 := lv_neT c_4 (a := 1) (by decide)
              have nc_5 := lv_neT c_5 (a := 2) (by decide)
              have nc_6 := lv_neT c_6 (a := 3) (by decide)
              have nc_7 := lv_neT c_7 (a := 4) (by decide)
              refine gw_tableOut (tgt := 100) S dc_Mod_count_41 (by omega) (by decide) ?_
              refine gw_iconst (v := -1) S dc_Mod_count_100 (by decide) ?_
              have r9 : Mod_count_r py ap qd fz pcd pbk x = -1 := (hm9.trans (Mod_count_d (by simp only [Mod_count_s, if_pos c_2, if_neg c_3, if_neg c_4, if_neg c_5, if_neg c_6, if_neg c_7, if_true, if_false])))
              exact gw_iretR S g_r g_k  (by rw [r9]) dc_Mod_count_101
  · -- not
    have hlt : i ≤ d9 := by (rw [ec] at hi9; rcases Nat.lt_or_ge d9 i with q | q; exact absurd (by rw [en9]; exact nI_lt q (by omega)) c_2; exact q)
    refine gw_aload_n S dc_Mod_count_12 rfl 0 rfl ?_
    refine gw_get S hK.1 ic_Mod rfl 21 (by decide) (gw_lk S mw_801) 0 rfl rfl dc_Mod_count_13 ?_
    refine gw_iload_n S dc_Mod_count_16 rfl 3 rfl ?_
    refine gw_ialdX (X := i) S hK.1 2 0 rfl rfl (by omega) (by decide) dc_Mod_count_17 ?_
    refine gw_iconst (v := 1) S dc_Mod_count_18 (by decide) ?_
    refine gw_jw (ws2 := [(mo, .inr (9, [.ref xm, .ref xs, .ref xt, .ref xk, .ref xp, .ref xr, .ref xc, .ref xu, .ref xe, .ref xb, .ref xa, .ref xl, .ref xg, .int pl, .int ft, .int tw, .int inn, .int bd, .int py, .ref x1, .ref x2, .ref x3, .ref x4, .int ap, .ref xq, .int qd, .ref xz, .ref xd, .int ds, .int fl, .int u4])), (xs, .inl (cA 0, 5, .inl fz)), (x3, .inl (cA 0, 513, .inl pcd)), (x4, .inl (cA 2, 513, .inl pbk))]) (lv2 := [(0, .ref mo), (1, .int x), (2, .int (nI (if (pcd i) = 1 then (if (pbk i) = 0 then (o + 1) else (o)) else (o)))), (3, .int (nI i))]) (st2 := []) (pc2 := 34) ?_ (fun kJ_8 => ?_)
    rotate_left
    · -- join at 34
      refine gw_icmp_ne (tgt := 34) S dc_Mod_count_19 (by decide) (fun c_9 => ?_) (fun c_9 => ?_)
      · -- taken
        exact kJ_8 _ _ _ (by simp only [if_neg c_9]) (by simp only [if_neg c_9]) (by simp only [if_neg c_9])
      · -- not
        refine gw_aload_n S dc_Mod_count_22 rfl 0 rfl ?_
        refine gw_get S hK.1 ic_Mod rfl 22 (by decide) (gw_lk S mw_802) 0 rfl rfl dc_Mod_count_23 ?_
        refine gw_iload_n S dc_Mod_count_26 rfl 3 rfl ?_
        refine gw_zaldX (X := i) S hK.1 3 2 rfl rfl (by omega) (by decide) dc_Mod_count_27 ?_
        refine gw_if_ne (tgt := 34) S dc_Mod_count_28 (by decide) (fun c_10 => ?_) (fun c_10 => ?_)
        · -- taken
          exact kJ_8 _ _ _ (by simp only [if_pos c_9, if_neg c_10]) (by simp only [if_pos c_9, if_neg c_10]) (by simp only [if_pos c_9, if_neg c_10])
        · -- not
          refine gw_iinc (v := nI (o + 1)) (lv' := [(2, .int (nI (o + 1))), (0, .ref mo), (1, .int x), (3, .int (nI i))]) S dc_Mod_count_31 2 rfl (nI_add _ 1) (by decide) rfl ?_
          refine gw_drop [1, 2, 0, 3] (lv' := [(0, .ref mo), (1, .int x), (2, .int (nI (o + 1))), (3, .int (nI i))]) rfl ?_
          exact kJ_8 _ _ _ (by simp only [if_pos c_9, if_pos c_10]) (by simp only [if_pos c_9, if_pos c_10]) (by simp only [if_pos c_9, if_pos c_10])
    refine gw_iinc (v := nI (i + 1)) (lv' := [(3, .int (nI (i + 1))), (0, .ref mo), (1, .int x), (2, .int (nI (if (pcd i) = 1 then (if (pbk i) = 0 then (o + 1) else (o)) else (o))))]) S dc_Mod_count_34 3 rfl (nI_add _ 1) (by decide) rfl ?_
    refine gw_goto (tgt := 4) S dc_Mod_count_37 (by decide) ?_
    refine gw_drop [1, 2, 3, 0] (lv' := [(0, .ref mo), (1, .int x), (2, .int (nI (if (pcd i) = 1 then (if (pbk i) = 0 then (o + 1) else (o)) else (o)))), (3, .int (nI (i + 1)))]) rfl ?_
    have m9 : (Int32.toNatClampNeg py) + 1 - (i + 1) < (Int32.toNatClampNeg py) + 1 - i := (by rw [ec]; omega)
    exact ih_1 (q9, i + 1, if (pcd i) = 1 then (if (pbk i) = 0 then (o + 1) else (o)) else (o)) ⟨by omega, hm9.trans (Mod_count_n (by simp only [Mod_count_s, if_neg c_2, if_true, if_false])), (by rw [ec]; omega)⟩ m9
