/-- the text's first i bytes copied to an area -/
def mk_c (M : Nat → Nat) (ar i : Nat) : Nat → Nat := fun j => if 60 * ar ≤ j ∧ j < 60 * ar + i then M (240 + (j - 60 * ar)) else M j
def mk_z (Z : Nat → Nat) (ar : Nat) : Nat → Nat := fun j => if j = 4 then 0 else if j = ar then Z 4 else Z j
theorem mk_0 (M : Nat → Nat) (ar : Nat) : mk_c M ar 0 = M := by
  funext j
  unfold mk_c
  rw [if_neg (by omega)]
theorem mk_src {M : Nat → Nat} {ar i : Nat} (har : ar ≤ 3) (hi : i < 60) : mk_c M ar i (240 + i) = M (240 + i) := by
  unfold mk_c
  rw [if_neg (by omega)]
theorem mk_s {M : Nat → Nat} {ar i : Nat} (har : ar ≤ 3) (hi : i < 60) : upd (nJ (mk_c M ar i)) (60 * ar + i) (nI (mk_c M ar i (240 + i))) = nJ (mk_c M ar (i + 1)) := by
  rw [mk_src har hi]
  funext j
  unfold upd nJ
  by_cases c : j = 60 * ar + i
  · rw [if_pos c]
    unfold mk_c
    rw [if_pos (by omega), c, Nat.add_sub_cancel_left]
  · rw [if_neg c]
    unfold mk_c
    by_cases c2 : 60 * ar ≤ j ∧ j < 60 * ar + i
    · rw [if_pos c2, if_pos (by omega)]
    · rw [if_neg c2, if_neg (by omega)]
theorem mk_zz {Z : Nat → Nat} {ar : Nat} : upd (upd (nJ Z) ar (nI (Z 4))) 4 0 = nJ (mk_z Z ar) := by
  funext j
  unfold upd nJ mk_z
  by_cases c : j = 4
  · rw [if_pos c, if_pos c]; rfl
  · rw [if_neg c, if_neg c]
    by_cases c2 : j = ar
    · rw [if_pos c2, if_pos c2]
    · rw [if_neg c2, if_neg c2]
set_option maxRecDepth 100000 in
set_option maxHeartbeats 4000000 in
theorem c_Mod_make_y (l : Launch) (D : va_G) (cA : Nat → ClassId) (sz : Nat) (mo : Nat) (xm : Nat) (xs : Nat) (xt : Nat) (xk : Nat) (xp : Nat) (xr : Nat) (xc : Nat) (xu : Nat) (xe : Nat) (xb : Nat) (xa : Nat) (xl : Nat) (xg : Nat) (x1 : Nat) (x2 : Nat) (x3 : Nat) (x4 : Nat) (xq : Nat) (xz : Nat) (xd : Nat) (pl : Int32) (ft : Int32) (tw : Int32) (inn : Int32) (bd : Int32) (py : Int32) (ap : Int32) (qd : Int32) (ds : Int32) (fl : Int32) (t4 : Nat) (M : Nat → Nat) (Z : Nat → Nat) (ar : Nat) (acc : List ob_T) (the : Nat → Int32) (kys : Nat → Int32) (pin : Nat → Int32) (trs : Nat → Int32) (cou : Nat → Int32) (run : Nat → Int32) (see : Nat → Int32) (y : Int32) (w : Int32) (har : ar ≤ 3) (hp : ¬ f_Mod_in w 0 9999 = 0) (hZ : Z 4 ≤ 60) (hB : ∀ j, M j ≤ 255) (hA : pm_r M Z 4 = .inr acc) (hc : nI acc.length ≤ 16) (hu : f_Mod_unfit M acc ≤ 0) : ct_M l D cA yn_Mod_make cd_Mod_make 7 0 0 sz [.ref mo, .int (nI ar), .int y, .int w] [(mo, .inr (9, [.ref xm, .ref xs, .ref xt, .ref xk, .ref xp, .ref xr, .ref xc, .ref xu, .ref xe, .ref xb, .ref xa, .ref xl, .ref xg, .int pl, .int ft, .int tw, .int inn, .int bd, .int py, .ref x1, .ref x2, .ref x3, .ref x4, .int ap, .ref xq, .int qd, .ref xz, .ref xd, .int ds, .int fl, .int (nI t4)])), (xm, .inl (cA 0, 300, .inl (nJ M))), (xs, .inl (cA 0, 5, .inl (nJ Z))), (xt, .inl (cA 2, 4, .inl the)), (xk, .inl (cA 0, 4, .inl kys)), (xp, .inl (cA 0, 4, .inl pin)), (xr, .inl (cA 0, 4, .inl trs)), (xc, .inl (cA 0, 4, .inl cou)), (xu, .inl (cA 0, 4, .inl run)), (xe, .inl (cA 2, 4, .inl see))] (fun v_ w_ => ∃ (ft9 : Int32), ∃ (tw9 : Int32), ∃ (in9 : Int32), ∃ (b9 : Int32), ∃ (u9 : Nat), v_ = some (.int (nI acc.length)) ∧ w_ = [(mo, .inr (9, [.ref xm, .ref xs, .ref xt, .ref xk, .ref xp, .ref xr, .ref xc, .ref xu, .ref xe, .ref xb, .ref xa, .ref xl, .ref xg, .int (-1), .int ft9, .int tw9, .int in9, .int b9, .int py, .ref x1, .ref x2, .ref x3, .ref x4, .int ap, .ref xq, .int qd, .ref xz, .ref xd, .int ds, .int fl, .int (nI u9)])), (xm, .inl (cA 0, 300, .inl (nJ (mk_c M ar (Z 4))))), (xs, .inl (cA 0, 5, .inl (nJ (mk_z Z ar)))), (xt, .inl (cA 2, 4, .inl (upd the ar (vp_nar .boolean 1)))), (xk, .inl (cA 0, 4, .inl (upd kys ar y))), (xp, .inl (cA 0, 4, .inl (upd pin ar w))), (xr, .inl (cA 0, 4, .inl (upd trs ar 3))), (xc, .inl (cA 0, 4, .inl (upd cou ar 0))), (xu, .inl (cA 0, 4, .inl (upd run ar 0))), (xe, .inl (cA 2, 4, .inl (upd see ar (vp_nar .boolean 0))))]) := by
  refine gw_met (by decide) rfl (Nat.le_of_ble_eq_true rfl) ?_
  intro p_ e_ s_ m_ args_ below_ meth_ c_ A_ S g_r g_k g_n hK hA
  refine gw_eq (ws' := [(mo, .inr (9, [.ref xm, .ref xs, .ref xt, .ref xk, .ref xp, .ref xr, .ref xc, .ref xu, .ref xe, .ref xb, .ref xa, .ref xl, .ref xg, .int pl, .int ft, .int tw, .int inn, .int bd, .int py, .ref x1, .ref x2, .ref x3, .ref x4, .int ap, .ref xq, .int qd, .ref xz, .ref xd, .int ds, .int fl, .int (nI t4)])), (xm, .inl (cA 0, 300, .inl (nJ M))), (xs, .inl (cA 0, 5, .inl (nJ Z))), (xt, .inl (cA 2, 4, .inl the)), (xk, .inl (cA 0, 4, .inl kys)), (xp, .inl (cA 0, 4, .inl pin)), (xr, .inl (cA 0, 4, .inl trs)), (xc, .inl (cA 0, 4, .inl cou)), (xu, .inl (cA 0, 4, .inl run)), (xe, .inl (cA 2, 4, .inl see))]) (lv' := [(0, .ref mo), (1, .int (nI ar)), (2, .int y), (3, .int w)]) (st' := []) (pc' := 0) rfl rfl rfl rfl ?_
  refine gw_aload_n S dc_Mod_make_0 rfl 0 rfl ?_
  refine gw_iconst (v := -1) S dc_Mod_make_1 (by decide) ?_
  refine gw_put (ws' := [(mo, .inr (9, [.ref xm, .ref xs, .ref xt, .ref xk, .ref xp, .ref xr, .ref xc, .ref xu, .ref xe, .ref xb, .ref xa, .ref xl, .ref xg, .int (-1), .int ft, .int tw, .int inn, .int bd, .int py, .ref x1, .ref x2, .ref x3, .ref x4, .int ap, .ref xq, .int qd, .ref xz, .ref xd, .int ds, .int fl, .int (nI t4)])), (xm, .inl (cA 0, 300, .inl (nJ M))), (xs, .inl (cA 0, 5, .inl (nJ Z))), (xt, .inl (cA 2, 4, .inl the)), (xk, .inl (cA 0, 4, .inl kys)), (xp, .inl (cA 0, 4, .inl pin)), (xr, .inl (cA 0, 4, .inl trs)), (xc, .inl (cA 0, 4, .inl cou)), (xu, .inl (cA 0, 4, .inl run)), (xe, .inl (cA 2, 4, .inl see))]) (ty := .int) S hK.1 ic_Mod rfl 13 (by decide) ty_Mod to_Mod nm_Mod (gw_lk S mw_793) 0 rfl rfl (by decide +kernel) rfl rfl (Nat.le_of_ble_eq_true rfl) rfl dc_Mod_make_2 ?_
  refine gw_iload_n S dc_Mod_make_5 rfl 1 rfl ?_
  refine gw_iconst (v := 0) S dc_Mod_make_6 (by decide) ?_
  refine gw_iconst (v := 3) S dc_Mod_make_7 (by decide) ?_
  refine gw_callSR (As := [.int (nI ar), .int 0, .int 3]) (st := []) S hK (c_Mod_in l D cA (nI ar) 0 3 ) (cw_Mod_101 S.2.2.2.2 rfl rfl ⟨Nat.le_of_ble_eq_true rfl, Nat.le_of_ble_eq_true rfl⟩) [] rfl (by decide) rfl rfl (Nat.le_of_ble_eq_true rfl) dc_Mod_make_8 ⟨Nat.le_of_ble_eq_true rfl, Nat.le_of_ble_eq_true rfl⟩ ?_
  rintro _ rfl
  refine gw_eq (ws' := [(mo, .inr (9, [.ref xm, .ref xs, .ref xt, .ref xk, .ref xp, .ref xr, .ref xc, .ref xu, .ref xe, .ref xb, .ref xa, .ref xl, .ref xg, .int (-1), .int ft, .int tw, .int inn, .int bd, .int py, .ref x1, .ref x2, .ref x3, .ref x4, .int ap, .ref xq, .int qd, .ref xz, .ref xd, .int ds, .int fl, .int (nI t4)])), (xm, .inl (cA 0, 300, .inl (nJ M))), (xs, .inl (cA 0, 5, .inl (nJ Z))), (xt, .inl (cA 2, 4, .inl the)), (xk, .inl (cA 0, 4, .inl kys)), (xp, .inl (cA 0, 4, .inl pin)), (xr, .inl (cA 0, 4, .inl trs)), (xc, .inl (cA 0, 4, .inl cou)), (xu, .inl (cA 0, 4, .inl run)), (xe, .inl (cA 2, 4, .inl see))]) (lv' := [(0, .ref mo), (1, .int (nI ar)), (2, .int y), (3, .int w)]) (st' := [.int (f_Mod_in (nI ar) 0 3)]) (pc' := 11) rfl rfl rfl rfl ?_
  refine gw_if_eq (tgt := 25) S dc_Mod_make_11 (by decide) (fun c_2 => ?_) (fun c_2 => ?_)
  · -- taken
    exact absurd c_2 (in_ok (b := 3) (Nat.le_trans har (by decide)) (by decide))
  · -- not
    refine gw_iload_n S dc_Mod_make_14 rfl 3 rfl ?_
    refine gw_iconst (v := 0) S dc_Mod_make_15 (by decide) ?_
    refine gw_sipush (v := 9999) S dc_Mod_make_16 (by decide) ?_
    refine gw_callSR (As := [.int w, .int 0, .int 9999]) (st := []) S hK (c_Mod_in l D cA w 0 9999 ) (cw_Mod_101 S.2.2.2.2 rfl rfl ⟨Nat.le_of_ble_eq_true rfl, Nat.le_of_ble_eq_true rfl⟩) [] rfl (by decide) rfl rfl (Nat.le_of_ble_eq_true rfl) dc_Mod_make_19 ⟨Nat.le_of_ble_eq_true rfl, Nat.le_of_ble_eq_true rfl⟩ ?_
    rintro _ rfl
    refine gw_eq (ws' := [(mo, .inr (9, [.ref xm, .ref xs, .ref xt, .ref xk, .ref xp, .ref xr, .ref xc, .ref xu, .ref xe, .ref xb, .ref xa, .ref xl, .ref xg, .int (-1), .int ft, .int tw, .int inn, .int bd, .int py, .ref x1, .ref x2, .ref x3, .ref x4, .int ap, .ref xq, .int qd, .ref xz, .ref xd, .int ds, .int fl, .int (nI t4)])), (xm, .inl (cA 0, 300, .inl (nJ M))), (xs, .inl (cA 0, 5, .inl (nJ Z))), (xt, .inl (cA 2, 4, .inl the)), (xk, .inl (cA 0, 4, .inl kys)), (xp, .inl (cA 0, 4, .inl pin)), (xr, .inl (cA 0, 4, .inl trs)), (xc, .inl (cA 0, 4, .inl cou)), (xu, .inl (cA 0, 4, .inl run)), (xe, .inl (cA 2, 4, .inl see))]) (lv' := [(0, .ref mo), (1, .int (nI ar)), (2, .int y), (3, .int w)]) (st' := [.int (f_Mod_in w 0 9999)]) (pc' := 22) rfl rfl rfl rfl ?_
    refine gw_if_ne (tgt := 27) S dc_Mod_make_22 (by decide) (fun c_4 => ?_) (fun c_4 => ?_)
    · -- taken
      refine gw_aload_n S dc_Mod_make_27 rfl 0 rfl ?_
      refine gw_iconst (v := 4) S dc_Mod_make_28 (by decide) ?_
      refine gw_iconst (v := -1) S dc_Mod_make_29 (by decide) ?_
      refine gw_callV (As := [.int 4, .int (-1)]) (st := []) (wr := [(xt, .inl (cA 2, 4, .inl the)), (xk, .inl (cA 0, 4, .inl kys)), (xp, .inl (cA 0, 4, .inl pin)), (xr, .inl (cA 0, 4, .inl trs)), (xc, .inl (cA 0, 4, .inl cou)), (xu, .inl (cA 0, 4, .inl run)), (xe, .inl (cA 2, 4, .inl see))]) S hK hA (fun sz => c_Mod_walk2 l D cA sz mo xm xs xt xk xp xr xc xu xe xb xa xl xg x1 x2 x3 x4 xq xz xd (-1) ft tw inn bd py ap qd ds fl t4 M Z 4 (-1) acc (by decide) (by assumption) (by assumption) (by assumption)) (cw_Mod_94 S.2.2.2.2 rfl rfl ⟨Nat.le_of_ble_eq_true rfl, Nat.le_of_ble_eq_true rfl⟩) [0, 1, 2] [3, 4, 5, 6, 7, 8, 9] rfl (by decide) rfl (by decide) (by decide) 0 rfl rfl rfl rfl rfl (Nat.le_of_ble_eq_true rfl) dc_Mod_make_30 ⟨Nat.le_of_ble_eq_true rfl, Nat.le_of_ble_eq_true rfl⟩ ?_
      rintro _ _ ⟨b9_5, u9_6, rfl, rfl⟩
      refine gw_eq (ws' := [(xt, .inl (cA 2, 4, .inl the)), (xk, .inl (cA 0, 4, .inl kys)), (xp, .inl (cA 0, 4, .inl pin)), (xr, .inl (cA 0, 4, .inl trs)), (xc, .inl (cA 0, 4, .inl cou)), (xu, .inl (cA 0, 4, .inl run)), (xe, .inl (cA 2, 4, .inl see)), (mo, .inr (9, [.ref xm, .ref xs, .ref xt, .ref xk, .ref xp, .ref xr, .ref xc, .ref xu, .ref xe, .ref xb, .ref xa, .ref xl, .ref xg, .int (-1), .int (so_f (fo_s acc (-1))), .int (so_t (fo_s acc (-1))), .int (so_i (fo_s acc (-1))), .int b9_5, .int py, .ref x1, .ref x2, .ref x3, .ref x4, .int ap, .ref xq, .int qd, .ref xz, .ref xd, .int ds, .int fl, .int (nI u9_6)])), (xm, .inl (cA 0, 300, .inl (nJ M))), (xs, .inl (cA 0, 5, .inl (nJ Z)))]) (lv' := [(0, .ref mo), (1, .int (nI ar)), (2, .int y), (3, .int w)]) (st' := [.int (nI acc.length)]) (pc' := 33) rfl rfl rfl rfl ?_
      refine gw_istore (lv' := [(4, .int (nI acc.length)), (0, .ref mo), (1, .int (nI ar)), (2, .int y), (3, .int w)]) S dc_Mod_make_33 (by decide) rfl ?_
      refine gw_iload S dc_Mod_make_35 0 rfl ?_
      refine gw_if_ge (tgt := 51) S dc_Mod_make_37 (by decide) (fun c_7 => ?_) (fun c_7 => ?_)
      · -- taken
        refine gw_iload S dc_Mod_make_51 0 rfl ?_
        refine gw_bipush (v := 16) S dc_Mod_make_53 (by decide) ?_
        refine gw_icmp_le (tgt := 61) S dc_Mod_make_55 (by decide) (fun c_8 => ?_) (fun c_8 => ?_)
        · -- taken
          refine gw_aload_n S dc_Mod_make_61 rfl 1 rfl ?_
          refine gw_callV (As := []) (st := []) (wr := [(xt, .inl (cA 2, 4, .inl the)), (xk, .inl (cA 0, 4, .inl kys)), (xp, .inl (cA 0, 4, .inl pin)), (xr, .inl (cA 0, 4, .inl trs)), (xc, .inl (cA 0, 4, .inl cou)), (xu, .inl (cA 0, 4, .inl run)), (xe, .inl (cA 2, 4, .inl see))]) S hK hA (fun sz => c_Mod_unfit l D cA sz mo xm xs xt xk xp xr xc xu xe xb xa xl xg x1 x2 x3 x4 xq xz xd (-1) (so_f (fo_s acc (-1))) (so_t (fo_s acc (-1))) (so_i (fo_s acc (-1))) b9_5 py ap qd ds fl u9_6 M Z acc (by assumption) (by assumption) (by assumption)) (cw_Mod_120 S.2.2.2.2 rfl rfl ⟨Nat.le_of_ble_eq_true rfl, Nat.le_of_ble_eq_true rfl⟩) [7, 8, 9] [0, 1, 2, 3, 4, 5, 6] rfl (by decide) rfl (by decide) (by decide) 0 rfl rfl rfl rfl rfl (Nat.le_of_ble_eq_true rfl) dc_Mod_make_62 ⟨Nat.le_of_ble_eq_true rfl, Nat.le_of_ble_eq_true rfl⟩ ?_
          rintro _ _ ⟨ft9_9, tw9_10, in9_11, b9_12, u9_13, rfl, rfl⟩
          refine gw_eq (ws' := [(xt, .inl (cA 2, 4, .inl the)), (xk, .inl (cA 0, 4, .inl kys)), (xp, .inl (cA 0, 4, .inl pin)), (xr, .inl (cA 0, 4, .inl trs)), (xc, .inl (cA 0, 4, .inl cou)), (xu, .inl (cA 0, 4, .inl run)), (xe, .inl (cA 2, 4, .inl see)), (mo, .inr (9, [.ref xm, .ref xs, .ref xt, .ref xk, .ref xp, .ref xr, .ref xc, .ref xu, .ref xe, .ref xb, .ref xa, .ref xl, .ref xg, .int (-1), .int ft9_9, .int tw9_10, .int in9_11, .int b9_12, .int py, .ref x1, .ref x2, .ref x3, .ref x4, .int ap, .ref xq, .int qd, .ref xz, .ref xd, .int ds, .int fl, .int (nI u9_13)])), (xm, .inl (cA 0, 300, .inl (nJ M))), (xs, .inl (cA 0, 5, .inl (nJ Z)))]) (lv' := [(4, .int (nI acc.length)), (0, .ref mo), (1, .int (nI ar)), (2, .int y), (3, .int w)]) (st' := [.int (f_Mod_unfit M acc)]) (pc' := 65) rfl rfl rfl rfl ?_
          refine gw_istore (lv' := [(5, .int (f_Mod_unfit M acc)), (4, .int (nI acc.length)), (0, .ref mo), (1, .int (nI ar)), (2, .int y), (3, .int w)]) S dc_Mod_make_65 (by decide) rfl ?_
          refine gw_iload S dc_Mod_make_67 0 rfl ?_
          refine gw_if_le (tgt := 81) S dc_Mod_make_69 (by decide) (fun c_14 => ?_) (fun c_14 => ?_)
          · -- taken
            refine gw_iconst (v := 0) S dc_Mod_make_81 (by decide) ?_
            refine gw_istore (lv' := [(6, .int 0), (5, .int (f_Mod_unfit M acc)), (4, .int (nI acc.length)), (0, .ref mo), (1, .int (nI ar)), (2, .int y), (3, .int w)]) S dc_Mod_make_82 (by decide) rfl ?_
            refine gw_eq (ws' := [(xt, .inl (cA 2, 4, .inl the)), (xk, .inl (cA 0, 4, .inl kys)), (xp, .inl (cA 0, 4, .inl pin)), (xr, .inl (cA 0, 4, .inl trs)), (xc, .inl (cA 0, 4, .inl cou)), (xu, .inl (cA 0, 4, .inl run)), (xe, .inl (cA 2, 4, .inl see)), (mo, .inr (9, [.ref xm, .ref xs, .ref xt, .ref xk, .ref xp, .ref xr, .ref xc, .ref xu, .ref xe, .ref xb, .ref xa, .ref xl, .ref xg, .int (-1), .int ft9_9, .int tw9_10, .int in9_11, .int b9_12, .int py, .ref x1, .ref x2, .ref x3, .ref x4, .int ap, .ref xq, .int qd, .ref xz, .ref xd, .int ds, .int fl, .int (nI u9_13)])), (xm, .inl (cA 0, 300, .inl (nJ (mk_c M ar 0)))), (xs, .inl (cA 0, 5, .inl (nJ Z)))]) (lv' := [(6, .int 0), (5, .int (f_Mod_unfit M acc)), (4, .int (nI acc.length)), (0, .ref mo), (1, .int (nI ar)), (2, .int y), (3, .int w)]) (st' := []) (by rw [mk_0]) rfl rfl rfl ?_
            refine gw_drop [3, 4, 5, 6, 2, 0] (lv' := [(0, .ref mo), (1, .int (nI ar)), (2, .int y), (3, .int w), (4, .int (nI acc.length)), (6, .int 0)]) rfl ?_
            refine gw_loop (σ := Nat) (fun (x_ : Nat) => match x_ with | (i) => (i ≤ Z 4)) (fun (x_ : Nat) => match x_ with | (i) => Z 4 - i) (fun (x_ : Nat) => match x_ with | (i) => [(xt, .inl (cA 2, 4, .inl the)), (xk, .inl (cA 0, 4, .inl kys)), (xp, .inl (cA 0, 4, .inl pin)), (xr, .inl (cA 0, 4, .inl trs)), (xc, .inl (cA 0, 4, .inl cou)), (xu, .inl (cA 0, 4, .inl run)), (xe, .inl (cA 2, 4, .inl see)), (mo, .inr (9, [.ref xm, .ref xs, .ref xt, .ref xk, .ref xp, .ref xr, .ref xc, .ref xu, .ref xe, .ref xb, .ref xa, .ref xl, .ref xg, .int (-1), .int ft9_9, .int tw9_10, .int in9_11, .int b9_12, .int py, .ref x1, .ref x2, .ref x3, .ref x4, .int ap, .ref xq, .int qd, .ref xz, .ref xd, .int ds, .int fl, .int (nI u9_13)])), (xm, .inl (cA 0, 300, .inl (nJ (mk_c M ar i)))), (xs, .inl (cA 0, 5, .inl (nJ Z)))]) (fun (x_ : Nat) => match x_ with | (i) => [(0, .ref mo), (1, .int (nI ar)), (2, .int y), (3, .int w), (4, .int (nI acc.length)), (6, .int (nI i))]) ?_ (0) ?_ rfl rfl
            rotate_left
            · exact Nat.zero_le _
            rintro i hi9 ih_15
            refine gw_eq (ws' := [(xt, .inl (cA 2, 4, .inl the)), (xk, .inl (cA 0, 4, .inl kys)), (xp, .inl (cA 0, 4, .inl pin)), (xr, .inl (cA 0, 4, .inl trs)), (xc, .inl (cA 0, 4, .inl cou)), (xu, .inl (cA 0, 4, .inl run)), (xe, .inl (cA 2, 4, .inl see)), (mo, .inr (9, [.ref xm, .ref xs, .ref xt, .ref xk, .ref xp, .ref xr, .ref xc, .ref xu, .ref xe, .ref xb, .ref xa, .ref xl, .ref xg, .int (-1), .int ft9_9, .int tw9_10, .int in9_11, .int b9_12, .int py, .ref x1, .ref x2, .ref x3, .ref x4, .int ap, .ref xq, .int qd, .ref xz, .ref xd, .int ds, .int fl, .int (nI u9_13)])), (xm, .inl (cA 0, 300, .inl (nJ (mk_c M ar i)))), (xs, .inl (cA 0, 5, .inl (nJ Z)))]) (lv' := [(0, .ref mo), (1, .int (nI ar)), (2, .int y), (3, .int w), (4, .int (nI acc.length)), (6, .int (nI i))]) (st' := []) (pc' := 84) rfl rfl rfl rfl ?_
            refine gw_iload S dc_Mod_make_84 5 rfl ?_
            refine gw_aload_n S dc_Mod_make_86 rfl 0 rfl ?_
            refine gw_get S hK.1 ic_Mod rfl 1 (by decide) (gw_lk S mw_781) 7 rfl rfl dc_Mod_make_87 ?_
            refine gw_iconst (v := 4) S dc_Mod_make_90 (by decide) ?_
            refine gw_ialdN (M := Z) (X := 4) S hK.1 9 0 rfl rfl (by omega) (by decide) dc_Mod_make_91 ?_
            refine gw_icmp_ge (tgt := 124) S dc_Mod_make_92 (by decide) (fun c_16 => ?_) (fun c_16 => ?_)
            · -- taken
              have hge : Z 4 ≤ i := lp_ge rfl (by omega) c_16
              obtain rfl : i = Z 4 := by omega
              refine gw_eq (ws' := [(xt, .inl (cA 2, 4, .inl the)), (xk, .inl (cA 0, 4, .inl kys)), (xp, .inl (cA 0, 4, .inl pin)), (xr, .inl (cA 0, 4, .inl trs)), (xc, .inl (cA 0, 4, .inl cou)), (xu, .inl (cA 0, 4, .inl run)), (xe, .inl (cA 2, 4, .inl see)), (mo, .inr (9, [.ref xm, .ref xs, .ref xt, .ref xk, .ref xp, .ref xr, .ref xc, .ref xu, .ref xe, .ref xb, .ref xa, .ref xl, .ref xg, .int (-1), .int ft9_9, .int tw9_10, .int in9_11, .int b9_12, .int py, .ref x1, .ref x2, .ref x3, .ref x4, .int ap, .ref xq, .int qd, .ref xz, .ref xd, .int ds, .int fl, .int (nI u9_13)])), (xm, .inl (cA 0, 300, .inl (nJ (mk_c M ar (Z 4))))), (xs, .inl (cA 0, 5, .inl (nJ Z)))]) (lv' := [(0, .ref mo), (1, .int (nI ar)), (2, .int y), (3, .int w), (4, .int (nI acc.length)), (6, .int (nI (Z 4)))]) (st' := []) (pc' := 124) rfl rfl rfl rfl ?_
              refine gw_aload_n S dc_Mod_make_124 rfl 0 rfl ?_
              refine gw_get S hK.1 ic_Mod rfl 1 (by decide) (gw_lk S mw_781) 7 rfl rfl dc_Mod_make_125 ?_
              refine gw_iload_n S dc_Mod_make_128 rfl 1 rfl ?_
              refine gw_aload_n S dc_Mod_make_129 rfl 0 rfl ?_
              refine gw_get S hK.1 ic_Mod rfl 1 (by decide) (gw_lk S mw_781) 7 rfl rfl dc_Mod_make_130 ?_
              refine gw_iconst (v := 4) S dc_Mod_make_133 (by decide) ?_
              refine gw_ialdN (M := Z) (X := 4) S hK.1 9 0 rfl rfl (by omega) (by decide) dc_Mod_make_134 ?_
              refine gw_iastX (X := ar) (ws' := [(xt, .inl (cA 2, 4, .inl the)), (xk, .inl (cA 0, 4, .inl kys)), (xp, .inl (cA 0, 4, .inl pin)), (xr, .inl (cA 0, 4, .inl trs)), (xc, .inl (cA 0, 4, .inl cou)), (xu, .inl (cA 0, 4, .inl run)), (xe, .inl (cA 2, 4, .inl see)), (mo, .inr (9, [.ref xm, .ref xs, .ref xt, .ref xk, .ref xp, .ref xr, .ref xc, .ref xu, .ref xe, .ref xb, .ref xa, .ref xl, .ref xg, .int (-1), .int ft9_9, .int tw9_10, .int in9_11, .int b9_12, .int py, .ref x1, .ref x2, .ref x3, .ref x4, .int ap, .ref xq, .int qd, .ref xz, .ref xd, .int ds, .int fl, .int (nI u9_13)])), (xm, .inl (cA 0, 300, .inl (nJ (mk_c M ar (Z 4))))), (xs, .inl (cA 0, 5, .inl (upd (nJ Z) ar (nI (Z 4)))))]) S hK.1 9 0 rfl rfl (by omega) (by decide) rfl dc_Mod_make_135 ?_
              refine gw_aload_n S dc_Mod_make_136 rfl 0 rfl ?_
              refine gw_get S hK.1 ic_Mod rfl 1 (by decide) (gw_lk S mw_781) 7 rfl rfl dc_Mod_make_137 ?_
              refine gw_iconst (v := 4) S dc_Mod_make_140 (by decide) ?_
              refine gw_iconst (v := 0) S dc_Mod_make_141 (by decide) ?_
              refine gw_iast (ws' := [(xt, .inl (cA 2, 4, .inl the)), (xk, .inl (cA 0, 4, .inl kys)), (xp, .inl (cA 0, 4, .inl pin)), (xr, .inl (cA 0, 4, .inl trs)), (xc, .inl (cA 0, 4, .inl cou)), (xu, .inl (cA 0, 4, .inl run)), (xe, .inl (cA 2, 4, .inl see)), (mo, .inr (9, [.ref xm, .ref xs, .ref xt, .ref xk, .ref xp, .ref xr, .ref xc, .ref xu, .ref xe, .ref xb, .ref xa, .ref xl, .ref xg, .int (-1), .int ft9_9, .int tw9_10, .int in9_11, .int b9_12, .int py, .ref x1, .ref x2, .ref x3, .ref x4, .int ap, .ref xq, .int qd, .ref xz, .ref xd, .int ds, .int fl, .int (nI u9_13)])), (xm, .inl (cA 0, 300, .inl (nJ (mk_c M ar (Z 4))))), (xs, .inl (cA 0, 5, .inl (upd (upd (nJ Z) ar (nI (Z 4))) 4 0)))]) S hK.1 9 0 rfl rfl (by unfold vp_in; decide) rfl dc_Mod_make_142 ?_
              refine gw_aload_n S dc_Mod_make_143 rfl 0 rfl ?_
              refine gw_get S hK.1 ic_Mod rfl 2 (by decide) (gw_lk S mw_782) 7 rfl rfl dc_Mod_make_144 ?_
              refine gw_iload_n S dc_Mod_make_147 rfl 1 rfl ?_
              refine gw_iconst (v := 1) S dc_Mod_make_148 (by decide) ?_
              refine gw_zastX (X := ar) (ws' := [(xt, .inl (cA 2, 4, .inl (upd the ar (vp_nar .boolean 1)))), (xk, .inl (cA 0, 4, .inl kys)), (xp, .inl (cA 0, 4, .inl pin)), (xr, .inl (cA 0, 4, .inl trs)), (xc, .inl (cA 0, 4, .inl cou)), (xu, .inl (cA 0, 4, .inl run)), (xe, .inl (cA 2, 4, .inl see)), (mo, .inr (9, [.ref xm, .ref xs, .ref xt, .ref xk, .ref xp, .ref xr, .ref xc, .ref xu, .ref xe, .ref xb, .ref xa, .ref xl, .ref xg, .int (-1), .int ft9_9, .int tw9_10, .int in9_11, .int b9_12, .int py, .ref x1, .ref x2, .ref x3, .ref x4, .int ap, .ref xq, .int qd, .ref xz, .ref xd, .int ds, .int fl, .int (nI u9_13)])), (xm, .inl (cA 0, 300, .inl (nJ (mk_c M ar (Z 4))))), (xs, .inl (cA 0, 5, .inl (upd (upd (nJ Z) ar (nI (Z 4))) 4 0)))]) S hK.1 0 2 rfl rfl (by omega) (by decide) rfl dc_Mod_make_149 ?_
              refine gw_aload_n S dc_Mod_make_150 rfl 0 rfl ?_
              refine gw_get S hK.1 ic_Mod rfl 3 (by decide) (gw_lk S mw_783) 7 rfl rfl dc_Mod_make_151 ?_
              refine gw_iload_n S dc_Mod_make_154 rfl 1 rfl ?_
              refine gw_iload_n S dc_Mod_make_155 rfl 2 rfl ?_
              refine gw_iastX (X := ar) (ws' := [(xt, .inl (cA 2, 4, .inl (upd the ar (vp_nar .boolean 1)))), (xk, .inl (cA 0, 4, .inl (upd kys ar y))), (xp, .inl (cA 0, 4, .inl pin)), (xr, .inl (cA 0, 4, .inl trs)), (xc, .inl (cA 0, 4, .inl cou)), (xu, .inl (cA 0, 4, .inl run)), (xe, .inl (cA 2, 4, .inl see)), (mo, .inr (9, [.ref xm, .ref xs, .ref xt, .ref xk, .ref xp, .ref xr, .ref xc, .ref xu, .ref xe, .ref xb, .ref xa, .ref xl, .ref xg, .int (-1), .int ft9_9, .int tw9_10, .int in9_11, .int b9_12, .int py, .ref x1, .ref x2, .ref x3, .ref x4, .int ap, .ref xq, .int qd, .ref xz, .ref xd, .int ds, .int fl, .int (nI u9_13)])), (xm, .inl (cA 0, 300, .inl (nJ (mk_c M ar (Z 4))))), (xs, .inl (cA 0, 5, .inl (upd (upd (nJ Z) ar (nI (Z 4))) 4 0)))]) S hK.1 1 0 rfl rfl (by omega) (by decide) rfl dc_Mod_make_156 ?_
              refine gw_aload_n S dc_Mod_make_157 rfl 0 rfl ?_
              refine gw_get S hK.1 ic_Mod rfl 4 (by decide) (gw_lk S mw_784) 7 rfl rfl dc_Mod_make_158 ?_
              refine gw_iload_n S dc_Mod_make_161 rfl 1 rfl ?_
              refine gw_iload_n S dc_Mod_make_162 rfl 3 rfl ?_
              refine gw_iastX (X := ar) (ws' := [(xt, .inl (cA 2, 4, .inl (upd the ar (vp_nar .boolean 1)))), (xk, .inl (cA 0, 4, .inl (upd kys ar y))), (xp, .inl (cA 0, 4, .inl (upd pin ar w))), (xr, .inl (cA 0, 4, .inl trs)), (xc, .inl (cA 0, 4, .inl cou)), (xu, .inl (cA 0, 4, .inl run)), (xe, .inl (cA 2, 4, .inl see)), (mo, .inr (9, [.ref xm, .ref xs, .ref xt, .ref xk, .ref xp, .ref xr, .ref xc, .ref xu, .ref xe, .ref xb, .ref xa, .ref xl, .ref xg, .int (-1), .int ft9_9, .int tw9_10, .int in9_11, .int b9_12, .int py, .ref x1, .ref x2, .ref x3, .ref x4, .int ap, .ref xq, .int qd, .ref xz, .ref xd, .int ds, .int fl, .int (nI u9_13)])), (xm, .inl (cA 0, 300, .inl (nJ (mk_c M ar (Z 4))))), (xs, .inl (cA 0, 5, .inl (upd (upd (nJ Z) ar (nI (Z 4))) 4 0)))]) S hK.1 2 0 rfl rfl (by omega) (by decide) rfl dc_Mod_make_163 ?_
              refine gw_aload_n S dc_Mod_make_164 rfl 0 rfl ?_
              refine gw_get S hK.1 ic_Mod rfl 5 (by decide) (gw_lk S mw_785) 7 rfl rfl dc_Mod_make_165 ?_
              refine gw_iload_n S dc_Mod_make_168 rfl 1 rfl ?_
              refine gw_iconst (v := 3) S dc_Mod_make_169 (by decide) ?_
              refine gw_iastX (X := ar) (ws' := [(xt, .inl (cA 2, 4, .inl (upd the ar (vp_nar .boolean 1)))), (xk, .inl (cA 0, 4, .inl (upd kys ar y))), (xp, .inl (cA 0, 4, .inl (upd pin ar w))), (xr, .inl (cA 0, 4, .inl (upd trs ar 3))), (xc, .inl (cA 0, 4, .inl cou)), (xu, .inl (cA 0, 4, .inl run)), (xe, .inl (cA 2, 4, .inl see)), (mo, .inr (9, [.ref xm, .ref xs, .ref xt, .ref xk, .ref xp, .ref xr, .ref xc, .ref xu, .ref xe, .ref xb, .ref xa, .ref xl, .ref xg, .int (-1), .int ft9_9, .int tw9_10, .int in9_11, .int b9_12, .int py, .ref x1, .ref x2, .ref x3, .ref x4, .int ap, .ref xq, .int qd, .ref xz, .ref xd, .int ds, .int fl, .int (nI u9_13)])), (xm, .inl (cA 0, 300, .inl (nJ (mk_c M ar (Z 4))))), (xs, .inl (cA 0, 5, .inl (upd (upd (nJ Z) ar (nI (Z 4))) 4 0)))]) S hK.1 3 0 rfl rfl (by omega) (by decide) rfl dc_Mod_make_170 ?_
              refine gw_aload_n S dc_Mod_make_171 rfl 0 rfl ?_
              refine gw_get S hK.1 ic_Mod rfl 6 (by decide) (gw_lk S mw_786) 7 rfl rfl dc_Mod_make_172 ?_
              refine gw_iload_n S dc_Mod_make_175 rfl 1 rfl ?_
              refine gw_iconst (v := 0) S dc_Mod_make_176 (by decide) ?_
              refine gw_iastX (X := ar) (ws' := [(xt, .inl (cA 2, 4, .inl (upd the ar (vp_nar .boolean 1)))), (xk, .inl (cA 0, 4, .inl (upd kys ar y))), (xp, .inl (cA 0, 4, .inl (upd pin ar w))), (xr, .inl (cA 0, 4, .inl (upd trs ar 3))), (xc, .inl (cA 0, 4, .inl (upd cou ar 0))), (xu, .inl (cA 0, 4, .inl run)), (xe, .inl (cA 2, 4, .inl see)), (mo, .inr (9, [.ref xm, .ref xs, .ref xt, .ref xk, .ref xp, .ref xr, .ref xc, .ref xu, .ref xe, .ref xb, .ref xa, .ref xl, .ref xg, .int (-1), .int ft9_9, .int tw9_10, .int in9_11, .int b9_12, .int py, .ref x1, .ref x2, .ref x3, .ref x4, .int ap, .ref xq, .int qd, .ref xz, .ref xd, .int ds, .int fl, .int (nI u9_13)])), (xm, .inl (cA 0, 300, .inl (nJ (mk_c M ar (Z 4))))), (xs, .inl (cA 0, 5, .inl (upd (upd (nJ Z) ar (nI (Z 4))) 4 0)))]) S hK.1 4 0 rfl rfl (by omega) (by decide) rfl dc_Mod_make_177 ?_
              refine gw_aload_n S dc_Mod_make_178 rfl 0 rfl ?_
              refine gw_get S hK.1 ic_Mod rfl 7 (by decide) (gw_lk S mw_787) 7 rfl rfl dc_Mod_make_179 ?_
              refine gw_iload_n S dc_Mod_make_182 rfl 1 rfl ?_
              refine gw_iconst (v := 0) S dc_Mod_make_183 (by decide) ?_
              refine gw_iastX (X := ar) (ws' := [(xt, .inl (cA 2, 4, .inl (upd the ar (vp_nar .boolean 1)))), (xk, .inl (cA 0, 4, .inl (upd kys ar y))), (xp, .inl (cA 0, 4, .inl (upd pin ar w))), (xr, .inl (cA 0, 4, .inl (upd trs ar 3))), (xc, .inl (cA 0, 4, .inl (upd cou ar 0))), (xu, .inl (cA 0, 4, .inl (upd run ar 0))), (xe, .inl (cA 2, 4, .inl see)), (mo, .inr (9, [.ref xm, .ref xs, .ref xt, .ref xk, .ref xp, .ref xr, .ref xc, .ref xu, .ref xe, .ref xb, .ref xa, .ref xl, .ref xg, .int (-1), .int ft9_9, .int tw9_10, .int in9_11, .int b9_12, .int py, .ref x1, .ref x2, .ref x3, .ref x4, .int ap, .ref xq, .int qd, .ref xz, .ref xd, .int ds, .int fl, .int (nI u9_13)])), (xm, .inl (cA 0, 300, .inl (nJ (mk_c M ar (Z 4))))), (xs, .inl (cA 0, 5, .inl (upd (upd (nJ Z) ar (nI (Z 4))) 4 0)))]) S hK.1 5 0 rfl rfl (by omega) (by decide) rfl dc_Mod_make_184 ?_
              refine gw_aload_n S dc_Mod_make_185 rfl 0 rfl ?_
              refine gw_get S hK.1 ic_Mod rfl 8 (by decide) (gw_lk S mw_788) 7 rfl rfl dc_Mod_make_186 ?_
              refine gw_iload_n S dc_Mod_make_189 rfl 1 rfl ?_
              refine gw_iconst (v := 0) S dc_Mod_make_190 (by decide) ?_
              refine gw_zastX (X := ar) (ws' := [(xt, .inl (cA 2, 4, .inl (upd the ar (vp_nar .boolean 1)))), (xk, .inl (cA 0, 4, .inl (upd kys ar y))), (xp, .inl (cA 0, 4, .inl (upd pin ar w))), (xr, .inl (cA 0, 4, .inl (upd trs ar 3))), (xc, .inl (cA 0, 4, .inl (upd cou ar 0))), (xu, .inl (cA 0, 4, .inl (upd run ar 0))), (xe, .inl (cA 2, 4, .inl (upd see ar (vp_nar .boolean 0)))), (mo, .inr (9, [.ref xm, .ref xs, .ref xt, .ref xk, .ref xp, .ref xr, .ref xc, .ref xu, .ref xe, .ref xb, .ref xa, .ref xl, .ref xg, .int (-1), .int ft9_9, .int tw9_10, .int in9_11, .int b9_12, .int py, .ref x1, .ref x2, .ref x3, .ref x4, .int ap, .ref xq, .int qd, .ref xz, .ref xd, .int ds, .int fl, .int (nI u9_13)])), (xm, .inl (cA 0, 300, .inl (nJ (mk_c M ar (Z 4))))), (xs, .inl (cA 0, 5, .inl (upd (upd (nJ Z) ar (nI (Z 4))) 4 0)))]) S hK.1 6 2 rfl rfl (by omega) (by decide) rfl dc_Mod_make_191 ?_
              refine gw_iload S dc_Mod_make_192 4 rfl ?_
              exact gw_iret (w := [(mo, .inr (9, [.ref xm, .ref xs, .ref xt, .ref xk, .ref xp, .ref xr, .ref xc, .ref xu, .ref xe, .ref xb, .ref xa, .ref xl, .ref xg, .int (-1), .int ft9_9, .int tw9_10, .int in9_11, .int b9_12, .int py, .ref x1, .ref x2, .ref x3, .ref x4, .int ap, .ref xq, .int qd, .ref xz, .ref xd, .int ds, .int fl, .int (nI u9_13)])), (xm, .inl (cA 0, 300, .inl (nJ (mk_c M ar (Z 4))))), (xs, .inl (cA 0, 5, .inl (upd (upd (nJ Z) ar (nI (Z 4))) 4 0))), (xt, .inl (cA 2, 4, .inl (upd the ar (vp_nar .boolean 1)))), (xk, .inl (cA 0, 4, .inl (upd kys ar y))), (xp, .inl (cA 0, 4, .inl (upd pin ar w))), (xr, .inl (cA 0, 4, .inl (upd trs ar 3))), (xc, .inl (cA 0, 4, .inl (upd cou ar 0))), (xu, .inl (cA 0, 4, .inl (upd run ar 0))), (xe, .inl (cA 2, 4, .inl (upd see ar (vp_nar .boolean 0))))]) S g_r g_k  [7, 8, 9, 0, 1, 2, 3, 4, 5, 6] rfl (by decide) ⟨ft9_9, tw9_10, in9_11, b9_12, u9_13, rfl, by rw [mk_zz]⟩ dc_Mod_make_194
            · -- not
              have hlt : i < Z 4 := lp_lt rfl (by omega) c_16
              refine gw_aload_n S dc_Mod_make_95 rfl 0 rfl ?_
              refine gw_get S hK.1 ic_Mod rfl 0 (by decide) (gw_lk S mw_780) 7 rfl rfl dc_Mod_make_96 ?_
              refine gw_bipush (v := 60) S dc_Mod_make_99 (by decide) ?_
              refine gw_iload_n S dc_Mod_make_101 rfl 1 rfl ?_
              refine gw_imulN (a := 60) (b := ar) S dc_Mod_make_102 ?_
              refine gw_iload S dc_Mod_make_103 5 rfl ?_
              refine gw_iaddN (a := 60 * ar) (b := i) S dc_Mod_make_105 ?_
              refine gw_aload_n S dc_Mod_make_106 rfl 0 rfl ?_
              refine gw_get S hK.1 ic_Mod rfl 0 (by decide) (gw_lk S mw_780) 7 rfl rfl dc_Mod_make_107 ?_
              refine gw_sipush (v := 240) S dc_Mod_make_110 (by decide) ?_
              refine gw_iload S dc_Mod_make_113 5 rfl ?_
              refine gw_iaddN (a := 240) (b := i) S dc_Mod_make_115 ?_
              refine gw_ialdN (M := mk_c M ar i) (X := 240 + i) S hK.1 8 0 rfl rfl (by omega) (by decide) dc_Mod_make_116 ?_
              refine gw_iastX (X := (60 * ar) + i) (ws' := [(xt, .inl (cA 2, 4, .inl the)), (xk, .inl (cA 0, 4, .inl kys)), (xp, .inl (cA 0, 4, .inl pin)), (xr, .inl (cA 0, 4, .inl trs)), (xc, .inl (cA 0, 4, .inl cou)), (xu, .inl (cA 0, 4, .inl run)), (xe, .inl (cA 2, 4, .inl see)), (mo, .inr (9, [.ref xm, .ref xs, .ref xt, .ref xk, .ref xp, .ref xr, .ref xc, .ref xu, .ref xe, .ref xb, .ref xa, .ref xl, .ref xg, .int (-1), .int ft9_9, .int tw9_10, .int in9_11, .int b9_12, .int py, .ref x1, .ref x2, .ref x3, .ref x4, .int ap, .ref xq, .int qd, .ref xz, .ref xd, .int ds, .int fl, .int (nI u9_13)])), (xm, .inl (cA 0, 300, .inl (upd (nJ (mk_c M ar i)) ((60 * ar) + i) (nI ((mk_c M ar i) (240 + i)))))), (xs, .inl (cA 0, 5, .inl (nJ Z)))]) S hK.1 8 0 rfl rfl (by omega) (by decide) rfl dc_Mod_make_117 ?_
              refine gw_iinc (v := nI (i + 1)) (lv' := [(6, .int (nI (i + 1))), (0, .ref mo), (1, .int (nI ar)), (2, .int y), (3, .int w), (4, .int (nI acc.length))]) S dc_Mod_make_118 5 rfl (nI_add _ 1) (by decide) rfl ?_
              refine gw_goto (tgt := 84) S dc_Mod_make_121 (by decide) ?_
              refine gw_drop [1, 2, 3, 4, 5, 0] (lv' := [(0, .ref mo), (1, .int (nI ar)), (2, .int y), (3, .int w), (4, .int (nI acc.length)), (6, .int (nI (i + 1)))]) rfl ?_
              refine gw_eq (ws' := [(xt, .inl (cA 2, 4, .inl the)), (xk, .inl (cA 0, 4, .inl kys)), (xp, .inl (cA 0, 4, .inl pin)), (xr, .inl (cA 0, 4, .inl trs)), (xc, .inl (cA 0, 4, .inl cou)), (xu, .inl (cA 0, 4, .inl run)), (xe, .inl (cA 2, 4, .inl see)), (mo, .inr (9, [.ref xm, .ref xs, .ref xt, .ref xk, .ref xp, .ref xr, .ref xc, .ref xu, .ref xe, .ref xb, .ref xa, .ref xl, .ref xg, .int (-1), .int ft9_9, .int tw9_10, .int in9_11, .int b9_12, .int py, .ref x1, .ref x2, .ref x3, .ref x4, .int ap, .ref xq, .int qd, .ref xz, .ref xd, .int ds, .int fl, .int (nI u9_13)])), (xm, .inl (cA 0, 300, .inl (nJ (mk_c M ar (i + 1))))), (xs, .inl (cA 0, 5, .inl (nJ Z)))]) (lv' := [(0, .ref mo), (1, .int (nI ar)), (2, .int y), (3, .int w), (4, .int (nI acc.length)), (6, .int (nI (i + 1)))]) (st' := []) (pc' := 84) (by rw [mk_s har (by omega)]) rfl rfl rfl ?_
              exact ih_15 (i + 1) hlt (show Z 4 - (i + 1) < Z 4 - i by omega)
          · -- not
            exact absurd hu c_14
        · -- not
          exact absurd hc c_8
      · -- not
        exact absurd (nI_pos' (by have := (wk_two (bd := bd) (t4 := t4) (tg := -1) hZ hB (by assumption)).2.1; omega)) c_7
    · -- not
      exact absurd c_4 hp
