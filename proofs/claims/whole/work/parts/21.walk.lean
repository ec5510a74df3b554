theorem gw_jwP {p : Program} {l : Launch} {e : Env} {R : Room} {s : State} {m : MethodId} {args : Array Value} {below : List Frame} {meth : Method} {c : Code} {cells slots nL pc pc2 : Nat} {Q : State → Prop} {D : va_G} {cl : List vw_C} {A : Nat → Prop} {I : Heap → List Loc → Prop} {ws ws2 : va_W} {lv lv2 : List (Nat × Value)} {st st2 : List Value} {P : Prop}
    (k : P → gw_G p l e R s m args below meth c D cl A I cells slots nL Q ws2 lv2 st2 pc2) (f : (∀ ws' lv' st', P → ws' = ws2 → lv' = lv2 → st' = st2 → gw_G p l e R s m args below meth c D cl A I cells slots nL Q ws' lv' st' pc2) → gw_G p l e R s m args below meth c D cl A I cells slots nL Q ws lv st pc) : gw_G p l e R s m args below meth c D cl A I cells slots nL Q ws lv st pc := f (fun _ _ _ hP h1 h2 h3 => by subst h1 h2 h3; exact k hP)
def Mod_walk_s (bd : Int32) (t4 : Nat) (M : Nat → Nat) (Z : Nat → Nat) (ar : Nat) (tg : Int32) (x_ : Nat × Nat × Nat × Nat × Nat × Nat × Nat × Nat × Int32 × Int32 × Int32 × Int32 × Int32) : (Int32 × Int32 × Int32 × Int32 × Int32 × Nat) ⊕ (Nat × Nat × Nat × Nat × Nat × Nat × Nat × Nat × Int32 × Int32 × Int32 × Int32 × Int32) := match x_ with
  | (n, p, dep, e1, e2, e3, u4, gd, fd, ft9, tw9, in9, bd9) => if 400 ≤ (nI gd) then (.inl (-1, ft9, tw9, in9, bd9, u4)) else (if (nI p) = (nI (wk_E dep (Z ar) e1 e2 e3 u4)) then (if (nI dep) = 0 then (.inl (nI n, ft9, tw9, in9, bd9, u4)) else (.inr (n, p, dep - 1, e1, e2, e3, u4, gd + 1, fd, ft9, tw9, in9, bd9))) else (if (nI dep) ≤ 3 then (if (if ((nI (bt M ar p)) &&& 31) = 31 then (if (nI (wk_E dep (Z ar) e1 e2 e3 u4)) ≤ (nI (p + 1)) then True else (if (nI (bt M ar (p + 1))) ≤ 127 then False else (True))) else (False) : Prop) then (.inl (-1, ft9, tw9, in9, nI p, u4)) else (if (nI (wk_q1 M ar p)) < (nI (wk_E dep (Z ar) e1 e2 e3 u4)) then (if (if (nI (bt M ar (wk_q1 M ar p))) ≤ 127 then False else (if (nI (bt M ar (wk_q1 M ar p))) = 129 then (if (nI ((wk_q1 M ar p) + 1)) < (nI (wk_E dep (Z ar) e1 e2 e3 u4)) then False else (True)) else (True)) : Prop) then (.inl (-1, ft9, tw9, in9, nI p, u4)) else (if (nI ((wk_q2 M ar (wk_q1 M ar p)) + (wk_ln M ar (wk_q1 M ar p)))) ≤ (nI (wk_E dep (Z ar) e1 e2 e3 u4)) then (if ((nI (bt M ar p)) &&& 32) = 0 then (.inr (n + 1, (wk_q2 M ar (wk_q1 M ar p)) + (wk_ln M ar (wk_q1 M ar p)), dep, e1, e2, e3, u4, gd + 1, if (nI (wk_t1 M ar p)) = tg then (if 0 ≤ ft9 then fd else (nI dep)) else (fd), if (nI (wk_t1 M ar p)) = tg then (if 0 ≤ ft9 then ft9 else (nI (wk_q2 M ar (wk_q1 M ar p)))) else (ft9), if (nI (wk_t1 M ar p)) = tg then (if 0 ≤ ft9 then tw9 else (nI ((wk_q2 M ar (wk_q1 M ar p)) + (wk_ln M ar (wk_q1 M ar p))))) else (tw9), if fd < 0 then in9 else (if (nI dep) = (fd + 1) then (if (nI p) < ft9 then in9 else (if tw9 ≤ (nI p) then in9 else (in9 + 1))) else (in9)), nI p)) else (.inr (n + 1, (wk_q2 M ar (wk_q1 M ar p)), dep + 1, if (nI (dep + 1)) = 1 then ((wk_q2 M ar (wk_q1 M ar p)) + (wk_ln M ar (wk_q1 M ar p))) else (e1), if (nI (dep + 1)) = 1 then e2 else (if (nI (dep + 1)) = 2 then ((wk_q2 M ar (wk_q1 M ar p)) + (wk_ln M ar (wk_q1 M ar p))) else (e2)), if (nI (dep + 1)) = 1 then e3 else (if (nI (dep + 1)) = 2 then e3 else (if (nI (dep + 1)) = 3 then ((wk_q2 M ar (wk_q1 M ar p)) + (wk_ln M ar (wk_q1 M ar p))) else (e3))), if (nI (dep + 1)) = 1 then u4 else (if (nI (dep + 1)) = 2 then u4 else (if (nI (dep + 1)) = 3 then u4 else ((wk_q2 M ar (wk_q1 M ar p)) + (wk_ln M ar (wk_q1 M ar p))))), gd + 1, if (nI (wk_t1 M ar p)) = tg then (if 0 ≤ ft9 then fd else (nI dep)) else (fd), if (nI (wk_t1 M ar p)) = tg then (if 0 ≤ ft9 then ft9 else (nI (wk_q2 M ar (wk_q1 M ar p)))) else (ft9), if (nI (wk_t1 M ar p)) = tg then (if 0 ≤ ft9 then tw9 else (nI ((wk_q2 M ar (wk_q1 M ar p)) + (wk_ln M ar (wk_q1 M ar p))))) else (tw9), if fd < 0 then in9 else (if (nI dep) = (fd + 1) then (if (nI p) < ft9 then in9 else (if tw9 ≤ (nI p) then in9 else (in9 + 1))) else (in9)), nI p))) else (.inl (-1, ft9, tw9, in9, nI p, u4)))) else (.inl (-1, ft9, tw9, in9, nI p, u4)))) else (.inl (-1, ft9, tw9, in9, nI p, u4))))
noncomputable def Mod_walk_f (bd : Int32) (t4 : Nat) (M : Nat → Nat) (Z : Nat → Nat) (ar : Nat) (tg : Int32) : Nat → (Nat × Nat × Nat × Nat × Nat × Nat × Nat × Nat × Int32 × Int32 × Int32 × Int32 × Int32) → Int32 × Int32 × Int32 × Int32 × Int32 × Nat
  | 0, _ => (0, 0, 0, 0, 0, 0)
  | k_ + 1, xx_ => match Mod_walk_s bd t4 M Z ar tg xx_ with
    | .inl rr_ => rr_
    | .inr yy_ => Mod_walk_f bd t4 M Z ar tg k_ yy_
theorem Mod_walk_n {bd : Int32} {t4 : Nat} {M : Nat → Nat} {Z : Nat → Nat} {ar : Nat} {tg : Int32} {k_ : Nat} {xx_ yy_ : Nat × Nat × Nat × Nat × Nat × Nat × Nat × Nat × Int32 × Int32 × Int32 × Int32 × Int32} (h_ : Mod_walk_s bd t4 M Z ar tg xx_ = .inr yy_) : Mod_walk_f bd t4 M Z ar tg (k_ + 1) xx_ = Mod_walk_f bd t4 M Z ar tg k_ yy_ := by rw [Mod_walk_f, h_]
theorem Mod_walk_d {bd : Int32} {t4 : Nat} {M : Nat → Nat} {Z : Nat → Nat} {ar : Nat} {tg : Int32} {k_ : Nat} {xx_ : Nat × Nat × Nat × Nat × Nat × Nat × Nat × Nat × Int32 × Int32 × Int32 × Int32 × Int32} {rr_ : Int32 × Int32 × Int32 × Int32 × Int32 × Nat} (h_ : Mod_walk_s bd t4 M Z ar tg xx_ = .inl rr_) : Mod_walk_f bd t4 M Z ar tg (k_ + 1) xx_ = rr_ := by rw [Mod_walk_f, h_]
noncomputable def Mod_walk_r (bd : Int32) (t4 : Nat) (M : Nat → Nat) (Z : Nat → Nat) (ar : Nat) (tg : Int32) : Int32 × Int32 × Int32 × Int32 × Int32 × Nat := Mod_walk_f bd t4 M Z ar tg ((400 - 0) + 1) (0, 0, 0, 0, 0, 0, t4, 0, -1, -1, 0, 0, bd)
set_option maxRecDepth 100000 in
set_option maxHeartbeats 4000000 in
theorem c_Mod_walk (l : Launch) (D : va_G) (cA : Nat → ClassId) (sz : Nat) (mo : Nat) (xm : Nat) (xs : Nat) (xt : Nat) (xk : Nat) (xp : Nat) (xr : Nat) (xc : Nat) (xu : Nat) (xe : Nat) (xb : Nat) (xa : Nat) (xl : Nat) (xg : Nat) (x1 : Nat) (x2 : Nat) (x3 : Nat) (x4 : Nat) (xq : Nat) (xz : Nat) (xd : Nat) (pl : Int32) (ft : Int32) (tw : Int32) (inn : Int32) (bd : Int32) (py : Int32) (ap : Int32) (qd : Int32) (ds : Int32) (fl : Int32) (t4 : Nat) (M : Nat → Nat) (Z : Nat → Nat) (ar : Nat) (tg : Int32) (har : ar ≤ 4) (hZ : Z ar ≤ 60) (hB : ∀ j, M j ≤ 255) : ct_M l D cA yn_Mod_walk cd_Mod_walk 2 0 0 sz [.ref mo, .int (nI ar), .int tg] [(mo, .inr (9, [.ref xm, .ref xs, .ref xt, .ref xk, .ref xp, .ref xr, .ref xc, .ref xu, .ref xe, .ref xb, .ref xa, .ref xl, .ref xg, .int pl, .int ft, .int tw, .int inn, .int bd, .int py, .ref x1, .ref x2, .ref x3, .ref x4, .int ap, .ref xq, .int qd, .ref xz, .ref xd, .int ds, .int fl, .int (nI t4)])), (xm, .inl (cA 0, 300, .inl (nJ M))), (xs, .inl (cA 0, 5, .inl (nJ Z)))] (fun v_ w_ => v_ = some (.int ((Mod_walk_r bd t4 M Z ar tg).1)) ∧ w_ = [(mo, .inr (9, [.ref xm, .ref xs, .ref xt, .ref xk, .ref xp, .ref xr, .ref xc, .ref xu, .ref xe, .ref xb, .ref xa, .ref xl, .ref xg, .int pl, .int ((Mod_walk_r bd t4 M Z ar tg).2.1), .int ((Mod_walk_r bd t4 M Z ar tg).2.2.1), .int ((Mod_walk_r bd t4 M Z ar tg).2.2.2.1), .int ((Mod_walk_r bd t4 M Z ar tg).2.2.2.2.1), .int py, .ref x1, .ref x2, .ref x3, .ref x4, .int ap, .ref xq, .int qd, .ref xz, .ref xd, .int ds, .int fl, .int (nI ((Mod_walk_r bd t4 M Z ar tg).2.2.2.2.2))])), (xm, .inl (cA 0, 300, .inl (nJ M))), (xs, .inl (cA 0, 5, .inl (nJ Z)))]) := by
  refine gw_met (by decide) rfl (Nat.le_of_ble_eq_true rfl) ?_
  intro p_ e_ s_ m_ args_ below_ meth_ c_ A_ S g_r g_k g_n hK hA
  refine gw_eq (ws' := [(mo, .inr (9, [.ref xm, .ref xs, .ref xt, .ref xk, .ref xp, .ref xr, .ref xc, .ref xu, .ref xe, .ref xb, .ref xa, .ref xl, .ref xg, .int pl, .int ft, .int tw, .int inn, .int bd, .int py, .ref x1, .ref x2, .ref x3, .ref x4, .int ap, .ref xq, .int qd, .ref xz, .ref xd, .int ds, .int fl, .int (nI t4)])), (xm, .inl (cA 0, 300, .inl (nJ M))), (xs, .inl (cA 0, 5, .inl (nJ Z)))]) (lv' := [(0, .ref mo), (1, .int (nI ar)), (2, .int tg)]) (st' := []) (pc' := 0) rfl rfl rfl rfl ?_
  refine gw_iconst (v := 0) S dc_Mod_walk_0 (by decide) ?_
  refine gw_istore_n (lv' := [(3, .int 0), (0, .ref mo), (1, .int (nI ar)), (2, .int tg)]) S dc_Mod_walk_1 rfl (by decide) rfl ?_
  refine gw_iconst (v := 0) S dc_Mod_walk_2 (by decide) ?_
  refine gw_istore (lv' := [(4, .int 0), (3, .int 0), (0, .ref mo), (1, .int (nI ar)), (2, .int tg)]) S dc_Mod_walk_3 (by decide) rfl ?_
  refine gw_iconst (v := 0) S dc_Mod_walk_5 (by decide) ?_
  refine gw_istore (lv' := [(5, .int 0), (4, .int 0), (3, .int 0), (0, .ref mo), (1, .int (nI ar)), (2, .int tg)]) S dc_Mod_walk_6 (by decide) rfl ?_
  refine gw_aload_n S dc_Mod_walk_8 rfl 3 rfl ?_
  refine gw_get S hK.1 ic_Mod rfl 1 (by decide) (gw_lk S mw_781) 0 rfl rfl dc_Mod_walk_9 ?_
  refine gw_iload_n S dc_Mod_walk_12 rfl 4 rfl ?_
  refine gw_ialdN (M := Z) (X := ar) S hK.1 2 0 rfl rfl (by omega) (by decide) dc_Mod_walk_13 ?_
  refine gw_istore (lv' := [(6, .int (nI (Z ar))), (5, .int 0), (4, .int 0), (3, .int 0), (0, .ref mo), (1, .int (nI ar)), (2, .int tg)]) S dc_Mod_walk_14 (by decide) rfl ?_
  refine gw_iconst (v := 0) S dc_Mod_walk_16 (by decide) ?_
  refine gw_istore (lv' := [(7, .int 0), (6, .int (nI (Z ar))), (5, .int 0), (4, .int 0), (3, .int 0), (0, .ref mo), (1, .int (nI ar)), (2, .int tg)]) S dc_Mod_walk_17 (by decide) rfl ?_
  refine gw_iconst (v := 0) S dc_Mod_walk_19 (by decide) ?_
  refine gw_istore (lv' := [(8, .int 0), (7, .int 0), (6, .int (nI (Z ar))), (5, .int 0), (4, .int 0), (3, .int 0), (0, .ref mo), (1, .int (nI ar)), (2, .int tg)]) S dc_Mod_walk_20 (by decide) rfl ?_
  refine gw_iconst (v := 0) S dc_Mod_walk_22 (by decide) ?_
  refine gw_istore (lv' := [(9, .int 0), (8, .int 0), (7, .int 0), (6, .int (nI (Z ar))), (5, .int 0), (4, .int 0), (3, .int 0), (0, .ref mo), (1, .int (nI ar)), (2, .int tg)]) S dc_Mod_walk_23 (by decide) rfl ?_
  refine gw_iconst (v := -1) S dc_Mod_walk_25 (by decide) ?_
  refine gw_istore (lv' := [(10, .int (-1)), (9, .int 0), (8, .int 0), (7, .int 0), (6, .int (nI (Z ar))), (5, .int 0), (4, .int 0), (3, .int 0), (0, .ref mo), (1, .int (nI ar)), (2, .int tg)]) S dc_Mod_walk_26 (by decide) rfl ?_
  refine gw_aload_n S dc_Mod_walk_28 rfl 8 rfl ?_
  refine gw_iconst (v := -1) S dc_Mod_walk_29 (by decide) ?_
  refine gw_put (ws' := [(mo, .inr (9, [.ref xm, .ref xs, .ref xt, .ref xk, .ref xp, .ref xr, .ref xc, .ref xu, .ref xe, .ref xb, .ref xa, .ref xl, .ref xg, .int pl, .int (-1), .int tw, .int inn, .int bd, .int py, .ref x1, .ref x2, .ref x3, .ref x4, .int ap, .ref xq, .int qd, .ref xz, .ref xd, .int ds, .int fl, .int (nI t4)])), (xm, .inl (cA 0, 300, .inl (nJ M))), (xs, .inl (cA 0, 5, .inl (nJ Z)))]) (ty := .int) S hK.1 ic_Mod rfl 14 (by decide) ty_Mod to_Mod nm_Mod (gw_lk S mw_794) 0 rfl rfl (by decide +kernel) rfl rfl (Nat.le_of_ble_eq_true rfl) rfl dc_Mod_walk_30 ?_
  refine gw_aload_n S dc_Mod_walk_33 rfl 8 rfl ?_
  refine gw_iconst (v := 0) S dc_Mod_walk_34 (by decide) ?_
  refine gw_put (ws' := [(mo, .inr (9, [.ref xm, .ref xs, .ref xt, .ref xk, .ref xp, .ref xr, .ref xc, .ref xu, .ref xe, .ref xb, .ref xa, .ref xl, .ref xg, .int pl, .int (-1), .int 0, .int inn, .int bd, .int py, .ref x1, .ref x2, .ref x3, .ref x4, .int ap, .ref xq, .int qd, .ref xz, .ref xd, .int ds, .int fl, .int (nI t4)])), (xm, .inl (cA 0, 300, .inl (nJ M))), (xs, .inl (cA 0, 5, .inl (nJ Z)))]) (ty := .int) S hK.1 ic_Mod rfl 15 (by decide) ty_Mod to_Mod nm_Mod (gw_lk S mw_795) 0 rfl rfl (by decide +kernel) rfl rfl (Nat.le_of_ble_eq_true rfl) rfl dc_Mod_walk_35 ?_
  refine gw_aload_n S dc_Mod_walk_38 rfl 8 rfl ?_
  refine gw_iconst (v := 0) S dc_Mod_walk_39 (by decide) ?_
  refine gw_put (ws' := [(mo, .inr (9, [.ref xm, .ref xs, .ref xt, .ref xk, .ref xp, .ref xr, .ref xc, .ref xu, .ref xe, .ref xb, .ref xa, .ref xl, .ref xg, .int pl, .int (-1), .int 0, .int 0, .int bd, .int py, .ref x1, .ref x2, .ref x3, .ref x4, .int ap, .ref xq, .int qd, .ref xz, .ref xd, .int ds, .int fl, .int (nI t4)])), (xm, .inl (cA 0, 300, .inl (nJ M))), (xs, .inl (cA 0, 5, .inl (nJ Z)))]) (ty := .int) S hK.1 ic_Mod rfl 16 (by decide) ty_Mod to_Mod nm_Mod (gw_lk S mw_796) 0 rfl rfl (by decide +kernel) rfl rfl (Nat.le_of_ble_eq_true rfl) rfl dc_Mod_walk_40 ?_
  refine gw_iconst (v := 0) S dc_Mod_walk_43 (by decide) ?_
  refine gw_istore (lv' := [(11, .int 0), (10, .int (-1)), (9, .int 0), (8, .int 0), (7, .int 0), (6, .int (nI (Z ar))), (5, .int 0), (4, .int 0), (3, .int 0), (0, .ref mo), (1, .int (nI ar)), (2, .int tg)]) S dc_Mod_walk_44 (by decide) rfl ?_
  refine gw_drop [9, 10, 11, 8, 7, 6, 5, 4, 3, 2, 1, 0] (lv' := [(0, .ref mo), (1, .int (nI ar)), (2, .int tg), (3, .int 0), (4, .int 0), (5, .int 0), (6, .int (nI (Z ar))), (7, .int 0), (8, .int 0), (9, .int 0), (10, .int (-1)), (11, .int 0)]) rfl ?_
  refine gw_loop (σ := Nat × Nat × Nat × Nat × Nat × Nat × Nat × Nat × Nat × Int32 × Int32 × Int32 × Int32 × Int32) (fun (x_ : Nat × Nat × Nat × Nat × Nat × Nat × Nat × Nat × Nat × Int32 × Int32 × Int32 × Int32 × Int32) => match x_ with | (k9, n, p, dep, e1, e2, e3, u4, gd, fd, ft9, tw9, in9, bd9) => (400 - gd < k9) ∧ (Mod_walk_r bd t4 M Z ar tg = Mod_walk_f bd t4 M Z ar tg k9 (n, p, dep, e1, e2, e3, u4, gd, fd, ft9, tw9, in9, bd9)) ∧ (wk_I dep p (Z ar) e1 e2 e3 u4) ∧ (gd ≤ 400)) (fun (x_ : Nat × Nat × Nat × Nat × Nat × Nat × Nat × Nat × Nat × Int32 × Int32 × Int32 × Int32 × Int32) => match x_ with | (k9, n, p, dep, e1, e2, e3, u4, gd, fd, ft9, tw9, in9, bd9) => 400 - gd) (fun (x_ : Nat × Nat × Nat × Nat × Nat × Nat × Nat × Nat × Nat × Int32 × Int32 × Int32 × Int32 × Int32) => match x_ with | (k9, n, p, dep, e1, e2, e3, u4, gd, fd, ft9, tw9, in9, bd9) => [(mo, .inr (9, [.ref xm, .ref xs, .ref xt, .ref xk, .ref xp, .ref xr, .ref xc, .ref xu, .ref xe, .ref xb, .ref xa, .ref xl, .ref xg, .int pl, .int ft9, .int tw9, .int in9, .int bd9, .int py, .ref x1, .ref x2, .ref x3, .ref x4, .int ap, .ref xq, .int qd, .ref xz, .ref xd, .int ds, .int fl, .int (nI u4)])), (xm, .inl (cA 0, 300, .inl (nJ M))), (xs, .inl (cA 0, 5, .inl (nJ Z)))]) (fun (x_ : Nat × Nat × Nat × Nat × Nat × Nat × Nat × Nat × Nat × Int32 × Int32 × Int32 × Int32 × Int32) => match x_ with | (k9, n, p, dep, e1, e2, e3, u4, gd, fd, ft9, tw9, in9, bd9) => [(0, .ref mo), (1, .int (nI ar)), (2, .int tg), (3, .int (nI n)), (4, .int (nI p)), (5, .int (nI dep)), (6, .int (nI (Z ar))), (7, .int (nI e1)), (8, .int (nI e2)), (9, .int (nI e3)), (10, .int fd), (11, .int (nI gd))]) ?_ ((400 - 0) + 1, 0, 0, 0, 0, 0, 0, t4, 0, -1, -1, 0, 0, bd) ?_ rfl rfl
  rotate_left
  · exact ⟨Nat.lt_succ_self _, (by simp only [Mod_walk_r]), ⟨by omega, hZ, fun z => by omega, fun z => by omega, fun z => by omega, fun z => by omega, Nat.zero_le _⟩, by omega⟩
  rintro ⟨k9, n, p, dep, e1, e2, e3, u4, gd, fd, ft9, tw9, in9, bd9⟩ ⟨hk9, hm9, hI9, hg9⟩ ih_1
  obtain ⟨q9, rfl⟩ : ∃ q, k9 = q + 1 := ⟨k9 - 1, by omega⟩
  refine gw_eq (ws' := [(mo, .inr (9, [.ref xm, .ref xs, .ref xt, .ref xk, .ref xp, .ref xr, .ref xc, .ref xu, .ref xe, .ref xb, .ref xa, .ref xl, .ref xg, .int pl, .int ft9, .int tw9, .int in9, .int bd9, .int py, .ref x1, .ref x2, .ref x3, .ref x4, .int ap, .ref xq, .int qd, .ref xz, .ref xd, .int ds, .int fl, .int (nI u4)])), (xm, .inl (cA 0, 300, .inl (nJ M))), (xs, .inl (cA 0, 5, .inl (nJ Z)))]) (lv' := [(0, .ref mo), (1, .int (nI ar)), (2, .int tg), (3, .int (nI n)), (4, .int (nI p)), (5, .int (nI dep)), (6, .int (nI (Z ar))), (7, .int (nI e1)), (8, .int (nI e2)), (9, .int (nI e3)), (10, .int fd), (11, .int (nI gd))]) (st' := []) (pc' := 46) rfl rfl rfl rfl ?_
  refine gw_iload S dc_Mod_walk_46 11 rfl ?_
  refine gw_sipush (v := 400) S dc_Mod_walk_48 (by decide) ?_
  refine gw_icmp_ge (tgt := 440) S dc_Mod_walk_51 (by decide) (fun c_2 => ?_) (fun c_2 => ?_)
  · -- taken
    refine gw_iconst (v := -1) S dc_Mod_walk_440 (by decide) ?_
    have r9 : Mod_walk_r bd t4 M Z ar tg = (-1, ft9, tw9, in9, bd9, u4) := (hm9.trans (Mod_walk_d (by simp only [Mod_walk_s, if_pos c_2, if_true, if_false])))
    exact gw_iret (w := [(mo, .inr (9, [.ref xm, .ref xs, .ref xt, .ref xk, .ref xp, .ref xr, .ref xc, .ref xu, .ref xe, .ref xb, .ref xa, .ref xl, .ref xg, .int pl, .int ft9, .int tw9, .int in9, .int bd9, .int py, .ref x1, .ref x2, .ref x3, .ref x4, .int ap, .ref xq, .int qd, .ref xz, .ref xd, .int ds, .int fl, .int (nI u4)])), (xm, .inl (cA 0, 300, .inl (nJ M))), (xs, .inl (cA 0, 5, .inl (nJ Z)))]) S g_r g_k  [0, 1, 2] rfl (by decide) ⟨by first | rw [r9] | rfl, by first | rw [r9] | rfl⟩ dc_Mod_walk_441
  · -- not
    have hg8 : gd < 400 := lp_lt (k := 400) (n := 400) rfl (by omega) c_2
    refine gw_jw (ws2 := [(mo, .inr (9, [.ref xm, .ref xs, .ref xt, .ref xk, .ref xp, .ref xr, .ref xc, .ref xu, .ref xe, .ref xb, .ref xa, .ref xl, .ref xg, .int pl, .int ft9, .int tw9, .int in9, .int bd9, .int py, .ref x1, .ref x2, .ref x3, .ref x4, .int ap, .ref xq, .int qd, .ref xz, .ref xd, .int ds, .int fl, .int (nI u4)])), (xm, .inl (cA 0, 300, .inl (nJ M))), (xs, .inl (cA 0, 5, .inl (nJ Z)))]) (lv2 := [(0, .ref mo), (1, .int (nI ar)), (2, .int tg), (3, .int (nI n)), (4, .int (nI p)), (5, .int (nI dep)), (6, .int (nI (Z ar))), (7, .int (nI e1)), (8, .int (nI e2)), (9, .int (nI e3)), (10, .int fd), (11, .int (nI gd))]) (st2 := [.int (nI (if (nI dep) = 0 then (Z ar) else (if (nI dep) = 1 then e1 else (if (nI dep) = 2 then e2 else (if (nI dep) = 3 then e3 else (u4))))))]) (pc2 := 101) ?_ (fun kJ_3 => ?_)
    rotate_left
    · -- join at 101
      refine gw_iload S dc_Mod_walk_54 5 rfl ?_
      refine gw_if_ne (tgt := 64) S dc_Mod_walk_56 (by decide) (fun c_4 => ?_) (fun c_4 => ?_)
      · -- taken
        refine gw_iload S dc_Mod_walk_64 5 rfl ?_
        refine gw_iconst (v := 1) S dc_Mod_walk_66 (by decide) ?_
        refine gw_icmp_ne (tgt := 75) S dc_Mod_walk_67 (by decide) (fun c_5 => ?_) (fun c_5 => ?_)
        · -- taken
          refine gw_iload S dc_Mod_walk_75 5 rfl ?_
          refine gw_iconst (v := 2) S dc_Mod_walk_77 (by decide) ?_
          refine gw_icmp_ne (tgt := 86) S dc_Mod_walk_78 (by decide) (fun c_6 => ?_) (fun c_6 => ?_)
          · -- taken
            refine gw_iload S dc_Mod_walk_86 5 rfl ?_
            refine gw_iconst (v := 3) S dc_Mod_walk_88 (by decide) ?_
            refine gw_icmp_ne (tgt := 97) S dc_Mod_walk_89 (by decide) (fun c_7 => ?_) (fun c_7 => ?_)
            · -- taken
              refine gw_aload_n S dc_Mod_walk_97 rfl 0 rfl ?_
              refine gw_get S hK.1 ic_Mod rfl 30 (by decide) (gw_lk S mw_810) 0 rfl rfl dc_Mod_walk_98 ?_
              exact kJ_3 _ _ _ (by simp only [if_neg c_4, if_neg c_5, if_neg c_6, if_neg c_7]) (by simp only [if_neg c_4, if_neg c_5, if_neg c_6, if_neg c_7]) (by simp only [if_neg c_4, if_neg c_5, if_neg c_6, if_neg c_7])
            · -- not
              refine gw_iload S dc_Mod_walk_92 9 rfl ?_
              refine gw_goto (tgt := 101) S dc_Mod_walk_94 (by decide) ?_
              exact kJ_3 _ _ _ (by simp only [if_neg c_4, if_neg c_5, if_neg c_6, if_pos c_7]) (by simp only [if_neg c_4, if_neg c_5, if_neg c_6, if_pos c_7]) (by simp only [if_neg c_4, if_neg c_5, if_neg c_6, if_pos c_7])
          · -- not
            refine gw_iload S dc_Mod_walk_81 8 rfl ?_
            refine gw_goto (tgt := 101) S dc_Mod_walk_83 (by decide) ?_
            exact kJ_3 _ _ _ (by simp only [if_neg c_4, if_neg c_5, if_pos c_6]) (by simp only [if_neg c_4, if_neg c_5, if_pos c_6]) (by simp only [if_neg c_4, if_neg c_5, if_pos c_6])
        · -- not
          refine gw_iload S dc_Mod_walk_70 7 rfl ?_
          refine gw_goto (tgt := 101) S dc_Mod_walk_72 (by decide) ?_
          exact kJ_3 _ _ _ (by simp only [if_neg c_4, if_pos c_5]) (by simp only [if_neg c_4, if_pos c_5]) (by simp only [if_neg c_4, if_pos c_5])
      · -- not
        refine gw_iload S dc_Mod_walk_59 6 rfl ?_
        refine gw_goto (tgt := 101) S dc_Mod_walk_61 (by decide) ?_
        exact kJ_3 _ _ _ (by simp only [if_pos c_4]) (by simp only [if_pos c_4]) (by simp only [if_pos c_4])
    obtain ⟨en, hen⟩ : ∃ x : Nat, x = (wk_E dep (Z ar) e1 e2 e3 u4) := ⟨_, rfl⟩
    refine gw_eq (ws' := [(mo, .inr (9, [.ref xm, .ref xs, .ref xt, .ref xk, .ref xp, .ref xr, .ref xc, .ref xu, .ref xe, .ref xb, .ref xa, .ref xl, .ref xg, .int pl, .int ft9, .int tw9, .int in9, .int bd9, .int py, .ref x1, .ref x2, .ref x3, .ref x4, .int ap, .ref xq, .int qd, .ref xz, .ref xd, .int ds, .int fl, .int (nI u4)])), (xm, .inl (cA 0, 300, .inl (nJ M))), (xs, .inl (cA 0, 5, .inl (nJ Z)))]) (lv' := [(0, .ref mo), (1, .int (nI ar)), (2, .int tg), (3, .int (nI n)), (4, .int (nI p)), (5, .int (nI dep)), (6, .int (nI (Z ar))), (7, .int (nI e1)), (8, .int (nI e2)), (9, .int (nI e3)), (10, .int fd), (11, .int (nI gd))]) (st' := [.int (nI en)]) rfl rfl (by rw [hen]; rfl) rfl ?_
    have hE9 : wk_E dep (Z ar) e1 e2 e3 u4 = en := hen.symm
    have h60 : en ≤ 60 := by rw [← hE9]; exact wk_60 hI9
    have hpe : p ≤ en := by rw [← hE9]; exact hI9.2.2.2.2.2.2
    refine gw_istore (lv' := [(12, .int (nI en)), (0, .ref mo), (1, .int (nI ar)), (2, .int tg), (3, .int (nI n)), (4, .int (nI p)), (5, .int (nI dep)), (6, .int (nI (Z ar))), (7, .int (nI e1)), (8, .int (nI e2)), (9, .int (nI e3)), (10, .int fd), (11, .int (nI gd))]) S dc_Mod_walk_101 (by decide) rfl ?_
    refine gw_iload S dc_Mod_walk_103 5 rfl ?_
    refine gw_iload S dc_Mod_walk_105 0 rfl ?_
    refine gw_icmp_ne (tgt := 123) S dc_Mod_walk_107 (by decide) (fun c_8 => ?_) (fun c_8 => ?_)
    · -- taken
      refine gw_aload_n S dc_Mod_walk_123 rfl 1 rfl ?_
      refine gw_iload S dc_Mod_walk_124 5 rfl ?_
      refine gw_put (ws' := [(mo, .inr (9, [.ref xm, .ref xs, .ref xt, .ref xk, .ref xp, .ref xr, .ref xc, .ref xu, .ref xe, .ref xb, .ref xa, .ref xl, .ref xg, .int pl, .int ft9, .int tw9, .int in9, .int (nI p), .int py, .ref x1, .ref x2, .ref x3, .ref x4, .int ap, .ref xq, .int qd, .ref xz, .ref xd, .int ds, .int fl, .int (nI u4)])), (xm, .inl (cA 0, 300, .inl (nJ M))), (xs, .inl (cA 0, 5, .inl (nJ Z)))]) (ty := .int) S hK.1 ic_Mod rfl 17 (by decide) ty_Mod to_Mod nm_Mod (gw_lk S mw_797) 0 rfl rfl (by decide +kernel) rfl rfl (Nat.le_of_ble_eq_true rfl) rfl dc_Mod_walk_126 ?_
      refine gw_iload S dc_Mod_walk_129 6 rfl ?_
      refine gw_iconst (v := 3) S dc_Mod_walk_131 (by decide) ?_
      refine gw_icmp_le (tgt := 137) S dc_Mod_walk_132 (by decide) (fun c_9 => ?_) (fun c_9 => ?_)
      · -- taken
        have hpl : p < en := Nat.lt_of_le_of_ne hpe (fun q => c_8 (by rw [q]))
        have hd9 : dep ≤ 3 := (nI_leI (b := 3) (by have := hI9.1; omega) (by decide)).mp c_9
        have hb0 := hB (60 * ar + p)
        refine gw_aload_n S dc_Mod_walk_137 rfl 1 rfl ?_
        refine gw_iload_n S dc_Mod_walk_138 rfl 2 rfl ?_
        refine gw_iload S dc_Mod_walk_139 5 rfl ?_
        refine gw_callVR (As := [.int (nI ar), .int (nI p)]) (st := []) S hK (c_Mod_at l D cA mo xm xs xt xk xp xr xc xu xe xb xa xl xg x1 x2 x3 x4 xq xz xd pl ft9 tw9 in9 (nI p) py ap qd ds fl u4 M ar p (by omega)) (cw_Mod_90 S.2.2.2.2 rfl rfl ⟨Nat.le_of_ble_eq_true rfl, Nat.le_of_ble_eq_true rfl⟩) [0, 1] rfl (by decide) 0 rfl rfl rfl rfl rfl (Nat.le_of_ble_eq_true rfl) dc_Mod_walk_141 ⟨Nat.le_of_ble_eq_true rfl, Nat.le_of_ble_eq_true rfl⟩ ?_
        rintro _ rfl
        refine gw_eq (ws' := [(mo, .inr (9, [.ref xm, .ref xs, .ref xt, .ref xk, .ref xp, .ref xr, .ref xc, .ref xu, .ref xe, .ref xb, .ref xa, .ref xl, .ref xg, .int pl, .int ft9, .int tw9, .int in9, .int (nI p), .int py, .ref x1, .ref x2, .ref x3, .ref x4, .int ap, .ref xq, .int qd, .ref xz, .ref xd, .int ds, .int fl, .int (nI u4)])), (xm, .inl (cA 0, 300, .inl (nJ M))), (xs, .inl (cA 0, 5, .inl (nJ Z)))]) (lv' := [(12, .int (nI en)), (0, .ref mo), (1, .int (nI ar)), (2, .int tg), (3, .int (nI n)), (4, .int (nI p)), (5, .int (nI dep)), (6, .int (nI (Z ar))), (7, .int (nI e1)), (8, .int (nI e2)), (9, .int (nI e3)), (10, .int fd), (11, .int (nI gd))]) (st' := [.int (nI (bt M ar p))]) (pc' := 144) rfl rfl rfl rfl ?_
        refine gw_istore (lv' := [(13, .int (nI (bt M ar p))), (12, .int (nI en)), (0, .ref mo), (1, .int (nI ar)), (2, .int tg), (3, .int (nI n)), (4, .int (nI p)), (5, .int (nI dep)), (6, .int (nI (Z ar))), (7, .int (nI e1)), (8, .int (nI e2)), (9, .int (nI e3)), (10, .int fd), (11, .int (nI gd))]) S dc_Mod_walk_144 (by decide) rfl ?_
        refine gw_iload S dc_Mod_walk_146 0 rfl ?_
        refine gw_istore (lv' := [(14, .int (nI (bt M ar p))), (13, .int (nI (bt M ar p))), (12, .int (nI en)), (0, .ref mo), (1, .int (nI ar)), (2, .int tg), (3, .int (nI n)), (4, .int (nI p)), (5, .int (nI dep)), (6, .int (nI (Z ar))), (7, .int (nI e1)), (8, .int (nI e2)), (9, .int (nI e3)), (10, .int fd), (11, .int (nI gd))]) S dc_Mod_walk_148 (by decide) rfl ?_
        refine gw_iload S dc_Mod_walk_150 7 rfl ?_
        refine gw_iconst (v := 1) S dc_Mod_walk_152 (by decide) ?_
        refine gw_iaddN (a := p) (b := 1) S dc_Mod_walk_153 ?_
        refine gw_istore (lv' := [(15, .int (nI (p + 1))), (14, .int (nI (bt M ar p))), (13, .int (nI (bt M ar p))), (12, .int (nI en)), (0, .ref mo), (1, .int (nI ar)), (2, .int tg), (3, .int (nI n)), (4, .int (nI p)), (5, .int (nI dep)), (6, .int (nI (Z ar))), (7, .int (nI e1)), (8, .int (nI e2)), (9, .int (nI e3)), (10, .int fd), (11, .int (nI gd))]) S dc_Mod_walk_154 (by decide) rfl ?_
        refine gw_iload S dc_Mod_walk_156 2 rfl ?_
        refine gw_bipush (v := 31) S dc_Mod_walk_158 (by decide) ?_
        refine gw_iand S dc_Mod_walk_160 ?_
        refine gw_bipush (v := 31) S dc_Mod_walk_161 (by decide) ?_
        refine gw_jwP (P := ¬ (if ((nI (bt M ar p)) &&& 31) = 31 then (if (nI en) ≤ (nI (p + 1)) then True else (if (nI (bt M ar (p + 1))) ≤ 127 then False else (True))) else (False) : Prop)) (ws2 := [(mo, .inr (9, [.ref xm, .ref xs, .ref xt, .ref xk, .ref xp, .ref xr, .ref xc, .ref xu, .ref xe, .ref xb, .ref xa, .ref xl, .ref xg, .int pl, .int ft9, .int tw9, .int in9, .int (nI p), .int py, .ref x1, .ref x2, .ref x3, .ref x4, .int ap, .ref xq, .int qd, .ref xz, .ref xd, .int ds, .int fl, .int (nI u4)])), (xm, .inl (cA 0, 300, .inl (nJ M))), (xs, .inl (cA 0, 5, .inl (nJ Z)))]) (lv2 := [(0, .ref mo), (1, .int (nI ar)), (2, .int tg), (3, .int (nI n)), (4, .int (nI p)), (5, .int (nI dep)), (6, .int (nI (Z ar))), (7, .int (nI e1)), (8, .int (nI e2)), (9, .int (nI e3)), (10, .int fd), (11, .int (nI gd)), (12, .int (nI en)), (13, .int (nI (bt M ar p))), (14, .int (nI (if ((nI (bt M ar p)) &&& 31) = 31 then ((256 * (bt M ar p)) + (bt M ar (p + 1))) else (bt M ar p)))), (15, .int (nI (if ((nI (bt M ar p)) &&& 31) = 31 then ((p + 1) + 1) else (p + 1))))]) (st2 := []) (pc2 := 206) ?_ (fun kJ_11 => ?_)
        rotate_left
        · -- join at 206
          refine gw_icmp_ne (tgt := 206) S dc_Mod_walk_163 (by decide) (fun c_12 => ?_) (fun c_12 => ?_)
          · -- taken
            refine gw_drop [4, 5, 6, 7, 8, 9, 10, 11, 12, 13, 14, 15, 3, 2, 1, 0] (lv' := [(0, .ref mo), (1, .int (nI ar)), (2, .int tg), (3, .int (nI n)), (4, .int (nI p)), (5, .int (nI dep)), (6, .int (nI (Z ar))), (7, .int (nI e1)), (8, .int (nI e2)), (9, .int (nI e3)), (10, .int fd), (11, .int (nI gd)), (12, .int (nI en)), (13, .int (nI (bt M ar p))), (14, .int (nI (bt M ar p))), (15, .int (nI (p + 1)))]) rfl ?_
            exact kJ_11 _ _ _ (by simp only [if_neg c_12, not_false_eq_true]) (by simp only [if_neg c_12]) (by simp only [if_neg c_12]) (by simp only [if_neg c_12])
          · -- not
            refine gw_iload S dc_Mod_walk_166 0 rfl ?_
            refine gw_iload S dc_Mod_walk_168 3 rfl ?_
            refine gw_icmp_ge (tgt := 185) S dc_Mod_walk_170 (by decide) (fun c_13 => ?_) (fun c_13 => ?_)
            · -- taken
              refine gw_iconst (v := -1) S dc_Mod_walk_185 (by decide) ?_
              have r9 : Mod_walk_r bd t4 M Z ar tg = (-1, ft9, tw9, in9, nI p, u4) := (hm9.trans (Mod_walk_d (by simp only [Mod_walk_s, ← hen, if_neg c_2, if_neg c_8, if_pos c_9, if_pos c_12, if_pos c_13, if_true, if_false])))
              exact gw_iret (w := [(mo, .inr (9, [.ref xm, .ref xs, .ref xt, .ref xk, .ref xp, .ref xr, .ref xc, .ref xu, .ref xe, .ref xb, .ref xa, .ref xl, .ref xg, .int pl, .int ft9, .int tw9, .int in9, .int (nI p), .int py, .ref x1, .ref x2, .ref x3, .ref x4, .int ap, .ref xq, .int qd, .ref xz, .ref xd, .int ds, .int fl, .int (nI u4)])), (xm, .inl (cA 0, 300, .inl (nJ M))), (xs, .inl (cA 0, 5, .inl (nJ Z)))]) S g_r g_k  [0, 1, 2] rfl (by decide) ⟨by first | rw [r9] | rfl, by first | rw [r9] | rfl⟩ dc_Mod_walk_186
            · -- not
              have hp1 : p + 1 < en := lp_lt rfl (by omega) c_13
              refine gw_aload_n S dc_Mod_walk_173 rfl 4 rfl ?_
              refine gw_iload_n S dc_Mod_walk_174 rfl 5 rfl ?_
              refine gw_iload S dc_Mod_walk_175 0 rfl ?_
              refine gw_callVR (As := [.int (nI ar), .int (nI (p + 1))]) (st := []) S hK (c_Mod_at l D cA mo xm xs xt xk xp xr xc xu xe xb xa xl xg x1 x2 x3 x4 xq xz xd pl ft9 tw9 in9 (nI p) py ap qd ds fl u4 M ar (p + 1) (by omega)) (cw_Mod_90 S.2.2.2.2 rfl rfl ⟨Nat.le_of_ble_eq_true rfl, Nat.le_of_ble_eq_true rfl⟩) [0, 1] rfl (by decide) 0 rfl rfl rfl rfl rfl (Nat.le_of_ble_eq_true rfl) dc_Mod_walk_177 ⟨Nat.le_of_ble_eq_true rfl, Nat.le_of_ble_eq_true rfl⟩ ?_
              rintro _ rfl
              refine gw_eq (ws' := [(mo, .inr (9, [.ref xm, .ref xs, .ref xt, .ref xk, .ref xp, .ref xr, .ref xc, .ref xu, .ref xe, .ref xb, .ref xa, .ref xl, .ref xg, .int pl, .int ft9, .int tw9, .int in9, .int (nI p), .int py, .ref x1, .ref x2, .ref x3, .ref x4, .int ap, .ref xq, .int qd, .ref xz, .ref xd, .int ds, .int fl, .int (nI u4)])), (xm, .inl (cA 0, 300, .inl (nJ M))), (xs, .inl (cA 0, 5, .inl (nJ Z)))]) (lv' := [(15, .int (nI (p + 1))), (14, .int (nI (bt M ar p))), (13, .int (nI (bt M ar p))), (12, .int (nI en)), (0, .ref mo), (1, .int (nI ar)), (2, .int tg), (3, .int (nI n)), (4, .int (nI p)), (5, .int (nI dep)), (6, .int (nI (Z ar))), (7, .int (nI e1)), (8, .int (nI e2)), (9, .int (nI e3)), (10, .int fd), (11, .int (nI gd))]) (st' := [.int (nI (bt M ar (p + 1)))]) (pc' := 180) rfl rfl rfl rfl ?_
              refine gw_bipush (v := 127) S dc_Mod_walk_180 (by decide) ?_
              refine gw_icmp_le (tgt := 187) S dc_Mod_walk_182 (by decide) (fun c_15 => ?_) (fun c_15 => ?_)
              · -- taken
                have hp1 : p + 1 < en := lp_lt rfl (by omega) c_13
                refine gw_sipush (v := 256) S dc_Mod_walk_187 (by decide) ?_
                refine gw_iload S dc_Mod_walk_190 2 rfl ?_
                refine gw_imulN (a := 256) (b := bt M ar p) S dc_Mod_walk_192 ?_
                refine gw_aload_n S dc_Mod_walk_193 rfl 4 rfl ?_
                refine gw_iload_n S dc_Mod_walk_194 rfl 5 rfl ?_
                refine gw_iload S dc_Mod_walk_195 0 rfl ?_
                refine gw_callVR (As := [.int (nI ar), .int (nI (p + 1))]) (st := [.int (nI (256 * (bt M ar p)))]) S hK (c_Mod_at l D cA mo xm xs xt xk xp xr xc xu xe xb xa xl xg x1 x2 x3 x4 xq xz xd pl ft9 tw9 in9 (nI p) py ap qd ds fl u4 M ar (p + 1) (by omega)) (cw_Mod_90 S.2.2.2.2 rfl rfl ⟨Nat.le_of_ble_eq_true rfl, Nat.le_of_ble_eq_true rfl⟩) [0, 1] rfl (by decide) 0 rfl rfl rfl rfl rfl (Nat.le_of_ble_eq_true rfl) dc_Mod_walk_197 ⟨Nat.le_of_ble_eq_true rfl, Nat.le_of_ble_eq_true rfl⟩ ?_
                rintro _ rfl
                refine gw_eq (ws' := [(mo, .inr (9, [.ref xm, .ref xs, .ref xt, .ref xk, .ref xp, .ref xr, .ref xc, .ref xu, .ref xe, .ref xb, .ref xa, .ref xl, .ref xg, .int pl, .int ft9, .int tw9, .int in9, .int (nI p), .int py, .ref x1, .ref x2, .ref x3, .ref x4, .int ap, .ref xq, .int qd, .ref xz, .ref xd, .int ds, .int fl, .int (nI u4)])), (xm, .inl (cA 0, 300, .inl (nJ M))), (xs, .inl (cA 0, 5, .inl (nJ Z)))]) (lv' := [(15, .int (nI (p + 1))), (14, .int (nI (bt M ar p))), (13, .int (nI (bt M ar p))), (12, .int (nI en)), (0, .ref mo), (1, .int (nI ar)), (2, .int tg), (3, .int (nI n)), (4, .int (nI p)), (5, .int (nI dep)), (6, .int (nI (Z ar))), (7, .int (nI e1)), (8, .int (nI e2)), (9, .int (nI e3)), (10, .int fd), (11, .int (nI gd))]) (st' := [.int (nI (bt M ar (p + 1))), .int (nI (256 * (bt M ar p)))]) (pc' := 200) rfl rfl rfl rfl ?_
                refine gw_iaddN (a := 256 * (bt M ar p)) (b := bt M ar (p + 1)) S dc_Mod_walk_200 ?_
                refine gw_istore (lv' := [(14, .int (nI ((256 * (bt M ar p)) + (bt M ar (p + 1))))), (15, .int (nI (p + 1))), (13, .int (nI (bt M ar p))), (12, .int (nI en)), (0, .ref mo), (1, .int (nI ar)), (2, .int tg), (3, .int (nI n)), (4, .int (nI p)), (5, .int (nI dep)), (6, .int (nI (Z ar))), (7, .int (nI e1)), (8, .int (nI e2)), (9, .int (nI e3)), (10, .int fd), (11, .int (nI gd))]) S dc_Mod_walk_201 (by decide) rfl ?_
                refine gw_iinc (v := nI ((p + 1) + 1)) (lv' := [(15, .int (nI ((p + 1) + 1))), (14, .int (nI ((256 * (bt M ar p)) + (bt M ar (p + 1))))), (13, .int (nI (bt M ar p))), (12, .int (nI en)), (0, .ref mo), (1, .int (nI ar)), (2, .int tg), (3, .int (nI n)), (4, .int (nI p)), (5, .int (nI dep)), (6, .int (nI (Z ar))), (7, .int (nI e1)), (8, .int (nI e2)), (9, .int (nI e3)), (10, .int fd), (11, .int (nI gd))]) S dc_Mod_walk_203 1 rfl (nI_add _ 1) (by decide) rfl ?_
                refine gw_drop [4, 5, 6, 7, 8, 9, 10, 11, 12, 13, 14, 15, 3, 2, 1, 0] (lv' := [(0, .ref mo), (1, .int (nI ar)), (2, .int tg), (3, .int (nI n)), (4, .int (nI p)), (5, .int (nI dep)), (6, .int (nI (Z ar))), (7, .int (nI e1)), (8, .int (nI e2)), (9, .int (nI e3)), (10, .int fd), (11, .int (nI gd)), (12, .int (nI en)), (13, .int (nI (bt M ar p))), (14, .int (nI ((256 * (bt M ar p)) + (bt M ar (p + 1))))), (15, .int (nI ((p + 1) + 1)))]) rfl ?_
                exact kJ_11 _ _ _ (by simp only [if_pos c_12, if_neg c_13, if_pos c_15, not_false_eq_true]) (by simp only [if_pos c_12, if_neg c_13, if_pos c_15]) (by simp only [if_pos c_12, if_neg c_13, if_pos c_15]) (by simp only [if_pos c_12, if_neg c_13, if_pos c_15])
              · -- not
                refine gw_iconst (v := -1) S dc_Mod_walk_185 (by decide) ?_
                have r9 : Mod_walk_r bd t4 M Z ar tg = (-1, ft9, tw9, in9, nI p, u4) := (hm9.trans (Mod_walk_d (by simp only [Mod_walk_s, ← hen, if_neg c_2, if_neg c_8, if_pos c_9, if_pos c_12, if_neg c_13, if_neg c_15, if_true, if_false])))
                exact gw_iret (w := [(mo, .inr (9, [.ref xm, .ref xs, .ref xt, .ref xk, .ref xp, .ref xr, .ref xc, .ref xu, .ref xe, .ref xb, .ref xa, .ref xl, .ref xg, .int pl, .int ft9, .int tw9, .int in9, .int (nI p), .int py, .ref x1, .ref x2, .ref x3, .ref x4, .int ap, .ref xq, .int qd, .ref xz, .ref xd, .int ds, .int fl, .int (nI u4)])), (xm, .inl (cA 0, 300, .inl (nJ M))), (xs, .inl (cA 0, 5, .inl (nJ Z)))]) S g_r g_k  [0, 1, 2] rfl (by decide) ⟨by first | rw [r9] | rfl, by first | rw [r9] | rfl⟩ dc_Mod_walk_186
        intro hb_17
        obtain ⟨t1, ht1⟩ : ∃ x : Nat, x = (wk_t1 M ar p) := ⟨_, rfl⟩
        refine gw_eq (ws' := [(mo, .inr (9, [.ref xm, .ref xs, .ref xt, .ref xk, .ref xp, .ref xr, .ref xc, .ref xu, .ref xe, .ref xb, .ref xa, .ref xl, .ref xg, .int pl, .int ft9, .int tw9, .int in9, .int (nI p), .int py, .ref x1, .ref x2, .ref x3, .ref x4, .int ap, .ref xq, .int qd, .ref xz, .ref xd, .int ds, .int fl, .int (nI u4)])), (xm, .inl (cA 0, 300, .inl (nJ M))), (xs, .inl (cA 0, 5, .inl (nJ Z)))]) (lv' := [(0, .ref mo), (1, .int (nI ar)), (2, .int tg), (3, .int (nI n)), (4, .int (nI p)), (5, .int (nI dep)), (6, .int (nI (Z ar))), (7, .int (nI e1)), (8, .int (nI e2)), (9, .int (nI e3)), (10, .int fd), (11, .int (nI gd)), (12, .int (nI en)), (13, .int (nI (bt M ar p))), (14, .int (nI t1)), (15, .int (nI (if ((nI (bt M ar p)) &&& 31) = 31 then ((p + 1) + 1) else (p + 1))))]) (st' := []) rfl (by rw [ht1]; rfl) rfl rfl ?_
        obtain ⟨q1, hq1⟩ : ∃ x : Nat, x = (wk_q1 M ar p) := ⟨_, rfl⟩
        refine gw_eq (ws' := [(mo, .inr (9, [.ref xm, .ref xs, .ref xt, .ref xk, .ref xp, .ref xr, .ref xc, .ref xu, .ref xe, .ref xb, .ref xa, .ref xl, .ref xg, .int pl, .int ft9, .int tw9, .int in9, .int (nI p), .int py, .ref x1, .ref x2, .ref x3, .ref x4, .int ap, .ref xq, .int qd, .ref xz, .ref xd, .int ds, .int fl, .int (nI u4)])), (xm, .inl (cA 0, 300, .inl (nJ M))), (xs, .inl (cA 0, 5, .inl (nJ Z)))]) (lv' := [(0, .ref mo), (1, .int (nI ar)), (2, .int tg), (3, .int (nI n)), (4, .int (nI p)), (5, .int (nI dep)), (6, .int (nI (Z ar))), (7, .int (nI e1)), (8, .int (nI e2)), (9, .int (nI e3)), (10, .int fd), (11, .int (nI gd)), (12, .int (nI en)), (13, .int (nI (bt M ar p))), (14, .int (nI t1)), (15, .int (nI q1))]) (st' := []) rfl (by rw [hq1]; rfl) rfl rfl ?_
        have hq1b : p < q1 ∧ q1 ≤ p + 2 := by (rw [hq1]; unfold wk_q1; split <;> omega)
        refine gw_iload S dc_Mod_walk_206 15 rfl ?_
        refine gw_iload S dc_Mod_walk_208 12 rfl ?_
        refine gw_icmp_lt (tgt := 215) S dc_Mod_walk_210 (by decide) (fun c_18 => ?_) (fun c_18 => ?_)
        · -- taken
          have hq1e : q1 < en := (nI_ltI (by omega) (by omega)).mp c_18
          have hb1 := hB (60 * ar + q1)
          refine gw_aload_n S dc_Mod_walk_215 rfl 0 rfl ?_
          refine gw_iload_n S dc_Mod_walk_216 rfl 1 rfl ?_
          refine gw_iload S dc_Mod_walk_217 15 rfl ?_
          refine gw_callVR (As := [.int (nI ar), .int (nI q1)]) (st := []) S hK (c_Mod_at l D cA mo xm xs xt xk xp xr xc xu xe xb xa xl xg x1 x2 x3 x4 xq xz xd pl ft9 tw9 in9 (nI p) py ap qd ds fl u4 M ar q1 (by omega)) (cw_Mod_90 S.2.2.2.2 rfl rfl ⟨Nat.le_of_ble_eq_true rfl, Nat.le_of_ble_eq_true rfl⟩) [0, 1] rfl (by decide) 0 rfl rfl rfl rfl rfl (Nat.le_of_ble_eq_true rfl) dc_Mod_walk_219 ⟨Nat.le_of_ble_eq_true rfl, Nat.le_of_ble_eq_true rfl⟩ ?_
          rintro _ rfl
          refine gw_eq (ws' := [(mo, .inr (9, [.ref xm, .ref xs, .ref xt, .ref xk, .ref xp, .ref xr, .ref xc, .ref xu, .ref xe, .ref xb, .ref xa, .ref xl, .ref xg, .int pl, .int ft9, .int tw9, .int in9, .int (nI p), .int py, .ref x1, .ref x2, .ref x3, .ref x4, .int ap, .ref xq, .int qd, .ref xz, .ref xd, .int ds, .int fl, .int (nI u4)])), (xm, .inl (cA 0, 300, .inl (nJ M))), (xs, .inl (cA 0, 5, .inl (nJ Z)))]) (lv' := [(0, .ref mo), (1, .int (nI ar)), (2, .int tg), (3, .int (nI n)), (4, .int (nI p)), (5, .int (nI dep)), (6, .int (nI (Z ar))), (7, .int (nI e1)), (8, .int (nI e2)), (9, .int (nI e3)), (10, .int fd), (11, .int (nI gd)), (12, .int (nI en)), (13, .int (nI (bt M ar p))), (14, .int (nI t1)), (15, .int (nI q1))]) (st' := [.int (nI (bt M ar q1))]) (pc' := 222) rfl rfl rfl rfl ?_
          refine gw_istore (lv' := [(16, .int (nI (bt M ar q1))), (0, .ref mo), (1, .int (nI ar)), (2, .int tg), (3, .int (nI n)), (4, .int (nI p)), (5, .int (nI dep)), (6, .int (nI (Z ar))), (7, .int (nI e1)), (8, .int (nI e2)), (9, .int (nI e3)), (10, .int fd), (11, .int (nI gd)), (12, .int (nI en)), (13, .int (nI (bt M ar p))), (14, .int (nI t1)), (15, .int (nI q1))]) S dc_Mod_walk_222 (by decide) rfl ?_
          refine gw_iinc (v := nI (q1 + 1)) (lv' := [(15, .int (nI (q1 + 1))), (16, .int (nI (bt M ar q1))), (0, .ref mo), (1, .int (nI ar)), (2, .int tg), (3, .int (nI n)), (4, .int (nI p)), (5, .int (nI dep)), (6, .int (nI (Z ar))), (7, .int (nI e1)), (8, .int (nI e2)), (9, .int (nI e3)), (10, .int fd), (11, .int (nI gd)), (12, .int (nI en)), (13, .int (nI (bt M ar p))), (14, .int (nI t1))]) S dc_Mod_walk_224 16 rfl (nI_add _ 1) (by decide) rfl ?_
          refine gw_iload S dc_Mod_walk_227 1 rfl ?_
          refine gw_bipush (v := 127) S dc_Mod_walk_229 (by decide) ?_
          refine gw_jwP (P := ¬ (if (nI (bt M ar q1)) ≤ 127 then False else (if (nI (bt M ar q1)) = 129 then (if (nI (q1 + 1)) < (nI en) then False else (True)) else (True)) : Prop)) (ws2 := [(mo, .inr (9, [.ref xm, .ref xs, .ref xt, .ref xk, .ref xp, .ref xr, .ref xc, .ref xu, .ref xe, .ref xb, .ref xa, .ref xl, .ref xg, .int pl, .int ft9, .int tw9, .int in9, .int (nI p), .int py, .ref x1, .ref x2, .ref x3, .ref x4, .int ap, .ref xq, .int qd, .ref xz, .ref xd, .int ds, .int fl, .int (nI u4)])), (xm, .inl (cA 0, 300, .inl (nJ M))), (xs, .inl (cA 0, 5, .inl (nJ Z)))]) (lv2 := [(0, .ref mo), (1, .int (nI ar)), (2, .int tg), (3, .int (nI n)), (4, .int (nI p)), (5, .int (nI dep)), (6, .int (nI (Z ar))), (7, .int (nI e1)), (8, .int (nI e2)), (9, .int (nI e3)), (10, .int fd), (11, .int (nI gd)), (12, .int (nI en)), (13, .int (nI (bt M ar p))), (14, .int (nI t1)), (15, .int (nI (if (nI (bt M ar q1)) ≤ 127 then (q1 + 1) else ((q1 + 1) + 1)))), (16, .int (nI (if (nI (bt M ar q1)) ≤ 127 then (bt M ar q1) else (bt M ar (q1 + 1)))))]) (st2 := []) (pc2 := 263) ?_ (fun kJ_20 => ?_)
          rotate_left
          · -- join at 263
            refine gw_icmp_le (tgt := 263) S dc_Mod_walk_231 (by decide) (fun c_21 => ?_) (fun c_21 => ?_)
            · -- taken
              refine gw_drop [2, 3, 4, 5, 6, 7, 8, 9, 10, 11, 12, 13, 14, 15, 16, 0, 1] (lv' := [(0, .ref mo), (1, .int (nI ar)), (2, .int tg), (3, .int (nI n)), (4, .int (nI p)), (5, .int (nI dep)), (6, .int (nI (Z ar))), (7, .int (nI e1)), (8, .int (nI e2)), (9, .int (nI e3)), (10, .int fd), (11, .int (nI gd)), (12, .int (nI en)), (13, .int (nI (bt M ar p))), (14, .int (nI t1)), (15, .int (nI (q1 + 1))), (16, .int (nI (bt M ar q1)))]) rfl ?_
              exact kJ_20 _ _ _ (by simp only [if_pos c_21, not_false_eq_true]) (by simp only [if_pos c_21]) (by simp only [if_pos c_21]) (by simp only [if_pos c_21])
            · -- not
              refine gw_iload S dc_Mod_walk_234 1 rfl ?_
              refine gw_sipush (v := 129) S dc_Mod_walk_236 (by decide) ?_
              refine gw_icmp_ne (tgt := 249) S dc_Mod_walk_239 (by decide) (fun c_22 => ?_) (fun c_22 => ?_)
              · -- taken
                refine gw_iconst (v := -1) S dc_Mod_walk_249 (by decide) ?_
                have r9 : Mod_walk_r bd t4 M Z ar tg = (-1, ft9, tw9, in9, nI p, u4) := (hm9.trans (Mod_walk_d (by simp only [Mod_walk_s, ← hen, ← ht1, ← hq1, if_neg c_2, if_neg c_8, if_pos c_9, if_neg hb_17, if_pos c_18, if_neg c_21, if_neg c_22, if_true, if_false])))
                exact gw_iret (w := [(mo, .inr (9, [.ref xm, .ref xs, .ref xt, .ref xk, .ref xp, .ref xr, .ref xc, .ref xu, .ref xe, .ref xb, .ref xa, .ref xl, .ref xg, .int pl, .int ft9, .int tw9, .int in9, .int (nI p), .int py, .ref x1, .ref x2, .ref x3, .ref x4, .int ap, .ref xq, .int qd, .ref xz, .ref xd, .int ds, .int fl, .int (nI u4)])), (xm, .inl (cA 0, 300, .inl (nJ M))), (xs, .inl (cA 0, 5, .inl (nJ Z)))]) S g_r g_k  [0, 1, 2] rfl (by decide) ⟨by first | rw [r9] | rfl, by first | rw [r9] | rfl⟩ dc_Mod_walk_250
              · -- not
                refine gw_iload S dc_Mod_walk_242 0 rfl ?_
                refine gw_iload S dc_Mod_walk_244 14 rfl ?_
                refine gw_icmp_lt (tgt := 251) S dc_Mod_walk_246 (by decide) (fun c_23 => ?_) (fun c_23 => ?_)
                · -- taken
                  have hq2e : q1 + 1 < en := (nI_ltI (by omega) (by omega)).mp c_23
                  refine gw_aload_n S dc_Mod_walk_251 rfl 2 rfl ?_
                  refine gw_iload_n S dc_Mod_walk_252 rfl 3 rfl ?_
                  refine gw_iload S dc_Mod_walk_253 0 rfl ?_
                  refine gw_callVR (As := [.int (nI ar), .int (nI (q1 + 1))]) (st := []) S hK (c_Mod_at l D cA mo xm xs xt xk xp xr xc xu xe xb xa xl xg x1 x2 x3 x4 xq xz xd pl ft9 tw9 in9 (nI p) py ap qd ds fl u4 M ar (q1 + 1) (by omega)) (cw_Mod_90 S.2.2.2.2 rfl rfl ⟨Nat.le_of_ble_eq_true rfl, Nat.le_of_ble_eq_true rfl⟩) [0, 1] rfl (by decide) 0 rfl rfl rfl rfl rfl (Nat.le_of_ble_eq_true rfl) dc_Mod_walk_255 ⟨Nat.le_of_ble_eq_true rfl, Nat.le_of_ble_eq_true rfl⟩ ?_
                  rintro _ rfl
                  refine gw_eq (ws' := [(mo, .inr (9, [.ref xm, .ref xs, .ref xt, .ref xk, .ref xp, .ref xr, .ref xc, .ref xu, .ref xe, .ref xb, .ref xa, .ref xl, .ref xg, .int pl, .int ft9, .int tw9, .int in9, .int (nI p), .int py, .ref x1, .ref x2, .ref x3, .ref x4, .int ap, .ref xq, .int qd, .ref xz, .ref xd, .int ds, .int fl, .int (nI u4)])), (xm, .inl (cA 0, 300, .inl (nJ M))), (xs, .inl (cA 0, 5, .inl (nJ Z)))]) (lv' := [(15, .int (nI (q1 + 1))), (16, .int (nI (bt M ar q1))), (0, .ref mo), (1, .int (nI ar)), (2, .int tg), (3, .int (nI n)), (4, .int (nI p)), (5, .int (nI dep)), (6, .int (nI (Z ar))), (7, .int (nI e1)), (8, .int (nI e2)), (9, .int (nI e3)), (10, .int fd), (11, .int (nI gd)), (12, .int (nI en)), (13, .int (nI (bt M ar p))), (14, .int (nI t1))]) (st' := [.int (nI (bt M ar (q1 + 1)))]) (pc' := 258) rfl rfl rfl rfl ?_
                  refine gw_istore (lv' := [(16, .int (nI (bt M ar (q1 + 1)))), (15, .int (nI (q1 + 1))), (0, .ref mo), (1, .int (nI ar)), (2, .int tg), (3, .int (nI n)), (4, .int (nI p)), (5, .int (nI dep)), (6, .int (nI (Z ar))), (7, .int (nI e1)), (8, .int (nI e2)), (9, .int (nI e3)), (10, .int fd), (11, .int (nI gd)), (12, .int (nI en)), (13, .int (nI (bt M ar p))), (14, .int (nI t1))]) S dc_Mod_walk_258 (by decide) rfl ?_
                  refine gw_iinc (v := nI ((q1 + 1) + 1)) (lv' := [(15, .int (nI ((q1 + 1) + 1))), (16, .int (nI (bt M ar (q1 + 1)))), (0, .ref mo), (1, .int (nI ar)), (2, .int tg), (3, .int (nI n)), (4, .int (nI p)), (5, .int (nI dep)), (6, .int (nI (Z ar))), (7, .int (nI e1)), (8, .int (nI e2)), (9, .int (nI e3)), (10, .int fd), (11, .int (nI gd)), (12, .int (nI en)), (13, .int (nI (bt M ar p))), (14, .int (nI t1))]) S dc_Mod_walk_260 1 rfl (nI_add _ 1) (by decide) rfl ?_
                  refine gw_drop [2, 3, 4, 5, 6, 7, 8, 9, 10, 11, 12, 13, 14, 15, 16, 0, 1] (lv' := [(0, .ref mo), (1, .int (nI ar)), (2, .int tg), (3, .int (nI n)), (4, .int (nI p)), (5, .int (nI dep)), (6, .int (nI (Z ar))), (7, .int (nI e1)), (8, .int (nI e2)), (9, .int (nI e3)), (10, .int fd), (11, .int (nI gd)), (12, .int (nI en)), (13, .int (nI (bt M ar p))), (14, .int (nI t1)), (15, .int (nI ((q1 + 1) + 1))), (16, .int (nI (bt M ar (q1 + 1))))]) rfl ?_
                  exact kJ_20 _ _ _ (by simp only [if_neg c_21, if_pos c_22, if_pos c_23, not_false_eq_true]) (by simp only [if_neg c_21, if_pos c_22, if_pos c_23]) (by simp only [if_neg c_21, if_pos c_22, if_pos c_23]) (by simp only [if_neg c_21, if_pos c_22, if_pos c_23])
                · -- not
                  refine gw_iconst (v := -1) S dc_Mod_walk_249 (by decide) ?_
                  have r9 : Mod_walk_r bd t4 M Z ar tg = (-1, ft9, tw9, in9, nI p, u4) := (hm9.trans (Mod_walk_d (by simp only [Mod_walk_s, ← hen, ← ht1, ← hq1, if_neg c_2, if_neg c_8, if_pos c_9, if_neg hb_17, if_pos c_18, if_neg c_21, if_pos c_22, if_neg c_23, if_true, if_false])))
                  exact gw_iret (w := [(mo, .inr (9, [.ref xm, .ref xs, .ref xt, .ref xk, .ref xp, .ref xr, .ref xc, .ref xu, .ref xe, .ref xb, .ref xa, .ref xl, .ref xg, .int pl, .int ft9, .int tw9, .int in9, .int (nI p), .int py, .ref x1, .ref x2, .ref x3, .ref x4, .int ap, .ref xq, .int qd, .ref xz, .ref xd, .int ds, .int fl, .int (nI u4)])), (xm, .inl (cA 0, 300, .inl (nJ M))), (xs, .inl (cA 0, 5, .inl (nJ Z)))]) S g_r g_k  [0, 1, 2] rfl (by decide) ⟨by first | rw [r9] | rfl, by first | rw [r9] | rfl⟩ dc_Mod_walk_250
          intro hb_25
          obtain ⟨q2, hq2⟩ : ∃ x : Nat, x = (wk_q2 M ar q1) := ⟨_, rfl⟩
          refine gw_eq (ws' := [(mo, .inr (9, [.ref xm, .ref xs, .ref xt, .ref xk, .ref xp, .ref xr, .ref xc, .ref xu, .ref xe, .ref xb, .ref xa, .ref xl, .ref xg, .int pl, .int ft9, .int tw9, .int in9, .int (nI p), .int py, .ref x1, .ref x2, .ref x3, .ref x4, .int ap, .ref xq, .int qd, .ref xz, .ref xd, .int ds, .int fl, .int (nI u4)])), (xm, .inl (cA 0, 300, .inl (nJ M))), (xs, .inl (cA 0, 5, .inl (nJ Z)))]) (lv' := [(0, .ref mo), (1, .int (nI ar)), (2, .int tg), (3, .int (nI n)), (4, .int (nI p)), (5, .int (nI dep)), (6, .int (nI (Z ar))), (7, .int (nI e1)), (8, .int (nI e2)), (9, .int (nI e3)), (10, .int fd), (11, .int (nI gd)), (12, .int (nI en)), (13, .int (nI (bt M ar p))), (14, .int (nI t1)), (15, .int (nI q2)), (16, .int (nI (if (nI (bt M ar q1)) ≤ 127 then (bt M ar q1) else (bt M ar (q1 + 1)))))]) (st' := []) rfl (by rw [hq2]; rfl) rfl rfl ?_
          obtain ⟨ln, hln⟩ : ∃ x : Nat, x = (wk_ln M ar q1) := ⟨_, rfl⟩
          refine gw_eq (ws' := [(mo, .inr (9, [.ref xm, .ref xs, .ref xt, .ref xk, .ref xp, .ref xr, .ref xc, .ref xu, .ref xe, .ref xb, .ref xa, .ref xl, .ref xg, .int pl, .int ft9, .int tw9, .int in9, .int (nI p), .int py, .ref x1, .ref x2, .ref x3, .ref x4, .int ap, .ref xq, .int qd, .ref xz, .ref xd, .int ds, .int fl, .int (nI u4)])), (xm, .inl (cA 0, 300, .inl (nJ M))), (xs, .inl (cA 0, 5, .inl (nJ Z)))]) (lv' := [(0, .ref mo), (1, .int (nI ar)), (2, .int tg), (3, .int (nI n)), (4, .int (nI p)), (5, .int (nI dep)), (6, .int (nI (Z ar))), (7, .int (nI e1)), (8, .int (nI e2)), (9, .int (nI e3)), (10, .int fd), (11, .int (nI gd)), (12, .int (nI en)), (13, .int (nI (bt M ar p))), (14, .int (nI t1)), (15, .int (nI q2)), (16, .int (nI ln))]) (st' := []) rfl (by rw [hln]; rfl) rfl rfl ?_
          have hq2b : q1 < q2 ∧ q2 ≤ q1 + 2 := by (rw [hq2]; unfold wk_q2; split <;> omega)
          have hlnb : ln ≤ 255 := by (rw [hln]; unfold wk_ln; split <;> exact hB _)
          refine gw_iload S dc_Mod_walk_263 15 rfl ?_
          refine gw_iload S dc_Mod_walk_265 16 rfl ?_
          refine gw_iaddN (a := q2) (b := ln) S dc_Mod_walk_267 ?_
          refine gw_iload S dc_Mod_walk_268 12 rfl ?_
          refine gw_icmp_le (tgt := 275) S dc_Mod_walk_270 (by decide) (fun c_26 => ?_) (fun c_26 => ?_)
          · -- taken
            have hql : q2 + ln ≤ wk_E dep (Z ar) e1 e2 e3 u4 := by (rw [hE9]; exact (nI_leI (by omega) (by omega)).mp c_26)
            refine gw_iinc (v := nI (n + 1)) (lv' := [(3, .int (nI (n + 1))), (0, .ref mo), (1, .int (nI ar)), (2, .int tg), (4, .int (nI p)), (5, .int (nI dep)), (6, .int (nI (Z ar))), (7, .int (nI e1)), (8, .int (nI e2)), (9, .int (nI e3)), (10, .int fd), (11, .int (nI gd)), (12, .int (nI en)), (13, .int (nI (bt M ar p))), (14, .int (nI t1)), (15, .int (nI q2)), (16, .int (nI ln))]) S dc_Mod_walk_275 3 rfl (nI_add _ 1) (by decide) rfl ?_
            refine gw_jw (ws2 := [(mo, .inr (9, [.ref xm, .ref xs, .ref xt, .ref xk, .ref xp, .ref xr, .ref xc, .ref xu, .ref xe, .ref xb, .ref xa, .ref xl, .ref xg, .int pl, .int ft9, .int tw9, .int (if fd < 0 then in9 else (if (nI dep) = (fd + 1) then (if (nI p) < ft9 then in9 else (if tw9 ≤ (nI p) then in9 else (in9 + 1))) else (in9))), .int (nI p), .int py, .ref x1, .ref x2, .ref x3, .ref x4, .int ap, .ref xq, .int qd, .ref xz, .ref xd, .int ds, .int fl, .int (nI u4)])), (xm, .inl (cA 0, 300, .inl (nJ M))), (xs, .inl (cA 0, 5, .inl (nJ Z)))]) (lv2 := [(0, .ref mo), (1, .int (nI ar)), (2, .int tg), (3, .int (nI (n + 1))), (4, .int (nI p)), (5, .int (nI dep)), (6, .int (nI (Z ar))), (7, .int (nI e1)), (8, .int (nI e2)), (9, .int (nI e3)), (10, .int fd), (11, .int (nI gd)), (12, .int (nI en)), (13, .int (nI (bt M ar p))), (14, .int (nI t1)), (15, .int (nI q2)), (16, .int (nI ln))]) (st2 := []) (pc2 := 320) ?_ (fun kJ_27 => ?_)
            rotate_left
            · -- join at 320
              refine gw_iload S dc_Mod_walk_278 10 rfl ?_
              refine gw_if_lt (tgt := 320) S dc_Mod_walk_280 (by decide) (fun c_28 => ?_) (fun c_28 => ?_)
              · -- taken
                refine gw_drop [1, 2, 3, 0, 4, 5, 6, 7, 8, 9, 10, 11, 12, 13, 14, 15, 16] (lv' := [(0, .ref mo), (1, .int (nI ar)), (2, .int tg), (3, .int (nI (n + 1))), (4, .int (nI p)), (5, .int (nI dep)), (6, .int (nI (Z ar))), (7, .int (nI e1)), (8, .int (nI e2)), (9, .int (nI e3)), (10, .int fd), (11, .int (nI gd)), (12, .int (nI en)), (13, .int (nI (bt M ar p))), (14, .int (nI t1)), (15, .int (nI q2)), (16, .int (nI ln))]) rfl ?_
                exact kJ_27 _ _ _ (by simp only [if_pos c_28]) (by simp only [if_pos c_28]) (by simp only [if_pos c_28])
              · -- not
                refine gw_iload S dc_Mod_walk_283 5 rfl ?_
                refine gw_iload S dc_Mod_walk_285 10 rfl ?_
                refine gw_iconst (v := 1) S dc_Mod_walk_287 (by decide) ?_
                refine gw_iadd S dc_Mod_walk_288 ?_
                refine gw_icmp_ne (tgt := 320) S dc_Mod_walk_289 (by decide) (fun c_29 => ?_) (fun c_29 => ?_)
                · -- taken
                  refine gw_drop [1, 2, 3, 0, 4, 5, 6, 7, 8, 9, 10, 11, 12, 13, 14, 15, 16] (lv' := [(0, .ref mo), (1, .int (nI ar)), (2, .int tg), (3, .int (nI (n + 1))), (4, .int (nI p)), (5, .int (nI dep)), (6, .int (nI (Z ar))), (7, .int (nI e1)), (8, .int (nI e2)), (9, .int (nI e3)), (10, .int fd), (11, .int (nI gd)), (12, .int (nI en)), (13, .int (nI (bt M ar p))), (14, .int (nI t1)), (15, .int (nI q2)), (16, .int (nI ln))]) rfl ?_
                  exact kJ_27 _ _ _ (by simp only [if_neg c_28, if_neg c_29]) (by simp only [if_neg c_28, if_neg c_29]) (by simp only [if_neg c_28, if_neg c_29])
                · -- not
                  refine gw_iload S dc_Mod_walk_292 4 rfl ?_
                  refine gw_aload_n S dc_Mod_walk_294 rfl 1 rfl ?_
                  refine gw_get S hK.1 ic_Mod rfl 14 (by decide) (gw_lk S mw_794) 0 rfl rfl dc_Mod_walk_295 ?_
                  refine gw_icmp_lt (tgt := 320) S dc_Mod_walk_298 (by decide) (fun c_30 => ?_) (fun c_30 => ?_)
                  · -- taken
                    refine gw_drop [1, 2, 3, 0, 4, 5, 6, 7, 8, 9, 10, 11, 12, 13, 14, 15, 16] (lv' := [(0, .ref mo), (1, .int (nI ar)), (2, .int tg), (3, .int (nI (n + 1))), (4, .int (nI p)), (5, .int (nI dep)), (6, .int (nI (Z ar))), (7, .int (nI e1)), (8, .int (nI e2)), (9, .int (nI e3)), (10, .int fd), (11, .int (nI gd)), (12, .int (nI en)), (13, .int (nI (bt M ar p))), (14, .int (nI t1)), (15, .int (nI q2)), (16, .int (nI ln))]) rfl ?_
                    exact kJ_27 _ _ _ (by simp only [if_neg c_28, if_pos c_29, if_pos c_30]) (by simp only [if_neg c_28, if_pos c_29, if_pos c_30]) (by simp only [if_neg c_28, if_pos c_29, if_pos c_30])
                  · -- not
                    refine gw_iload S dc_Mod_walk_301 4 rfl ?_
                    refine gw_aload_n S dc_Mod_walk_303 rfl 1 rfl ?_
                    refine gw_get S hK.1 ic_Mod rfl 15 (by decide) (gw_lk S mw_795) 0 rfl rfl dc_Mod_walk_304 ?_
                    refine gw_icmp_ge (tgt := 320) S dc_Mod_walk_307 (by decide) (fun c_31 => ?_) (fun c_31 => ?_)
                    · -- taken
                      refine gw_drop [1, 2, 3, 0, 4, 5, 6, 7, 8, 9, 10, 11, 12, 13, 14, 15, 16] (lv' := [(0, .ref mo), (1, .int (nI ar)), (2, .int tg), (3, .int (nI (n + 1))), (4, .int (nI p)), (5, .int (nI dep)), (6, .int (nI (Z ar))), (7, .int (nI e1)), (8, .int (nI e2)), (9, .int (nI e3)), (10, .int fd), (11, .int (nI gd)), (12, .int (nI en)), (13, .int (nI (bt M ar p))), (14, .int (nI t1)), (15, .int (nI q2)), (16, .int (nI ln))]) rfl ?_
                      exact kJ_27 _ _ _ (by simp only [if_neg c_28, if_pos c_29, if_neg c_30, if_pos c_31]) (by simp only [if_neg c_28, if_pos c_29, if_neg c_30, if_pos c_31]) (by simp only [if_neg c_28, if_pos c_29, if_neg c_30, if_pos c_31])
                    · -- not
                      refine gw_aload_n S dc_Mod_walk_310 rfl 1 rfl ?_
                      refine gw_dup S dc_Mod_walk_311 rfl ?_
                      refine gw_get S hK.1 ic_Mod rfl 16 (by decide) (gw_lk S mw_796) 0 rfl rfl dc_Mod_walk_312 ?_
                      refine gw_iconst (v := 1) S dc_Mod_walk_315 (by decide) ?_
                      refine gw_iadd S dc_Mod_walk_316 ?_
                      refine gw_put (ws' := [(mo, .inr (9, [.ref xm, .ref xs, .ref xt, .ref xk, .ref xp, .ref xr, .ref xc, .ref xu, .ref xe, .ref xb, .ref xa, .ref xl, .ref xg, .int pl, .int ft9, .int tw9, .int (in9 + 1), .int (nI p), .int py, .ref x1, .ref x2, .ref x3, .ref x4, .int ap, .ref xq, .int qd, .ref xz, .ref xd, .int ds, .int fl, .int (nI u4)])), (xm, .inl (cA 0, 300, .inl (nJ M))), (xs, .inl (cA 0, 5, .inl (nJ Z)))]) (ty := .int) S hK.1 ic_Mod rfl 16 (by decide) ty_Mod to_Mod nm_Mod (gw_lk S mw_796) 0 rfl rfl (by decide +kernel) rfl rfl (Nat.le_of_ble_eq_true rfl) rfl dc_Mod_walk_317 ?_
                      refine gw_drop [1, 2, 3, 0, 4, 5, 6, 7, 8, 9, 10, 11, 12, 13, 14, 15, 16] (lv' := [(0, .ref mo), (1, .int (nI ar)), (2, .int tg), (3, .int (nI (n + 1))), (4, .int (nI p)), (5, .int (nI dep)), (6, .int (nI (Z ar))), (7, .int (nI e1)), (8, .int (nI e2)), (9, .int (nI e3)), (10, .int fd), (11, .int (nI gd)), (12, .int (nI en)), (13, .int (nI (bt M ar p))), (14, .int (nI t1)), (15, .int (nI q2)), (16, .int (nI ln))]) rfl ?_
                      exact kJ_27 _ _ _ (by simp only [if_neg c_28, if_pos c_29, if_neg c_30, if_neg c_31]) (by simp only [if_neg c_28, if_pos c_29, if_neg c_30, if_neg c_31]) (by simp only [if_neg c_28, if_pos c_29, if_neg c_30, if_neg c_31])
            refine gw_jw (ws2 := [(mo, .inr (9, [.ref xm, .ref xs, .ref xt, .ref xk, .ref xp, .ref xr, .ref xc, .ref xu, .ref xe, .ref xb, .ref xa, .ref xl, .ref xg, .int pl, .int (if (nI t1) = tg then (if 0 ≤ ft9 then ft9 else (nI q2)) else (ft9)), .int (if (nI t1) = tg then (if 0 ≤ ft9 then tw9 else (nI (q2 + ln))) else (tw9)), .int (if fd < 0 then in9 else (if (nI dep) = (fd + 1) then (if (nI p) < ft9 then in9 else (if tw9 ≤ (nI p) then in9 else (in9 + 1))) else (in9))), .int (nI p), .int py, .ref x1, .ref x2, .ref x3, .ref x4, .int ap, .ref xq, .int qd, .ref xz, .ref xd, .int ds, .int fl, .int (nI u4)])), (xm, .inl (cA 0, 300, .inl (nJ M))), (xs, .inl (cA 0, 5, .inl (nJ Z)))]) (lv2 := [(0, .ref mo), (1, .int (nI ar)), (2, .int tg), (3, .int (nI (n + 1))), (4, .int (nI p)), (5, .int (nI dep)), (6, .int (nI (Z ar))), (7, .int (nI e1)), (8, .int (nI e2)), (9, .int (nI e3)), (10, .int (if (nI t1) = tg then (if 0 ≤ ft9 then fd else (nI dep)) else (fd))), (11, .int (nI gd)), (12, .int (nI en)), (13, .int (nI (bt M ar p))), (14, .int (nI t1)), (15, .int (nI q2)), (16, .int (nI ln))]) (st2 := []) (pc2 := 352) ?_ (fun kJ_32 => ?_)
            rotate_left
            · -- join at 352
              refine gw_iload S dc_Mod_walk_320 14 rfl ?_
              refine gw_iload_n S dc_Mod_walk_322 rfl 2 rfl ?_
              refine gw_icmp_ne (tgt := 352) S dc_Mod_walk_323 (by decide) (fun c_33 => ?_) (fun c_33 => ?_)
              · -- taken
                exact kJ_32 _ _ _ (by simp only [if_neg c_33]) (by simp only [if_neg c_33]) (by simp only [if_neg c_33])
              · -- not
                refine gw_aload_n S dc_Mod_walk_326 rfl 0 rfl ?_
                refine gw_get S hK.1 ic_Mod rfl 14 (by decide) (gw_lk S mw_794) 0 rfl rfl dc_Mod_walk_327 ?_
                refine gw_if_ge (tgt := 352) S dc_Mod_walk_330 (by decide) (fun c_34 => ?_) (fun c_34 => ?_)
                · -- taken
                  exact kJ_32 _ _ _ (by simp only [if_pos c_33, if_pos c_34]) (by simp only [if_pos c_33, if_pos c_34]) (by simp only [if_pos c_33, if_pos c_34])
                · -- not
                  refine gw_aload_n S dc_Mod_walk_333 rfl 0 rfl ?_
                  refine gw_iload S dc_Mod_walk_334 15 rfl ?_
                  refine gw_put (ws' := [(mo, .inr (9, [.ref xm, .ref xs, .ref xt, .ref xk, .ref xp, .ref xr, .ref xc, .ref xu, .ref xe, .ref xb, .ref xa, .ref xl, .ref xg, .int pl, .int (nI q2), .int tw9, .int (if fd < 0 then in9 else (if (nI dep) = (fd + 1) then (if (nI p) < ft9 then in9 else (if tw9 ≤ (nI p) then in9 else (in9 + 1))) else (in9))), .int (nI p), .int py, .ref x1, .ref x2, .ref x3, .ref x4, .int ap, .ref xq, .int qd, .ref xz, .ref xd, .int ds, .int fl, .int (nI u4)])), (xm, .inl (cA 0, 300, .inl (nJ M))), (xs, .inl (cA 0, 5, .inl (nJ Z)))]) (ty := .int) S hK.1 ic_Mod rfl 14 (by decide) ty_Mod to_Mod nm_Mod (gw_lk S mw_794) 0 rfl rfl (by decide +kernel) rfl rfl (Nat.le_of_ble_eq_true rfl) rfl dc_Mod_walk_336 ?_
                  refine gw_aload_n S dc_Mod_walk_339 rfl 0 rfl ?_
                  refine gw_iload S dc_Mod_walk_340 15 rfl ?_
                  refine gw_iload S dc_Mod_walk_342 16 rfl ?_
                  refine gw_iaddN (a := q2) (b := ln) S dc_Mod_walk_344 ?_
                  refine gw_put (ws' := [(mo, .inr (9, [.ref xm, .ref xs, .ref xt, .ref xk, .ref xp, .ref xr, .ref xc, .ref xu, .ref xe, .ref xb, .ref xa, .ref xl, .ref xg, .int pl, .int (nI q2), .int (nI (q2 + ln)), .int (if fd < 0 then in9 else (if (nI dep) = (fd + 1) then (if (nI p) < ft9 then in9 else (if tw9 ≤ (nI p) then in9 else (in9 + 1))) else (in9))), .int (nI p), .int py, .ref x1, .ref x2, .ref x3, .ref x4, .int ap, .ref xq, .int qd, .ref xz, .ref xd, .int ds, .int fl, .int (nI u4)])), (xm, .inl (cA 0, 300, .inl (nJ M))), (xs, .inl (cA 0, 5, .inl (nJ Z)))]) (ty := .int) S hK.1 ic_Mod rfl 15 (by decide) ty_Mod to_Mod nm_Mod (gw_lk S mw_795) 0 rfl rfl (by decide +kernel) rfl rfl (Nat.le_of_ble_eq_true rfl) rfl dc_Mod_walk_345 ?_
                  refine gw_iload S dc_Mod_walk_348 5 rfl ?_
                  refine gw_istore (lv' := [(10, .int (nI dep)), (0, .ref mo), (1, .int (nI ar)), (2, .int tg), (3, .int (nI (n + 1))), (4, .int (nI p)), (5, .int (nI dep)), (6, .int (nI (Z ar))), (7, .int (nI e1)), (8, .int (nI e2)), (9, .int (nI e3)), (11, .int (nI gd)), (12, .int (nI en)), (13, .int (nI (bt M ar p))), (14, .int (nI t1)), (15, .int (nI q2)), (16, .int (nI ln))]) S dc_Mod_walk_350 (by decide) rfl ?_
                  refine gw_drop [1, 2, 3, 4, 5, 6, 7, 8, 9, 10, 0, 11, 12, 13, 14, 15, 16] (lv' := [(0, .ref mo), (1, .int (nI ar)), (2, .int tg), (3, .int (nI (n + 1))), (4, .int (nI p)), (5, .int (nI dep)), (6, .int (nI (Z ar))), (7, .int (nI e1)), (8, .int (nI e2)), (9, .int (nI e3)), (10, .int (nI dep)), (11, .int (nI gd)), (12, .int (nI en)), (13, .int (nI (bt M ar p))), (14, .int (nI t1)), (15, .int (nI q2)), (16, .int (nI ln))]) rfl ?_
                  exact kJ_32 _ _ _ (by simp only [if_pos c_33, if_neg c_34]) (by simp only [if_pos c_33, if_neg c_34]) (by simp only [if_pos c_33, if_neg c_34])
            refine gw_iload S dc_Mod_walk_352 13 rfl ?_
            refine gw_bipush (v := 32) S dc_Mod_walk_354 (by decide) ?_
            refine gw_iand S dc_Mod_walk_356 ?_
            refine gw_if_ne (tgt := 370) S dc_Mod_walk_357 (by decide) (fun c_35 => ?_) (fun c_35 => ?_)
            · -- taken
              refine gw_iload S dc_Mod_walk_370 15 rfl ?_
              refine gw_istore (lv' := [(4, .int (nI q2)), (0, .ref mo), (1, .int (nI ar)), (2, .int tg), (3, .int (nI (n + 1))), (5, .int (nI dep)), (6, .int (nI (Z ar))), (7, .int (nI e1)), (8, .int (nI e2)), (9, .int (nI e3)), (10, .int (if (nI t1) = tg then (if 0 ≤ ft9 then fd else (nI dep)) else (fd))), (11, .int (nI gd)), (12, .int (nI en)), (13, .int (nI (bt M ar p))), (14, .int (nI t1)), (15, .int (nI q2)), (16, .int (nI ln))]) S dc_Mod_walk_372 (by decide) rfl ?_
              refine gw_iinc (v := nI (dep + 1)) (lv' := [(5, .int (nI (dep + 1))), (4, .int (nI q2)), (0, .ref mo), (1, .int (nI ar)), (2, .int tg), (3, .int (nI (n + 1))), (6, .int (nI (Z ar))), (7, .int (nI e1)), (8, .int (nI e2)), (9, .int (nI e3)), (10, .int (if (nI t1) = tg then (if 0 ≤ ft9 then fd else (nI dep)) else (fd))), (11, .int (nI gd)), (12, .int (nI en)), (13, .int (nI (bt M ar p))), (14, .int (nI t1)), (15, .int (nI q2)), (16, .int (nI ln))]) S dc_Mod_walk_374 5 rfl (nI_add _ 1) (by decide) rfl ?_
              refine gw_jw (ws2 := [(mo, .inr (9, [.ref xm, .ref xs, .ref xt, .ref xk, .ref xp, .ref xr, .ref xc, .ref xu, .ref xe, .ref xb, .ref xa, .ref xl, .ref xg, .int pl, .int (if (nI t1) = tg then (if 0 ≤ ft9 then ft9 else (nI q2)) else (ft9)), .int (if (nI t1) = tg then (if 0 ≤ ft9 then tw9 else (nI (q2 + ln))) else (tw9)), .int (if fd < 0 then in9 else (if (nI dep) = (fd + 1) then (if (nI p) < ft9 then in9 else (if tw9 ≤ (nI p) then in9 else (in9 + 1))) else (in9))), .int (nI p), .int py, .ref x1, .ref x2, .ref x3, .ref x4, .int ap, .ref xq, .int qd, .ref xz, .ref xd, .int ds, .int fl, .int (nI (if (nI (dep + 1)) = 1 then u4 else (if (nI (dep + 1)) = 2 then u4 else (if (nI (dep + 1)) = 3 then u4 else (q2 + ln)))))])), (xm, .inl (cA 0, 300, .inl (nJ M))), (xs, .inl (cA 0, 5, .inl (nJ Z)))]) (lv2 := [(0, .ref mo), (1, .int (nI ar)), (2, .int tg), (3, .int (nI (n + 1))), (4, .int (nI q2)), (5, .int (nI (dep + 1))), (6, .int (nI (Z ar))), (7, .int (nI (if (nI (dep + 1)) = 1 then (q2 + ln) else (e1)))), (8, .int (nI (if (nI (dep + 1)) = 1 then e2 else (if (nI (dep + 1)) = 2 then (q2 + ln) else (e2))))), (9, .int (nI (if (nI (dep + 1)) = 1 then e3 else (if (nI (dep + 1)) = 2 then e3 else (if (nI (dep + 1)) = 3 then (q2 + ln) else (e3)))))), (10, .int (if (nI t1) = tg then (if 0 ≤ ft9 then fd else (nI dep)) else (fd))), (11, .int (nI gd)), (12, .int (nI en)), (13, .int (nI (bt M ar p))), (14, .int (nI t1)), (15, .int (nI q2)), (16, .int (nI ln))]) (st2 := []) (pc2 := 434) ?_ (fun kJ_36 => ?_)
              rotate_left
              · -- join at 434
                refine gw_iload S dc_Mod_walk_377 0 rfl ?_
                refine gw_iconst (v := 1) S dc_Mod_walk_379 (by decide) ?_
                refine gw_icmp_ne (tgt := 393) S dc_Mod_walk_380 (by decide) (fun c_37 => ?_) (fun c_37 => ?_)
                · -- taken
                  refine gw_iload S dc_Mod_walk_393 0 rfl ?_
                  refine gw_iconst (v := 2) S dc_Mod_walk_395 (by decide) ?_
                  refine gw_icmp_ne (tgt := 409) S dc_Mod_walk_396 (by decide) (fun c_38 => ?_) (fun c_38 => ?_)
                  · -- taken
                    refine gw_iload S dc_Mod_walk_409 0 rfl ?_
                    refine gw_iconst (v := 3) S dc_Mod_walk_411 (by decide) ?_
                    refine gw_icmp_ne (tgt := 425) S dc_Mod_walk_412 (by decide) (fun c_39 => ?_) (fun c_39 => ?_)
                    · -- taken
                      refine gw_aload_n S dc_Mod_walk_425 rfl 2 rfl ?_
                      refine gw_iload S dc_Mod_walk_426 15 rfl ?_
                      refine gw_iload S dc_Mod_walk_428 16 rfl ?_
                      refine gw_iaddN (a := q2) (b := ln) S dc_Mod_walk_430 ?_
                      refine gw_put (ws' := [(mo, .inr (9, [.ref xm, .ref xs, .ref xt, .ref xk, .ref xp, .ref xr, .ref xc, .ref xu, .ref xe, .ref xb, .ref xa, .ref xl, .ref xg, .int pl, .int (if (nI t1) = tg then (if 0 ≤ ft9 then ft9 else (nI q2)) else (ft9)), .int (if (nI t1) = tg then (if 0 ≤ ft9 then tw9 else (nI (q2 + ln))) else (tw9)), .int (if fd < 0 then in9 else (if (nI dep) = (fd + 1) then (if (nI p) < ft9 then in9 else (if tw9 ≤ (nI p) then in9 else (in9 + 1))) else (in9))), .int (nI p), .int py, .ref x1, .ref x2, .ref x3, .ref x4, .int ap, .ref xq, .int qd, .ref xz, .ref xd, .int ds, .int fl, .int (nI (q2 + ln))])), (xm, .inl (cA 0, 300, .inl (nJ M))), (xs, .inl (cA 0, 5, .inl (nJ Z)))]) (ty := .int) S hK.1 ic_Mod rfl 30 (by decide) ty_Mod to_Mod nm_Mod (gw_lk S mw_810) 0 rfl rfl (by decide +kernel) rfl rfl (Nat.le_of_ble_eq_true rfl) rfl dc_Mod_walk_431 ?_
                      refine gw_drop [2, 3, 4, 5, 1, 0, 6, 7, 8, 9, 10, 11, 12, 13, 14, 15, 16] (lv' := [(0, .ref mo), (1, .int (nI ar)), (2, .int tg), (3, .int (nI (n + 1))), (4, .int (nI q2)), (5, .int (nI (dep + 1))), (6, .int (nI (Z ar))), (7, .int (nI e1)), (8, .int (nI e2)), (9, .int (nI e3)), (10, .int (if (nI t1) = tg then (if 0 ≤ ft9 then fd else (nI dep)) else (fd))), (11, .int (nI gd)), (12, .int (nI en)), (13, .int (nI (bt M ar p))), (14, .int (nI t1)), (15, .int (nI q2)), (16, .int (nI ln))]) rfl ?_
                      exact kJ_36 _ _ _ (by simp only [if_neg c_37, if_neg c_38, if_neg c_39]) (by simp only [if_neg c_37, if_neg c_38, if_neg c_39]) (by simp only [if_neg c_37, if_neg c_38, if_neg c_39])
                    · -- not
                      refine gw_iload S dc_Mod_walk_415 15 rfl ?_
                      refine gw_iload S dc_Mod_walk_417 16 rfl ?_
                      refine gw_iaddN (a := q2) (b := ln) S dc_Mod_walk_419 ?_
                      refine gw_istore (lv' := [(9, .int (nI (q2 + ln))), (5, .int (nI (dep + 1))), (4, .int (nI q2)), (0, .ref mo), (1, .int (nI ar)), (2, .int tg), (3, .int (nI (n + 1))), (6, .int (nI (Z ar))), (7, .int (nI e1)), (8, .int (nI e2)), (10, .int (if (nI t1) = tg then (if 0 ≤ ft9 then fd else (nI dep)) else (fd))), (11, .int (nI gd)), (12, .int (nI en)), (13, .int (nI (bt M ar p))), (14, .int (nI t1)), (15, .int (nI q2)), (16, .int (nI ln))]) S dc_Mod_walk_420 (by decide) rfl ?_
                      refine gw_goto (tgt := 434) S dc_Mod_walk_422 (by decide) ?_
                      refine gw_drop [3, 4, 5, 6, 2, 1, 7, 8, 9, 0, 10, 11, 12, 13, 14, 15, 16] (lv' := [(0, .ref mo), (1, .int (nI ar)), (2, .int tg), (3, .int (nI (n + 1))), (4, .int (nI q2)), (5, .int (nI (dep + 1))), (6, .int (nI (Z ar))), (7, .int (nI e1)), (8, .int (nI e2)), (9, .int (nI (q2 + ln))), (10, .int (if (nI t1) = tg then (if 0 ≤ ft9 then fd else (nI dep)) else (fd))), (11, .int (nI gd)), (12, .int (nI en)), (13, .int (nI (bt M ar p))), (14, .int (nI t1)), (15, .int (nI q2)), (16, .int (nI ln))]) rfl ?_
                      exact kJ_36 _ _ _ (by simp only [if_neg c_37, if_neg c_38, if_pos c_39]) (by simp only [if_neg c_37, if_neg c_38, if_pos c_39]) (by simp only [if_neg c_37, if_neg c_38, if_pos c_39])
                  · -- not
                    refine gw_iload S dc_Mod_walk_399 15 rfl ?_
                    refine gw_iload S dc_Mod_walk_401 16 rfl ?_
                    refine gw_iaddN (a := q2) (b := ln) S dc_Mod_walk_403 ?_
                    refine gw_istore (lv' := [(8, .int (nI (q2 + ln))), (5, .int (nI (dep + 1))), (4, .int (nI q2)), (0, .ref mo), (1, .int (nI ar)), (2, .int tg), (3, .int (nI (n + 1))), (6, .int (nI (Z ar))), (7, .int (nI e1)), (9, .int (nI e3)), (10, .int (if (nI t1) = tg then (if 0 ≤ ft9 then fd else (nI dep)) else (fd))), (11, .int (nI gd)), (12, .int (nI en)), (13, .int (nI (bt M ar p))), (14, .int (nI t1)), (15, .int (nI q2)), (16, .int (nI ln))]) S dc_Mod_walk_404 (by decide) rfl ?_
                    refine gw_goto (tgt := 434) S dc_Mod_walk_406 (by decide) ?_
                    refine gw_drop [3, 4, 5, 6, 2, 1, 7, 8, 0, 9, 10, 11, 12, 13, 14, 15, 16] (lv' := [(0, .ref mo), (1, .int (nI ar)), (2, .int tg), (3, .int (nI (n + 1))), (4, .int (nI q2)), (5, .int (nI (dep + 1))), (6, .int (nI (Z ar))), (7, .int (nI e1)), (8, .int (nI (q2 + ln))), (9, .int (nI e3)), (10, .int (if (nI t1) = tg then (if 0 ≤ ft9 then fd else (nI dep)) else (fd))), (11, .int (nI gd)), (12, .int (nI en)), (13, .int (nI (bt M ar p))), (14, .int (nI t1)), (15, .int (nI q2)), (16, .int (nI ln))]) rfl ?_
                    exact kJ_36 _ _ _ (by simp only [if_neg c_37, if_pos c_38]) (by simp only [if_neg c_37, if_pos c_38]) (by simp only [if_neg c_37, if_pos c_38])
                · -- not
                  refine gw_iload S dc_Mod_walk_383 15 rfl ?_
                  refine gw_iload S dc_Mod_walk_385 16 rfl ?_
                  refine gw_iaddN (a := q2) (b := ln) S dc_Mod_walk_387 ?_
                  refine gw_istore (lv' := [(7, .int (nI (q2 + ln))), (5, .int (nI (dep + 1))), (4, .int (nI q2)), (0, .ref mo), (1, .int (nI ar)), (2, .int tg), (3, .int (nI (n + 1))), (6, .int (nI (Z ar))), (8, .int (nI e2)), (9, .int (nI e3)), (10, .int (if (nI t1) = tg then (if 0 ≤ ft9 then fd else (nI dep)) else (fd))), (11, .int (nI gd)), (12, .int (nI en)), (13, .int (nI (bt M ar p))), (14, .int (nI t1)), (15, .int (nI q2)), (16, .int (nI ln))]) S dc_Mod_walk_388 (by decide) rfl ?_
                  refine gw_goto (tgt := 434) S dc_Mod_walk_390 (by decide) ?_
                  refine gw_drop [3, 4, 5, 6, 2, 1, 7, 0, 8, 9, 10, 11, 12, 13, 14, 15, 16] (lv' := [(0, .ref mo), (1, .int (nI ar)), (2, .int tg), (3, .int (nI (n + 1))), (4, .int (nI q2)), (5, .int (nI (dep + 1))), (6, .int (nI (Z ar))), (7, .int (nI (q2 + ln))), (8, .int (nI e2)), (9, .int (nI e3)), (10, .int (if (nI t1) = tg then (if 0 ≤ ft9 then fd else (nI dep)) else (fd))), (11, .int (nI gd)), (12, .int (nI en)), (13, .int (nI (bt M ar p))), (14, .int (nI t1)), (15, .int (nI q2)), (16, .int (nI ln))]) rfl ?_
                  exact kJ_36 _ _ _ (by simp only [if_pos c_37]) (by simp only [if_pos c_37]) (by simp only [if_pos c_37])
              refine gw_iinc (v := nI (gd + 1)) (lv' := [(11, .int (nI (gd + 1))), (0, .ref mo), (1, .int (nI ar)), (2, .int tg), (3, .int (nI (n + 1))), (4, .int (nI q2)), (5, .int (nI (dep + 1))), (6, .int (nI (Z ar))), (7, .int (nI (if (nI (dep + 1)) = 1 then (q2 + ln) else (e1)))), (8, .int (nI (if (nI (dep + 1)) = 1 then e2 else (if (nI (dep + 1)) = 2 then (q2 + ln) else (e2))))), (9, .int (nI (if (nI (dep + 1)) = 1 then e3 else (if (nI (dep + 1)) = 2 then e3 else (if (nI (dep + 1)) = 3 then (q2 + ln) else (e3)))))), (10, .int (if (nI t1) = tg then (if 0 ≤ ft9 then fd else (nI dep)) else (fd))), (12, .int (nI en)), (13, .int (nI (bt M ar p))), (14, .int (nI t1)), (15, .int (nI q2)), (16, .int (nI ln))]) S dc_Mod_walk_434 11 rfl (nI_add _ 1) (by decide) rfl ?_
              refine gw_goto (tgt := 46) S dc_Mod_walk_437 (by decide) ?_
              refine gw_drop [1, 2, 3, 4, 5, 6, 7, 8, 9, 10, 11, 0] (lv' := [(0, .ref mo), (1, .int (nI ar)), (2, .int tg), (3, .int (nI (n + 1))), (4, .int (nI q2)), (5, .int (nI (dep + 1))), (6, .int (nI (Z ar))), (7, .int (nI (if (nI (dep + 1)) = 1 then (q2 + ln) else (e1)))), (8, .int (nI (if (nI (dep + 1)) = 1 then e2 else (if (nI (dep + 1)) = 2 then (q2 + ln) else (e2))))), (9, .int (nI (if (nI (dep + 1)) = 1 then e3 else (if (nI (dep + 1)) = 2 then e3 else (if (nI (dep + 1)) = 3 then (q2 + ln) else (e3)))))), (10, .int (if (nI t1) = tg then (if 0 ≤ ft9 then fd else (nI dep)) else (fd))), (11, .int (nI (gd + 1)))]) rfl ?_
              refine gw_eq (ws' := [(mo, .inr (9, [.ref xm, .ref xs, .ref xt, .ref xk, .ref xp, .ref xr, .ref xc, .ref xu, .ref xe, .ref xb, .ref xa, .ref xl, .ref xg, .int pl, .int (if (nI t1) = tg then (if 0 ≤ ft9 then ft9 else (nI q2)) else (ft9)), .int (if (nI t1) = tg then (if 0 ≤ ft9 then tw9 else (nI (q2 + ln))) else (tw9)), .int (if fd < 0 then in9 else (if (nI dep) = (fd + 1) then (if (nI p) < ft9 then in9 else (if tw9 ≤ (nI p) then in9 else (in9 + 1))) else (in9))), .int (nI p), .int py, .ref x1, .ref x2, .ref x3, .ref x4, .int ap, .ref xq, .int qd, .ref xz, .ref xd, .int ds, .int fl, .int (nI (if (nI (dep + 1)) = 1 then u4 else (if (nI (dep + 1)) = 2 then u4 else (if (nI (dep + 1)) = 3 then u4 else (q2 + ln)))))])), (xm, .inl (cA 0, 300, .inl (nJ M))), (xs, .inl (cA 0, 5, .inl (nJ Z)))]) (lv' := [(0, .ref mo), (1, .int (nI ar)), (2, .int tg), (3, .int (nI (n + 1))), (4, .int (nI q2)), (5, .int (nI (dep + 1))), (6, .int (nI (Z ar))), (7, .int (nI (if (nI (dep + 1)) = 1 then (q2 + ln) else (e1)))), (8, .int (nI (if (nI (dep + 1)) = 1 then e2 else (if (nI (dep + 1)) = 2 then (q2 + ln) else (e2))))), (9, .int (nI (if (nI (dep + 1)) = 1 then e3 else (if (nI (dep + 1)) = 2 then e3 else (if (nI (dep + 1)) = 3 then (q2 + ln) else (e3)))))), (10, .int (if (nI t1) = tg then (if 0 ≤ ft9 then fd else (nI dep)) else (fd))), (11, .int (nI (gd + 1)))]) (st' := []) (pc' := 46) rfl rfl rfl rfl ?_
              have m9 : 400 - (gd + 1) < 400 - gd := (by omega)
              exact ih_1 (q9, n + 1, q2, dep + 1, if (nI (dep + 1)) = 1 then (q2 + ln) else (e1), if (nI (dep + 1)) = 1 then e2 else (if (nI (dep + 1)) = 2 then (q2 + ln) else (e2)), if (nI (dep + 1)) = 1 then e3 else (if (nI (dep + 1)) = 2 then e3 else (if (nI (dep + 1)) = 3 then (q2 + ln) else (e3))), if (nI (dep + 1)) = 1 then u4 else (if (nI (dep + 1)) = 2 then u4 else (if (nI (dep + 1)) = 3 then u4 else (q2 + ln))), gd + 1, if (nI t1) = tg then (if 0 ≤ ft9 then fd else (nI dep)) else (fd), if (nI t1) = tg then (if 0 ≤ ft9 then ft9 else (nI q2)) else (ft9), if (nI t1) = tg then (if 0 ≤ ft9 then tw9 else (nI (q2 + ln))) else (tw9), if fd < 0 then in9 else (if (nI dep) = (fd + 1) then (if (nI p) < ft9 then in9 else (if tw9 ≤ (nI p) then in9 else (in9 + 1))) else (in9)), nI p) ⟨by omega, hm9.trans (Mod_walk_n (by simp only [Mod_walk_s, ← hen, ← ht1, ← hq1, ← hq2, ← hln, if_neg c_2, if_neg c_8, if_pos c_9, if_neg hb_17, if_pos c_18, if_neg hb_25, if_pos c_26, if_neg c_35, if_true, if_false])), (wk_push hI9 hd9 (Nat.le_add_right _ _) hql), by omega⟩ m9
            · -- not
              refine gw_iload S dc_Mod_walk_360 15 rfl ?_
              refine gw_iload S dc_Mod_walk_362 16 rfl ?_
              refine gw_iaddN (a := q2) (b := ln) S dc_Mod_walk_364 ?_
              refine gw_istore (lv' := [(4, .int (nI (q2 + ln))), (0, .ref mo), (1, .int (nI ar)), (2, .int tg), (3, .int (nI (n + 1))), (5, .int (nI dep)), (6, .int (nI (Z ar))), (7, .int (nI e1)), (8, .int (nI e2)), (9, .int (nI e3)), (10, .int (if (nI t1) = tg then (if 0 ≤ ft9 then fd else (nI dep)) else (fd))), (11, .int (nI gd)), (12, .int (nI en)), (13, .int (nI (bt M ar p))), (14, .int (nI t1)), (15, .int (nI q2)), (16, .int (nI ln))]) S dc_Mod_walk_365 (by decide) rfl ?_
              refine gw_goto (tgt := 434) S dc_Mod_walk_367 (by decide) ?_
              refine gw_iinc (v := nI (gd + 1)) (lv' := [(11, .int (nI (gd + 1))), (4, .int (nI (q2 + ln))), (0, .ref mo), (1, .int (nI ar)), (2, .int tg), (3, .int (nI (n + 1))), (5, .int (nI dep)), (6, .int (nI (Z ar))), (7, .int (nI e1)), (8, .int (nI e2)), (9, .int (nI e3)), (10, .int (if (nI t1) = tg then (if 0 ≤ ft9 then fd else (nI dep)) else (fd))), (12, .int (nI en)), (13, .int (nI (bt M ar p))), (14, .int (nI t1)), (15, .int (nI q2)), (16, .int (nI ln))]) S dc_Mod_walk_434 11 rfl (nI_add _ 1) (by decide) rfl ?_
              refine gw_goto (tgt := 46) S dc_Mod_walk_437 (by decide) ?_
              refine gw_drop [2, 3, 4, 5, 1, 6, 7, 8, 9, 10, 11, 0] (lv' := [(0, .ref mo), (1, .int (nI ar)), (2, .int tg), (3, .int (nI (n + 1))), (4, .int (nI (q2 + ln))), (5, .int (nI dep)), (6, .int (nI (Z ar))), (7, .int (nI e1)), (8, .int (nI e2)), (9, .int (nI e3)), (10, .int (if (nI t1) = tg then (if 0 ≤ ft9 then fd else (nI dep)) else (fd))), (11, .int (nI (gd + 1)))]) rfl ?_
              refine gw_eq (ws' := [(mo, .inr (9, [.ref xm, .ref xs, .ref xt, .ref xk, .ref xp, .ref xr, .ref xc, .ref xu, .ref xe, .ref xb, .ref xa, .ref xl, .ref xg, .int pl, .int (if (nI t1) = tg then (if 0 ≤ ft9 then ft9 else (nI q2)) else (ft9)), .int (if (nI t1) = tg then (if 0 ≤ ft9 then tw9 else (nI (q2 + ln))) else (tw9)), .int (if fd < 0 then in9 else (if (nI dep) = (fd + 1) then (if (nI p) < ft9 then in9 else (if tw9 ≤ (nI p) then in9 else (in9 + 1))) else (in9))), .int (nI p), .int py, .ref x1, .ref x2, .ref x3, .ref x4, .int ap, .ref xq, .int qd, .ref xz, .ref xd, .int ds, .int fl, .int (nI u4)])), (xm, .inl (cA 0, 300, .inl (nJ M))), (xs, .inl (cA 0, 5, .inl (nJ Z)))]) (lv' := [(0, .ref mo), (1, .int (nI ar)), (2, .int tg), (3, .int (nI (n + 1))), (4, .int (nI (q2 + ln))), (5, .int (nI dep)), (6, .int (nI (Z ar))), (7, .int (nI e1)), (8, .int (nI e2)), (9, .int (nI e3)), (10, .int (if (nI t1) = tg then (if 0 ≤ ft9 then fd else (nI dep)) else (fd))), (11, .int (nI (gd + 1)))]) (st' := []) (pc' := 46) rfl rfl rfl rfl ?_
              have m9 : 400 - (gd + 1) < 400 - gd := (by omega)
              exact ih_1 (q9, n + 1, q2 + ln, dep, e1, e2, e3, u4, gd + 1, if (nI t1) = tg then (if 0 ≤ ft9 then fd else (nI dep)) else (fd), if (nI t1) = tg then (if 0 ≤ ft9 then ft9 else (nI q2)) else (ft9), if (nI t1) = tg then (if 0 ≤ ft9 then tw9 else (nI (q2 + ln))) else (tw9), if fd < 0 then in9 else (if (nI dep) = (fd + 1) then (if (nI p) < ft9 then in9 else (if tw9 ≤ (nI p) then in9 else (in9 + 1))) else (in9)), nI p) ⟨by omega, hm9.trans (Mod_walk_n (by simp only [Mod_walk_s, ← hen, ← ht1, ← hq1, ← hq2, ← hln, if_neg c_2, if_neg c_8, if_pos c_9, if_neg hb_17, if_pos c_18, if_neg hb_25, if_pos c_26, if_pos c_35, if_true, if_false])), (wk_adv hI9 hql), by omega⟩ m9
          · -- not
            refine gw_iconst (v := -1) S dc_Mod_walk_273 (by decide) ?_
            have r9 : Mod_walk_r bd t4 M Z ar tg = (-1, ft9, tw9, in9, nI p, u4) := (hm9.trans (Mod_walk_d (by simp only [Mod_walk_s, ← hen, ← ht1, ← hq1, ← hq2, ← hln, if_neg c_2, if_neg c_8, if_pos c_9, if_neg hb_17, if_pos c_18, if_neg hb_25, if_neg c_26, if_true, if_false])))
            exact gw_iret (w := [(mo, .inr (9, [.ref xm, .ref xs, .ref xt, .ref xk, .ref xp, .ref xr, .ref xc, .ref xu, .ref xe, .ref xb, .ref xa, .ref xl, .ref xg, .int pl, .int ft9, .int tw9, .int in9, .int (nI p), .int py, .ref x1, .ref x2, .ref x3, .ref x4, .int ap, .ref xq, .int qd, .ref xz, .ref xd, .int ds, .int fl, .int (nI u4)])), (xm, .inl (cA 0, 300, .inl (nJ M))), (xs, .inl (cA 0, 5, .inl (nJ Z)))]) S g_r g_k  [0, 1, 2] rfl (by decide) ⟨by first | rw [r9] | rfl, by first | rw [r9] | rfl⟩ dc_Mod_walk_274
        · -- not
          refine gw_iconst (v := -1) S dc_Mod_walk_213 (by decide) ?_
          have r9 : Mod_walk_r bd t4 M Z ar tg = (-1, ft9, tw9, in9, nI p, u4) := (hm9.trans (Mod_walk_d (by simp only [Mod_walk_s, ← hen, ← ht1, ← hq1, if_neg c_2, if_neg c_8, if_pos c_9, if_neg hb_17, if_neg c_18, if_true, if_false])))
          exact gw_iret (w := [(mo, .inr (9, [.ref xm, .ref xs, .ref xt, .ref xk, .ref xp, .ref xr, .ref xc, .ref xu, .ref xe, .ref xb, .ref xa, .ref xl, .ref xg, .int pl, .int ft9, .int tw9, .int in9, .int (nI p), .int py, .ref x1, .ref x2, .ref x3, .ref x4, .int ap, .ref xq, .int qd, .ref xz, .ref xd, .int ds, .int fl, .int (nI u4)])), (xm, .inl (cA 0, 300, .inl (nJ M))), (xs, .inl (cA 0, 5, .inl (nJ Z)))]) S g_r g_k  [0, 1, 2] rfl (by decide) ⟨by first | rw [r9] | rfl, by first | rw [r9] | rfl⟩ dc_Mod_walk_214
      · -- not
        refine gw_iconst (v := -1) S dc_Mod_walk_135 (by decide) ?_
        have r9 : Mod_walk_r bd t4 M Z ar tg = (-1, ft9, tw9, in9, nI p, u4) := (hm9.trans (Mod_walk_d (by simp only [Mod_walk_s, ← hen, if_neg c_2, if_neg c_8, if_neg c_9, if_true, if_false])))
        exact gw_iret (w := [(mo, .inr (9, [.ref xm, .ref xs, .ref xt, .ref xk, .ref xp, .ref xr, .ref xc, .ref xu, .ref xe, .ref xb, .ref xa, .ref xl, .ref xg, .int pl, .int ft9, .int tw9, .int in9, .int (nI p), .int py, .ref x1, .ref x2, .ref x3, .ref x4, .int ap, .ref xq, .int qd, .ref xz, .ref xd, .int ds, .int fl, .int (nI u4)])), (xm, .inl (cA 0, 300, .inl (nJ M))), (xs, .inl (cA 0, 5, .inl (nJ Z)))]) S g_r g_k  [0, 1, 2] rfl (by decide) ⟨by first | rw [r9] | rfl, by first | rw [r9] | rfl⟩ dc_Mod_walk_136
    · -- not
      refine gw_iload S dc_Mod_walk_110 6 rfl ?_
      refine gw_if_ne (tgt := 117) S dc_Mod_walk_112 (by decide) (fun c_40 => ?_) (fun c_40 => ?_)
      · -- taken
        refine gw_iinc (v := nI (dep - 1)) (lv' := [(5, .int (nI (dep - 1))), (12, .int (nI en)), (0, .ref mo), (1, .int (nI ar)), (2, .int tg), (3, .int (nI n)), (4, .int (nI p)), (6, .int (nI (Z ar))), (7, .int (nI e1)), (8, .int (nI e2)), (9, .int (nI e3)), (10, .int fd), (11, .int (nI gd))]) S dc_Mod_walk_117 6 rfl (sb_m1 (Nat.pos_of_ne_zero (fun q => c_40 (by rw [q]; rfl)))) (by decide) rfl ?_
        refine gw_goto (tgt := 434) S dc_Mod_walk_120 (by decide) ?_
        refine gw_iinc (v := nI (gd + 1)) (lv' := [(11, .int (nI (gd + 1))), (5, .int (nI (dep - 1))), (12, .int (nI en)), (0, .ref mo), (1, .int (nI ar)), (2, .int tg), (3, .int (nI n)), (4, .int (nI p)), (6, .int (nI (Z ar))), (7, .int (nI e1)), (8, .int (nI e2)), (9, .int (nI e3)), (10, .int fd)]) S dc_Mod_walk_434 12 rfl (nI_add _ 1) (by decide) rfl ?_
        refine gw_goto (tgt := 46) S dc_Mod_walk_437 (by decide) ?_
        refine gw_drop [3, 4, 5, 6, 7, 1, 8, 9, 10, 11, 12, 0] (lv' := [(0, .ref mo), (1, .int (nI ar)), (2, .int tg), (3, .int (nI n)), (4, .int (nI p)), (5, .int (nI (dep - 1))), (6, .int (nI (Z ar))), (7, .int (nI e1)), (8, .int (nI e2)), (9, .int (nI e3)), (10, .int fd), (11, .int (nI (gd + 1)))]) rfl ?_
        have m9 : 400 - (gd + 1) < 400 - gd := (by omega)
        exact ih_1 (q9, n, p, dep - 1, e1, e2, e3, u4, gd + 1, fd, ft9, tw9, in9, bd9) ⟨by omega, hm9.trans (Mod_walk_n (by simp only [Mod_walk_s, ← hen, if_neg c_2, if_pos c_8, if_neg c_40, if_true, if_false])), (wk_pop hI9 (fun q => c_40 (by rw [q]; rfl))), by omega⟩ m9
      · -- not
        refine gw_iload_n S dc_Mod_walk_115 rfl 4 rfl ?_
        have r9 : Mod_walk_r bd t4 M Z ar tg = (nI n, ft9, tw9, in9, bd9, u4) := (hm9.trans (Mod_walk_d (by simp only [Mod_walk_s, ← hen, if_neg c_2, if_pos c_8, if_pos c_40, if_true, if_false])))
        exact gw_iret (w := [(mo, .inr (9, [.ref xm, .ref xs, .ref xt, .ref xk, .ref xp, .ref xr, .ref xc, .ref xu, .ref xe, .ref xb, .ref xa, .ref xl, .ref xg, .int pl, .int ft9, .int tw9, .int in9, .int bd9, .int py, .ref x1, .ref x2, .ref x3, .ref x4, .int ap, .ref xq, .int qd, .ref xz, .ref xd, .int ds, .int fl, .int (nI u4)])), (xm, .inl (cA 0, 300, .inl (nJ M))), (xs, .inl (cA 0, 5, .inl (nJ Z)))]) S g_r g_k  [0, 1, 2] rfl (by decide) ⟨by first | rw [r9] | rfl, by first | rw [r9] | rfl⟩ dc_Mod_walk_116
