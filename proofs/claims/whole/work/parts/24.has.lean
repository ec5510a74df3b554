section GX
variable {p : Program} {l : Launch} {e : Env} {R : Room} {s : State} {m : MethodId} {args : Array Value} {below : List Frame} {meth : Method} {c : Code} {cells slots : Nat} {Q : State → Prop} {cc : ByteArray} {nL pc : Nat} {Ts : List Cond} {own : String} {D : va_G} {cl : List vw_C} {tys : List (ClassId × FieldType)} {A : Nat → Prop} {I : Heap → List Loc → Prop} {H0 : Heap} {ws : va_W} {lv : List (Nat × Value)} {st : List Value}
theorem gw_ialdX (S : CallFix p m c cc nL s args Ts own) {a : Nat} (hK : va_K D cl tys s) (q0 t0 : Nat) {cA : ClassId} {n : Nat} {f : Nat → Int32} {X : Nat} (ha : ws[q0]? = some (a, .inl (cA, n, .inl f))) (ht : tys[t0]? = some (cA, .int)) (hX : X < n) (hn : n < 2 ^ 31) (d : decode cc pc = .ok (.iaload, 1)) (k : gw_G p l e R s m args below meth c D cl A I cells slots nL Q ws lv (.int (f X) :: st) (pc + 1)) : gw_G p l e R s m args below meth c D cl A I cells slots nL Q ws lv (.int (nI X) :: .ref a :: st) pc := by
  refine gw_iald S hK q0 t0 ha ht (vp_in_nI hX hn) d ?_
  rw [nI_clamp (by omega)]
  exact k
theorem gw_zaldX (S : CallFix p m c cc nL s args Ts own) {a : Nat} (hK : va_K D cl tys s) (q0 t0 : Nat) {cA : ClassId} {n : Nat} {f : Nat → Int32} {X : Nat} (ha : ws[q0]? = some (a, .inl (cA, n, .inl f))) (ht : tys[t0]? = some (cA, .boolean)) (hX : X < n) (hn : n < 2 ^ 31) (d : decode cc pc = .ok (.baload, 1)) (k : gw_G p l e R s m args below meth c D cl A I cells slots nL Q ws lv (.int (f X) :: st) (pc + 1)) : gw_G p l e R s m args below meth c D cl A I cells slots nL Q ws lv (.int (nI X) :: .ref a :: st) pc := by
  refine gw_zald S hK q0 t0 ha ht (vp_in_nI hX hn) d ?_
  rw [nI_clamp (by omega)]
  exact k
theorem gw_iastX (S : CallFix p m c cc nL s args Ts own) {a : Nat} (hK : va_K D cl tys s) (q0 t0 : Nat) {cA : ClassId} {n : Nat} {ws' : va_W} {f : Nat → Int32} {X : Nat} {x : Int32} (ha : ws[q0]? = some (a, .inl (cA, n, .inl f))) (ht : tys[t0]? = some (cA, .int)) (hX : X < n) (hn : n < 2 ^ 31) (hw : ws.set q0 (a, .inl (cA, n, .inl (upd f X x))) = ws') (d : decode cc pc = .ok (.iastore, 1)) (k : gw_G p l e R s m args below meth c D cl A (va_S A H0) cells slots nL Q ws' lv st (pc + 1)) : gw_G p l e R s m args below meth c D cl A (va_S A H0) cells slots nL Q ws lv (.int x :: .int (nI X) :: .ref a :: st) pc := by
  refine gw_iast S hK q0 t0 ha ht (vp_in_nI hX hn) (ws' := ws') ?_ d k
  rw [nI_clamp (by omega)]
  exact hw
theorem gw_zastX (S : CallFix p m c cc nL s args Ts own) {a : Nat} (hK : va_K D cl tys s) (q0 t0 : Nat) {cA : ClassId} {n : Nat} {ws' : va_W} {f : Nat → Int32} {X : Nat} {x : Int32} (ha : ws[q0]? = some (a, .inl (cA, n, .inl f))) (ht : tys[t0]? = some (cA, .boolean)) (hX : X < n) (hn : n < 2 ^ 31) (hw : ws.set q0 (a, .inl (cA, n, .inl (upd f X (vp_nar .boolean x)))) = ws') (d : decode cc pc = .ok (.bastore, 1)) (k : gw_G p l e R s m args below meth c D cl A (va_S A H0) cells slots nL Q ws' lv st (pc + 1)) : gw_G p l e R s m args below meth c D cl A (va_S A H0) cells slots nL Q ws lv (.int x :: .int (nI X) :: .ref a :: st) pc := by
  refine gw_zast S hK q0 t0 ha ht (vp_in_nI hX hn) (ws' := ws') ?_ d k
  rw [nI_clamp (by omega)]
  exact hw
end GX
noncomputable def f_Mod_has (bd : Int32) (t4 : Nat) (M : Nat → Nat) (Z : Nat → Nat) (ar : Nat) (tg : Int32) : Int32 := if ((Mod_walk_r bd t4 M Z ar tg).1) < 0 then 0 else (if ((Mod_walk_r bd t4 M Z ar tg).2.1) < 0 then 0 else (1))
theorem b_Mod_has (bd : Int32) (t4 : Nat) (M : Nat → Nat) (Z : Nat → Nat) (ar : Nat) (tg : Int32) : f_Mod_has bd t4 M Z ar tg = 0 ∨ f_Mod_has bd t4 M Z ar tg = 1 := by
  unfold f_Mod_has
  exact (bo_ite (Or.inl rfl) (bo_ite (Or.inl rfl) (Or.inr rfl)))
set_option maxRecDepth 100000 in
set_option maxHeartbeats 4000000 in
theorem c_Mod_has (l : Launch) (D : va_G) (cA : Nat → ClassId) (sz : Nat) (mo : Nat) (xm : Nat) (xs : Nat) (xt : Nat) (xk : Nat) (xp : Nat) (xr : Nat) (xc : Nat) (xu : Nat) (xe : Nat) (xb : Nat) (xa : Nat) (xl : Nat) (xg : Nat) (x1 : Nat) (x2 : Nat) (x3 : Nat) (x4 : Nat) (xq : Nat) (xz : Nat) (xd : Nat) (pl : Int32) (ft : Int32) (tw : Int32) (inn : Int32) (bd : Int32) (py : Int32) (ap : Int32) (qd : Int32) (ds : Int32) (fl : Int32) (t4 : Nat) (M : Nat → Nat) (Z : Nat → Nat) (ar : Nat) (tg : Int32) (har : ar ≤ 4) (hZ : Z ar ≤ 60) (hB : ∀ j, M j ≤ 255) : ct_M l D cA yn_Mod_has cd_Mod_has 3 0 0 sz [.ref mo, .int (nI ar), .int tg] [(mo, .inr (9, [.ref xm, .ref xs, .ref xt, .ref xk, .ref xp, .ref xr, .ref xc, .ref xu, .ref xe, .ref xb, .ref xa, .ref xl, .ref xg, .int pl, .int ft, .int tw, .int inn, .int bd, .int py, .ref x1, .ref x2, .ref x3, .ref x4, .int ap, .ref xq, .int qd, .ref xz, .ref xd, .int ds, .int fl, .int (nI t4)])), (xm, .inl (cA 0, 300, .inl (nJ M))), (xs, .inl (cA 0, 5, .inl (nJ Z)))] (fun v_ w_ => v_ = some (.int (f_Mod_has bd t4 M Z ar tg)) ∧ w_ = [(mo, .inr (9, [.ref xm, .ref xs, .ref xt, .ref xk, .ref xp, .ref xr, .ref xc, .ref xu, .ref xe, .ref xb, .ref xa, .ref xl, .ref xg, .int pl, .int ((Mod_walk_r bd t4 M Z ar tg).2.1), .int ((Mod_walk_r bd t4 M Z ar tg).2.2.1), .int ((Mod_walk_r bd t4 M Z ar tg).2.2.2.1), .int ((Mod_walk_r bd t4 M Z ar tg).2.2.2.2.1), .int py, .ref x1, .ref x2, .ref x3, .ref x4, .int ap, .ref xq, .int qd, .ref xz, .ref xd, .int ds, .int fl, .int (nI ((Mod_walk_r bd t4 M Z ar tg).2.2.2.2.2))])), (xm, .inl (cA 0, 300, .inl (nJ M))), (xs, .inl (cA 0, 5, .inl (nJ Z)))]) := by
  refine gw_met (by decide) rfl (Nat.le_of_ble_eq_true rfl) ?_
  intro p_ e_ s_ m_ args_ below_ meth_ c_ A_ S g_r g_k g_n hK hA
  refine gw_eq (ws' := [(mo, .inr (9, [.ref xm, .ref xs, .ref xt, .ref xk, .ref xp, .ref xr, .ref xc, .ref xu, .ref xe, .ref xb, .ref xa, .ref xl, .ref xg, .int pl, .int ft, .int tw, .int inn, .int bd, .int py, .ref x1, .ref x2, .ref x3, .ref x4, .int ap, .ref xq, .int qd, .ref xz, .ref xd, .int ds, .int fl, .int (nI t4)])), (xm, .inl (cA 0, 300, .inl (nJ M))), (xs, .inl (cA 0, 5, .inl (nJ Z)))]) (lv' := [(0, .ref mo), (1, .int (nI ar)), (2, .int tg)]) (st' := []) (pc' := 0) rfl rfl rfl rfl ?_
  refine gw_aload_n S dc_Mod_has_0 rfl 0 rfl ?_
  refine gw_iload_n S dc_Mod_has_1 rfl 1 rfl ?_
  refine gw_iload_n S dc_Mod_has_2 rfl 2 rfl ?_
  refine gw_callV (As := [.int (nI ar), .int tg]) (st := []) (wr := []) S hK hA (fun sz => c_Mod_walk l D cA sz mo xm xs xt xk xp xr xc xu xe xb xa xl xg x1 x2 x3 x4 xq xz xd pl ft tw inn bd py ap qd ds fl t4 M Z ar tg (by assumption) (by assumption) (by assumption)) (cw_Mod_94 S.2.2.2.2 rfl rfl ⟨Nat.le_of_ble_eq_true rfl, Nat.le_of_ble_eq_true rfl⟩) [0, 1, 2] [] rfl (by decide) rfl (by decide) (by decide) 0 rfl rfl rfl rfl rfl (Nat.le_of_ble_eq_true rfl) dc_Mod_has_3 ⟨Nat.le_of_ble_eq_true rfl, Nat.le_of_ble_eq_true rfl⟩ ?_
  rintro _ _ ⟨rfl, rfl⟩
  refine gw_eq (ws' := [(mo, .inr (9, [.ref xm, .ref xs, .ref xt, .ref xk, .ref xp, .ref xr, .ref xc, .ref xu, .ref xe, .ref xb, .ref xa, .ref xl, .ref xg, .int pl, .int ((Mod_walk_r bd t4 M Z ar tg).2.1), .int ((Mod_walk_r bd t4 M Z ar tg).2.2.1), .int ((Mod_walk_r bd t4 M Z ar tg).2.2.2.1), .int ((Mod_walk_r bd t4 M Z ar tg).2.2.2.2.1), .int py, .ref x1, .ref x2, .ref x3, .ref x4, .int ap, .ref xq, .int qd, .ref xz, .ref xd, .int ds, .int fl, .int (nI ((Mod_walk_r bd t4 M Z ar tg).2.2.2.2.2))])), (xm, .inl (cA 0, 300, .inl (nJ M))), (xs, .inl (cA 0, 5, .inl (nJ Z)))]) (lv' := [(0, .ref mo), (1, .int (nI ar)), (2, .int tg)]) (st' := [.int ((Mod_walk_r bd t4 M Z ar tg).1)]) (pc' := 6) rfl rfl rfl rfl ?_
  refine gw_if_lt (tgt := 20) S dc_Mod_has_6 (by decide) (fun c_1 => ?_) (fun c_1 => ?_)
  · -- taken
    refine gw_iconst (v := 0) S dc_Mod_has_20 (by decide) ?_
    exact gw_zret (w := [(mo, .inr (9, [.ref xm, .ref xs, .ref xt, .ref xk, .ref xp, .ref xr, .ref xc, .ref xu, .ref xe, .ref xb, .ref xa, .ref xl, .ref xg, .int pl, .int ((Mod_walk_r bd t4 M Z ar tg).2.1), .int ((Mod_walk_r bd t4 M Z ar tg).2.2.1), .int ((Mod_walk_r bd t4 M Z ar tg).2.2.2.1), .int ((Mod_walk_r bd t4 M Z ar tg).2.2.2.2.1), .int py, .ref x1, .ref x2, .ref x3, .ref x4, .int ap, .ref xq, .int qd, .ref xz, .ref xd, .int ds, .int fl, .int (nI ((Mod_walk_r bd t4 M Z ar tg).2.2.2.2.2))])), (xm, .inl (cA 0, 300, .inl (nJ M))), (xs, .inl (cA 0, 5, .inl (nJ Z)))]) S g_r g_k rfl [0, 1, 2] rfl (by decide) ⟨(by simp only [f_Mod_has, if_pos c_1]), (by simp only [f_Mod_has, if_pos c_1])⟩ dc_Mod_has_21
  · -- not
    refine gw_aload_n S dc_Mod_has_9 rfl 0 rfl ?_
    refine gw_get S hK.1 ic_Mod rfl 14 (by decide) (gw_lk S mw_794) 0 rfl rfl dc_Mod_has_10 ?_
    refine gw_if_lt (tgt := 20) S dc_Mod_has_13 (by decide) (fun c_2 => ?_) (fun c_2 => ?_)
    · -- taken
      refine gw_iconst (v := 0) S dc_Mod_has_20 (by decide) ?_
      exact gw_zret (w := [(mo, .inr (9, [.ref xm, .ref xs, .ref xt, .ref xk, .ref xp, .ref xr, .ref xc, .ref xu, .ref xe, .ref xb, .ref xa, .ref xl, .ref xg, .int pl, .int ((Mod_walk_r bd t4 M Z ar tg).2.1), .int ((Mod_walk_r bd t4 M Z ar tg).2.2.1), .int ((Mod_walk_r bd t4 M Z ar tg).2.2.2.1), .int ((Mod_walk_r bd t4 M Z ar tg).2.2.2.2.1), .int py, .ref x1, .ref x2, .ref x3, .ref x4, .int ap, .ref xq, .int qd, .ref xz, .ref xd, .int ds, .int fl, .int (nI ((Mod_walk_r bd t4 M Z ar tg).2.2.2.2.2))])), (xm, .inl (cA 0, 300, .inl (nJ M))), (xs, .inl (cA 0, 5, .inl (nJ Z)))]) S g_r g_k rfl [0, 1, 2] rfl (by decide) ⟨(by simp only [f_Mod_has, if_neg c_1, if_pos c_2]), (by simp only [f_Mod_has, if_neg c_1, if_pos c_2])⟩ dc_Mod_has_21
    · -- not
      refine gw_iconst (v := 1) S dc_Mod_has_16 (by decide) ?_
      refine gw_goto (tgt := 21) S dc_Mod_has_17 (by decide) ?_
      exact gw_zret (w := [(mo, .inr (9, [.ref xm, .ref xs, .ref xt, .ref xk, .ref xp, .ref xr, .ref xc, .ref xu, .ref xe, .ref xb, .ref xa, .ref xl, .ref xg, .int pl, .int ((Mod_walk_r bd t4 M Z ar tg).2.1), .int ((Mod_walk_r bd t4 M Z ar tg).2.2.1), .int ((Mod_walk_r bd t4 M Z ar tg).2.2.2.1), .int ((Mod_walk_r bd t4 M Z ar tg).2.2.2.2.1), .int py, .ref x1, .ref x2, .ref x3, .ref x4, .int ap, .ref xq, .int qd, .ref xz, .ref xd, .int ds, .int fl, .int (nI ((Mod_walk_r bd t4 M Z ar tg).2.2.2.2.2))])), (xm, .inl (cA 0, 300, .inl (nJ M))), (xs, .inl (cA 0, 5, .inl (nJ Z)))]) S g_r g_k rfl [0, 1, 2] rfl (by decide) ⟨(by simp only [f_Mod_has, if_neg c_1, if_neg c_2]), (by simp only [f_Mod_has, if_neg c_1, if_neg c_2])⟩ dc_Mod_has_21
set_option maxRecDepth 100000 in
set_option maxHeartbeats 4000000 in
theorem c_Mod_bytes (l : Launch) (D : va_G) (cA : Nat → ClassId) (mo : Nat) (xm : Nat) (xs : Nat) (xt : Nat) (xk : Nat) (xp : Nat) (xr : Nat) (xc : Nat) (xu : Nat) (xe : Nat) (xb : Nat) (xa : Nat) (xl : Nat) (xg : Nat) (x1 : Nat) (x2 : Nat) (x3 : Nat) (x4 : Nat) (xq : Nat) (xz : Nat) (xd : Nat) (pl : Int32) (ft : Int32) (tw : Int32) (inn : Int32) (bd : Int32) (py : Int32) (ap : Int32) (qd : Int32) (ds : Int32) (fl : Int32) (t4 : Nat)  : ct_R l D cA yn_Mod_bytes cd_Mod_bytes 1 [.ref mo] [(mo, .inr (9, [.ref xm, .ref xs, .ref xt, .ref xk, .ref xp, .ref xr, .ref xc, .ref xu, .ref xe, .ref xb, .ref xa, .ref xl, .ref xg, .int pl, .int ft, .int tw, .int inn, .int bd, .int py, .ref x1, .ref x2, .ref x3, .ref x4, .int ap, .ref xq, .int qd, .ref xz, .ref xd, .int ds, .int fl, .int (nI t4)]))] (fun v_ => v_ = some (.int (tw - ft))) := by
  refine gw_metR (by decide) rfl (Nat.le_of_ble_eq_true rfl) ?_
  intro p_ e_ s_ m_ args_ below_ meth_ c_ S g_r g_k hK
  refine gw_eq (ws' := [(mo, .inr (9, [.ref xm, .ref xs, .ref xt, .ref xk, .ref xp, .ref xr, .ref xc, .ref xu, .ref xe, .ref xb, .ref xa, .ref xl, .ref xg, .int pl, .int ft, .int tw, .int inn, .int bd, .int py, .ref x1, .ref x2, .ref x3, .ref x4, .int ap, .ref xq, .int qd, .ref xz, .ref xd, .int ds, .int fl, .int (nI t4)]))]) (lv' := [(0, .ref mo)]) (st' := []) (pc' := 0) rfl rfl rfl rfl ?_
  refine gw_aload_n S dc_Mod_bytes_0 rfl 0 rfl ?_
  refine gw_get S hK.1 ic_Mod rfl 15 (by decide) (gw_lk S mw_795) 0 rfl rfl dc_Mod_bytes_1 ?_
  refine gw_aload_n S dc_Mod_bytes_4 rfl 0 rfl ?_
  refine gw_get S hK.1 ic_Mod rfl 14 (by decide) (gw_lk S mw_794) 0 rfl rfl dc_Mod_bytes_5 ?_
  refine gw_isub S dc_Mod_bytes_8 ?_
  exact gw_iretR S g_r g_k  rfl dc_Mod_bytes_9
