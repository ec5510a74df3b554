/-- an int array that holds numbers -/
def nJ (M : Nat → Nat) : Nat → Int32 := fun j => nI (M j)
theorem gw_ialdN {p : Program} {l : Launch} {e : Env} {R : Room} {s : State} {m : MethodId} {args : Array Value} {below : List Frame} {meth : Method} {c : Code} {cells slots : Nat} {Q : State → Prop} {cc : ByteArray} {nL pc : Nat} {Ts : List Cond} {own : String} {D : va_G} {cl : List vw_C} {tys : List (ClassId × FieldType)} {A : Nat → Prop} {I : Heap → List Loc → Prop} {ws : va_W} {lv : List (Nat × Value)} {st : List Value} (S : CallFix p m c cc nL s args Ts own) {a : Nat} (hK : va_K D cl tys s) (q0 t0 : Nat) {cA : ClassId} {n : Nat} {M : Nat → Nat} {X : Nat} (ha : ws[q0]? = some (a, .inl (cA, n, .inl (nJ M)))) (ht : tys[t0]? = some (cA, .int)) (hX : X < n) (hn : n < 2 ^ 31) (d : decode cc pc = .ok (.iaload, 1)) (k : gw_G p l e R s m args below meth c D cl A I cells slots nL Q ws lv (.int (nI (M X)) :: st) (pc + 1)) : gw_G p l e R s m args below meth c D cl A I cells slots nL Q ws lv (.int (nI X) :: .ref a :: st) pc := by
  refine gw_iald S hK q0 t0 ha ht (vp_in_nI hX hn) d ?_
  rw [show nJ M (nI X).toNatClampNeg = nI (M X) by rw [nI_clamp (by omega)]; rfl]
  exact k
def bt (M : Nat → Nat) (ar i : Nat) : Nat := M (60 * ar + i)
/-- an object's head: its tag, where the length stands, where the value begins, how long it is -/
def wk_t1 (M : Nat → Nat) (ar p : Nat) : Nat := if ((nI (bt M ar p)) &&& 31) = 31 then ((256 * (bt M ar p)) + (bt M ar (p + 1))) else (bt M ar p)
def wk_q1 (M : Nat → Nat) (ar p : Nat) : Nat := if ((nI (bt M ar p)) &&& 31) = 31 then ((p + 1) + 1) else (p + 1)
def wk_q2 (M : Nat → Nat) (ar q : Nat) : Nat := if (nI (bt M ar q)) ≤ 127 then (q + 1) else ((q + 1) + 1)
def wk_ln (M : Nat → Nat) (ar q : Nat) : Nat := if (nI (bt M ar q)) ≤ 127 then (bt M ar q) else (bt M ar (q + 1))
def wk_E (dep e0 e1 e2 e3 t4 : Nat) : Nat := if nI dep = 0 then e0 else (if nI dep = 1 then e1 else (if nI dep = 2 then e2 else (if nI dep = 3 then e3 else (t4))))
theorem wk_E0 {dep e0 e1 e2 e3 t4 : Nat} (h : dep = 0) : wk_E dep e0 e1 e2 e3 t4 = e0 := by subst h; rfl
theorem wk_ne {a b : Nat} (ha : a < 2 ^ 31) (hb : b < 2 ^ 31) (h : a ≠ b) : ¬ nI a = nI b := fun q => h ((nI_eq ha hb).mp q)
theorem wk_E1 {dep e0 e1 e2 e3 t4 : Nat} (h : dep = 1) : wk_E dep e0 e1 e2 e3 t4 = e1 := by subst h; rfl
theorem wk_E2 {dep e0 e1 e2 e3 t4 : Nat} (h : dep = 2) : wk_E dep e0 e1 e2 e3 t4 = e2 := by subst h; rfl
theorem wk_E3 {dep e0 e1 e2 e3 t4 : Nat} (h : dep = 3) : wk_E dep e0 e1 e2 e3 t4 = e3 := by subst h; rfl
theorem wk_E4 {dep e0 e1 e2 e3 t4 : Nat} (h : dep = 4) : wk_E dep e0 e1 e2 e3 t4 = t4 := by subst h; rfl
/-- the walk's ends lie in one another -/
def wk_I (dep p e0 e1 e2 e3 t4 : Nat) : Prop := dep ≤ 4 ∧ e0 ≤ 60 ∧ (1 ≤ dep → e1 ≤ e0) ∧ (2 ≤ dep → e2 ≤ e1) ∧ (3 ≤ dep → e3 ≤ e2) ∧ (4 ≤ dep → t4 ≤ e3) ∧ p ≤ wk_E dep e0 e1 e2 e3 t4
theorem wk_60 {dep p e0 e1 e2 e3 t4 : Nat} (h : wk_I dep p e0 e1 e2 e3 t4) : wk_E dep e0 e1 e2 e3 t4 ≤ 60 := by
  obtain ⟨h0, h1, h2, h3, h4, h5, h6⟩ := h
  rcases (show dep = 0 ∨ dep = 1 ∨ dep = 2 ∨ dep = 3 ∨ dep = 4 by omega) with h | h | h | h | h
  · rw [wk_E0 h]; exact h1
  · rw [wk_E1 h]; omega
  · rw [wk_E2 h]; omega
  · rw [wk_E3 h]; omega
  · rw [wk_E4 h]; omega
theorem wk_pop {dep p e0 e1 e2 e3 t4 : Nat} (h : wk_I dep p e0 e1 e2 e3 t4) (hd : dep ≠ 0) : wk_I (dep - 1) p e0 e1 e2 e3 t4 := by
  obtain ⟨h0, h1, h2, h3, h4, h5, h6⟩ := h
  refine ⟨by omega, h1, fun _ => h2 (by omega), fun _ => h3 (by omega), fun _ => h4 (by omega), fun _ => h5 (by omega), ?_⟩
  rcases (show dep = 1 ∨ dep = 2 ∨ dep = 3 ∨ dep = 4 by omega) with h | h | h | h
  · rw [wk_E1 h] at h6; rw [wk_E0 (by omega)]; have := h2 (by omega); omega
  · rw [wk_E2 h] at h6; rw [wk_E1 (by omega)]; have := h3 (by omega); omega
  · rw [wk_E3 h] at h6; rw [wk_E2 (by omega)]; have := h4 (by omega); omega
  · rw [wk_E4 h] at h6; rw [wk_E3 (by omega)]; have := h5 (by omega); omega
theorem wk_adv {dep p q e0 e1 e2 e3 t4 : Nat} (h : wk_I dep p e0 e1 e2 e3 t4) (hq : q ≤ wk_E dep e0 e1 e2 e3 t4) : wk_I dep q e0 e1 e2 e3 t4 := ⟨h.1, h.2.1, h.2.2.1, h.2.2.2.1, h.2.2.2.2.1, h.2.2.2.2.2.1, hq⟩
theorem wk_push {dep p q r e0 e1 e2 e3 t4 : Nat} (h : wk_I dep p e0 e1 e2 e3 t4) (hd : dep ≤ 3) (hq : q ≤ r) (hr : r ≤ wk_E dep e0 e1 e2 e3 t4) : wk_I (dep + 1) q e0 (if nI (dep + 1) = 1 then r else (e1)) (if nI (dep + 1) = 1 then e2 else (if nI (dep + 1) = 2 then r else (e2))) (if nI (dep + 1) = 1 then e3 else (if nI (dep + 1) = 2 then e3 else (if nI (dep + 1) = 3 then r else (e3)))) (if nI (dep + 1) = 1 then t4 else (if nI (dep + 1) = 2 then t4 else (if nI (dep + 1) = 3 then t4 else (r)))) := by
  obtain ⟨h0, h1, h2, h3, h4, h5, h6⟩ := h
  rcases (show dep = 0 ∨ dep = 1 ∨ dep = 2 ∨ dep = 3 by omega) with h | h | h | h <;> subst h
  · exact ⟨by omega, h1, fun _ => hr, fun z => by omega, fun z => by omega, fun z => by omega, hq⟩
  · exact ⟨by omega, h1, fun _ => h2 (by omega), fun _ => hr, fun z => by omega, fun z => by omega, hq⟩
  · exact ⟨by omega, h1, fun _ => h2 (by omega), fun _ => h3 (by omega), fun _ => hr, fun z => by omega, hq⟩
  · exact ⟨by omega, h1, fun _ => h2 (by omega), fun _ => h3 (by omega), fun _ => h4 (by omega), fun _ => hr, hq⟩
set_option maxRecDepth 100000 in
set_option maxHeartbeats 4000000 in
theorem c_Mod_at (l : Launch) (D : va_G) (cA : Nat → ClassId) (mo : Nat) (xm : Nat) (xs : Nat) (xt : Nat) (xk : Nat) (xp : Nat) (xr : Nat) (xc : Nat) (xu : Nat) (xe : Nat) (xb : Nat) (xa : Nat) (xl : Nat) (xg : Nat) (x1 : Nat) (x2 : Nat) (x3 : Nat) (x4 : Nat) (xq : Nat) (xz : Nat) (xd : Nat) (pl : Int32) (ft : Int32) (tw : Int32) (inn : Int32) (bd : Int32) (py : Int32) (ap : Int32) (qd : Int32) (ds : Int32) (fl : Int32) (t4 : Nat) (M : Nat → Nat) (ar : Nat) (i : Nat) (hi : 60 * ar + i < 300) : ct_R l D cA yn_Mod_at cd_Mod_at 1 [.ref mo, .int (nI ar), .int (nI i)] [(mo, .inr (9, [.ref xm, .ref xs, .ref xt, .ref xk, .ref xp, .ref xr, .ref xc, .ref xu, .ref xe, .ref xb, .ref xa, .ref xl, .ref xg, .int pl, .int ft, .int tw, .int inn, .int bd, .int py, .ref x1, .ref x2, .ref x3, .ref x4, .int ap, .ref xq, .int qd, .ref xz, .ref xd, .int ds, .int fl, .int (nI t4)])), (xm, .inl (cA 0, 300, .inl (nJ M)))] (fun v_ => v_ = some (.int (nI (bt M ar i)))) := by
  refine gw_metR (by decide) rfl (Nat.le_of_ble_eq_true rfl) ?_
  intro p_ e_ s_ m_ args_ below_ meth_ c_ S g_r g_k hK
  refine gw_eq (ws' := [(mo, .inr (9, [.ref xm, .ref xs, .ref xt, .ref xk, .ref xp, .ref xr, .ref xc, .ref xu, .ref xe, .ref xb, .ref xa, .ref xl, .ref xg, .int pl, .int ft, .int tw, .int inn, .int bd, .int py, .ref x1, .ref x2, .ref x3, .ref x4, .int ap, .ref xq, .int qd, .ref xz, .ref xd, .int ds, .int fl, .int (nI t4)])), (xm, .inl (cA 0, 300, .inl (nJ M)))]) (lv' := [(0, .ref mo), (1, .int (nI ar)), (2, .int (nI i))]) (st' := []) (pc' := 0) rfl rfl rfl rfl ?_
  refine gw_aload_n S dc_Mod_at_0 rfl 0 rfl ?_
  refine gw_get S hK.1 ic_Mod rfl 0 (by decide) (gw_lk S mw_780) 0 rfl rfl dc_Mod_at_1 ?_
  refine gw_bipush (v := 60) S dc_Mod_at_4 (by decide) ?_
  refine gw_iload_n S dc_Mod_at_6 rfl 1 rfl ?_
  refine gw_imulN (a := 60) (b := ar) S dc_Mod_at_7 ?_
  refine gw_iload_n S dc_Mod_at_8 rfl 2 rfl ?_
  refine gw_iaddN (a := 60 * ar) (b := i) S dc_Mod_at_9 ?_
  refine gw_ialdN (M := M) (X := (60 * ar) + i) S hK.1 1 0 rfl rfl (by omega) (by decide) dc_Mod_at_10 ?_
  exact gw_iretR S g_r g_k  rfl dc_Mod_at_11
