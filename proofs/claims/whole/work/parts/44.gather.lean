/-- a demand that isn't whole -/
def dm_b (M : Nat → Nat) (ar p T : Nat) : Prop := ((nI (bt M ar p)) &&& 31 = 31 ∧ (T ≤ p + 1 ∨ 127 < bt M ar (p + 1))) ∨ T ≤ wk_q1 M ar p
/-- the demands from a place to an end: tags and sizes -/
noncomputable def dm_L (M : Nat → Nat) (ar T : Nat) : Nat → Nat → Option (List (Nat × Nat))
  | 0, _ => none
  | k + 1, p => if T ≤ p then some [] else if @decide (dm_b M ar p T) (Classical.propDecidable _) = true then none else (dm_L M ar T k (wk_q1 M ar p + 1)).map ((wk_t1 M ar p, bt M ar (wk_q1 M ar p)) :: ·)
theorem dm_end {M : Nat → Nat} {ar T k p : Nat} {L : List (Nat × Nat)} (h : dm_L M ar T k p = some L) (c : T ≤ p) : L = [] := by
  cases k with
  | zero => cases h
  | succ k =>
    rw [dm_L, if_pos c] at h
    cases h
    rfl
theorem dm_step {M : Nat → Nat} {ar T k p : Nat} {L : List (Nat × Nat)} (h : dm_L M ar T k p = some L) (c : p < T) : ∃ (k' : Nat) (L' : List (Nat × Nat)), L = (wk_t1 M ar p, bt M ar (wk_q1 M ar p)) :: L' ∧ dm_L M ar T k' (wk_q1 M ar p + 1) = some L' ∧ p < wk_q1 M ar p ∧ wk_q1 M ar p < T := by
  cases k with
  | zero => cases h
  | succ k =>
    rw [dm_L, if_neg (by omega)] at h
    by_cases b : dm_b M ar p T
    · rw [if_pos ((@decide_eq_true_iff _ (Classical.propDecidable _)).mpr b)] at h; cases h
    · rw [if_neg (fun z => b ((@decide_eq_true_iff _ (Classical.propDecidable _)).mp z))] at h
      have hq : ¬ T ≤ wk_q1 M ar p := fun q => b (Or.inr q)
      obtain ⟨L', h1, h2⟩ := Option.map_eq_some_iff.mp h
      exact ⟨k, L', h2.symm, h1, by unfold wk_q1; split <;> omega, by omega⟩
/-- a byte of a demanded number -/
def gb_v (v : Int32) (i : Nat) : Int32 := if nI i ≤ 3 then (v >>> ((nI (8 * i)) &&& 31)) &&& 255 else 0
def gi_f (v : Int32) : Nat → (Nat → Int32) × Nat → (Nat → Int32) × Nat
  | 0, s => s
  | i + 1, s => gi_f v i (upd s.1 s.2 (gb_v v i), s.2 + 1)
/-- what a demand asks for -/
def gv_f (x fl gx py : Int32) (t : Nat) : Int32 := if nI t = 40706 then x else (if nI t = 149 then fl else (if nI t = 154 then gx else (if nI t = 40759 then py else 0)))
def ga_f (x fl gx py : Int32) : List (Nat × Nat) → (Nat → Int32) × Nat → (Nat → Int32) × Nat
  | [], s => s
  | a :: L, s => ga_f x fl gx py L (gi_f (gv_f x fl gx py a.1) a.2 s)
def dm_n : List (Nat × Nat) → Nat
  | [] => 0
  | a :: L => a.2 + dm_n L
theorem gj_pos {j : Nat} (h : ¬ nI j - 1 < 0) : 0 < j := by
  cases j with
  | zero => exact absurd (by decide) h
  | succ j => omega
theorem gj_zero {j : Nat} (hj : j ≤ 40) (h : nI j - 1 < 0) : j = 0 := by
  cases j with
  | zero => rfl
  | succ j => rw [nI_pred] at h; exact absurd h (nI_pos (by omega))
theorem gj_back (i : Nat) : nI (i + 1) - 1 + (-1) = nI i - 1 := by
  rw [nI_pred, Int32.sub_eq_add_neg]
theorem gi_two (v : Int32) : ∀ (j : Nat) (s : (Nat → Int32) × Nat), (gi_f v j s).2 = s.2 + j
  | 0, _ => rfl
  | j + 1, s => by
    rw [gi_f, gi_two v j]
    show s.2 + 1 + j = s.2 + (j + 1)
    omega
theorem ga_two (x fl gx py : Int32) : ∀ (L : List (Nat × Nat)) (s : (Nat → Int32) × Nat), (ga_f x fl gx py L s).2 = s.2 + dm_n L
  | [], _ => rfl
  | a :: L, s => by
    rw [ga_f, ga_two x fl gx py L, gi_two]
    show s.2 + a.2 + dm_n L = s.2 + (a.2 + dm_n L)
    omega
set_option maxRecDepth 100000 in
set_option maxHeartbeats 4000000 in
theorem c_Mod_gather (l : Launch) (D : va_G) (cA : Nat → ClassId) (sz : Nat) (mo : Nat) (xm : Nat) (xs : Nat) (xt : Nat) (xk : Nat) (xp : Nat) (xr : Nat) (xc : Nat) (xu : Nat) (xe : Nat) (xb : Nat) (xa : Nat) (xl : Nat) (xg : Nat) (x1 : Nat) (x2 : Nat) (x3 : Nat) (x4 : Nat) (xq : Nat) (xz : Nat) (xd : Nat) (pl : Int32) (ft : Int32) (tw : Int32) (inn : Int32) (bd : Int32) (py : Int32) (ap : Int32) (qd : Int32) (ds : Int32) (fl : Int32) (t4 : Nat) (M : Nat → Nat) (Z : Nat → Nat) (ar : Nat) (acc : List ob_T) (g : Nat → Int32) (dt : Nat → Int32) (x : Int32) (kk : Nat) (L : List (Nat × Nat)) (har : ar ≤ 3) (hZ : Z ar ≤ 60) (hB : ∀ j, M j ≤ 255) (hA : pm_r M Z ar = .inr acc) (hv : ¬ so_v (fo_s acc 140) = 0) (hL : dm_L M ar (sn_f (fo_s acc 140) + sn_n (fo_s acc 140)) kk (sn_f (fo_s acc 140)) = some L) (hs : dm_n L ≤ 40) : ct_M l D cA yn_Mod_gather cd_Mod_gather 5 0 0 sz [.ref mo, .int (nI ar), .int x] [(mo, .inr (9, [.ref xm, .ref xs, .ref xt, .ref xk, .ref xp, .ref xr, .ref xc, .ref xu, .ref xe, .ref xb, .ref xa, .ref xl, .ref xg, .int pl, .int ft, .int tw, .int inn, .int bd, .int py, .ref x1, .ref x2, .ref x3, .ref x4, .int ap, .ref xq, .int qd, .ref xz, .ref xd, .int ds, .int fl, .int (nI t4)])), (xm, .inl (cA 0, 300, .inl (nJ M))), (xs, .inl (cA 0, 5, .inl (nJ Z))), (xg, .inl (cA 0, 7, .inl g)), (xd, .inl (cA 0, 40, .inl dt))] (fun v_ w_ => ∃ (ft9 : Int32), ∃ (tw9 : Int32), ∃ (in9 : Int32), ∃ (b9 : Int32), ∃ (u9 : Nat), v_ = none ∧ w_ = [(mo, .inr (9, [.ref xm, .ref xs, .ref xt, .ref xk, .ref xp, .ref xr, .ref xc, .ref xu, .ref xe, .ref xb, .ref xa, .ref xl, .ref xg, .int pl, .int ft9, .int tw9, .int in9, .int b9, .int py, .ref x1, .ref x2, .ref x3, .ref x4, .int ap, .ref xq, .int qd, .ref xz, .ref xd, .int (nI (ga_f x fl (g 1) py L (dt, 0)).2), .int fl, .int (nI u9)])), (xm, .inl (cA 0, 300, .inl (nJ M))), (xs, .inl (cA 0, 5, .inl (nJ Z))), (xg, .inl (cA 0, 7, .inl g)), (xd, .inl (cA 0, 40, .inl ((ga_f x fl (g 1) py L (dt, 0)).1)))]) := by
  refine gw_met (by decide) rfl (Nat.le_of_ble_eq_true rfl) ?_
  intro p_ e_ s_ m_ args_ below_ meth_ c_ A_ S g_r g_k g_n hK hA
  refine gw_eq (ws' := [(mo, .inr (9, [.ref xm, .ref xs, .ref xt, .ref xk, .ref xp, .ref xr, .ref xc, .ref xu, .ref xe, .ref xb, .ref xa, .ref xl, .ref xg, .int pl, .int ft, .int tw, .int inn, .int bd, .int py, .ref x1, .ref x2, .ref x3, .ref x4, .int ap, .ref xq, .int qd, .ref xz, .ref xd, .int ds, .int fl, .int (nI t4)])), (xm, .inl (cA 0, 300, .inl (nJ M))), (xs, .inl (cA 0, 5, .inl (nJ Z))), (xg, .inl (cA 0, 7, .inl g)), (xd, .inl (cA 0, 40, .inl dt))]) (lv' := [(0, .ref mo), (1, .int (nI ar)), (2, .int x)]) (st' := []) (pc' := 0) rfl rfl rfl rfl ?_
  refine gw_aload_n S dc_Mod_gather_0 rfl 0 rfl ?_
  refine gw_iload_n S dc_Mod_gather_1 rfl 1 rfl ?_
  refine gw_sipush (v := 140) S dc_Mod_gather_2 (by decide) ?_
  refine gw_callV (As := [.int (nI ar), .int 140]) (st := []) (wr := [(xg, .inl (cA 0, 7, .inl g)), (xd, .inl (cA 0, 40, .inl dt))]) S hK hA (fun sz => c_Mod_has2 l D cA sz mo xm xs xt xk xp xr xc xu xe xb xa xl xg x1 x2 x3 x4 xq xz xd pl ft tw inn bd py ap qd ds fl t4 M Z ar 140 acc (by omega) (by assumption) (by assumption) (by assumption)) (cw_Mod_97 S.2.2.2.2 rfl rfl ⟨Nat.le_of_ble_eq_true rfl, Nat.le_of_ble_eq_true rfl⟩) [0, 1, 2] [3, 4] rfl (by decide) rfl (by decide) (by decide) 0 rfl rfl rfl rfl rfl (Nat.le_of_ble_eq_true rfl) dc_Mod_gather_5 ⟨Nat.le_of_ble_eq_true rfl, Nat.le_of_ble_eq_true rfl⟩ ?_
  rintro _ _ ⟨b9_1, u9_2, rfl, rfl⟩
  refine gw_eq (ws' := [(xg, .inl (cA 0, 7, .inl g)), (xd, .inl (cA 0, 40, .inl dt)), (mo, .inr (9, [.ref xm, .ref xs, .ref xt, .ref xk, .ref xp, .ref xr, .ref xc, .ref xu, .ref xe, .ref xb, .ref xa, .ref xl, .ref xg, .int pl, .int (so_f (fo_s acc 140)), .int (so_t (fo_s acc 140)), .int (so_i (fo_s acc 140)), .int b9_1, .int py, .ref x1, .ref x2, .ref x3, .ref x4, .int ap, .ref xq, .int qd, .ref xz, .ref xd, .int ds, .int fl, .int (nI u9_2)])), (xm, .inl (cA 0, 300, .inl (nJ M))), (xs, .inl (cA 0, 5, .inl (nJ Z)))]) (lv' := [(0, .ref mo), (1, .int (nI ar)), (2, .int x)]) (st' := [.int (so_v (fo_s acc 140))]) (pc' := 8) rfl rfl rfl rfl ?_
  obtain ⟨hf9, ht9⟩ := so_fn hv
  have hl9 := sn_le (M := M) (Z := Z) (ar := ar) (tg := 140) hZ hB (by assumption)
  refine gw_pop S dc_Mod_gather_8 rfl ?_
  refine gw_aload_n S dc_Mod_gather_9 rfl 0 rfl ?_
  refine gw_get S hK.1 ic_Mod rfl 15 (by decide) (gw_lk S mw_795) 2 rfl rfl dc_Mod_gather_10 ?_
  refine gw_eq (ws' := [(xg, .inl (cA 0, 7, .inl g)), (xd, .inl (cA 0, 40, .inl dt)), (mo, .inr (9, [.ref xm, .ref xs, .ref xt, .ref xk, .ref xp, .ref xr, .ref xc, .ref xu, .ref xe, .ref xb, .ref xa, .ref xl, .ref xg, .int pl, .int (so_f (fo_s acc 140)), .int (so_t (fo_s acc 140)), .int (so_i (fo_s acc 140)), .int b9_1, .int py, .ref x1, .ref x2, .ref x3, .ref x4, .int ap, .ref xq, .int qd, .ref xz, .ref xd, .int ds, .int fl, .int (nI u9_2)])), (xm, .inl (cA 0, 300, .inl (nJ M))), (xs, .inl (cA 0, 5, .inl (nJ Z)))]) (lv' := [(0, .ref mo), (1, .int (nI ar)), (2, .int x)]) (st' := [.int (nI (sn_f (fo_s acc 140) + sn_n (fo_s acc 140)))]) rfl rfl (by rw [ht9]) rfl ?_
  refine gw_istore_n (lv' := [(3, .int (nI (sn_f (fo_s acc 140) + sn_n (fo_s acc 140)))), (0, .ref mo), (1, .int (nI ar)), (2, .int x)]) S dc_Mod_gather_13 rfl (by decide) rfl ?_
  refine gw_aload_n S dc_Mod_gather_14 rfl 1 rfl ?_
  refine gw_get S hK.1 ic_Mod rfl 14 (by decide) (gw_lk S mw_794) 2 rfl rfl dc_Mod_gather_15 ?_
  refine gw_eq (ws' := [(xg, .inl (cA 0, 7, .inl g)), (xd, .inl (cA 0, 40, .inl dt)), (mo, .inr (9, [.ref xm, .ref xs, .ref xt, .ref xk, .ref xp, .ref xr, .ref xc, .ref xu, .ref xe, .ref xb, .ref xa, .ref xl, .ref xg, .int pl, .int (so_f (fo_s acc 140)), .int (so_t (fo_s acc 140)), .int (so_i (fo_s acc 140)), .int b9_1, .int py, .ref x1, .ref x2, .ref x3, .ref x4, .int ap, .ref xq, .int qd, .ref xz, .ref xd, .int ds, .int fl, .int (nI u9_2)])), (xm, .inl (cA 0, 300, .inl (nJ M))), (xs, .inl (cA 0, 5, .inl (nJ Z)))]) (lv' := [(3, .int (nI (sn_f (fo_s acc 140) + sn_n (fo_s acc 140)))), (0, .ref mo), (1, .int (nI ar)), (2, .int x)]) (st' := [.int (nI (sn_f (fo_s acc 140)))]) rfl rfl (by rw [hf9]) rfl ?_
  refine gw_istore (lv' := [(4, .int (nI (sn_f (fo_s acc 140)))), (3, .int (nI (sn_f (fo_s acc 140) + sn_n (fo_s acc 140)))), (0, .ref mo), (1, .int (nI ar)), (2, .int x)]) S dc_Mod_gather_18 (by decide) rfl ?_
  refine gw_aload_n S dc_Mod_gather_20 rfl 2 rfl ?_
  refine gw_iconst (v := 0) S dc_Mod_gather_21 (by decide) ?_
  refine gw_put (ws' := [(xg, .inl (cA 0, 7, .inl g)), (xd, .inl (cA 0, 40, .inl dt)), (mo, .inr (9, [.ref xm, .ref xs, .ref xt, .ref xk, .ref xp, .ref xr, .ref xc, .ref xu, .ref xe, .ref xb, .ref xa, .ref xl, .ref xg, .int pl, .int (so_f (fo_s acc 140)), .int (so_t (fo_s acc 140)), .int (so_i (fo_s acc 140)), .int b9_1, .int py, .ref x1, .ref x2, .ref x3, .ref x4, .int ap, .ref xq, .int qd, .ref xz, .ref xd, .int 0, .int fl, .int (nI u9_2)])), (xm, .inl (cA 0, 300, .inl (nJ M))), (xs, .inl (cA 0, 5, .inl (nJ Z)))]) (ty := .int) S hK.1 ic_Mod rfl 28 (by decide) ty_Mod to_Mod nm_Mod (gw_lk S mw_808) 2 rfl rfl (by decide +kernel) rfl rfl (Nat.le_of_ble_eq_true rfl) rfl dc_Mod_gather_22 ?_
  refine gw_drop [2, 3, 4, 1, 0] (lv' := [(0, .ref mo), (1, .int (nI ar)), (2, .int x), (3, .int (nI (sn_f (fo_s acc 140) + sn_n (fo_s acc 140)))), (4, .int (nI (sn_f (fo_s acc 140))))]) rfl ?_
  refine gw_loop (σ := Nat × Nat × (List (Nat × Nat)) × (Nat → Int32) × Nat) (fun (x_ : Nat × Nat × (List (Nat × Nat)) × (Nat → Int32) × Nat) => match x_ with | (k7, p, L7, d7, s7) => (p ≤ sn_f (fo_s acc 140) + sn_n (fo_s acc 140)) ∧ (dm_L M ar (sn_f (fo_s acc 140) + sn_n (fo_s acc 140)) k7 p = some L7) ∧ (s7 + dm_n L7 ≤ 40) ∧ (ga_f x fl (g 1) py L (dt, 0) = ga_f x fl (g 1) py L7 (d7, s7))) (fun (x_ : Nat × Nat × (List (Nat × Nat)) × (Nat → Int32) × Nat) => match x_ with | (k7, p, L7, d7, s7) => sn_f (fo_s acc 140) + sn_n (fo_s acc 140) - p) (fun (x_ : Nat × Nat × (List (Nat × Nat)) × (Nat → Int32) × Nat) => match x_ with | (k7, p, L7, d7, s7) => [(xg, .inl (cA 0, 7, .inl g)), (xd, .inl (cA 0, 40, .inl d7)), (mo, .inr (9, [.ref xm, .ref xs, .ref xt, .ref xk, .ref xp, .ref xr, .ref xc, .ref xu, .ref xe, .ref xb, .ref xa, .ref xl, .ref xg, .int pl, .int (so_f (fo_s acc 140)), .int (so_t (fo_s acc 140)), .int (so_i (fo_s acc 140)), .int b9_1, .int py, .ref x1, .ref x2, .ref x3, .ref x4, .int ap, .ref xq, .int qd, .ref xz, .ref xd, .int (nI s7), .int fl, .int (nI u9_2)])), (xm, .inl (cA 0, 300, .inl (nJ M))), (xs, .inl (cA 0, 5, .inl (nJ Z)))]) (fun (x_ : Nat × Nat × (List (Nat × Nat)) × (Nat → Int32) × Nat) => match x_ with | (k7, p, L7, d7, s7) => [(0, .ref mo), (1, .int (nI ar)), (2, .int x), (3, .int (nI (sn_f (fo_s acc 140) + sn_n (fo_s acc 140)))), (4, .int (nI p))]) ?_ (kk, sn_f (fo_s acc 140), L, dt, 0) ?_ rfl rfl
  rotate_left
  · exact ⟨(Nat.le_add_right _ _), hL, (by rw [Nat.zero_add]; exact hs), rfl⟩
  rintro ⟨k7, p, L7, d7, s7⟩ ⟨hp9, hk9, hs9, hm9⟩ ih_3
  refine gw_eq (ws' := [(xg, .inl (cA 0, 7, .inl g)), (xd, .inl (cA 0, 40, .inl d7)), (mo, .inr (9, [.ref xm, .ref xs, .ref xt, .ref xk, .ref xp, .ref xr, .ref xc, .ref xu, .ref xe, .ref xb, .ref xa, .ref xl, .ref xg, .int pl, .int (so_f (fo_s acc 140)), .int (so_t (fo_s acc 140)), .int (so_i (fo_s acc 140)), .int b9_1, .int py, .ref x1, .ref x2, .ref x3, .ref x4, .int ap, .ref xq, .int qd, .ref xz, .ref xd, .int (nI s7), .int fl, .int (nI u9_2)])), (xm, .inl (cA 0, 300, .inl (nJ M))), (xs, .inl (cA 0, 5, .inl (nJ Z)))]) (lv' := [(0, .ref mo), (1, .int (nI ar)), (2, .int x), (3, .int (nI (sn_f (fo_s acc 140) + sn_n (fo_s acc 140)))), (4, .int (nI p))]) (st' := []) (pc' := 25) rfl rfl rfl rfl ?_
  refine gw_iload S dc_Mod_gather_25 4 rfl ?_
  refine gw_iload_n S dc_Mod_gather_27 rfl 3 rfl ?_
  refine gw_icmp_ge (tgt := 205) S dc_Mod_gather_28 (by decide) (fun c_4 => ?_) (fun c_4 => ?_)
  · -- taken
    exact gw_vret (w := [(mo, .inr (9, [.ref xm, .ref xs, .ref xt, .ref xk, .ref xp, .ref xr, .ref xc, .ref xu, .ref xe, .ref xb, .ref xa, .ref xl, .ref xg, .int pl, .int (so_f (fo_s acc 140)), .int (so_t (fo_s acc 140)), .int (so_i (fo_s acc 140)), .int b9_1, .int py, .ref x1, .ref x2, .ref x3, .ref x4, .int ap, .ref xq, .int qd, .ref xz, .ref xd, .int (nI s7), .int fl, .int (nI u9_2)])), (xm, .inl (cA 0, 300, .inl (nJ M))), (xs, .inl (cA 0, 5, .inl (nJ Z))), (xg, .inl (cA 0, 7, .inl g)), (xd, .inl (cA 0, 40, .inl d7))]) S g_r g_k  [2, 3, 4, 0, 1] rfl (by decide) ⟨so_f (fo_s acc 140), so_t (fo_s acc 140), so_i (fo_s acc 140), b9_1, u9_2, rfl, by rw [hm9, dm_end hk9 (lp_ge rfl (by omega) c_4)]; rfl⟩ dc_Mod_gather_205
  · -- not
    have hp1 : p < sn_f (fo_s acc 140) + sn_n (fo_s acc 140) := lp_lt rfl (by omega) c_4
    obtain ⟨k8, L8, hL8, hk8, hq8, hq9⟩ := dm_step hk9 hp1
    have hq7 : (nI (bt M ar p)) &&& 31 = 31 → p + 1 < sn_f (fo_s acc 140) + sn_n (fo_s acc 140) := fun z => by (unfold wk_q1 at hq9; rw [if_pos z] at hq9; omega)
    refine gw_aload_n S dc_Mod_gather_31 rfl 0 rfl ?_
    refine gw_iload_n S dc_Mod_gather_32 rfl 1 rfl ?_
    refine gw_iload S dc_Mod_gather_33 4 rfl ?_
    refine gw_callVR (As := [.int (nI ar), .int (nI p)]) (st := []) S hK (c_Mod_at l D cA mo xm xs xt xk xp xr xc xu xe xb xa xl xg x1 x2 x3 x4 xq xz xd pl (so_f (fo_s acc 140)) (so_t (fo_s acc 140)) (so_i (fo_s acc 140)) b9_1 py ap qd (nI s7) fl u9_2 M ar p (by omega)) (cw_Mod_90 S.2.2.2.2 rfl rfl ⟨Nat.le_of_ble_eq_true rfl, Nat.le_of_ble_eq_true rfl⟩) [2, 3] rfl (by decide) 0 rfl rfl rfl rfl rfl (Nat.le_of_ble_eq_true rfl) dc_Mod_gather_35 ⟨Nat.le_of_ble_eq_true rfl, Nat.le_of_ble_eq_true rfl⟩ ?_
    rintro _ rfl
    refine gw_eq (ws' := [(xg, .inl (cA 0, 7, .inl g)), (xd, .inl (cA 0, 40, .inl d7)), (mo, .inr (9, [.ref xm, .ref xs, .ref xt, .ref xk, .ref xp, .ref xr, .ref xc, .ref xu, .ref xe, .ref xb, .ref xa, .ref xl, .ref xg, .int pl, .int (so_f (fo_s acc 140)), .int (so_t (fo_s acc 140)), .int (so_i (fo_s acc 140)), .int b9_1, .int py, .ref x1, .ref x2, .ref x3, .ref x4, .int ap, .ref xq, .int qd, .ref xz, .ref xd, .int (nI s7), .int fl, .int (nI u9_2)])), (xm, .inl (cA 0, 300, .inl (nJ M))), (xs, .inl (cA 0, 5, .inl (nJ Z)))]) (lv' := [(0, .ref mo), (1, .int (nI ar)), (2, .int x), (3, .int (nI (sn_f (fo_s acc 140) + sn_n (fo_s acc 140)))), (4, .int (nI p))]) (st' := [.int (nI (bt M ar p))]) (pc' := 38) rfl rfl rfl rfl ?_
    refine gw_istore (lv' := [(5, .int (nI (bt M ar p))), (0, .ref mo), (1, .int (nI ar)), (2, .int x), (3, .int (nI (sn_f (fo_s acc 140) + sn_n (fo_s acc 140)))), (4, .int (nI p))]) S dc_Mod_gather_38 (by decide) rfl ?_
    refine gw_iinc (v := nI (p + 1)) (lv' := [(4, .int (nI (p + 1))), (5, .int (nI (bt M ar p))), (0, .ref mo), (1, .int (nI ar)), (2, .int x), (3, .int (nI (sn_f (fo_s acc 140) + sn_n (fo_s acc 140))))]) S dc_Mod_gather_40 5 rfl (nI_add _ 1) (by decide) rfl ?_
    refine gw_iload S dc_Mod_gather_43 1 rfl ?_
    refine gw_bipush (v := 31) S dc_Mod_gather_45 (by decide) ?_
    refine gw_iand S dc_Mod_gather_47 ?_
    refine gw_bipush (v := 31) S dc_Mod_gather_48 (by decide) ?_
    refine gw_jw (ws2 := [(xg, .inl (cA 0, 7, .inl g)), (xd, .inl (cA 0, 40, .inl d7)), (mo, .inr (9, [.ref xm, .ref xs, .ref xt, .ref xk, .ref xp, .ref xr, .ref xc, .ref xu, .ref xe, .ref xb, .ref xa, .ref xl, .ref xg, .int pl, .int (so_f (fo_s acc 140)), .int (so_t (fo_s acc 140)), .int (so_i (fo_s acc 140)), .int b9_1, .int py, .ref x1, .ref x2, .ref x3, .ref x4, .int ap, .ref xq, .int qd, .ref xz, .ref xd, .int (nI s7), .int fl, .int (nI u9_2)])), (xm, .inl (cA 0, 300, .inl (nJ M))), (xs, .inl (cA 0, 5, .inl (nJ Z)))]) (lv2 := [(0, .ref mo), (1, .int (nI ar)), (2, .int x), (3, .int (nI (sn_f (fo_s acc 140) + sn_n (fo_s acc 140)))), (4, .int (nI (if ((nI (bt M ar p)) &&& 31) = 31 then ((p + 1) + 1) else (p + 1)))), (5, .int (nI (if ((nI (bt M ar p)) &&& 31) = 31 then ((256 * (bt M ar p)) + (bt M ar (p + 1))) else (bt M ar p))))]) (st2 := []) (pc2 := 72) ?_ (fun kJ_6 => ?_)
    rotate_left
    · -- join at 72
      refine gw_icmp_ne (tgt := 72) S dc_Mod_gather_50 (by decide) (fun c_7 => ?_) (fun c_7 => ?_)
      · -- taken
        refine gw_drop [2, 3, 4, 5, 0, 1] (lv' := [(0, .ref mo), (1, .int (nI ar)), (2, .int x), (3, .int (nI (sn_f (fo_s acc 140) + sn_n (fo_s acc 140)))), (4, .int (nI (p + 1))), (5, .int (nI (bt M ar p)))]) rfl ?_
        exact kJ_6 _ _ _ (by simp only [if_neg c_7]) (by simp only [if_neg c_7]) (by simp only [if_neg c_7])
      · -- not
        refine gw_sipush (v := 256) S dc_Mod_gather_53 (by decide) ?_
        refine gw_iload S dc_Mod_gather_56 1 rfl ?_
        refine gw_imulN (a := 256) (b := bt M ar p) S dc_Mod_gather_58 ?_
        refine gw_aload_n S dc_Mod_gather_59 rfl 2 rfl ?_
        refine gw_iload_n S dc_Mod_gather_60 rfl 3 rfl ?_
        refine gw_iload S dc_Mod_gather_61 0 rfl ?_
        refine gw_callVR (As := [.int (nI ar), .int (nI (p + 1))]) (st := [.int (nI (256 * (bt M ar p)))]) S hK (c_Mod_at l D cA mo xm xs xt xk xp xr xc xu xe xb xa xl xg x1 x2 x3 x4 xq xz xd pl (so_f (fo_s acc 140)) (so_t (fo_s acc 140)) (so_i (fo_s acc 140)) b9_1 py ap qd (nI s7) fl u9_2 M ar (p + 1) (by omega)) (cw_Mod_90 S.2.2.2.2 rfl rfl ⟨Nat.le_of_ble_eq_true rfl, Nat.le_of_ble_eq_true rfl⟩) [2, 3] rfl (by decide) 0 rfl rfl rfl rfl rfl (Nat.le_of_ble_eq_true rfl) dc_Mod_gather_63 ⟨Nat.le_of_ble_eq_true rfl, Nat.le_of_ble_eq_true rfl⟩ ?_
        rintro _ rfl
        refine gw_eq (ws' := [(xg, .inl (cA 0, 7, .inl g)), (xd, .inl (cA 0, 40, .inl d7)), (mo, .inr (9, [.ref xm, .ref xs, .ref xt, .ref xk, .ref xp, .ref xr, .ref xc, .ref xu, .ref xe, .ref xb, .ref xa, .ref xl, .ref xg, .int pl, .int (so_f (fo_s acc 140)), .int (so_t (fo_s acc 140)), .int (so_i (fo_s acc 140)), .int b9_1, .int py, .ref x1, .ref x2, .ref x3, .ref x4, .int ap, .ref xq, .int qd, .ref xz, .ref xd, .int (nI s7), .int fl, .int (nI u9_2)])), (xm, .inl (cA 0, 300, .inl (nJ M))), (xs, .inl (cA 0, 5, .inl (nJ Z)))]) (lv' := [(4, .int (nI (p + 1))), (5, .int (nI (bt M ar p))), (0, .ref mo), (1, .int (nI ar)), (2, .int x), (3, .int (nI (sn_f (fo_s acc 140) + sn_n (fo_s acc 140))))]) (st' := [.int (nI (bt M ar (p + 1))), .int (nI (256 * (bt M ar p)))]) (pc' := 66) rfl rfl rfl rfl ?_
        refine gw_iaddN (a := 256 * (bt M ar p)) (b := bt M ar (p + 1)) S dc_Mod_gather_66 ?_
        refine gw_istore (lv' := [(5, .int (nI ((256 * (bt M ar p)) + (bt M ar (p + 1))))), (4, .int (nI (p + 1))), (0, .ref mo), (1, .int (nI ar)), (2, .int x), (3, .int (nI (sn_f (fo_s acc 140) + sn_n (fo_s acc 140))))]) S dc_Mod_gather_67 (by decide) rfl ?_
        refine gw_iinc (v := nI ((p + 1) + 1)) (lv' := [(4, .int (nI ((p + 1) + 1))), (5, .int (nI ((256 * (bt M ar p)) + (bt M ar (p + 1))))), (0, .ref mo), (1, .int (nI ar)), (2, .int x), (3, .int (nI (sn_f (fo_s acc 140) + sn_n (fo_s acc 140))))]) S dc_Mod_gather_69 1 rfl (nI_add _ 1) (by decide) rfl ?_
        refine gw_drop [2, 3, 4, 5, 0, 1] (lv' := [(0, .ref mo), (1, .int (nI ar)), (2, .int x), (3, .int (nI (sn_f (fo_s acc 140) + sn_n (fo_s acc 140)))), (4, .int (nI ((p + 1) + 1))), (5, .int (nI ((256 * (bt M ar p)) + (bt M ar (p + 1)))))]) rfl ?_
        exact kJ_6 _ _ _ (by simp only [if_pos c_7]) (by simp only [if_pos c_7]) (by simp only [if_pos c_7])
    refine gw_eq (ws' := [(xg, .inl (cA 0, 7, .inl g)), (xd, .inl (cA 0, 40, .inl d7)), (mo, .inr (9, [.ref xm, .ref xs, .ref xt, .ref xk, .ref xp, .ref xr, .ref xc, .ref xu, .ref xe, .ref xb, .ref xa, .ref xl, .ref xg, .int pl, .int (so_f (fo_s acc 140)), .int (so_t (fo_s acc 140)), .int (so_i (fo_s acc 140)), .int b9_1, .int py, .ref x1, .ref x2, .ref x3, .ref x4, .int ap, .ref xq, .int qd, .ref xz, .ref xd, .int (nI s7), .int fl, .int (nI u9_2)])), (xm, .inl (cA 0, 300, .inl (nJ M))), (xs, .inl (cA 0, 5, .inl (nJ Z)))]) (lv' := [(0, .ref mo), (1, .int (nI ar)), (2, .int x), (3, .int (nI (sn_f (fo_s acc 140) + sn_n (fo_s acc 140)))), (4, .int (nI (wk_q1 M ar p))), (5, .int (nI (wk_t1 M ar p)))]) (st' := []) (pc' := 72) rfl rfl rfl rfl ?_
    refine gw_aload_n S dc_Mod_gather_72 rfl 0 rfl ?_
    refine gw_iload_n S dc_Mod_gather_73 rfl 1 rfl ?_
    refine gw_iload S dc_Mod_gather_74 4 rfl ?_
    refine gw_callVR (As := [.int (nI ar), .int (nI (wk_q1 M ar p))]) (st := []) S hK (c_Mod_at l D cA mo xm xs xt xk xp xr xc xu xe xb xa xl xg x1 x2 x3 x4 xq xz xd pl (so_f (fo_s acc 140)) (so_t (fo_s acc 140)) (so_i (fo_s acc 140)) b9_1 py ap qd (nI s7) fl u9_2 M ar (wk_q1 M ar p) (by omega)) (cw_Mod_90 S.2.2.2.2 rfl rfl ⟨Nat.le_of_ble_eq_true rfl, Nat.le_of_ble_eq_true rfl⟩) [2, 3] rfl (by decide) 0 rfl rfl rfl rfl rfl (Nat.le_of_ble_eq_true rfl) dc_Mod_gather_76 ⟨Nat.le_of_ble_eq_true rfl, Nat.le_of_ble_eq_true rfl⟩ ?_
    rintro _ rfl
    refine gw_eq (ws' := [(xg, .inl (cA 0, 7, .inl g)), (xd, .inl (cA 0, 40, .inl d7)), (mo, .inr (9, [.ref xm, .ref xs, .ref xt, .ref xk, .ref xp, .ref xr, .ref xc, .ref xu, .ref xe, .ref xb, .ref xa, .ref xl, .ref xg, .int pl, .int (so_f (fo_s acc 140)), .int (so_t (fo_s acc 140)), .int (so_i (fo_s acc 140)), .int b9_1, .int py, .ref x1, .ref x2, .ref x3, .ref x4, .int ap, .ref xq, .int qd, .ref xz, .ref xd, .int (nI s7), .int fl, .int (nI u9_2)])), (xm, .inl (cA 0, 300, .inl (nJ M))), (xs, .inl (cA 0, 5, .inl (nJ Z)))]) (lv' := [(0, .ref mo), (1, .int (nI ar)), (2, .int x), (3, .int (nI (sn_f (fo_s acc 140) + sn_n (fo_s acc 140)))), (4, .int (nI (wk_q1 M ar p))), (5, .int (nI (wk_t1 M ar p)))]) (st' := [.int (nI (bt M ar (wk_q1 M ar p)))]) (pc' := 79) rfl rfl rfl rfl ?_
    refine gw_topi (fun n8 hn8 => ?_)
    refine gw_istore (lv' := [(6, .int n8), (0, .ref mo), (1, .int (nI ar)), (2, .int x), (3, .int (nI (sn_f (fo_s acc 140) + sn_n (fo_s acc 140)))), (4, .int (nI (wk_q1 M ar p))), (5, .int (nI (wk_t1 M ar p)))]) S dc_Mod_gather_79 (by decide) rfl ?_
    refine gw_iinc (v := nI ((wk_q1 M ar p) + 1)) (lv' := [(4, .int (nI ((wk_q1 M ar p) + 1))), (6, .int n8), (0, .ref mo), (1, .int (nI ar)), (2, .int x), (3, .int (nI (sn_f (fo_s acc 140) + sn_n (fo_s acc 140)))), (5, .int (nI (wk_t1 M ar p)))]) S dc_Mod_gather_81 5 rfl (nI_add _ 1) (by decide) rfl ?_
    refine gw_jw (ws2 := [(xg, .inl (cA 0, 7, .inl g)), (xd, .inl (cA 0, 40, .inl d7)), (mo, .inr (9, [.ref xm, .ref xs, .ref xt, .ref xk, .ref xp, .ref xr, .ref xc, .ref xu, .ref xe, .ref xb, .ref xa, .ref xl, .ref xg, .int pl, .int (so_f (fo_s acc 140)), .int (so_t (fo_s acc 140)), .int (so_i (fo_s acc 140)), .int b9_1, .int py, .ref x1, .ref x2, .ref x3, .ref x4, .int ap, .ref xq, .int qd, .ref xz, .ref xd, .int (nI s7), .int fl, .int (nI u9_2)])), (xm, .inl (cA 0, 300, .inl (nJ M))), (xs, .inl (cA 0, 5, .inl (nJ Z)))]) (lv2 := [(0, .ref mo), (1, .int (nI ar)), (2, .int x), (3, .int (nI (sn_f (fo_s acc 140) + sn_n (fo_s acc 140)))), (4, .int (nI ((wk_q1 M ar p) + 1))), (5, .int (nI (wk_t1 M ar p))), (6, .int n8)]) (st2 := [.int (if (nI (wk_t1 M ar p)) = 40706 then x else (if (nI (wk_t1 M ar p)) = 149 then fl else (if (nI (wk_t1 M ar p)) = 154 then (g 1) else (if (nI (wk_t1 M ar p)) = 40759 then py else (0)))))]) (pc2 := 142) ?_ (fun kJ_10 => ?_)
    rotate_left
    · -- join at 142
      refine gw_iload S dc_Mod_gather_84 6 rfl ?_
      refine gw_ldc (v := 40706) S (gw_lk S mw_966) dc_Mod_gather_86 ?_
      refine gw_icmp_ne (tgt := 95) S dc_Mod_gather_88 (by decide) (fun c_11 => ?_) (fun c_11 => ?_)
      · -- taken
        refine gw_iload S dc_Mod_gather_95 6 rfl ?_
        refine gw_sipush (v := 149) S dc_Mod_gather_97 (by decide) ?_
        refine gw_icmp_ne (tgt := 110) S dc_Mod_gather_100 (by decide) (fun c_12 => ?_) (fun c_12 => ?_)
        · -- taken
          refine gw_iload S dc_Mod_gather_110 6 rfl ?_
          refine gw_sipush (v := 154) S dc_Mod_gather_112 (by decide) ?_
          refine gw_icmp_ne (tgt := 127) S dc_Mod_gather_115 (by decide) (fun c_13 => ?_) (fun c_13 => ?_)
          · -- taken
            refine gw_iload S dc_Mod_gather_127 6 rfl ?_
            refine gw_ldc (v := 40759) S (gw_lk S mw_967) dc_Mod_gather_129 ?_
            refine gw_icmp_ne (tgt := 141) S dc_Mod_gather_131 (by decide) (fun c_14 => ?_) (fun c_14 => ?_)
            · -- taken
              refine gw_iconst (v := 0) S dc_Mod_gather_141 (by decide) ?_
              refine gw_drop [2, 3, 4, 5, 0, 6, 1] (lv' := [(0, .ref mo), (1, .int (nI ar)), (2, .int x), (3, .int (nI (sn_f (fo_s acc 140) + sn_n (fo_s acc 140)))), (4, .int (nI ((wk_q1 M ar p) + 1))), (5, .int (nI (wk_t1 M ar p))), (6, .int n8)]) rfl ?_
              exact kJ_10 _ _ _ (by simp only [if_neg c_11, if_neg c_12, if_neg c_13, if_neg c_14]) (by simp only [if_neg c_11, if_neg c_12, if_neg c_13, if_neg c_14]) (by simp only [if_neg c_11, if_neg c_12, if_neg c_13, if_neg c_14])
            · -- not
              refine gw_aload_n S dc_Mod_gather_134 rfl 2 rfl ?_
              refine gw_get S hK.1 ic_Mod rfl 18 (by decide) (gw_lk S mw_798) 2 rfl rfl dc_Mod_gather_135 ?_
              refine gw_goto (tgt := 142) S dc_Mod_gather_138 (by decide) ?_
              refine gw_drop [2, 3, 4, 5, 0, 6, 1] (lv' := [(0, .ref mo), (1, .int (nI ar)), (2, .int x), (3, .int (nI (sn_f (fo_s acc 140) + sn_n (fo_s acc 140)))), (4, .int (nI ((wk_q1 M ar p) + 1))), (5, .int (nI (wk_t1 M ar p))), (6, .int n8)]) rfl ?_
              exact kJ_10 _ _ _ (by simp only [if_neg c_11, if_neg c_12, if_neg c_13, if_pos c_14]) (by simp only [if_neg c_11, if_neg c_12, if_neg c_13, if_pos c_14]) (by simp only [if_neg c_11, if_neg c_12, if_neg c_13, if_pos c_14])
          · -- not
            refine gw_aload_n S dc_Mod_gather_118 rfl 2 rfl ?_
            refine gw_get S hK.1 ic_Mod rfl 12 (by decide) (gw_lk S mw_792) 2 rfl rfl dc_Mod_gather_119 ?_
            refine gw_iconst (v := 1) S dc_Mod_gather_122 (by decide) ?_
            refine gw_iald S hK.1 0 0 rfl rfl (by unfold vp_in; decide) dc_Mod_gather_123 ?_
            refine gw_eq (ws' := [(xg, .inl (cA 0, 7, .inl g)), (xd, .inl (cA 0, 40, .inl d7)), (mo, .inr (9, [.ref xm, .ref xs, .ref xt, .ref xk, .ref xp, .ref xr, .ref xc, .ref xu, .ref xe, .ref xb, .ref xa, .ref xl, .ref xg, .int pl, .int (so_f (fo_s acc 140)), .int (so_t (fo_s acc 140)), .int (so_i (fo_s acc 140)), .int b9_1, .int py, .ref x1, .ref x2, .ref x3, .ref x4, .int ap, .ref xq, .int qd, .ref xz, .ref xd, .int (nI s7), .int fl, .int (nI u9_2)])), (xm, .inl (cA 0, 300, .inl (nJ M))), (xs, .inl (cA 0, 5, .inl (nJ Z)))]) (lv' := [(4, .int (nI ((wk_q1 M ar p) + 1))), (6, .int n8), (0, .ref mo), (1, .int (nI ar)), (2, .int x), (3, .int (nI (sn_f (fo_s acc 140) + sn_n (fo_s acc 140)))), (5, .int (nI (wk_t1 M ar p)))]) (st' := [.int (g 1)]) (pc' := 124) rfl rfl rfl rfl ?_
            refine gw_goto (tgt := 142) S dc_Mod_gather_124 (by decide) ?_
            refine gw_drop [2, 3, 4, 5, 0, 6, 1] (lv' := [(0, .ref mo), (1, .int (nI ar)), (2, .int x), (3, .int (nI (sn_f (fo_s acc 140) + sn_n (fo_s acc 140)))), (4, .int (nI ((wk_q1 M ar p) + 1))), (5, .int (nI (wk_t1 M ar p))), (6, .int n8)]) rfl ?_
            exact kJ_10 _ _ _ (by simp only [if_neg c_11, if_neg c_12, if_pos c_13]) (by simp only [if_neg c_11, if_neg c_12, if_pos c_13]) (by simp only [if_neg c_11, if_neg c_12, if_pos c_13])
        · -- not
          refine gw_aload_n S dc_Mod_gather_103 rfl 2 rfl ?_
          refine gw_get S hK.1 ic_Mod rfl 29 (by decide) (gw_lk S mw_809) 2 rfl rfl dc_Mod_gather_104 ?_
          refine gw_goto (tgt := 142) S dc_Mod_gather_107 (by decide) ?_
          refine gw_drop [2, 3, 4, 5, 0, 6, 1] (lv' := [(0, .ref mo), (1, .int (nI ar)), (2, .int x), (3, .int (nI (sn_f (fo_s acc 140) + sn_n (fo_s acc 140)))), (4, .int (nI ((wk_q1 M ar p) + 1))), (5, .int (nI (wk_t1 M ar p))), (6, .int n8)]) rfl ?_
          exact kJ_10 _ _ _ (by simp only [if_neg c_11, if_pos c_12]) (by simp only [if_neg c_11, if_pos c_12]) (by simp only [if_neg c_11, if_pos c_12])
      · -- not
        refine gw_iload_n S dc_Mod_gather_91 rfl 4 rfl ?_
        refine gw_goto (tgt := 142) S dc_Mod_gather_92 (by decide) ?_
        refine gw_drop [2, 3, 4, 5, 0, 6, 1] (lv' := [(0, .ref mo), (1, .int (nI ar)), (2, .int x), (3, .int (nI (sn_f (fo_s acc 140) + sn_n (fo_s acc 140)))), (4, .int (nI ((wk_q1 M ar p) + 1))), (5, .int (nI (wk_t1 M ar p))), (6, .int n8)]) rfl ?_
        exact kJ_10 _ _ _ (by simp only [if_pos c_11]) (by simp only [if_pos c_11]) (by simp only [if_pos c_11])
    refine gw_topi (fun v8 hv8 => ?_)
    refine gw_istore (lv' := [(7, .int v8), (0, .ref mo), (1, .int (nI ar)), (2, .int x), (3, .int (nI (sn_f (fo_s acc 140) + sn_n (fo_s acc 140)))), (4, .int (nI ((wk_q1 M ar p) + 1))), (5, .int (nI (wk_t1 M ar p))), (6, .int n8)]) S dc_Mod_gather_142 (by decide) rfl ?_
    refine gw_iload S dc_Mod_gather_144 7 rfl ?_
    refine gw_iconst (v := 1) S dc_Mod_gather_146 (by decide) ?_
    refine gw_isub S dc_Mod_gather_147 ?_
    refine gw_istore (lv' := [(8, .int (n8 - 1)), (7, .int v8), (0, .ref mo), (1, .int (nI ar)), (2, .int x), (3, .int (nI (sn_f (fo_s acc 140) + sn_n (fo_s acc 140)))), (4, .int (nI ((wk_q1 M ar p) + 1))), (5, .int (nI (wk_t1 M ar p))), (6, .int n8)]) S dc_Mod_gather_148 (by decide) rfl ?_
    refine gw_eq (ws' := [(xg, .inl (cA 0, 7, .inl g)), (xd, .inl (cA 0, 40, .inl d7)), (mo, .inr (9, [.ref xm, .ref xs, .ref xt, .ref xk, .ref xp, .ref xr, .ref xc, .ref xu, .ref xe, .ref xb, .ref xa, .ref xl, .ref xg, .int pl, .int (so_f (fo_s acc 140)), .int (so_t (fo_s acc 140)), .int (so_i (fo_s acc 140)), .int b9_1, .int py, .ref x1, .ref x2, .ref x3, .ref x4, .int ap, .ref xq, .int qd, .ref xz, .ref xd, .int (nI s7), .int fl, .int (nI u9_2)])), (xm, .inl (cA 0, 300, .inl (nJ M))), (xs, .inl (cA 0, 5, .inl (nJ Z)))]) (lv' := [(8, .int (nI (bt M ar (wk_q1 M ar p)) - 1)), (7, .int v8), (0, .ref mo), (1, .int (nI ar)), (2, .int x), (3, .int (nI (sn_f (fo_s acc 140) + sn_n (fo_s acc 140)))), (4, .int (nI ((wk_q1 M ar p) + 1))), (5, .int (nI (wk_t1 M ar p))), (6, .int n8)]) (st' := []) rfl (by rw [hn8]) rfl rfl ?_
    refine gw_drop [2, 3, 4, 5, 6, 1, 0] (lv' := [(0, .ref mo), (1, .int (nI ar)), (2, .int x), (3, .int (nI (sn_f (fo_s acc 140) + sn_n (fo_s acc 140)))), (4, .int (nI ((wk_q1 M ar p) + 1))), (7, .int v8), (8, .int (nI (bt M ar (wk_q1 M ar p)) - 1))]) rfl ?_
    refine gw_loop (σ := Nat × (Nat → Int32) × Nat) (fun (x_ : Nat × (Nat → Int32) × Nat) => match x_ with | (j9, d9, s9) => (s9 + j9 ≤ 40) ∧ (gi_f v8 (bt M ar (wk_q1 M ar p)) (d7, s7) = gi_f v8 j9 (d9, s9))) (fun (x_ : Nat × (Nat → Int32) × Nat) => match x_ with | (j9, d9, s9) => j9) (fun (x_ : Nat × (Nat → Int32) × Nat) => match x_ with | (j9, d9, s9) => [(xg, .inl (cA 0, 7, .inl g)), (xd, .inl (cA 0, 40, .inl d9)), (mo, .inr (9, [.ref xm, .ref xs, .ref xt, .ref xk, .ref xp, .ref xr, .ref xc, .ref xu, .ref xe, .ref xb, .ref xa, .ref xl, .ref xg, .int pl, .int (so_f (fo_s acc 140)), .int (so_t (fo_s acc 140)), .int (so_i (fo_s acc 140)), .int b9_1, .int py, .ref x1, .ref x2, .ref x3, .ref x4, .int ap, .ref xq, .int qd, .ref xz, .ref xd, .int (nI s9), .int fl, .int (nI u9_2)])), (xm, .inl (cA 0, 300, .inl (nJ M))), (xs, .inl (cA 0, 5, .inl (nJ Z)))]) (fun (x_ : Nat × (Nat → Int32) × Nat) => match x_ with | (j9, d9, s9) => [(0, .ref mo), (1, .int (nI ar)), (2, .int x), (3, .int (nI (sn_f (fo_s acc 140) + sn_n (fo_s acc 140)))), (4, .int (nI (wk_q1 M ar p + 1))), (7, .int v8), (8, .int (nI j9 - 1))]) ?_ (bt M ar (wk_q1 M ar p), d7, s7) ?_ rfl rfl
    rotate_left
    · exact ⟨(by rw [hL8] at hs9; have := hs9; unfold dm_n at this; omega), rfl⟩
    rintro ⟨j9, d9, s9⟩ ⟨hj9, hi9⟩ ih_15
    refine gw_eq (ws' := [(xg, .inl (cA 0, 7, .inl g)), (xd, .inl (cA 0, 40, .inl d9)), (mo, .inr (9, [.ref xm, .ref xs, .ref xt, .ref xk, .ref xp, .ref xr, .ref xc, .ref xu, .ref xe, .ref xb, .ref xa, .ref xl, .ref xg, .int pl, .int (so_f (fo_s acc 140)), .int (so_t (fo_s acc 140)), .int (so_i (fo_s acc 140)), .int b9_1, .int py, .ref x1, .ref x2, .ref x3, .ref x4, .int ap, .ref xq, .int qd, .ref xz, .ref xd, .int (nI s9), .int fl, .int (nI u9_2)])), (xm, .inl (cA 0, 300, .inl (nJ M))), (xs, .inl (cA 0, 5, .inl (nJ Z)))]) (lv' := [(0, .ref mo), (1, .int (nI ar)), (2, .int x), (3, .int (nI (sn_f (fo_s acc 140) + sn_n (fo_s acc 140)))), (4, .int (nI (wk_q1 M ar p + 1))), (7, .int v8), (8, .int (nI j9 - 1))]) (st' := []) (pc' := 150) rfl rfl rfl rfl ?_
    refine gw_iload S dc_Mod_gather_150 6 rfl ?_
    refine gw_if_lt (tgt := 202) S dc_Mod_gather_152 (by decide) (fun c_16 => ?_) (fun c_16 => ?_)
    · -- taken
      have hj8 := gj_zero (by omega) c_16
      subst hj8
      have hD : (gi_f v8 (bt M ar (wk_q1 M ar p)) (d7, s7)) = (d9, s9) := hi9
      refine gw_eq (ws' := [(xg, .inl (cA 0, 7, .inl g)), (xd, .inl (cA 0, 40, .inl ((gi_f v8 (bt M ar (wk_q1 M ar p)) (d7, s7)).1))), (mo, .inr (9, [.ref xm, .ref xs, .ref xt, .ref xk, .ref xp, .ref xr, .ref xc, .ref xu, .ref xe, .ref xb, .ref xa, .ref xl, .ref xg, .int pl, .int (so_f (fo_s acc 140)), .int (so_t (fo_s acc 140)), .int (so_i (fo_s acc 140)), .int b9_1, .int py, .ref x1, .ref x2, .ref x3, .ref x4, .int ap, .ref xq, .int qd, .ref xz, .ref xd, .int (nI (gi_f v8 (bt M ar (wk_q1 M ar p)) (d7, s7)).2), .int fl, .int (nI u9_2)])), (xm, .inl (cA 0, 300, .inl (nJ M))), (xs, .inl (cA 0, 5, .inl (nJ Z)))]) (lv' := [(0, .ref mo), (1, .int (nI ar)), (2, .int x), (3, .int (nI (sn_f (fo_s acc 140) + sn_n (fo_s acc 140)))), (4, .int (nI (wk_q1 M ar p + 1))), (7, .int v8), (8, .int (nI 0 - 1))]) (st' := []) (by rw [hD]) rfl rfl rfl ?_
      refine gw_goto (tgt := 25) S dc_Mod_gather_202 (by decide) ?_
      refine gw_drop [0, 1, 2, 3, 4] (lv' := [(0, .ref mo), (1, .int (nI ar)), (2, .int x), (3, .int (nI (sn_f (fo_s acc 140) + sn_n (fo_s acc 140)))), (4, .int (nI (wk_q1 M ar p + 1)))]) rfl ?_
      refine gw_eq (ws' := [(xg, .inl (cA 0, 7, .inl g)), (xd, .inl (cA 0, 40, .inl ((gi_f v8 (bt M ar (wk_q1 M ar p)) (d7, s7)).1))), (mo, .inr (9, [.ref xm, .ref xs, .ref xt, .ref xk, .ref xp, .ref xr, .ref xc, .ref xu, .ref xe, .ref xb, .ref xa, .ref xl, .ref xg, .int pl, .int (so_f (fo_s acc 140)), .int (so_t (fo_s acc 140)), .int (so_i (fo_s acc 140)), .int b9_1, .int py, .ref x1, .ref x2, .ref x3, .ref x4, .int ap, .ref xq, .int qd, .ref xz, .ref xd, .int (nI ((gi_f v8 (bt M ar (wk_q1 M ar p)) (d7, s7)).2)), .int fl, .int (nI u9_2)])), (xm, .inl (cA 0, 300, .inl (nJ M))), (xs, .inl (cA 0, 5, .inl (nJ Z)))]) (lv' := [(0, .ref mo), (1, .int (nI ar)), (2, .int x), (3, .int (nI (sn_f (fo_s acc 140) + sn_n (fo_s acc 140)))), (4, .int (nI (wk_q1 M ar p + 1)))]) (st' := []) (pc' := 25) rfl rfl rfl rfl ?_
      exact ih_3 (k8, wk_q1 M ar p + 1, L8, (gi_f v8 (bt M ar (wk_q1 M ar p)) (d7, s7)).1, (gi_f v8 (bt M ar (wk_q1 M ar p)) (d7, s7)).2) ⟨(by omega), hk8, (by rw [gi_two]; show s7 + _ + _ ≤ 40; rw [hL8] at hs9; have := hs9; unfold dm_n at this; omega), (by rw [hm9, hL8, ga_f, hv8]; rfl)⟩ (show (sn_f (fo_s acc 140) + sn_n (fo_s acc 140)) - (wk_q1 M ar p + 1) < (sn_f (fo_s acc 140) + sn_n (fo_s acc 140)) - p by omega)
    · -- not
      have hj8 := gj_pos c_16
      obtain ⟨i, rfl⟩ : ∃ i, j9 = i + 1 := ⟨j9 - 1, by omega⟩
      refine gw_eq (ws' := [(xg, .inl (cA 0, 7, .inl g)), (xd, .inl (cA 0, 40, .inl d9)), (mo, .inr (9, [.ref xm, .ref xs, .ref xt, .ref xk, .ref xp, .ref xr, .ref xc, .ref xu, .ref xe, .ref xb, .ref xa, .ref xl, .ref xg, .int pl, .int (so_f (fo_s acc 140)), .int (so_t (fo_s acc 140)), .int (so_i (fo_s acc 140)), .int b9_1, .int py, .ref x1, .ref x2, .ref x3, .ref x4, .int ap, .ref xq, .int qd, .ref xz, .ref xd, .int (nI s9), .int fl, .int (nI u9_2)])), (xm, .inl (cA 0, 300, .inl (nJ M))), (xs, .inl (cA 0, 5, .inl (nJ Z)))]) (lv' := [(0, .ref mo), (1, .int (nI ar)), (2, .int x), (3, .int (nI (sn_f (fo_s acc 140) + sn_n (fo_s acc 140)))), (4, .int (nI (wk_q1 M ar p + 1))), (7, .int v8), (8, .int (nI (i + 1) - 1))]) (st' := []) (pc' := 155) rfl rfl rfl rfl ?_
      refine gw_aload_n S dc_Mod_gather_155 rfl 0 rfl ?_
      refine gw_get S hK.1 ic_Mod rfl 27 (by decide) (gw_lk S mw_807) 2 rfl rfl dc_Mod_gather_156 ?_
      refine gw_aload_n S dc_Mod_gather_159 rfl 0 rfl ?_
      refine gw_get S hK.1 ic_Mod rfl 28 (by decide) (gw_lk S mw_808) 2 rfl rfl dc_Mod_gather_160 ?_
      refine gw_jw (ws2 := [(xg, .inl (cA 0, 7, .inl g)), (xd, .inl (cA 0, 40, .inl d9)), (mo, .inr (9, [.ref xm, .ref xs, .ref xt, .ref xk, .ref xp, .ref xr, .ref xc, .ref xu, .ref xe, .ref xb, .ref xa, .ref xl, .ref xg, .int pl, .int (so_f (fo_s acc 140)), .int (so_t (fo_s acc 140)), .int (so_i (fo_s acc 140)), .int b9_1, .int py, .ref x1, .ref x2, .ref x3, .ref x4, .int ap, .ref xq, .int qd, .ref xz, .ref xd, .int (nI s9), .int fl, .int (nI u9_2)])), (xm, .inl (cA 0, 300, .inl (nJ M))), (xs, .inl (cA 0, 5, .inl (nJ Z)))]) (lv2 := [(0, .ref mo), (1, .int (nI ar)), (2, .int x), (3, .int (nI (sn_f (fo_s acc 140) + sn_n (fo_s acc 140)))), (4, .int (nI (wk_q1 M ar p + 1))), (7, .int v8), (8, .int (nI (i + 1) - 1))]) (st2 := [.int (if (nI i) ≤ 3 then ((v8 >>> ((nI (8 * i)) &&& 31)) &&& 255) else (0)), .int (nI s9), .ref xd]) (pc2 := 185) ?_ (fun kJ_17 => ?_)
      rotate_left
      · -- join at 185
        refine gw_iload S dc_Mod_gather_163 6 rfl ?_
        refine gw_eq (ws' := [(xg, .inl (cA 0, 7, .inl g)), (xd, .inl (cA 0, 40, .inl d9)), (mo, .inr (9, [.ref xm, .ref xs, .ref xt, .ref xk, .ref xp, .ref xr, .ref xc, .ref xu, .ref xe, .ref xb, .ref xa, .ref xl, .ref xg, .int pl, .int (so_f (fo_s acc 140)), .int (so_t (fo_s acc 140)), .int (so_i (fo_s acc 140)), .int b9_1, .int py, .ref x1, .ref x2, .ref x3, .ref x4, .int ap, .ref xq, .int qd, .ref xz, .ref xd, .int (nI s9), .int fl, .int (nI u9_2)])), (xm, .inl (cA 0, 300, .inl (nJ M))), (xs, .inl (cA 0, 5, .inl (nJ Z)))]) (lv' := [(0, .ref mo), (1, .int (nI ar)), (2, .int x), (3, .int (nI (sn_f (fo_s acc 140) + sn_n (fo_s acc 140)))), (4, .int (nI (wk_q1 M ar p + 1))), (7, .int v8), (8, .int (nI (i + 1) - 1))]) (st' := [.int (nI i), .int (nI s9), .ref xd]) rfl rfl (by rw [nI_pred]) rfl ?_
        refine gw_iconst (v := 3) S dc_Mod_gather_165 (by decide) ?_
        refine gw_icmp_le (tgt := 173) S dc_Mod_gather_166 (by decide) (fun c_18 => ?_) (fun c_18 => ?_)
        · -- taken
          refine gw_iload S dc_Mod_gather_173 5 rfl ?_
          refine gw_bipush (v := 8) S dc_Mod_gather_175 (by decide) ?_
          refine gw_iload S dc_Mod_gather_177 6 rfl ?_
          refine gw_eq (ws' := [(xg, .inl (cA 0, 7, .inl g)), (xd, .inl (cA 0, 40, .inl d9)), (mo, .inr (9, [.ref xm, .ref xs, .ref xt, .ref xk, .ref xp, .ref xr, .ref xc, .ref xu, .ref xe, .ref xb, .ref xa, .ref xl, .ref xg, .int pl, .int (so_f (fo_s acc 140)), .int (so_t (fo_s acc 140)), .int (so_i (fo_s acc 140)), .int b9_1, .int py, .ref x1, .ref x2, .ref x3, .ref x4, .int ap, .ref xq, .int qd, .ref xz, .ref xd, .int (nI s9), .int fl, .int (nI u9_2)])), (xm, .inl (cA 0, 300, .inl (nJ M))), (xs, .inl (cA 0, 5, .inl (nJ Z)))]) (lv' := [(0, .ref mo), (1, .int (nI ar)), (2, .int x), (3, .int (nI (sn_f (fo_s acc 140) + sn_n (fo_s acc 140)))), (4, .int (nI (wk_q1 M ar p + 1))), (7, .int v8), (8, .int (nI (i + 1) - 1))]) (st' := [.int (nI i), .int 8, .int v8, .int (nI s9), .ref xd]) rfl rfl (by rw [nI_pred]) rfl ?_
          refine gw_imulN (a := 8) (b := i) S dc_Mod_gather_179 ?_
          refine gw_ishr S dc_Mod_gather_180 ?_
          refine gw_sipush (v := 255) S dc_Mod_gather_181 (by decide) ?_
          refine gw_iand S dc_Mod_gather_184 ?_
          exact kJ_17 _ _ _ (by simp only [if_pos c_18]) (by simp only [if_pos c_18]) (by simp only [if_pos c_18])
        · -- not
          refine gw_iconst (v := 0) S dc_Mod_gather_169 (by decide) ?_
          refine gw_goto (tgt := 185) S dc_Mod_gather_170 (by decide) ?_
          exact kJ_17 _ _ _ (by simp only [if_neg c_18]) (by simp only [if_neg c_18]) (by simp only [if_neg c_18])
      refine gw_iastX (X := s9) (ws' := [(xg, .inl (cA 0, 7, .inl g)), (xd, .inl (cA 0, 40, .inl (upd d9 s9 (if (nI i) ≤ 3 then ((v8 >>> ((nI (8 * i)) &&& 31)) &&& 255) else (0))))), (mo, .inr (9, [.ref xm, .ref xs, .ref xt, .ref xk, .ref xp, .ref xr, .ref xc, .ref xu, .ref xe, .ref xb, .ref xa, .ref xl, .ref xg, .int pl, .int (so_f (fo_s acc 140)), .int (so_t (fo_s acc 140)), .int (so_i (fo_s acc 140)), .int b9_1, .int py, .ref x1, .ref x2, .ref x3, .ref x4, .int ap, .ref xq, .int qd, .ref xz, .ref xd, .int (nI s9), .int fl, .int (nI u9_2)])), (xm, .inl (cA 0, 300, .inl (nJ M))), (xs, .inl (cA 0, 5, .inl (nJ Z)))]) S hK.1 1 0 rfl rfl (by omega) (by decide) rfl dc_Mod_gather_185 ?_
      refine gw_aload_n S dc_Mod_gather_186 rfl 0 rfl ?_
      refine gw_dup S dc_Mod_gather_187 rfl ?_
      refine gw_get S hK.1 ic_Mod rfl 28 (by decide) (gw_lk S mw_808) 2 rfl rfl dc_Mod_gather_188 ?_
      refine gw_iconst (v := 1) S dc_Mod_gather_191 (by decide) ?_
      refine gw_iaddN (a := s9) (b := 1) S dc_Mod_gather_192 ?_
      refine gw_put (ws' := [(xg, .inl (cA 0, 7, .inl g)), (xd, .inl (cA 0, 40, .inl (upd d9 s9 (if (nI i) ≤ 3 then ((v8 >>> ((nI (8 * i)) &&& 31)) &&& 255) else (0))))), (mo, .inr (9, [.ref xm, .ref xs, .ref xt, .ref xk, .ref xp, .ref xr, .ref xc, .ref xu, .ref xe, .ref xb, .ref xa, .ref xl, .ref xg, .int pl, .int (so_f (fo_s acc 140)), .int (so_t (fo_s acc 140)), .int (so_i (fo_s acc 140)), .int b9_1, .int py, .ref x1, .ref x2, .ref x3, .ref x4, .int ap, .ref xq, .int qd, .ref xz, .ref xd, .int (nI (s9 + 1)), .int fl, .int (nI u9_2)])), (xm, .inl (cA 0, 300, .inl (nJ M))), (xs, .inl (cA 0, 5, .inl (nJ Z)))]) (ty := .int) S hK.1 ic_Mod rfl 28 (by decide) ty_Mod to_Mod nm_Mod (gw_lk S mw_808) 2 rfl rfl (by decide +kernel) rfl rfl (Nat.le_of_ble_eq_true rfl) rfl dc_Mod_gather_193 ?_
      refine gw_iinc (v := (nI (i + 1) - 1) + (-1)) (lv' := [(8, .int ((nI (i + 1) - 1) + (-1))), (0, .ref mo), (1, .int (nI ar)), (2, .int x), (3, .int (nI (sn_f (fo_s acc 140) + sn_n (fo_s acc 140)))), (4, .int (nI (wk_q1 M ar p + 1))), (7, .int v8)]) S dc_Mod_gather_196 6 rfl rfl (by decide) rfl ?_
      refine gw_goto (tgt := 150) S dc_Mod_gather_199 (by decide) ?_
      refine gw_drop [1, 2, 3, 4, 5, 6, 0] (lv' := [(0, .ref mo), (1, .int (nI ar)), (2, .int x), (3, .int (nI (sn_f (fo_s acc 140) + sn_n (fo_s acc 140)))), (4, .int (nI (wk_q1 M ar p + 1))), (7, .int v8), (8, .int ((nI (i + 1) - 1) + (-1)))]) rfl ?_
      refine gw_eq (ws' := [(xg, .inl (cA 0, 7, .inl g)), (xd, .inl (cA 0, 40, .inl (upd d9 s9 (gb_v v8 i)))), (mo, .inr (9, [.ref xm, .ref xs, .ref xt, .ref xk, .ref xp, .ref xr, .ref xc, .ref xu, .ref xe, .ref xb, .ref xa, .ref xl, .ref xg, .int pl, .int (so_f (fo_s acc 140)), .int (so_t (fo_s acc 140)), .int (so_i (fo_s acc 140)), .int b9_1, .int py, .ref x1, .ref x2, .ref x3, .ref x4, .int ap, .ref xq, .int qd, .ref xz, .ref xd, .int (nI (s9 + 1)), .int fl, .int (nI u9_2)])), (xm, .inl (cA 0, 300, .inl (nJ M))), (xs, .inl (cA 0, 5, .inl (nJ Z)))]) (lv' := [(0, .ref mo), (1, .int (nI ar)), (2, .int x), (3, .int (nI (sn_f (fo_s acc 140) + sn_n (fo_s acc 140)))), (4, .int (nI (wk_q1 M ar p + 1))), (7, .int v8), (8, .int (nI i - 1))]) (st' := []) (pc' := 150) rfl (by rw [gj_back]) rfl rfl ?_
      exact ih_15 (i, upd d9 s9 (gb_v v8 i), s9 + 1) ⟨(by omega), (by rw [hi9]; rfl)⟩ (show i < i + 1 by omega)
