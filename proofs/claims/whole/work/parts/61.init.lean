section GI
variable {p : Program} {l : Launch} {e : Env} {R : Room} {s : State} {m : MethodId} {args : Array Value} {below : List Frame} {meth : Method} {c : Code} {cells slots : Nat} {Q : State → Prop}
variable {cc : ByteArray} {nL pc : Nat} {Ts : List Cond} {own : String} {D : va_G} {cl : List vw_C} {tys : List (ClassId × FieldType)} {A : Nat → Prop} {I : Heap → List Loc → Prop} {H0 : Heap} {ws : va_W} {lv : List (Nat × Value)} {st : List Value}
theorem gw_oinit (S : CallFix p m c cc nL s args Ts own) {idx a : Nat} (hlink : (Cond.methodLink own idx Lib.objectInit).before args s = true) (hinst : (Cond.instanceMethod Lib.objectInit).before args s = true) (hcode : (Cond.code Lib.objectInit ⟨#[0xb1]⟩ 1 none).before args s = true) (hframes : 1 ≤ R.frames) (hloc : (st.map fun v => v.category).sum + 12 ≤ R.locals) (d : decode cc pc = .ok (.invokespecial idx, 3)) (k : gw_G p l e R s m args below meth c D cl A I cells slots nL Q ws lv st (pc + 3)) : gw_G p l e R s m args below meth c D cl A I cells slots nL Q ws lv (.ref a :: st) pc := fun H locs ls hP hD hI hl => W.objInit S.1 S.2.1 S.2.2.2.1 hlink hinst hcode rfl (by rw [S.2.2.1]; exact hl.1) rfl d hframes (by
    have e : (F0 m pc ls (.ref a :: st)).monitorRoom = 0 := rfl
    rw [e]
    omega) (k H locs ls hP hD hI hl)
end GI
theorem df_Row : ∀ j, j < 2 → defaultValue (ty_Row j) = vp_V [.null, .int 0] j
  | 0, _ => rfl
  | 1, _ => rfl
  | k + 2, h => absurd h (by omega)
theorem df_Term : ∀ j, j < 1 → defaultValue (ty_Term j) = vp_V [.null] j
  | 0, _ => rfl
  | k + 1, h => absurd h (by omega)
theorem df_Host : ∀ j, j < 4 → defaultValue (ty_Host j) = vp_V [.null, .null, .null, .int 0] j
  | 0, _ => rfl
  | 1, _ => rfl
  | 2, _ => rfl
  | 3, _ => rfl
  | k + 4, h => absurd h (by omega)
theorem df_Pmt : ∀ j, j < 13 → defaultValue (ty_Pmt j) = vp_V [.null, .int 0, .int 0, .int 0, .int 0, .int 0, .int 0, .int 0, .int 0, .int 0, .int 0, .int 0, .int 0] j
  | 0, _ => rfl
  | 1, _ => rfl
  | 2, _ => rfl
  | 3, _ => rfl
  | 4, _ => rfl
  | 5, _ => rfl
  | 6, _ => rfl
  | 7, _ => rfl
  | 8, _ => rfl
  | 9, _ => rfl
  | 10, _ => rfl
  | 11, _ => rfl
  | 12, _ => rfl
  | k + 13, h => absurd h (by omega)
theorem df_Tree : ∀ j, j < 6 → defaultValue (ty_Tree j) = vp_V [.null, .null, .null, .null, .null, .int 0] j
  | 0, _ => rfl
  | 1, _ => rfl
  | 2, _ => rfl
  | 3, _ => rfl
  | 4, _ => rfl
  | 5, _ => rfl
  | k + 6, h => absurd h (by omega)
theorem df_Card : ∀ j, j < 14 → defaultValue (ty_Card j) = vp_V [.null, .int 0, .int 0, .int 0, .int 0, .int 0, .int 0, .int 0, .int 0, .int 0, .int 0, .int 0, .int 0, .int 0] j
  | 0, _ => rfl
  | 1, _ => rfl
  | 2, _ => rfl
  | 3, _ => rfl
  | 4, _ => rfl
  | 5, _ => rfl
  | 6, _ => rfl
  | 7, _ => rfl
  | 8, _ => rfl
  | 9, _ => rfl
  | 10, _ => rfl
  | 11, _ => rfl
  | 12, _ => rfl
  | 13, _ => rfl
  | k + 14, h => absurd h (by omega)
theorem df_Rev : ∀ j, j < 4 → defaultValue (ty_Rev j) = vp_V [.int 0, .int 0, .int 0, .int 0] j
  | 0, _ => rfl
  | 1, _ => rfl
  | 2, _ => rfl
  | 3, _ => rfl
  | k + 4, h => absurd h (by omega)
theorem df_PC : ∀ j, j < 9 → defaultValue (ty_PC j) = vp_V [.null, .null, .null, .null, .null, .null, .null, .int 0, .int 0] j
  | 0, _ => rfl
  | 1, _ => rfl
  | 2, _ => rfl
  | 3, _ => rfl
  | 4, _ => rfl
  | 5, _ => rfl
  | 6, _ => rfl
  | 7, _ => rfl
  | 8, _ => rfl
  | k + 9, h => absurd h (by omega)
theorem df_AL : ∀ j, j < 3 → defaultValue (ty_AL j) = vp_V [.null, .int 0, .int 0] j
  | 0, _ => rfl
  | 1, _ => rfl
  | 2, _ => rfl
  | k + 3, h => absurd h (by omega)
theorem df_Mod : ∀ j, j < 31 → defaultValue (ty_Mod j) = vp_V [.null, .null, .null, .null, .null, .null, .null, .null, .null, .null, .null, .null, .null, .int 0, .int 0, .int 0, .int 0, .int 0, .int 0, .null, .null, .null, .null, .int 0, .null, .int 0, .null, .null, .int 0, .int 0, .int 0] j
  | 0, _ => rfl
  | 1, _ => rfl
  | 2, _ => rfl
  | 3, _ => rfl
  | 4, _ => rfl
  | 5, _ => rfl
  | 6, _ => rfl
  | 7, _ => rfl
  | 8, _ => rfl
  | 9, _ => rfl
  | 10, _ => rfl
  | 11, _ => rfl
  | 12, _ => rfl
  | 13, _ => rfl
  | 14, _ => rfl
  | 15, _ => rfl
  | 16, _ => rfl
  | 17, _ => rfl
  | 18, _ => rfl
  | 19, _ => rfl
  | 20, _ => rfl
  | 21, _ => rfl
  | 22, _ => rfl
  | 23, _ => rfl
  | 24, _ => rfl
  | 25, _ => rfl
  | 26, _ => rfl
  | 27, _ => rfl
  | 28, _ => rfl
  | 29, _ => rfl
  | 30, _ => rfl
  | k + 31, h => absurd h (by omega)
abbrev ct_Z (l : Launch) (D : va_G) (cA : Nat → ClassId) (ut ed : Nat) (y : MethodName) (cd : Cond) (lv mc ms sz : Nat) (av : List Value) (w : va_W) (post : Option Value → va_W → Prop) : Prop := Met l y (cd :: bw_B) { frames := lv, cells := mc, slots := ms, locals := 60 * lv } (gw_PZ ut ed D cs_L (cs_T cA) bw_N av w sz) (gw_Q D cs_L (va_A w sz) post) mc ms (va_A w sz)
set_option maxRecDepth 100000 in
set_option maxHeartbeats 4000000 in
theorem c_Row_init60 (l : Launch) (D : va_G) (cA : Nat → ClassId) (sz : Nat) (h : Nat)  : ct_M l D cA yn_Row_init cd_Row_init 2 1 60 sz [.ref h, .int 60] [(h, .inr (0, [.null, .int 0]))] (fun v_ w_ => ∃ (qb : Nat), v_ = none ∧ w_ = [(h, .inr (0, [.ref qb, .int 0])), (qb, .inl (cA 0, 60, .inl (fun _ => 0)))]) := by
  refine gw_met (by decide) rfl (Nat.le_of_ble_eq_true rfl) ?_
  intro p_ e_ s_ m_ args_ below_ meth_ c_ A_ S g_r g_k g_n hK hA
  refine gw_eq (ws' := [(h, .inr (0, [.null, .int 0]))]) (lv' := [(0, .ref h), (1, .int 60)]) (st' := []) (pc' := 0) rfl rfl rfl rfl ?_
  refine gw_aload_n S dc_Row_init_0 rfl 0 rfl ?_
  refine gw_oinit S (gw_lk S mw_34) (gw_lk S mw_27) (gw_lk S mw_28) (Nat.le_of_ble_eq_true rfl) (Nat.le_of_ble_eq_true rfl) dc_Row_init_1 ?_
  refine gw_aload_n S dc_Row_init_4 rfl 0 rfl ?_
  refine gw_iload_n S dc_Row_init_5 rfl 1 rfl ?_
  refine gw_newa (atype := .int) (ty := .int) (a0 := (60, .inl (fun _ => 0))) (cI := cA 0) (N' := 60) S hK.1 hA 0 rfl (gw_lk S mw_42) rfl (fun _ h => by cases h) (fun _ => rfl) (by decide) (by decide) (by decide) (Nat.le_of_ble_eq_true rfl) (Nat.le_of_ble_eq_true rfl) dc_Row_init_6 (fun q_1 => ?_)
  refine gw_eq (ws' := [(h, .inr (0, [.null, .int 0])), (q_1, .inl (cA 0, 60, .inl (fun _ => 0)))]) (lv' := [(0, .ref h), (1, .int 60)]) (st' := [.ref q_1, .ref h]) (pc' := 8) rfl rfl rfl rfl ?_
  refine gw_putF (ws' := [(h, .inr (0, [.ref q_1, .int 0])), (q_1, .inl (cA 0, 60, .inl (fun _ => 0)))]) (ty := .array .int) S hK.1 ic_Row rfl 0 (by decide) ty_Row to_Row nm_Row (gw_lk S mw_35) 0 rfl rfl g_n rfl (by decide +kernel) rfl rfl (Nat.le_of_ble_eq_true rfl) rfl dc_Row_init_8 ?_
  exact gw_vret (w := [(h, .inr (0, [.ref q_1, .int 0])), (q_1, .inl (cA 0, 60, .inl (fun _ => 0)))]) S g_r g_k  [0, 1] rfl (by decide) ⟨q_1, rfl, rfl⟩ dc_Row_init_11
set_option maxRecDepth 100000 in
set_option maxHeartbeats 4000000 in
theorem c_Row_init40 (l : Launch) (D : va_G) (cA : Nat → ClassId) (sz : Nat) (h : Nat)  : ct_M l D cA yn_Row_init cd_Row_init 2 1 40 sz [.ref h, .int 40] [(h, .inr (0, [.null, .int 0]))] (fun v_ w_ => ∃ (qb : Nat), v_ = none ∧ w_ = [(h, .inr (0, [.ref qb, .int 0])), (qb, .inl (cA 0, 40, .inl (fun _ => 0)))]) := by
  refine gw_met (by decide) rfl (Nat.le_of_ble_eq_true rfl) ?_
  intro p_ e_ s_ m_ args_ below_ meth_ c_ A_ S g_r g_k g_n hK hA
  refine gw_eq (ws' := [(h, .inr (0, [.null, .int 0]))]) (lv' := [(0, .ref h), (1, .int 40)]) (st' := []) (pc' := 0) rfl rfl rfl rfl ?_
  refine gw_aload_n S dc_Row_init_0 rfl 0 rfl ?_
  refine gw_oinit S (gw_lk S mw_34) (gw_lk S mw_27) (gw_lk S mw_28) (Nat.le_of_ble_eq_true rfl) (Nat.le_of_ble_eq_true rfl) dc_Row_init_1 ?_
  refine gw_aload_n S dc_Row_init_4 rfl 0 rfl ?_
  refine gw_iload_n S dc_Row_init_5 rfl 1 rfl ?_
  refine gw_newa (atype := .int) (ty := .int) (a0 := (40, .inl (fun _ => 0))) (cI := cA 0) (N' := 40) S hK.1 hA 0 rfl (gw_lk S mw_42) rfl (fun _ h => by cases h) (fun _ => rfl) (by decide) (by decide) (by decide) (Nat.le_of_ble_eq_true rfl) (Nat.le_of_ble_eq_true rfl) dc_Row_init_6 (fun q_1 => ?_)
  refine gw_eq (ws' := [(h, .inr (0, [.null, .int 0])), (q_1, .inl (cA 0, 40, .inl (fun _ => 0)))]) (lv' := [(0, .ref h), (1, .int 40)]) (st' := [.ref q_1, .ref h]) (pc' := 8) rfl rfl rfl rfl ?_
  refine gw_putF (ws' := [(h, .inr (0, [.ref q_1, .int 0])), (q_1, .inl (cA 0, 40, .inl (fun _ => 0)))]) (ty := .array .int) S hK.1 ic_Row rfl 0 (by decide) ty_Row to_Row nm_Row (gw_lk S mw_35) 0 rfl rfl g_n rfl (by decide +kernel) rfl rfl (Nat.le_of_ble_eq_true rfl) rfl dc_Row_init_8 ?_
  exact gw_vret (w := [(h, .inr (0, [.ref q_1, .int 0])), (q_1, .inl (cA 0, 40, .inl (fun _ => 0)))]) S g_r g_k  [0, 1] rfl (by decide) ⟨q_1, rfl, rfl⟩ dc_Row_init_11
set_option maxRecDepth 100000 in
set_option maxHeartbeats 4000000 in
theorem c_Term_init (l : Launch) (D : va_G) (cA : Nat → ClassId) (sz : Nat) (h : Nat)  : ct_M l D cA yn_Term_init cd_Term_init 2 1 7 sz [.ref h] [(h, .inr (1, [.null]))] (fun v_ w_ => ∃ (qs : Nat), v_ = none ∧ w_ = [(h, .inr (1, [.ref qs])), (qs, .inl (cA 0, 7, .inl (fun _ => 0)))]) := by
  refine gw_met (by decide) rfl (Nat.le_of_ble_eq_true rfl) ?_
  intro p_ e_ s_ m_ args_ below_ meth_ c_ A_ S g_r g_k g_n hK hA
  refine gw_eq (ws' := [(h, .inr (1, [.null]))]) (lv' := [(0, .ref h)]) (st' := []) (pc' := 0) rfl rfl rfl rfl ?_
  refine gw_aload_n S dc_Term_init_0 rfl 0 rfl ?_
  refine gw_oinit S (gw_lk S mw_50) (gw_lk S mw_27) (gw_lk S mw_28) (Nat.le_of_ble_eq_true rfl) (Nat.le_of_ble_eq_true rfl) dc_Term_init_1 ?_
  refine gw_aload_n S dc_Term_init_4 rfl 0 rfl ?_
  refine gw_bipush (v := 7) S dc_Term_init_5 (by decide) ?_
  refine gw_newa (atype := .int) (ty := .int) (a0 := (7, .inl (fun _ => 0))) (cI := cA 0) (N' := 7) S hK.1 hA 0 rfl (gw_lk S mw_42) rfl (fun _ h => by cases h) (fun _ => rfl) (by decide) (by decide) (by decide) (Nat.le_of_ble_eq_true rfl) (Nat.le_of_ble_eq_true rfl) dc_Term_init_7 (fun q_1 => ?_)
  refine gw_eq (ws' := [(h, .inr (1, [.null])), (q_1, .inl (cA 0, 7, .inl (fun _ => 0)))]) (lv' := [(0, .ref h)]) (st' := [.ref q_1, .ref h]) (pc' := 9) rfl rfl rfl rfl ?_
  refine gw_putF (ws' := [(h, .inr (1, [.ref q_1])), (q_1, .inl (cA 0, 7, .inl (fun _ => 0)))]) (ty := .array .int) S hK.1 ic_Term rfl 0 (by decide) ty_Term to_Term nm_Term (gw_lk S mw_51) 0 rfl rfl g_n rfl (by decide +kernel) rfl rfl (Nat.le_of_ble_eq_true rfl) rfl dc_Term_init_9 ?_
  exact gw_vret (w := [(h, .inr (1, [.ref q_1])), (q_1, .inl (cA 0, 7, .inl (fun _ => 0)))]) S g_r g_k  [0, 1] rfl (by decide) ⟨q_1, rfl, rfl⟩ dc_Term_init_12
set_option maxRecDepth 100000 in
set_option maxHeartbeats 4000000 in
theorem c_Host_init (l : Launch) (D : va_G) (cA : Nat → ClassId) (sz : Nat) (h : Nat)  : ct_M l D cA yn_Host_init cd_Host_init 2 3 24 sz [.ref h] [(h, .inr (2, [.null, .null, .null, .int 0]))] (fun v_ w_ => ∃ (qa : Nat), ∃ (qb : Nat), ∃ (qc : Nat), v_ = none ∧ w_ = [(h, .inr (2, [.ref qa, .ref qb, .ref qc, .int 0])), (qa, .inl (cA 1, 8, .inr (.inl (fun _ => 0)))), (qb, .inl (cA 0, 8, .inl (fun _ => 0))), (qc, .inl (cA 0, 8, .inl (fun _ => 0)))]) := by
  refine gw_met (by decide) rfl (Nat.le_of_ble_eq_true rfl) ?_
  intro p_ e_ s_ m_ args_ below_ meth_ c_ A_ S g_r g_k g_n hK hA
  refine gw_eq (ws' := [(h, .inr (2, [.null, .null, .null, .int 0]))]) (lv' := [(0, .ref h)]) (st' := []) (pc' := 0) rfl rfl rfl rfl ?_
  refine gw_aload_n S dc_Host_init_0 rfl 0 rfl ?_
  refine gw_oinit S (gw_lk S mw_60) (gw_lk S mw_27) (gw_lk S mw_28) (Nat.le_of_ble_eq_true rfl) (Nat.le_of_ble_eq_true rfl) dc_Host_init_1 ?_
  refine gw_aload_n S dc_Host_init_4 rfl 0 rfl ?_
  refine gw_bipush (v := 8) S dc_Host_init_5 (by decide) ?_
  refine gw_newa (atype := .long) (ty := .long) (a0 := (8, .inr (.inl (fun _ => 0)))) (cI := cA 1) (N' := 8) S hK.1 hA 1 rfl (gw_lk S mw_75) rfl (fun _ h => by cases h) (fun _ => rfl) (by decide) (by decide) (by decide) (Nat.le_of_ble_eq_true rfl) (Nat.le_of_ble_eq_true rfl) dc_Host_init_7 (fun q_1 => ?_)
  refine gw_eq (ws' := [(h, .inr (2, [.null, .null, .null, .int 0])), (q_1, .inl (cA 1, 8, .inr (.inl (fun _ => 0))))]) (lv' := [(0, .ref h)]) (st' := [.ref q_1, .ref h]) (pc' := 9) rfl rfl rfl rfl ?_
  refine gw_putF (ws' := [(h, .inr (2, [.ref q_1, .null, .null, .int 0])), (q_1, .inl (cA 1, 8, .inr (.inl (fun _ => 0))))]) (ty := .array .long) S hK.1 ic_Host rfl 0 (by decide) ty_Host to_Host nm_Host (gw_lk S mw_61) 0 rfl rfl g_n rfl (by decide +kernel) rfl rfl (Nat.le_of_ble_eq_true rfl) rfl dc_Host_init_9 ?_
  refine gw_aload_n S dc_Host_init_12 rfl 0 rfl ?_
  refine gw_bipush (v := 8) S dc_Host_init_13 (by decide) ?_
  refine gw_newa (atype := .int) (ty := .int) (a0 := (8, .inl (fun _ => 0))) (cI := cA 0) (N' := 8) S hK.1 hA 0 rfl (gw_lk S mw_42) rfl (fun _ h => by cases h) (fun _ => rfl) (by decide) (by decide) (by decide) (Nat.le_of_ble_eq_true rfl) (Nat.le_of_ble_eq_true rfl) dc_Host_init_15 (fun q_2 => ?_)
  refine gw_eq (ws' := [(h, .inr (2, [.ref q_1, .null, .null, .int 0])), (q_1, .inl (cA 1, 8, .inr (.inl (fun _ => 0)))), (q_2, .inl (cA 0, 8, .inl (fun _ => 0)))]) (lv' := [(0, .ref h)]) (st' := [.ref q_2, .ref h]) (pc' := 17) rfl rfl rfl rfl ?_
  refine gw_putF (ws' := [(h, .inr (2, [.ref q_1, .ref q_2, .null, .int 0])), (q_1, .inl (cA 1, 8, .inr (.inl (fun _ => 0)))), (q_2, .inl (cA 0, 8, .inl (fun _ => 0)))]) (ty := .array .int) S hK.1 ic_Host rfl 1 (by decide) ty_Host to_Host nm_Host (gw_lk S mw_62) 0 rfl rfl g_n rfl (by decide +kernel) rfl rfl (Nat.le_of_ble_eq_true rfl) rfl dc_Host_init_17 ?_
  refine gw_aload_n S dc_Host_init_20 rfl 0 rfl ?_
  refine gw_bipush (v := 8) S dc_Host_init_21 (by decide) ?_
  refine gw_newa (atype := .int) (ty := .int) (a0 := (8, .inl (fun _ => 0))) (cI := cA 0) (N' := 8) S hK.1 hA 0 rfl (gw_lk S mw_42) rfl (fun _ h => by cases h) (fun _ => rfl) (by decide) (by decide) (by decide) (Nat.le_of_ble_eq_true rfl) (Nat.le_of_ble_eq_true rfl) dc_Host_init_23 (fun q_3 => ?_)
  refine gw_eq (ws' := [(h, .inr (2, [.ref q_1, .ref q_2, .null, .int 0])), (q_1, .inl (cA 1, 8, .inr (.inl (fun _ => 0)))), (q_2, .inl (cA 0, 8, .inl (fun _ => 0))), (q_3, .inl (cA 0, 8, .inl (fun _ => 0)))]) (lv' := [(0, .ref h)]) (st' := [.ref q_3, .ref h]) (pc' := 25) rfl rfl rfl rfl ?_
  refine gw_putF (ws' := [(h, .inr (2, [.ref q_1, .ref q_2, .ref q_3, .int 0])), (q_1, .inl (cA 1, 8, .inr (.inl (fun _ => 0)))), (q_2, .inl (cA 0, 8, .inl (fun _ => 0))), (q_3, .inl (cA 0, 8, .inl (fun _ => 0)))]) (ty := .array .int) S hK.1 ic_Host rfl 2 (by decide) ty_Host to_Host nm_Host (gw_lk S mw_63) 0 rfl rfl g_n rfl (by decide +kernel) rfl rfl (Nat.le_of_ble_eq_true rfl) rfl dc_Host_init_25 ?_
  exact gw_vret (w := [(h, .inr (2, [.ref q_1, .ref q_2, .ref q_3, .int 0])), (q_1, .inl (cA 1, 8, .inr (.inl (fun _ => 0)))), (q_2, .inl (cA 0, 8, .inl (fun _ => 0))), (q_3, .inl (cA 0, 8, .inl (fun _ => 0)))]) S g_r g_k  [0, 1, 2, 3] rfl (by decide) ⟨q_1, q_2, q_3, rfl, rfl⟩ dc_Host_init_28
set_option maxRecDepth 100000 in
set_option maxHeartbeats 4000000 in
theorem c_Tree_init (l : Launch) (D : va_G) (cA : Nat → ClassId) (sz : Nat) (h : Nat)  : ct_M l D cA yn_Tree_init cd_Tree_init 3 6 182 sz [.ref h] [(h, .inr (4, [.null, .null, .null, .null, .null, .int 0]))] (fun v_ w_ => ∃ (qr : Nat), ∃ (qb : Nat), ∃ (qt : Nat), ∃ (qs : Nat), ∃ (ql : Nat), ∃ (qi : Nat), v_ = none ∧ w_ = [(h, .inr (4, [.ref qr, .ref qt, .ref qs, .ref ql, .ref qi, .int 0])), (qr, .inr (0, [.ref qb, .int 0])), (qb, .inl (cA 0, 60, .inl (fun _ => 0))), (qt, .inl (cA 0, 30, .inl (fun _ => 0))), (qs, .inl (cA 0, 30, .inl (fun _ => 0))), (ql, .inl (cA 0, 30, .inl (fun _ => 0))), (qi, .inl (cA 0, 30, .inl (fun _ => 0)))]) := by
  refine gw_met (by decide) rfl (Nat.le_of_ble_eq_true rfl) ?_
  intro p_ e_ s_ m_ args_ below_ meth_ c_ A_ S g_r g_k g_n hK hA
  refine gw_eq (ws' := [(h, .inr (4, [.null, .null, .null, .null, .null, .int 0]))]) (lv' := [(0, .ref h)]) (st' := []) (pc' := 0) rfl rfl rfl rfl ?_
  refine gw_aload_n S dc_Tree_init_0 rfl 0 rfl ?_
  refine gw_oinit S (gw_lk S mw_166) (gw_lk S mw_27) (gw_lk S mw_28) (Nat.le_of_ble_eq_true rfl) (Nat.le_of_ble_eq_true rfl) dc_Tree_init_1 ?_
  refine gw_aload_n S dc_Tree_init_4 rfl 0 rfl ?_
  refine gw_new (C := rn_Row) (T := tb_Row) (N := 2) (ci := 0) (fs := [.null, .int 0]) S hK.1 hA ic_Row ty_Row to_Row (gw_lk S mw_167) (gw_lk S mw_30) (gw_lk S mw_2) rfl df_Row (Nat.le_of_ble_eq_true rfl) (Nat.le_of_ble_eq_true rfl) dc_Tree_init_5 (fun q_1 => ?_)
  refine gw_eq (ws' := [(h, .inr (4, [.null, .null, .null, .null, .null, .int 0])), (q_1, .inr (0, [.null, .int 0]))]) (lv' := [(0, .ref h)]) (st' := [.ref q_1, .ref h]) (pc' := 8) rfl rfl rfl rfl ?_
  refine gw_dup S dc_Tree_init_8 rfl ?_
  refine gw_bipush (v := 60) S dc_Tree_init_9 (by decide) ?_
  refine gw_callI (ret := none) (As := [.int 60]) (st := [.ref q_1, .ref h]) (wr := [(h, .inr (4, [.null, .null, .null, .null, .null, .int 0]))]) S hK hA (fun sz => c_Row_init60 l D cA sz q_1 ) (cw_Tree_11 S.2.2.2.2 rfl rfl ⟨Nat.le_of_ble_eq_true rfl, Nat.le_of_ble_eq_true rfl⟩) [1] [0] rfl (by decide) rfl (by decide) (by decide) rfl rfl (Nat.le_of_ble_eq_true rfl) dc_Tree_init_11 ⟨Nat.le_of_ble_eq_true rfl, Nat.le_of_ble_eq_true rfl⟩ ?_
  rintro _ _ ⟨qb_2, rfl, rfl⟩
  refine gw_eq (ws' := [(h, .inr (4, [.null, .null, .null, .null, .null, .int 0])), (q_1, .inr (0, [.ref qb_2, .int 0])), (qb_2, .inl (cA 0, 60, .inl (fun _ => 0)))]) (lv' := [(0, .ref h)]) (st' := [.ref q_1, .ref h]) (pc' := 14) rfl rfl rfl rfl ?_
  refine gw_putF (ws' := [(h, .inr (4, [.ref q_1, .null, .null, .null, .null, .int 0])), (q_1, .inr (0, [.ref qb_2, .int 0])), (qb_2, .inl (cA 0, 60, .inl (fun _ => 0)))]) (ty := .object "PayChain$Row") S hK.1 ic_Tree rfl 0 (by decide) ty_Tree to_Tree nm_Tree (gw_lk S mw_169) 0 rfl rfl g_n rfl (by decide +kernel) rfl rfl (Nat.le_of_ble_eq_true rfl) rfl dc_Tree_init_14 ?_
  refine gw_aload_n S dc_Tree_init_17 rfl 0 rfl ?_
  refine gw_bipush (v := 30) S dc_Tree_init_18 (by decide) ?_
  refine gw_newa (atype := .int) (ty := .int) (a0 := (30, .inl (fun _ => 0))) (cI := cA 0) (N' := 30) S hK.1 hA 0 rfl (gw_lk S mw_42) rfl (fun _ h => by cases h) (fun _ => rfl) (by decide) (by decide) (by decide) (Nat.le_of_ble_eq_true rfl) (Nat.le_of_ble_eq_true rfl) dc_Tree_init_20 (fun q_3 => ?_)
  refine gw_eq (ws' := [(h, .inr (4, [.ref q_1, .null, .null, .null, .null, .int 0])), (q_1, .inr (0, [.ref qb_2, .int 0])), (qb_2, .inl (cA 0, 60, .inl (fun _ => 0))), (q_3, .inl (cA 0, 30, .inl (fun _ => 0)))]) (lv' := [(0, .ref h)]) (st' := [.ref q_3, .ref h]) (pc' := 22) rfl rfl rfl rfl ?_
  refine gw_putF (ws' := [(h, .inr (4, [.ref q_1, .ref q_3, .null, .null, .null, .int 0])), (q_1, .inr (0, [.ref qb_2, .int 0])), (qb_2, .inl (cA 0, 60, .inl (fun _ => 0))), (q_3, .inl (cA 0, 30, .inl (fun _ => 0)))]) (ty := .array .int) S hK.1 ic_Tree rfl 1 (by decide) ty_Tree to_Tree nm_Tree (gw_lk S mw_170) 0 rfl rfl g_n rfl (by decide +kernel) rfl rfl (Nat.le_of_ble_eq_true rfl) rfl dc_Tree_init_22 ?_
  refine gw_aload_n S dc_Tree_init_25 rfl 0 rfl ?_
  refine gw_bipush (v := 30) S dc_Tree_init_26 (by decide) ?_
  refine gw_newa (atype := .int) (ty := .int) (a0 := (30, .inl (fun _ => 0))) (cI := cA 0) (N' := 30) S hK.1 hA 0 rfl (gw_lk S mw_42) rfl (fun _ h => by cases h) (fun _ => rfl) (by decide) (by decide) (by decide) (Nat.le_of_ble_eq_true rfl) (Nat.le_of_ble_eq_true rfl) dc_Tree_init_28 (fun q_4 => ?_)
  refine gw_eq (ws' := [(h, .inr (4, [.ref q_1, .ref q_3, .null, .null, .null, .int 0])), (q_1, .inr (0, [.ref qb_2, .int 0])), (qb_2, .inl (cA 0, 60, .inl (fun _ => 0))), (q_3, .inl (cA 0, 30, .inl (fun _ => 0))), (q_4, .inl (cA 0, 30, .inl (fun _ => 0)))]) (lv' := [(0, .ref h)]) (st' := [.ref q_4, .ref h]) (pc' := 30) rfl rfl rfl rfl ?_
  refine gw_putF (ws' := [(h, .inr (4, [.ref q_1, .ref q_3, .ref q_4, .null, .null, .int 0])), (q_1, .inr (0, [.ref qb_2, .int 0])), (qb_2, .inl (cA 0, 60, .inl (fun _ => 0))), (q_3, .inl (cA 0, 30, .inl (fun _ => 0))), (q_4, .inl (cA 0, 30, .inl (fun _ => 0)))]) (ty := .array .int) S hK.1 ic_Tree rfl 2 (by decide) ty_Tree to_Tree nm_Tree (gw_lk S mw_171) 0 rfl rfl g_n rfl (by decide +kernel) rfl rfl (Nat.le_of_ble_eq_true rfl) rfl dc_Tree_init_30 ?_
  refine gw_aload_n S dc_Tree_init_33 rfl 0 rfl ?_
  refine gw_bipush (v := 30) S dc_Tree_init_34 (by decide) ?_
  refine gw_newa (atype := .int) (ty := .int) (a0 := (30, .inl (fun _ => 0))) (cI := cA 0) (N' := 30) S hK.1 hA 0 rfl (gw_lk S mw_42) rfl (fun _ h => by cases h) (fun _ => rfl) (by decide) (by decide) (by decide) (Nat.le_of_ble_eq_true rfl) (Nat.le_of_ble_eq_true rfl) dc_Tree_init_36 (fun q_5 => ?_)
  refine gw_eq (ws' := [(h, .inr (4, [.ref q_1, .ref q_3, .ref q_4, .null, .null, .int 0])), (q_1, .inr (0, [.ref qb_2, .int 0])), (qb_2, .inl (cA 0, 60, .inl (fun _ => 0))), (q_3, .inl (cA 0, 30, .inl (fun _ => 0))), (q_4, .inl (cA 0, 30, .inl (fun _ => 0))), (q_5, .inl (cA 0, 30, .inl (fun _ => 0)))]) (lv' := [(0, .ref h)]) (st' := [.ref q_5, .ref h]) (pc' := 38) rfl rfl rfl rfl ?_
  refine gw_putF (ws' := [(h, .inr (4, [.ref q_1, .ref q_3, .ref q_4, .ref q_5, .null, .int 0])), (q_1, .inr (0, [.ref qb_2, .int 0])), (qb_2, .inl (cA 0, 60, .inl (fun _ => 0))), (q_3, .inl (cA 0, 30, .inl (fun _ => 0))), (q_4, .inl (cA 0, 30, .inl (fun _ => 0))), (q_5, .inl (cA 0, 30, .inl (fun _ => 0)))]) (ty := .array .int) S hK.1 ic_Tree rfl 3 (by decide) ty_Tree to_Tree nm_Tree (gw_lk S mw_172) 0 rfl rfl g_n rfl (by decide +kernel) rfl rfl (Nat.le_of_ble_eq_true rfl) rfl dc_Tree_init_38 ?_
  refine gw_aload_n S dc_Tree_init_41 rfl 0 rfl ?_
  refine gw_bipush (v := 30) S dc_Tree_init_42 (by decide) ?_
  refine gw_newa (atype := .int) (ty := .int) (a0 := (30, .inl (fun _ => 0))) (cI := cA 0) (N' := 30) S hK.1 hA 0 rfl (gw_lk S mw_42) rfl (fun _ h => by cases h) (fun _ => rfl) (by decide) (by decide) (by decide) (Nat.le_of_ble_eq_true rfl) (Nat.le_of_ble_eq_true rfl) dc_Tree_init_44 (fun q_6 => ?_)
  refine gw_eq (ws' := [(h, .inr (4, [.ref q_1, .ref q_3, .ref q_4, .ref q_5, .null, .int 0])), (q_1, .inr (0, [.ref qb_2, .int 0])), (qb_2, .inl (cA 0, 60, .inl (fun _ => 0))), (q_3, .inl (cA 0, 30, .inl (fun _ => 0))), (q_4, .inl (cA 0, 30, .inl (fun _ => 0))), (q_5, .inl (cA 0, 30, .inl (fun _ => 0))), (q_6, .inl (cA 0, 30, .inl (fun _ => 0)))]) (lv' := [(0, .ref h)]) (st' := [.ref q_6, .ref h]) (pc' := 46) rfl rfl rfl rfl ?_
  refine gw_putF (ws' := [(h, .inr (4, [.ref q_1, .ref q_3, .ref q_4, .ref q_5, .ref q_6, .int 0])), (q_1, .inr (0, [.ref qb_2, .int 0])), (qb_2, .inl (cA 0, 60, .inl (fun _ => 0))), (q_3, .inl (cA 0, 30, .inl (fun _ => 0))), (q_4, .inl (cA 0, 30, .inl (fun _ => 0))), (q_5, .inl (cA 0, 30, .inl (fun _ => 0))), (q_6, .inl (cA 0, 30, .inl (fun _ => 0)))]) (ty := .array .int) S hK.1 ic_Tree rfl 4 (by decide) ty_Tree to_Tree nm_Tree (gw_lk S mw_173) 0 rfl rfl g_n rfl (by decide +kernel) rfl rfl (Nat.le_of_ble_eq_true rfl) rfl dc_Tree_init_46 ?_
  exact gw_vret (w := [(h, .inr (4, [.ref q_1, .ref q_3, .ref q_4, .ref q_5, .ref q_6, .int 0])), (q_1, .inr (0, [.ref qb_2, .int 0])), (qb_2, .inl (cA 0, 60, .inl (fun _ => 0))), (q_3, .inl (cA 0, 30, .inl (fun _ => 0))), (q_4, .inl (cA 0, 30, .inl (fun _ => 0))), (q_5, .inl (cA 0, 30, .inl (fun _ => 0))), (q_6, .inl (cA 0, 30, .inl (fun _ => 0)))]) S g_r g_k  [0, 1, 2, 3, 4, 5, 6] rfl (by decide) ⟨q_1, qb_2, q_3, q_4, q_5, q_6, rfl, rfl⟩ dc_Tree_init_49
set_option maxRecDepth 100000 in
set_option maxHeartbeats 4000000 in
theorem c_Card_init (l : Launch) (D : va_G) (cA : Nat → ClassId) (sz : Nat) (h : Nat)  : ct_M l D cA yn_Card_init cd_Card_init 4 7 188 sz [.ref h] [(h, .inr (5, [.null, .int 0, .int 0, .int 0, .int 0, .int 0, .int 0, .int 0, .int 0, .int 0, .int 0, .int 0, .int 0, .int 0]))] (fun v_ w_ => ∃ (qo : Nat), ∃ (qr : Nat), ∃ (qb : Nat), ∃ (qt : Nat), ∃ (qs : Nat), ∃ (ql : Nat), ∃ (qi : Nat), v_ = none ∧ w_ = [(h, .inr (5, [.ref qo, .int 0, .int 0, .int 0, .int 0, .int 0, .int 0, .int 0, .int 0, .int 0, .int 0, .int 0, .int 0, .int 0])), (qo, .inr (4, [.ref qr, .ref qt, .ref qs, .ref ql, .ref qi, .int 0])), (qr, .inr (0, [.ref qb, .int 0])), (qb, .inl (cA 0, 60, .inl (fun _ => 0))), (qt, .inl (cA 0, 30, .inl (fun _ => 0))), (qs, .inl (cA 0, 30, .inl (fun _ => 0))), (ql, .inl (cA 0, 30, .inl (fun _ => 0))), (qi, .inl (cA 0, 30, .inl (fun _ => 0)))]) := by
  refine gw_met (by decide) rfl (Nat.le_of_ble_eq_true rfl) ?_
  intro p_ e_ s_ m_ args_ below_ meth_ c_ A_ S g_r g_k g_n hK hA
  refine gw_eq (ws' := [(h, .inr (5, [.null, .int 0, .int 0, .int 0, .int 0, .int 0, .int 0, .int 0, .int 0, .int 0, .int 0, .int 0, .int 0, .int 0]))]) (lv' := [(0, .ref h)]) (st' := []) (pc' := 0) rfl rfl rfl rfl ?_
  refine gw_aload_n S dc_Card_init_0 rfl 0 rfl ?_
  refine gw_oinit S (gw_lk S mw_160) (gw_lk S mw_27) (gw_lk S mw_28) (Nat.le_of_ble_eq_true rfl) (Nat.le_of_ble_eq_true rfl) dc_Card_init_1 ?_
  refine gw_aload_n S dc_Card_init_4 rfl 0 rfl ?_
  refine gw_new (C := rn_Tree) (T := tb_Tree) (N := 6) (ci := 4) (fs := [.null, .null, .null, .null, .null, .int 0]) S hK.1 hA ic_Tree ty_Tree to_Tree (gw_lk S mw_161) (gw_lk S mw_162) (gw_lk S mw_10) rfl df_Tree (Nat.le_of_ble_eq_true rfl) (Nat.le_of_ble_eq_true rfl) dc_Card_init_5 (fun q_1 => ?_)
  refine gw_eq (ws' := [(h, .inr (5, [.null, .int 0, .int 0, .int 0, .int 0, .int 0, .int 0, .int 0, .int 0, .int 0, .int 0, .int 0, .int 0, .int 0])), (q_1, .inr (4, [.null, .null, .null, .null, .null, .int 0]))]) (lv' := [(0, .ref h)]) (st' := [.ref q_1, .ref h]) (pc' := 8) rfl rfl rfl rfl ?_
  refine gw_dup S dc_Card_init_8 rfl ?_
  refine gw_callIN (ret := none) (As := []) (st := [.ref q_1, .ref h]) (wr := [(h, .inr (5, [.null, .int 0, .int 0, .int 0, .int 0, .int 0, .int 0, .int 0, .int 0, .int 0, .int 0, .int 0, .int 0, .int 0]))]) S hK hA (fun sz => c_Tree_init l D cA sz q_1 ) (cw_Card_11 S.2.2.2.2 rfl rfl ⟨Nat.le_of_ble_eq_true rfl, Nat.le_of_ble_eq_true rfl⟩ (hK.2 _ mn_163).2) [1] [0] rfl (by decide) rfl (by decide) (by decide) rfl rfl (Nat.le_of_ble_eq_true rfl) dc_Card_init_9 ⟨Nat.le_of_ble_eq_true rfl, Nat.le_of_ble_eq_true rfl⟩ ?_
  rintro _ _ ⟨qr_2, qb_3, qt_4, qs_5, ql_6, qi_7, rfl, rfl⟩
  refine gw_eq (ws' := [(h, .inr (5, [.null, .int 0, .int 0, .int 0, .int 0, .int 0, .int 0, .int 0, .int 0, .int 0, .int 0, .int 0, .int 0, .int 0])), (q_1, .inr (4, [.ref qr_2, .ref qt_4, .ref qs_5, .ref ql_6, .ref qi_7, .int 0])), (qr_2, .inr (0, [.ref qb_3, .int 0])), (qb_3, .inl (cA 0, 60, .inl (fun _ => 0))), (qt_4, .inl (cA 0, 30, .inl (fun _ => 0))), (qs_5, .inl (cA 0, 30, .inl (fun _ => 0))), (ql_6, .inl (cA 0, 30, .inl (fun _ => 0))), (qi_7, .inl (cA 0, 30, .inl (fun _ => 0)))]) (lv' := [(0, .ref h)]) (st' := [.ref q_1, .ref h]) (pc' := 12) rfl rfl rfl rfl ?_
  refine gw_putF (ws' := [(h, .inr (5, [.ref q_1, .int 0, .int 0, .int 0, .int 0, .int 0, .int 0, .int 0, .int 0, .int 0, .int 0, .int 0, .int 0, .int 0])), (q_1, .inr (4, [.ref qr_2, .ref qt_4, .ref qs_5, .ref ql_6, .ref qi_7, .int 0])), (qr_2, .inr (0, [.ref qb_3, .int 0])), (qb_3, .inl (cA 0, 60, .inl (fun _ => 0))), (qt_4, .inl (cA 0, 30, .inl (fun _ => 0))), (qs_5, .inl (cA 0, 30, .inl (fun _ => 0))), (ql_6, .inl (cA 0, 30, .inl (fun _ => 0))), (qi_7, .inl (cA 0, 30, .inl (fun _ => 0)))]) (ty := .object "PayChain$ObjectTree") S hK.1 ic_Card rfl 0 (by decide) ty_Card to_Card nm_Card (gw_lk S mw_188) 0 rfl rfl g_n rfl (by decide +kernel) rfl rfl (Nat.le_of_ble_eq_true rfl) rfl dc_Card_init_12 ?_
  exact gw_vret (w := [(h, .inr (5, [.ref q_1, .int 0, .int 0, .int 0, .int 0, .int 0, .int 0, .int 0, .int 0, .int 0, .int 0, .int 0, .int 0, .int 0])), (q_1, .inr (4, [.ref qr_2, .ref qt_4, .ref qs_5, .ref ql_6, .ref qi_7, .int 0])), (qr_2, .inr (0, [.ref qb_3, .int 0])), (qb_3, .inl (cA 0, 60, .inl (fun _ => 0))), (qt_4, .inl (cA 0, 30, .inl (fun _ => 0))), (qs_5, .inl (cA 0, 30, .inl (fun _ => 0))), (ql_6, .inl (cA 0, 30, .inl (fun _ => 0))), (qi_7, .inl (cA 0, 30, .inl (fun _ => 0)))]) S g_r g_k  [0, 1, 2, 3, 4, 5, 6, 7] rfl (by decide) ⟨q_1, qr_2, qb_3, qt_4, qs_5, ql_6, qi_7, rfl, rfl⟩ dc_Card_init_15
set_option maxRecDepth 100000 in
set_option maxHeartbeats 4000000 in
theorem c_Pmt_init (l : Launch) (D : va_G) (cA : Nat → ClassId) (sz : Nat) (h : Nat)  : ct_M l D cA yn_Pmt_init cd_Pmt_init 3 2 42 sz [.ref h] [(h, .inr (3, [.null, .int 0, .int 0, .int 0, .int 0, .int 0, .int 0, .int 0, .int 0, .int 0, .int 0, .int 0, .int 0]))] (fun v_ w_ => ∃ (qd : Nat), ∃ (qb : Nat), v_ = none ∧ w_ = [(h, .inr (3, [.ref qd, .int 0, .int 0, .int 0, .int 0, .int 0, .int 0, .int 0, .int 0, .int 0, .int 0, .int 0, .int 0])), (qd, .inr (0, [.ref qb, .int 0])), (qb, .inl (cA 0, 40, .inl (fun _ => 0)))]) := by
  refine gw_met (by decide) rfl (Nat.le_of_ble_eq_true rfl) ?_
  intro p_ e_ s_ m_ args_ below_ meth_ c_ A_ S g_r g_k g_n hK hA
  refine gw_eq (ws' := [(h, .inr (3, [.null, .int 0, .int 0, .int 0, .int 0, .int 0, .int 0, .int 0, .int 0, .int 0, .int 0, .int 0, .int 0]))]) (lv' := [(0, .ref h)]) (st' := []) (pc' := 0) rfl rfl rfl rfl ?_
  refine gw_aload_n S dc_Pmt_init_0 rfl 0 rfl ?_
  refine gw_oinit S (gw_lk S mw_81) (gw_lk S mw_27) (gw_lk S mw_28) (Nat.le_of_ble_eq_true rfl) (Nat.le_of_ble_eq_true rfl) dc_Pmt_init_1 ?_
  refine gw_aload_n S dc_Pmt_init_4 rfl 0 rfl ?_
  refine gw_new (C := rn_Row) (T := tb_Row) (N := 2) (ci := 0) (fs := [.null, .int 0]) S hK.1 hA ic_Row ty_Row to_Row (gw_lk S mw_82) (gw_lk S mw_30) (gw_lk S mw_2) rfl df_Row (Nat.le_of_ble_eq_true rfl) (Nat.le_of_ble_eq_true rfl) dc_Pmt_init_5 (fun q_1 => ?_)
  refine gw_eq (ws' := [(h, .inr (3, [.null, .int 0, .int 0, .int 0, .int 0, .int 0, .int 0, .int 0, .int 0, .int 0, .int 0, .int 0, .int 0])), (q_1, .inr (0, [.null, .int 0]))]) (lv' := [(0, .ref h)]) (st' := [.ref q_1, .ref h]) (pc' := 8) rfl rfl rfl rfl ?_
  refine gw_dup S dc_Pmt_init_8 rfl ?_
  refine gw_bipush (v := 40) S dc_Pmt_init_9 (by decide) ?_
  refine gw_callI (ret := none) (As := [.int 40]) (st := [.ref q_1, .ref h]) (wr := [(h, .inr (3, [.null, .int 0, .int 0, .int 0, .int 0, .int 0, .int 0, .int 0, .int 0, .int 0, .int 0, .int 0, .int 0]))]) S hK hA (fun sz => c_Row_init40 l D cA sz q_1 ) (cw_Pmt_11 S.2.2.2.2 rfl rfl ⟨Nat.le_of_ble_eq_true rfl, Nat.le_of_ble_eq_true rfl⟩) [1] [0] rfl (by decide) rfl (by decide) (by decide) rfl rfl (Nat.le_of_ble_eq_true rfl) dc_Pmt_init_11 ⟨Nat.le_of_ble_eq_true rfl, Nat.le_of_ble_eq_true rfl⟩ ?_
  rintro _ _ ⟨qb_2, rfl, rfl⟩
  refine gw_eq (ws' := [(h, .inr (3, [.null, .int 0, .int 0, .int 0, .int 0, .int 0, .int 0, .int 0, .int 0, .int 0, .int 0, .int 0, .int 0])), (q_1, .inr (0, [.ref qb_2, .int 0])), (qb_2, .inl (cA 0, 40, .inl (fun _ => 0)))]) (lv' := [(0, .ref h)]) (st' := [.ref q_1, .ref h]) (pc' := 14) rfl rfl rfl rfl ?_
  refine gw_putF (ws' := [(h, .inr (3, [.ref q_1, .int 0, .int 0, .int 0, .int 0, .int 0, .int 0, .int 0, .int 0, .int 0, .int 0, .int 0, .int 0])), (q_1, .inr (0, [.ref qb_2, .int 0])), (qb_2, .inl (cA 0, 40, .inl (fun _ => 0)))]) (ty := .object "PayChain$Row") S hK.1 ic_Pmt rfl 0 (by decide) ty_Pmt to_Pmt nm_Pmt (gw_lk S mw_84) 0 rfl rfl g_n rfl (by decide +kernel) rfl rfl (Nat.le_of_ble_eq_true rfl) rfl dc_Pmt_init_14 ?_
  exact gw_vret (w := [(h, .inr (3, [.ref q_1, .int 0, .int 0, .int 0, .int 0, .int 0, .int 0, .int 0, .int 0, .int 0, .int 0, .int 0, .int 0])), (q_1, .inr (0, [.ref qb_2, .int 0])), (qb_2, .inl (cA 0, 40, .inl (fun _ => 0)))]) S g_r g_k  [0, 1, 2] rfl (by decide) ⟨q_1, qb_2, rfl, rfl⟩ dc_Pmt_init_17
