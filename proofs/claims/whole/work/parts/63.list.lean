set_option maxRecDepth 100000 in
theorem mw_148 : (Cond.sameField "java/util/ArrayList" "java/util/AbstractList" "modCount" "I") ∈ bw_B := bw_1 (List.mem_of_getElem? (i := 148) rfl) rfl
set_option maxRecDepth 100000 in
theorem mw_679 : (Cond.native ({ cls := "java/lang/System", name := "arraycopy", desc := "(Ljava/lang/Object;ILjava/lang/Object;II)V" } : MethodName)) ∈ bw_B := bw_3 (List.mem_of_getElem? (i := 199) rfl) rfl
section GU
variable {p : Program} {l : Launch} {e : Env} {R : Room} {s : State} {m : MethodId} {args : Array Value} {below : List Frame} {meth : Method} {c : Code} {cells slots : Nat} {Q : State → Prop}
variable {cc : ByteArray} {nL pc : Nat} {Ts : List Cond} {own : String} {D : va_G} {cl : List vw_C} {tys : List (ClassId × FieldType)} {A : Nat → Prop} {I : Heap → List Loc → Prop} {H0 : Heap} {ws : va_W} {lv : List (Nat × Value)} {st : List Value}
theorem gw_getU (S : CallFix p m c cc nL s args Ts own) {C ref : String} {T : u_T} {N ci index a : Nat} {fs : List Value} {v : Value} (hK : va_K D cl tys s) (hin : ∀ w ∈ u_ws C T N, w ∈ Ts) (hc : cl[ci]? = some (C, T, N)) (kf : Nat) (hk : kf < N) (hlink : (Cond.fieldLink own index ref (T kf).2.1 (T kf).2.2.1).before args s = true) (hsm : (Cond.sameField ref (T kf).1 (T kf).2.1 (T kf).2.2.1).before args s = true) (q0 : Nat) (he : ws[q0]? = some (a, .inr (ci, fs))) (hv : fs[kf]? = some v) (d : decode cc pc = .ok (.getfield index, 3)) (k : gw_G p l e R s m args below meth c D cl A I cells slots nL Q ws lv (v :: st) (pc + 3)) : gw_G p l e R s m args below meth c D cl A I cells slots nL Q ws lv (.ref a :: st) pc := fun H locs ls hP hD hI hl => va_get S.1 S.2.1 S.2.2.2.2 hin S.2.2.2.1 hK hP q0 he hc kf hk hlink (u_same hsm) hv d (k H locs ls hP hD hI hl)
theorem gw_putU (S : CallFix p m c cc nL s args Ts own) {C ref : String} {T : u_T} {N ci index a : Nat} {fs : List Value} {v : Value} (hK : va_K D cl tys s) (hin : ∀ w ∈ u_ws C T N, w ∈ Ts) (hc : cl[ci]? = some (C, T, N)) (kf : Nat) (hk : kf < N) {ws' : va_W} {ty : FieldType} (ty0 : Nat → FieldType) (hty : ∀ k, k < N → parseFieldDescriptor (T k).2.2.1 = some (ty0 k)) (hnm : ∀ a, a < N → ∀ b, b < N → a ≠ b → (T a).2.1 ≠ (T b).2.1) (hlink : (Cond.fieldLink own index ref (T kf).2.1 (T kf).2.2.1).before args s = true) (hsm : (Cond.sameField ref (T kf).1 (T kf).2.1 (T kf).2.2.1).before args s = true) (q0 : Nat) (he : ws[q0]? = some (a, .inr (ci, fs))) (hfin : (T kf).2.2.2 = false) (hd : parseFieldDescriptor (T kf).2.2.1 = some ty) (hn : narrow ty v = v) (hfit : fits ty v = true) (hl9 : kf < fs.length) (hw : ws.set q0 (a, .inr (ci, fs.set kf v)) = ws') (d : decode cc pc = .ok (.putfield index, 3)) (k : gw_G p l e R s m args below meth c D cl A (va_S A H0) cells slots nL Q (ws') lv st (pc + 3)) : gw_G p l e R s m args below meth c D cl A (va_S A H0) cells slots nL Q ws lv (v :: .ref a :: st) pc := fun H locs ls hP hD hI hl => va_put S.1 S.2.1 S.2.2.2.2 hin ty0 hty hnm S.2.2.2.1 hK hP hD hI q0 he hc kf hk hlink (u_same hsm) hfin hd hn hfit hl9 d (fun H1 locs1 hP1 hD1 hS1 => k H1 locs1 ls (hw ▸ hP1) (hw ▸ hD1) hS1 hl)
theorem gw_mmax (S : CallFix p m c cc nL s args Ts own) {index : Nat} {x y : Int32} (hlink : (Cond.methodLink own index Lib.Math.max.name).before args s = true) (hstat : (Cond.static Lib.Math.max.name).before args s = true) (hini : (Cond.initialized "java/lang/Math").before args s = true) (hcode : (Cond.code Lib.Math.max.name Lib.Math.max.code 2 (some .int)).before args s = true) (hframes : 1 ≤ R.frames) (hloc : (st.map fun v => v.category).sum + 13 ≤ R.locals) (hc : cells ≤ R.cells) (hs : slots ≤ R.slots) (d : decode cc pc = .ok (.invokestatic index, 3)) (k : gw_G p l e R s m args below meth c D cl A I cells slots nL Q ws lv (.int (if x < y then y else x) :: st) (pc + 3)) : gw_G p l e R s m args below meth c D cl A I cells slots nL Q ws lv (.int y :: .int x :: st) pc := fun H locs ls hP hD hI hl => va_mmax S.1 S.2.1 (S.2.2.1.trans hl.1.symm) S.2.2.2.1 hlink hstat hini hcode hframes hloc hc hs d (k H locs ls hP hD hI hl)
end GU
set_option maxRecDepth 100000 in
set_option maxHeartbeats 4000000 in
theorem c_AbC_init (l : Launch) (D : va_G) (cA : Nat → ClassId) (sz : Nat) (h : Nat)  : ct_M l D cA yn_AbC_init cd_AbC_init 2 0 0 sz [.ref h] [] (fun v_ w_ => v_ = none ∧ w_ = []) := by
  refine gw_met (by decide) rfl (Nat.le_of_ble_eq_true rfl) ?_
  intro p_ e_ s_ m_ args_ below_ meth_ c_ A_ S g_r g_k g_n hK hA
  refine gw_eq (ws' := []) (lv' := [(0, .ref h)]) (st' := []) (pc' := 0) rfl rfl rfl rfl ?_
  refine gw_aload_n S dc_AbC_init_0 rfl 0 rfl ?_
  refine gw_oinit S (gw_lk S mw_141) (gw_lk S mw_27) (gw_lk S mw_28) (Nat.le_of_ble_eq_true rfl) (Nat.le_of_ble_eq_true rfl) dc_AbC_init_1 ?_
  exact gw_vret (w := []) S g_r g_k  [] rfl (by decide) ⟨rfl, rfl⟩ dc_AbC_init_4
set_option maxRecDepth 100000 in
set_option maxHeartbeats 4000000 in
theorem c_AbL_init (l : Launch) (D : va_G) (cA : Nat → ClassId) (sz : Nat) (h : Nat)  : ct_M l D cA yn_AbL_init cd_AbL_init 3 0 0 sz [.ref h] [(h, .inr (8, [.null, .int 0, .int 0]))] (fun v_ w_ => v_ = none ∧ w_ = [(h, .inr (8, [.null, .int 0, .int 0]))]) := by
  refine gw_met (by decide) rfl (Nat.le_of_ble_eq_true rfl) ?_
  intro p_ e_ s_ m_ args_ below_ meth_ c_ A_ S g_r g_k g_n hK hA
  refine gw_eq (ws' := [(h, .inr (8, [.null, .int 0, .int 0]))]) (lv' := [(0, .ref h)]) (st' := []) (pc' := 0) rfl rfl rfl rfl ?_
  refine gw_aload_n S dc_AbL_init_0 rfl 0 rfl ?_
  refine gw_callI (ret := none) (As := []) (st := []) (wr := [(h, .inr (8, [.null, .int 0, .int 0]))]) S hK hA (fun sz => c_AbC_init l D cA sz h ) (cw_AbL_1 S.2.2.2.2 rfl rfl ⟨Nat.le_of_ble_eq_true rfl, Nat.le_of_ble_eq_true rfl⟩) [] [0] rfl (by decide) rfl (by decide) (by decide) rfl rfl (Nat.le_of_ble_eq_true rfl) dc_AbL_init_1 ⟨Nat.le_of_ble_eq_true rfl, Nat.le_of_ble_eq_true rfl⟩ ?_
  rintro _ _ ⟨rfl, rfl⟩
  refine gw_eq (ws' := [(h, .inr (8, [.null, .int 0, .int 0]))]) (lv' := [(0, .ref h)]) (st' := []) (pc' := 4) rfl rfl rfl rfl ?_
  refine gw_aload_n S dc_AbL_init_4 rfl 0 rfl ?_
  refine gw_iconst (v := 0) S dc_AbL_init_5 (by decide) ?_
  refine gw_put (ws' := [(h, .inr (8, [.null, .int 0, .int 0]))]) (ty := .int) S hK.1 ic_AL rfl 2 (by decide) ty_AL to_AL nm_AL (gw_lk S mw_146) 0 rfl rfl (by decide +kernel) rfl rfl (Nat.le_of_ble_eq_true rfl) rfl dc_AbL_init_6 ?_
  exact gw_vret (w := [(h, .inr (8, [.null, .int 0, .int 0]))]) S g_r g_k  [0] rfl (by decide) ⟨rfl, rfl⟩ dc_AbL_init_9
set_option maxRecDepth 100000 in
set_option maxHeartbeats 4000000 in
theorem c_AL_init (l : Launch) (D : va_G) (cA : Nat → ClassId) (sz : Nat) (ut9 ed9 : Nat) (h : Nat)  : ct_Z l D cA ut9 ed9 yn_AL_init cd_AL_init 4 0 0 sz [.ref h] [(h, .inr (8, [.null, .int 0, .int 0]))] (fun v_ w_ => v_ = none ∧ w_ = [(h, .inr (8, [.ref ed9, .int 0, .int 0]))]) := by
  refine gw_metZ (by decide) rfl (Nat.le_of_ble_eq_true rfl) ?_
  intro p_ e_ s_ m_ args_ below_ meth_ c_ A_ S g_r g_k g_n hK hA hX
  refine gw_eq (ws' := [(h, .inr (8, [.null, .int 0, .int 0]))]) (lv' := [(0, .ref h)]) (st' := []) (pc' := 0) rfl rfl rfl rfl ?_
  refine gw_aload_n S dc_AL_init_0 rfl 0 rfl ?_
  refine gw_callI (ret := none) (As := []) (st := []) (wr := []) S hK hA (fun sz => c_AbL_init l D cA sz h ) (cw_AL_1 S.2.2.2.2 rfl rfl ⟨Nat.le_of_ble_eq_true rfl, Nat.le_of_ble_eq_true rfl⟩) [0] [] rfl (by decide) rfl (by decide) (by decide) rfl rfl (Nat.le_of_ble_eq_true rfl) dc_AL_init_1 ⟨Nat.le_of_ble_eq_true rfl, Nat.le_of_ble_eq_true rfl⟩ ?_
  rintro _ _ ⟨rfl, rfl⟩
  refine gw_eq (ws' := [(h, .inr (8, [.null, .int 0, .int 0]))]) (lv' := [(0, .ref h)]) (st' := []) (pc' := 4) rfl rfl rfl rfl ?_
  refine gw_aload_n S dc_AL_init_4 rfl 0 rfl ?_
  refine gw_gets S hX.2.2.1 (gw_lk S mw_142) dc_AL_init_5 ?_
  refine gw_put (ws' := [(h, .inr (8, [.ref ed9, .int 0, .int 0]))]) (ty := .array (.object "java/lang/Object")) S hK.1 ic_AL rfl 0 (by decide) ty_AL to_AL nm_AL (gw_lk S mw_144) 0 rfl rfl (by decide +kernel) rfl rfl (Nat.le_of_ble_eq_true rfl) rfl dc_AL_init_8 ?_
  exact gw_vret (w := [(h, .inr (8, [.ref ed9, .int 0, .int 0]))]) S g_r g_k  [0] rfl (by decide) ⟨rfl, rfl⟩ dc_AL_init_11
set_option maxRecDepth 100000 in
set_option maxHeartbeats 4000000 in
theorem c_AL_size (l : Launch) (D : va_G) (cA : Nat → ClassId) (qu : Nat) (hx : Nat) (c : Nat) (mo : Int32)  : ct_R l D cA yn_AL_size cd_AL_size 1 [.ref qu] [(qu, .inr (8, [.ref hx, .int (nI c), .int mo]))] (fun v_ => v_ = some (.int (nI c))) := by
  refine gw_metR (by decide) rfl (Nat.le_of_ble_eq_true rfl) ?_
  intro p_ e_ s_ m_ args_ below_ meth_ c_ S g_r g_k hK
  refine gw_eq (ws' := [(qu, .inr (8, [.ref hx, .int (nI c), .int mo]))]) (lv' := [(0, .ref qu)]) (st' := []) (pc' := 0) rfl rfl rfl rfl ?_
  refine gw_aload_n S dc_AL_size_0 rfl 0 rfl ?_
  refine gw_get S hK.1 ic_AL rfl 1 (by decide) (gw_lk S mw_145) 0 rfl rfl dc_AL_size_1 ?_
  exact gw_iretR S g_r g_k  rfl dc_AL_size_4
noncomputable def f_AL_isEmpty (c : Nat) : Int32 := if (nI c) = 0 then 1 else (0)
theorem b_AL_isEmpty (c : Nat) : f_AL_isEmpty c = 0 ∨ f_AL_isEmpty c = 1 := by
  unfold f_AL_isEmpty
  exact (bo_ite (Or.inr rfl) (Or.inl rfl))
set_option maxRecDepth 100000 in
set_option maxHeartbeats 4000000 in
theorem c_AL_isEmpty (l : Launch) (D : va_G) (cA : Nat → ClassId) (qu : Nat) (hx : Nat) (c : Nat) (mo : Int32)  : ct_R l D cA yn_AL_isEmpty cd_AL_isEmpty 1 [.ref qu] [(qu, .inr (8, [.ref hx, .int (nI c), .int mo]))] (fun v_ => v_ = some (.int (f_AL_isEmpty c))) := by
  refine gw_metR (by decide) rfl (Nat.le_of_ble_eq_true rfl) ?_
  intro p_ e_ s_ m_ args_ below_ meth_ c_ S g_r g_k hK
  refine gw_eq (ws' := [(qu, .inr (8, [.ref hx, .int (nI c), .int mo]))]) (lv' := [(0, .ref qu)]) (st' := []) (pc' := 0) rfl rfl rfl rfl ?_
  refine gw_aload_n S dc_AL_isEmpty_0 rfl 0 rfl ?_
  refine gw_get S hK.1 ic_AL rfl 1 (by decide) (gw_lk S mw_145) 0 rfl rfl dc_AL_isEmpty_1 ?_
  refine gw_if_ne (tgt := 11) S dc_AL_isEmpty_4 (by decide) (fun c_1 => ?_) (fun c_1 => ?_)
  · -- taken
    refine gw_iconst (v := 0) S dc_AL_isEmpty_11 (by decide) ?_
    exact gw_zretR S g_r g_k rfl (by simp only [f_AL_isEmpty, if_neg c_1]) dc_AL_isEmpty_12
  · -- not
    refine gw_iconst (v := 1) S dc_AL_isEmpty_7 (by decide) ?_
    refine gw_goto (tgt := 12) S dc_AL_isEmpty_8 (by decide) ?_
    exact gw_zretR S g_r g_k rfl (by simp only [f_AL_isEmpty, if_pos c_1]) dc_AL_isEmpty_12
set_option maxRecDepth 100000 in
set_option maxHeartbeats 4000000 in
theorem c_Prec_checkIndex (l : Launch) (D : va_G) (cA : Nat → ClassId) (x : Int32) (y : Int32) (h0 : ¬ x < 0) (h1 : x < y) : ct_R l D cA yn_Prec_checkIndex cd_Prec_checkIndex 1 [.int x, .int y, .null] [] (fun v_ => v_ = some (.int x)) := by
  refine gw_metR (by decide) rfl (Nat.le_of_ble_eq_true rfl) ?_
  intro p_ e_ s_ m_ args_ below_ meth_ c_ S g_r g_k hK
  refine gw_eq (ws' := []) (lv' := [(0, .int x), (1, .int y), (2, .null)]) (st' := []) (pc' := 0) rfl rfl rfl rfl ?_
  refine gw_iload_n S dc_Prec_checkIndex_0 rfl 0 rfl ?_
  refine gw_if_lt (tgt := 9) S dc_Prec_checkIndex_1 (by decide) (fun c_1 => ?_) (fun c_1 => ?_)
  · -- taken
    exact absurd c_1 h0
  · -- not
    refine gw_iload_n S dc_Prec_checkIndex_4 rfl 0 rfl ?_
    refine gw_iload_n S dc_Prec_checkIndex_5 rfl 1 rfl ?_
    refine gw_icmp_lt (tgt := 16) S dc_Prec_checkIndex_6 (by decide) (fun c_2 => ?_) (fun c_2 => ?_)
    · -- taken
      refine gw_iload_n S dc_Prec_checkIndex_16 rfl 0 rfl ?_
      exact gw_iretR S g_r g_k  (by simp only [if_neg c_1, if_pos c_2]) dc_Prec_checkIndex_17
    · -- not
      exact absurd h1 c_2
set_option maxRecDepth 100000 in
set_option maxHeartbeats 4000000 in
theorem c_Objs_checkIndex (l : Launch) (D : va_G) (cA : Nat → ClassId) (x : Int32) (y : Int32) (h0 : ¬ x < 0) (h1 : x < y) : ct_R l D cA yn_Objs_checkIndex cd_Objs_checkIndex 2 [.int x, .int y] [] (fun v_ => v_ = some (.int x)) := by
  refine gw_metR (by decide) rfl (Nat.le_of_ble_eq_true rfl) ?_
  intro p_ e_ s_ m_ args_ below_ meth_ c_ S g_r g_k hK
  refine gw_eq (ws' := []) (lv' := [(0, .int x), (1, .int y)]) (st' := []) (pc' := 0) rfl rfl rfl rfl ?_
  refine gw_iload_n S dc_Objs_checkIndex_0 rfl 0 rfl ?_
  refine gw_iload_n S dc_Objs_checkIndex_1 rfl 1 rfl ?_
  refine gw_null S dc_Objs_checkIndex_2 ?_
  refine gw_callSR (As := [.int x, .int y, .null]) (st := []) S hK (c_Prec_checkIndex l D cA x y (by assumption) (by assumption)) (cw_Objs_105 S.2.2.2.2 rfl rfl ⟨Nat.le_of_ble_eq_true rfl, Nat.le_of_ble_eq_true rfl⟩) [] rfl (by decide) rfl rfl (Nat.le_of_ble_eq_true rfl) dc_Objs_checkIndex_3 ⟨Nat.le_of_ble_eq_true rfl, Nat.le_of_ble_eq_true rfl⟩ ?_
  rintro _ rfl
  refine gw_eq (ws' := []) (lv' := [(0, .int x), (1, .int y)]) (st' := [.int x]) (pc' := 6) rfl rfl rfl rfl ?_
  exact gw_iretR S g_r g_k  rfl dc_Objs_checkIndex_6
set_option maxRecDepth 100000 in
set_option maxHeartbeats 4000000 in
theorem c_AL_elementData (l : Launch) (D : va_G) (cA : Nat → ClassId) (qu : Nat) (hx : Nat) (c : Nat) (mo : Int32) (i : Nat) (fq : Nat → Option Nat) (rv : Nat) (hi : i < 10) (hf : fq i = some rv) : ct_R l D cA yn_AL_elementData cd_AL_elementData 1 [.ref qu, .int (nI i)] [(qu, .inr (8, [.ref hx, .int (nI c), .int mo])), (hx, .inl (cA 4, 10, .inr (.inr (.inr (.inr fq)))))] (fun v_ => v_ = some (.ref rv)) := by
  refine gw_metR (by decide) rfl (Nat.le_of_ble_eq_true rfl) ?_
  intro p_ e_ s_ m_ args_ below_ meth_ c_ S g_r g_k hK
  refine gw_eq (ws' := [(qu, .inr (8, [.ref hx, .int (nI c), .int mo])), (hx, .inl (cA 4, 10, .inr (.inr (.inr (.inr fq)))))]) (lv' := [(0, .ref qu), (1, .int (nI i))]) (st' := []) (pc' := 0) rfl rfl rfl rfl ?_
  refine gw_aload_n S dc_AL_elementData_0 rfl 0 rfl ?_
  refine gw_get S hK.1 ic_AL rfl 0 (by decide) (gw_lk S mw_144) 0 rfl rfl dc_AL_elementData_1 ?_
  refine gw_iload_n S dc_AL_elementData_4 rfl 1 rfl ?_
  refine gw_aald S hK.1 1 4 rfl rfl (nI_in (by omega) (by decide)) dc_AL_elementData_5 ?_
  refine gw_eq (ws' := [(qu, .inr (8, [.ref hx, .int (nI c), .int mo])), (hx, .inl (cA 4, 10, .inr (.inr (.inr (.inr fq)))))]) (lv' := [(0, .ref qu), (1, .int (nI i))]) (st' := [.ref rv]) (pc' := 6) rfl rfl (by rw [nI_clamp (by omega), hf] <;> rfl) rfl ?_
  exact gw_aretR S g_r g_k (Or.inl ⟨_, rfl⟩) (Or.inr ⟨_, rfl⟩) rfl dc_AL_elementData_6
set_option maxRecDepth 100000 in
set_option maxHeartbeats 4000000 in
theorem c_AL_get (l : Launch) (D : va_G) (cA : Nat → ClassId) (qu : Nat) (hx : Nat) (c : Nat) (mo : Int32) (i : Nat) (fq : Nat → Option Nat) (rv : Nat) (hc : i < c) (hc2 : c ≤ 10) (hi : i < 10) (hf : fq i = some rv) : ct_R l D cA yn_AL_get cd_AL_get 4 [.ref qu, .int (nI i)] [(qu, .inr (8, [.ref hx, .int (nI c), .int mo])), (hx, .inl (cA 4, 10, .inr (.inr (.inr (.inr fq)))))] (fun v_ => v_ = some (.ref rv)) := by
  refine gw_metR (by decide) rfl (Nat.le_of_ble_eq_true rfl) ?_
  intro p_ e_ s_ m_ args_ below_ meth_ c_ S g_r g_k hK
  refine gw_eq (ws' := [(qu, .inr (8, [.ref hx, .int (nI c), .int mo])), (hx, .inl (cA 4, 10, .inr (.inr (.inr (.inr fq)))))]) (lv' := [(0, .ref qu), (1, .int (nI i))]) (st' := []) (pc' := 0) rfl rfl rfl rfl ?_
  refine gw_iload_n S dc_AL_get_0 rfl 1 rfl ?_
  refine gw_aload_n S dc_AL_get_1 rfl 0 rfl ?_
  refine gw_get S hK.1 ic_AL rfl 1 (by decide) (gw_lk S mw_145) 0 rfl rfl dc_AL_get_2 ?_
  refine gw_callSR (As := [.int (nI i), .int (nI c)]) (st := []) S hK (c_Objs_checkIndex l D cA (nI i) (nI c) (nI_pos (by omega)) (nI_lt hc (by omega))) (cw_AL_118 S.2.2.2.2 rfl rfl ⟨Nat.le_of_ble_eq_true rfl, Nat.le_of_ble_eq_true rfl⟩) [] rfl (by decide) rfl rfl (Nat.le_of_ble_eq_true rfl) dc_AL_get_5 ⟨Nat.le_of_ble_eq_true rfl, Nat.le_of_ble_eq_true rfl⟩ ?_
  rintro _ rfl
  refine gw_eq (ws' := [(qu, .inr (8, [.ref hx, .int (nI c), .int mo])), (hx, .inl (cA 4, 10, .inr (.inr (.inr (.inr fq)))))]) (lv' := [(0, .ref qu), (1, .int (nI i))]) (st' := [.int (nI i)]) (pc' := 8) rfl rfl rfl rfl ?_
  refine gw_pop S dc_AL_get_8 rfl ?_
  refine gw_aload_n S dc_AL_get_9 rfl 0 rfl ?_
  refine gw_iload_n S dc_AL_get_10 rfl 1 rfl ?_
  refine gw_callVR (As := [.int (nI i)]) (st := []) S hK (c_AL_elementData l D cA qu hx c mo i fq rv (by assumption) (by assumption)) (cw_AL_123 S.2.2.2.2 rfl rfl ⟨Nat.le_of_ble_eq_true rfl, Nat.le_of_ble_eq_true rfl⟩) [0, 1] rfl (by decide) 0 rfl rfl rfl rfl rfl (Nat.le_of_ble_eq_true rfl) dc_AL_get_11 ⟨Nat.le_of_ble_eq_true rfl, Nat.le_of_ble_eq_true rfl⟩ ?_
  rintro _ rfl
  refine gw_eq (ws' := [(qu, .inr (8, [.ref hx, .int (nI c), .int mo])), (hx, .inl (cA 4, 10, .inr (.inr (.inr (.inr fq)))))]) (lv' := [(0, .ref qu), (1, .int (nI i))]) (st' := [.ref rv]) (pc' := 14) rfl rfl rfl rfl ?_
  exact gw_aretR S g_r g_k (Or.inl ⟨_, rfl⟩) (Or.inr ⟨_, rfl⟩) rfl dc_AL_get_14
set_option maxRecDepth 100000 in
set_option maxHeartbeats 4000000 in
theorem c_AL_grow2 (l : Launch) (D : va_G) (cA : Nat → ClassId) (sz : Nat) (ut9 ed9 : Nat) (qu : Nat) (mo : Int32)  : ct_Z l D cA ut9 ed9 yn_AL_grow2 cd_AL_grow2 3 1 10 sz [.ref qu, .int 1] [(qu, .inr (8, [.ref ed9, .int 0, .int mo]))] (fun v_ w_ => ∃ (qx : Nat), v_ = some (.ref qx) ∧ w_ = [(qu, .inr (8, [.ref qx, .int 0, .int mo])), (qx, .inl (cA 4, 10, .inr (.inr (.inr (.inr (fun _ => none))))))]) := by
  refine gw_metZ (by decide) rfl (Nat.le_of_ble_eq_true rfl) ?_
  intro p_ e_ s_ m_ args_ below_ meth_ c_ A_ S g_r g_k g_n hK hA hX
  refine gw_eq (ws' := [(qu, .inr (8, [.ref ed9, .int 0, .int mo]))]) (lv' := [(0, .ref qu), (1, .int 1)]) (st' := []) (pc' := 0) rfl rfl rfl rfl ?_
  refine gw_aload_n S dc_AL_grow2_0 rfl 0 rfl ?_
  refine gw_get S hK.1 ic_AL rfl 0 (by decide) (gw_lk S mw_144) 0 rfl rfl dc_AL_grow2_1 ?_
  refine gw_tlen (v := 0) S hX.2.2.2.1 (by decide) dc_AL_grow2_4 ?_
  refine gw_istore_n (lv' := [(2, .int 0), (0, .ref qu), (1, .int 1)]) S dc_AL_grow2_5 rfl (by decide) rfl ?_
  refine gw_iload_n S dc_AL_grow2_6 rfl 0 rfl ?_
  refine gw_if_gt (tgt := 20) S dc_AL_grow2_7 (by decide) (fun c_1 => by exact absurd c_1 (by decide)) (fun c_1 => ?_)
  refine gw_aload_n S dc_AL_grow2_10 rfl 1 rfl ?_
  refine gw_get S hK.1 ic_AL rfl 0 (by decide) (gw_lk S mw_144) 0 rfl rfl dc_AL_grow2_11 ?_
  refine gw_gets S hX.2.2.1 (gw_lk S mw_142) dc_AL_grow2_14 ?_
  refine gw_acmp_eq (tgt := 45) S dc_AL_grow2_17 (by decide) (fun _ => ?_) (fun q => absurd rfl q)
  refine gw_aload_n S dc_AL_grow2_45 rfl 1 rfl ?_
  refine gw_bipush (v := 10) S dc_AL_grow2_46 (by decide) ?_
  refine gw_iload_n S dc_AL_grow2_48 rfl 2 rfl ?_
  refine gw_mmax S (gw_lk S mw_680) (gw_lk S mw_645) (gw_lk S mw_16) (gw_lk S mw_646) (Nat.le_of_ble_eq_true rfl) (Nat.le_of_ble_eq_true rfl) (Nat.le_of_ble_eq_true rfl) (Nat.le_of_ble_eq_true rfl) dc_AL_grow2_49 ?_
  refine gw_eq (ws' := [(qu, .inr (8, [.ref ed9, .int 0, .int mo]))]) (lv' := [(2, .int 0), (0, .ref qu), (1, .int 1)]) (st' := [.int 10, .ref qu]) (pc' := 52) rfl rfl (by rw [show (if (10 : Int32) < 1 then (1 : Int32) else 10) = 10 from by decide]) rfl ?_
  refine gw_newq (C := "java/lang/Object") (cI := cA 4) (N' := 10) S (gw_lk S mw_681) hX.2.2.2.2.2 hK.1 hA 4 rfl (by decide) (by decide) (by decide) (Nat.le_of_ble_eq_true rfl) (Nat.le_of_ble_eq_true rfl) dc_AL_grow2_52 (fun q_2 => ?_)
  refine gw_eq (ws' := [(qu, .inr (8, [.ref ed9, .int 0, .int mo])), (q_2, .inl (cA 4, 10, .inr (.inr (.inr (.inr (fun _ => none))))))]) (lv' := [(2, .int 0), (0, .ref qu), (1, .int 1)]) (st' := [.ref q_2, .ref qu]) (pc' := 55) rfl rfl rfl rfl ?_
  refine gw_dup_x1 S dc_AL_grow2_55 rfl rfl ?_
  refine gw_put (ws' := [(qu, .inr (8, [.ref q_2, .int 0, .int mo])), (q_2, .inl (cA 4, 10, .inr (.inr (.inr (.inr (fun _ => none))))))]) (ty := .array (.object "java/lang/Object")) S hK.1 ic_AL rfl 0 (by decide) ty_AL to_AL nm_AL (gw_lk S mw_144) 0 rfl rfl (by decide +kernel) rfl rfl (Nat.le_of_ble_eq_true rfl) rfl dc_AL_grow2_56 ?_
  exact gw_aret (w := [(qu, .inr (8, [.ref q_2, .int 0, .int mo])), (q_2, .inl (cA 4, 10, .inr (.inr (.inr (.inr (fun _ => none))))))]) S g_r g_k (Or.inr ⟨_, rfl⟩) (Or.inr ⟨_, rfl⟩) [0, 1] rfl (by decide) ⟨q_2, rfl, rfl⟩ dc_AL_grow2_59
set_option maxRecDepth 100000 in
set_option maxHeartbeats 4000000 in
theorem c_AL_grow (l : Launch) (D : va_G) (cA : Nat → ClassId) (sz : Nat) (ut9 ed9 : Nat) (qu : Nat) (mo : Int32)  : ct_Z l D cA ut9 ed9 yn_AL_grow cd_AL_grow 4 1 10 sz [.ref qu] [(qu, .inr (8, [.ref ed9, .int 0, .int mo]))] (fun v_ w_ => ∃ (qx : Nat), v_ = some (.ref qx) ∧ w_ = [(qu, .inr (8, [.ref qx, .int 0, .int mo])), (qx, .inl (cA 4, 10, .inr (.inr (.inr (.inr (fun _ => none))))))]) := by
  refine gw_metZ (by decide) rfl (Nat.le_of_ble_eq_true rfl) ?_
  intro p_ e_ s_ m_ args_ below_ meth_ c_ A_ S g_r g_k g_n hK hA hX
  refine gw_eq (ws' := [(qu, .inr (8, [.ref ed9, .int 0, .int mo]))]) (lv' := [(0, .ref qu)]) (st' := []) (pc' := 0) rfl rfl rfl rfl ?_
  refine gw_aload_n S dc_AL_grow_0 rfl 0 rfl ?_
  refine gw_aload_n S dc_AL_grow_1 rfl 0 rfl ?_
  refine gw_get S hK.1 ic_AL rfl 1 (by decide) (gw_lk S mw_145) 0 rfl rfl dc_AL_grow_2 ?_
  refine gw_iconst (v := 1) S dc_AL_grow_5 (by decide) ?_
  refine gw_iadd S dc_AL_grow_6 ?_
  refine gw_eq (ws' := [(qu, .inr (8, [.ref ed9, .int 0, .int mo]))]) (lv' := [(0, .ref qu)]) (st' := [.int 1, .ref qu]) (pc' := 7) rfl rfl (by rw [show (0 + 1 : Int32) = 1 from by decide]) rfl ?_
  refine gw_callVZ (As := [.int 1]) (st := []) (wr := []) S hK hA hX (fun sz => c_AL_grow2 l D cA sz ut9 ed9 qu mo ) (cw_AL_69 S.2.2.2.2 rfl rfl ⟨Nat.le_of_ble_eq_true rfl, Nat.le_of_ble_eq_true rfl⟩) [0] [] rfl (by decide) rfl (by decide) (by decide) 0 rfl rfl rfl rfl rfl (Nat.le_of_ble_eq_true rfl) dc_AL_grow_7 ⟨Nat.le_of_ble_eq_true rfl, Nat.le_of_ble_eq_true rfl⟩ ?_
  rintro _ _ ⟨qx_1, rfl, rfl⟩
  refine gw_eq (ws' := [(qu, .inr (8, [.ref qx_1, .int 0, .int mo])), (qx_1, .inl (cA 4, 10, .inr (.inr (.inr (.inr (fun _ => none))))))]) (lv' := [(0, .ref qu)]) (st' := [.ref qx_1]) (pc' := 10) rfl rfl rfl rfl ?_
  exact gw_aret (w := [(qu, .inr (8, [.ref qx_1, .int 0, .int mo])), (qx_1, .inl (cA 4, 10, .inr (.inr (.inr (.inr (fun _ => none))))))]) S g_r g_k (Or.inr ⟨_, rfl⟩) (Or.inr ⟨_, rfl⟩) [0, 1] rfl (by decide) ⟨qx_1, rfl, rfl⟩ dc_AL_grow_10
set_option maxRecDepth 100000 in
set_option maxHeartbeats 4000000 in
theorem c_AL_add2f (l : Launch) (D : va_G) (cA : Nat → ClassId) (sz : Nat) (ut9 ed9 : Nat) (qu : Nat) (mo : Int32) (rv : Nat) (vn : Int32) (va : Int32) (vm : Int32) (vd : Int32)  : ct_Z l D cA ut9 ed9 yn_AL_add2 cd_AL_add2 5 1 10 sz [.ref qu, .ref rv, .ref ed9, .int 0] [(qu, .inr (8, [.ref ed9, .int 0, .int mo])), (rv, .inr (6, [.int vn, .int va, .int vm, .int vd]))] (fun v_ w_ => ∃ (qx : Nat), v_ = none ∧ w_ = [(qu, .inr (8, [.ref qx, .int 1, .int mo])), (qx, .inl (cA 4, 10, .inr (.inr (.inr (.inr (va_up (fun _ => none) 0 (some rv))))))), (rv, .inr (6, [.int vn, .int va, .int vm, .int vd]))]) := by
  refine gw_metZ (by decide) rfl (Nat.le_of_ble_eq_true rfl) ?_
  intro p_ e_ s_ m_ args_ below_ meth_ c_ A_ S g_r g_k g_n hK hA hX
  refine gw_eq (ws' := [(qu, .inr (8, [.ref ed9, .int 0, .int mo])), (rv, .inr (6, [.int vn, .int va, .int vm, .int vd]))]) (lv' := [(0, .ref qu), (1, .ref rv), (2, .ref ed9), (3, .int 0)]) (st' := []) (pc' := 0) rfl rfl rfl rfl ?_
  refine gw_iload_n S dc_AL_add2_0 rfl 3 rfl ?_
  refine gw_aload_n S dc_AL_add2_1 rfl 2 rfl ?_
  refine gw_tlen (v := 0) S hX.2.2.2.1 (by decide) dc_AL_add2_2 ?_
  refine gw_icmp_ne (tgt := 11) S dc_AL_add2_3 (by decide) (fun c_1 => by exact absurd c_1 (by decide)) (fun c_1 => ?_)
  refine gw_aload_n S dc_AL_add2_6 rfl 0 rfl ?_
  refine gw_callVZ (As := []) (st := []) (wr := [(rv, .inr (6, [.int vn, .int va, .int vm, .int vd]))]) S hK hA hX (fun sz => c_AL_grow l D cA sz ut9 ed9 qu mo ) (cw_AL_129 S.2.2.2.2 rfl rfl ⟨Nat.le_of_ble_eq_true rfl, Nat.le_of_ble_eq_true rfl⟩) [0] [1] rfl (by decide) rfl (by decide) (by decide) 0 rfl rfl rfl rfl rfl (Nat.le_of_ble_eq_true rfl) dc_AL_add2_7 ⟨Nat.le_of_ble_eq_true rfl, Nat.le_of_ble_eq_true rfl⟩ ?_
  rintro _ _ ⟨qx_2, rfl, rfl⟩
  refine gw_eq (ws' := [(rv, .inr (6, [.int vn, .int va, .int vm, .int vd])), (qu, .inr (8, [.ref qx_2, .int 0, .int mo])), (qx_2, .inl (cA 4, 10, .inr (.inr (.inr (.inr (fun _ => none))))))]) (lv' := [(0, .ref qu), (1, .ref rv), (2, .ref ed9), (3, .int 0)]) (st' := [.ref qx_2]) (pc' := 10) rfl rfl rfl rfl ?_
  refine gw_astore_n (lv' := [(2, .ref qx_2), (0, .ref qu), (1, .ref rv), (3, .int 0)]) S dc_AL_add2_10 rfl (by decide) rfl ?_
  refine gw_aload_n S dc_AL_add2_11 rfl 0 rfl ?_
  refine gw_iload_n S dc_AL_add2_12 rfl 3 rfl ?_
  refine gw_aload_n S dc_AL_add2_13 rfl 2 rfl ?_
  refine gw_astqO (ws' := [(rv, .inr (6, [.int vn, .int va, .int vm, .int vd])), (qu, .inr (8, [.ref qx_2, .int 0, .int mo])), (qx_2, .inl (cA 4, 10, .inr (.inr (.inr (.inr (va_up (fun _ => none) 0 (some rv)))))))]) (E := "java/lang/Object") (r := (rn_Rev, tb_Rev, 4)) S hK.1 2 4 0 6 rfl rfl (hK.2 _ mn_1048).2 rfl rfl (by unfold vp_in; decide) rfl dc_AL_add2_14 ?_
  refine gw_aload_n S dc_AL_add2_15 rfl 1 rfl ?_
  refine gw_iload_n S dc_AL_add2_16 rfl 3 rfl ?_
  refine gw_iconst (v := 1) S dc_AL_add2_17 (by decide) ?_
  refine gw_iadd S dc_AL_add2_18 ?_
  refine gw_eq (ws' := [(rv, .inr (6, [.int vn, .int va, .int vm, .int vd])), (qu, .inr (8, [.ref qx_2, .int 0, .int mo])), (qx_2, .inl (cA 4, 10, .inr (.inr (.inr (.inr (va_up (fun _ => none) 0 (some rv)))))))]) (lv' := [(2, .ref qx_2), (0, .ref qu), (1, .ref rv), (3, .int 0)]) (st' := [.int 1, .ref qu]) (pc' := 19) rfl rfl (by rw [show (0 + 1 : Int32) = 1 from by decide]) rfl ?_
  refine gw_put (ws' := [(rv, .inr (6, [.int vn, .int va, .int vm, .int vd])), (qu, .inr (8, [.ref qx_2, .int 1, .int mo])), (qx_2, .inl (cA 4, 10, .inr (.inr (.inr (.inr (va_up (fun _ => none) 0 (some rv)))))))]) (ty := .int) S hK.1 ic_AL rfl 1 (by decide) ty_AL to_AL nm_AL (gw_lk S mw_145) 1 rfl rfl (by decide +kernel) rfl rfl (Nat.le_of_ble_eq_true rfl) rfl dc_AL_add2_19 ?_
  exact gw_vret (w := [(qu, .inr (8, [.ref qx_2, .int 1, .int mo])), (qx_2, .inl (cA 4, 10, .inr (.inr (.inr (.inr (va_up (fun _ => none) 0 (some rv))))))), (rv, .inr (6, [.int vn, .int va, .int vm, .int vd]))]) S g_r g_k  [1, 2, 0] rfl (by decide) ⟨qx_2, rfl, rfl⟩ dc_AL_add2_22
set_option maxRecDepth 100000 in
set_option maxHeartbeats 4000000 in
theorem c_AL_addf (l : Launch) (D : va_G) (cA : Nat → ClassId) (sz : Nat) (ut9 ed9 : Nat) (qu : Nat) (mo : Int32) (rv : Nat) (vn : Int32) (va : Int32) (vm : Int32) (vd : Int32)  : ct_Z l D cA ut9 ed9 yn_AL_add cd_AL_add 6 1 10 sz [.ref qu, .ref rv] [(qu, .inr (8, [.ref ed9, .int 0, .int mo])), (rv, .inr (6, [.int vn, .int va, .int vm, .int vd]))] (fun v_ w_ => ∃ (qx : Nat), v_ = some (.int 1) ∧ w_ = [(qu, .inr (8, [.ref qx, .int 1, .int (mo + 1)])), (qx, .inl (cA 4, 10, .inr (.inr (.inr (.inr (va_up (fun _ => none) 0 (some rv))))))), (rv, .inr (6, [.int vn, .int va, .int vm, .int vd]))]) := by
  refine gw_metZ (by decide) rfl (Nat.le_of_ble_eq_true rfl) ?_
  intro p_ e_ s_ m_ args_ below_ meth_ c_ A_ S g_r g_k g_n hK hA hX
  refine gw_eq (ws' := [(qu, .inr (8, [.ref ed9, .int 0, .int mo])), (rv, .inr (6, [.int vn, .int va, .int vm, .int vd]))]) (lv' := [(0, .ref qu), (1, .ref rv)]) (st' := []) (pc' := 0) rfl rfl rfl rfl ?_
  refine gw_aload_n S dc_AL_add_0 rfl 0 rfl ?_
  refine gw_dup S dc_AL_add_1 rfl ?_
  refine gw_getU S hK.1 ic_AL rfl 2 (by decide) (gw_lk S mw_147) (gw_lk S mw_148) 0 rfl rfl dc_AL_add_2 ?_
  refine gw_iconst (v := 1) S dc_AL_add_5 (by decide) ?_
  refine gw_iadd S dc_AL_add_6 ?_
  refine gw_putU (ws' := [(qu, .inr (8, [.ref ed9, .int 0, .int (mo + 1)])), (rv, .inr (6, [.int vn, .int va, .int vm, .int vd]))]) (ty := .int) S hK.1 ic_AL rfl 2 (by decide) ty_AL to_AL nm_AL (gw_lk S mw_147) (gw_lk S mw_148) 0 rfl rfl (by decide +kernel) rfl rfl (Nat.le_of_ble_eq_true rfl) rfl dc_AL_add_7 ?_
  refine gw_aload_n S dc_AL_add_10 rfl 0 rfl ?_
  refine gw_aload_n S dc_AL_add_11 rfl 1 rfl ?_
  refine gw_aload_n S dc_AL_add_12 rfl 0 rfl ?_
  refine gw_get S hK.1 ic_AL rfl 0 (by decide) (gw_lk S mw_144) 0 rfl rfl dc_AL_add_13 ?_
  refine gw_aload_n S dc_AL_add_16 rfl 0 rfl ?_
  refine gw_get S hK.1 ic_AL rfl 1 (by decide) (gw_lk S mw_145) 0 rfl rfl dc_AL_add_17 ?_
  refine gw_callVZ (As := [.ref rv, .ref ed9, .int 0]) (st := []) (wr := []) S hK hA hX (fun sz => c_AL_add2f l D cA sz ut9 ed9 qu (mo + 1) rv vn va vm vd ) (cw_AL_131 S.2.2.2.2 rfl rfl ⟨Nat.le_of_ble_eq_true rfl, Nat.le_of_ble_eq_true rfl⟩) [0, 1] [] rfl (by decide) rfl (by decide) (by decide) 0 rfl rfl rfl rfl rfl (Nat.le_of_ble_eq_true rfl) dc_AL_add_20 ⟨Nat.le_of_ble_eq_true rfl, Nat.le_of_ble_eq_true rfl⟩ ?_
  rintro _ _ ⟨qx_1, rfl, rfl⟩
  refine gw_eq (ws' := [(qu, .inr (8, [.ref qx_1, .int 1, .int (mo + 1)])), (qx_1, .inl (cA 4, 10, .inr (.inr (.inr (.inr (va_up (fun _ => none) 0 (some rv))))))), (rv, .inr (6, [.int vn, .int va, .int vm, .int vd]))]) (lv' := [(0, .ref qu), (1, .ref rv)]) (st' := []) (pc' := 23) rfl rfl rfl rfl ?_
  refine gw_iconst (v := 1) S dc_AL_add_23 (by decide) ?_
  exact gw_zret (w := [(qu, .inr (8, [.ref qx_1, .int 1, .int (mo + 1)])), (qx_1, .inl (cA 4, 10, .inr (.inr (.inr (.inr (va_up (fun _ => none) 0 (some rv))))))), (rv, .inr (6, [.int vn, .int va, .int vm, .int vd]))]) S g_r g_k rfl [0, 1, 2] rfl (by decide) ⟨qx_1, rfl, rfl⟩ dc_AL_add_24
set_option maxRecDepth 100000 in
set_option maxHeartbeats 4000000 in
theorem c_AL_add2m (l : Launch) (D : va_G) (cA : Nat → ClassId) (sz : Nat) (qu : Nat) (hx : Nat) (c : Nat) (mo : Int32) (fq : Nat → Option Nat) (rv : Nat) (vn : Int32) (va : Int32) (vm : Int32) (vd : Int32) (hc : c < 10) : ct_M l D cA yn_AL_add2 cd_AL_add2 2 0 0 sz [.ref qu, .ref rv, .ref hx, .int (nI c)] [(qu, .inr (8, [.ref hx, .int (nI c), .int mo])), (hx, .inl (cA 4, 10, .inr (.inr (.inr (.inr fq))))), (rv, .inr (6, [.int vn, .int va, .int vm, .int vd]))] (fun v_ w_ => v_ = none ∧ w_ = [(qu, .inr (8, [.ref hx, .int (nI (c + 1)), .int mo])), (hx, .inl (cA 4, 10, .inr (.inr (.inr (.inr (va_up fq c (some rv))))))), (rv, .inr (6, [.int vn, .int va, .int vm, .int vd]))]) := by
  refine gw_met (by decide) rfl (Nat.le_of_ble_eq_true rfl) ?_
  intro p_ e_ s_ m_ args_ below_ meth_ c_ A_ S g_r g_k g_n hK hA
  refine gw_eq (ws' := [(qu, .inr (8, [.ref hx, .int (nI c), .int mo])), (hx, .inl (cA 4, 10, .inr (.inr (.inr (.inr fq))))), (rv, .inr (6, [.int vn, .int va, .int vm, .int vd]))]) (lv' := [(0, .ref qu), (1, .ref rv), (2, .ref hx), (3, .int (nI c))]) (st' := []) (pc' := 0) rfl rfl rfl rfl ?_
  refine gw_iload_n S dc_AL_add2_0 rfl 3 rfl ?_
  refine gw_aload_n S dc_AL_add2_1 rfl 2 rfl ?_
  refine gw_alen (v := 10) S hK.1 1 4 rfl rfl rfl dc_AL_add2_2 ?_
  refine gw_icmp_ne (tgt := 11) S dc_AL_add2_3 (by decide) (fun c_1 => ?_) (fun c_1 => ?_)
  · -- taken
    refine gw_aload_n S dc_AL_add2_11 rfl 2 rfl ?_
    refine gw_iload_n S dc_AL_add2_12 rfl 3 rfl ?_
    refine gw_aload_n S dc_AL_add2_13 rfl 1 rfl ?_
    refine gw_astqO (ws' := [(qu, .inr (8, [.ref hx, .int (nI c), .int mo])), (hx, .inl (cA 4, 10, .inr (.inr (.inr (.inr (va_up fq c (some rv))))))), (rv, .inr (6, [.int vn, .int va, .int vm, .int vd]))]) (E := "java/lang/Object") (r := (rn_Rev, tb_Rev, 4)) S hK.1 1 4 2 6 rfl rfl (hK.2 _ mn_1048).2 rfl rfl (nI_in (by omega) (by decide)) (by rw [nI_clamp (by omega)] <;> rfl) dc_AL_add2_14 ?_
    refine gw_aload_n S dc_AL_add2_15 rfl 0 rfl ?_
    refine gw_iload_n S dc_AL_add2_16 rfl 3 rfl ?_
    refine gw_iconst (v := 1) S dc_AL_add2_17 (by decide) ?_
    refine gw_iaddN (a := c) (b := 1) S dc_AL_add2_18 ?_
    refine gw_put (ws' := [(qu, .inr (8, [.ref hx, .int (nI (c + 1)), .int mo])), (hx, .inl (cA 4, 10, .inr (.inr (.inr (.inr (va_up fq c (some rv))))))), (rv, .inr (6, [.int vn, .int va, .int vm, .int vd]))]) (ty := .int) S hK.1 ic_AL rfl 1 (by decide) ty_AL to_AL nm_AL (gw_lk S mw_145) 0 rfl rfl (by decide +kernel) rfl rfl (Nat.le_of_ble_eq_true rfl) rfl dc_AL_add2_19 ?_
    exact gw_vret (w := [(qu, .inr (8, [.ref hx, .int (nI (c + 1)), .int mo])), (hx, .inl (cA 4, 10, .inr (.inr (.inr (.inr (va_up fq c (some rv))))))), (rv, .inr (6, [.int vn, .int va, .int vm, .int vd]))]) S g_r g_k  [0, 1, 2] rfl (by decide) ⟨(by simp only [if_neg c_1]), (by simp only [if_neg c_1])⟩ dc_AL_add2_22
  · -- not
    exact absurd c_1 (wk_ne (b := 10) (by omega) (by decide) (by omega))
set_option maxRecDepth 100000 in
set_option maxHeartbeats 4000000 in
theorem c_AL_addm (l : Launch) (D : va_G) (cA : Nat → ClassId) (sz : Nat) (qu : Nat) (hx : Nat) (c : Nat) (mo : Int32) (fq : Nat → Option Nat) (rv : Nat) (vn : Int32) (va : Int32) (vm : Int32) (vd : Int32) (hc : c < 10) : ct_M l D cA yn_AL_add cd_AL_add 3 0 0 sz [.ref qu, .ref rv] [(qu, .inr (8, [.ref hx, .int (nI c), .int mo])), (hx, .inl (cA 4, 10, .inr (.inr (.inr (.inr fq))))), (rv, .inr (6, [.int vn, .int va, .int vm, .int vd]))] (fun v_ w_ => v_ = some (.int 1) ∧ w_ = [(qu, .inr (8, [.ref hx, .int (nI (c + 1)), .int (mo + 1)])), (hx, .inl (cA 4, 10, .inr (.inr (.inr (.inr (va_up fq c (some rv))))))), (rv, .inr (6, [.int vn, .int va, .int vm, .int vd]))]) := by
  refine gw_met (by decide) rfl (Nat.le_of_ble_eq_true rfl) ?_
  intro p_ e_ s_ m_ args_ below_ meth_ c_ A_ S g_r g_k g_n hK hA
  refine gw_eq (ws' := [(qu, .inr (8, [.ref hx, .int (nI c), .int mo])), (hx, .inl (cA 4, 10, .inr (.inr (.inr (.inr fq))))), (rv, .inr (6, [.int vn, .int va, .int vm, .int vd]))]) (lv' := [(0, .ref qu), (1, .ref rv)]) (st' := []) (pc' := 0) rfl rfl rfl rfl ?_
  refine gw_aload_n S dc_AL_add_0 rfl 0 rfl ?_
  refine gw_dup S dc_AL_add_1 rfl ?_
  refine gw_getU S hK.1 ic_AL rfl 2 (by decide) (gw_lk S mw_147) (gw_lk S mw_148) 0 rfl rfl dc_AL_add_2 ?_
  refine gw_iconst (v := 1) S dc_AL_add_5 (by decide) ?_
  refine gw_iadd S dc_AL_add_6 ?_
  refine gw_putU (ws' := [(qu, .inr (8, [.ref hx, .int (nI c), .int (mo + 1)])), (hx, .inl (cA 4, 10, .inr (.inr (.inr (.inr fq))))), (rv, .inr (6, [.int vn, .int va, .int vm, .int vd]))]) (ty := .int) S hK.1 ic_AL rfl 2 (by decide) ty_AL to_AL nm_AL (gw_lk S mw_147) (gw_lk S mw_148) 0 rfl rfl (by decide +kernel) rfl rfl (Nat.le_of_ble_eq_true rfl) rfl dc_AL_add_7 ?_
  refine gw_aload_n S dc_AL_add_10 rfl 0 rfl ?_
  refine gw_aload_n S dc_AL_add_11 rfl 1 rfl ?_
  refine gw_aload_n S dc_AL_add_12 rfl 0 rfl ?_
  refine gw_get S hK.1 ic_AL rfl 0 (by decide) (gw_lk S mw_144) 0 rfl rfl dc_AL_add_13 ?_
  refine gw_aload_n S dc_AL_add_16 rfl 0 rfl ?_
  refine gw_get S hK.1 ic_AL rfl 1 (by decide) (gw_lk S mw_145) 0 rfl rfl dc_AL_add_17 ?_
  refine gw_callV (As := [.ref rv, .ref hx, .int (nI c)]) (st := []) (wr := []) S hK hA (fun sz => c_AL_add2m l D cA sz qu hx c (mo + 1) fq rv vn va vm vd (by assumption)) (cw_AL_131 S.2.2.2.2 rfl rfl ⟨Nat.le_of_ble_eq_true rfl, Nat.le_of_ble_eq_true rfl⟩) [0, 1, 2] [] rfl (by decide) rfl (by decide) (by decide) 0 rfl rfl rfl rfl rfl (Nat.le_of_ble_eq_true rfl) dc_AL_add_20 ⟨Nat.le_of_ble_eq_true rfl, Nat.le_of_ble_eq_true rfl⟩ ?_
  rintro _ _ ⟨rfl, rfl⟩
  refine gw_eq (ws' := [(qu, .inr (8, [.ref hx, .int (nI (c + 1)), .int (mo + 1)])), (hx, .inl (cA 4, 10, .inr (.inr (.inr (.inr (va_up fq c (some rv))))))), (rv, .inr (6, [.int vn, .int va, .int vm, .int vd]))]) (lv' := [(0, .ref qu), (1, .ref rv)]) (st' := []) (pc' := 23) rfl rfl rfl rfl ?_
  refine gw_iconst (v := 1) S dc_AL_add_23 (by decide) ?_
  exact gw_zret (w := [(qu, .inr (8, [.ref hx, .int (nI (c + 1)), .int (mo + 1)])), (hx, .inl (cA 4, 10, .inr (.inr (.inr (.inr (va_up fq c (some rv))))))), (rv, .inr (6, [.int vn, .int va, .int vm, .int vd]))]) S g_r g_k rfl [0, 1, 2] rfl (by decide) ⟨rfl, rfl⟩ dc_AL_add_24
set_option maxRecDepth 100000 in
set_option maxHeartbeats 4000000 in
theorem c_AL_fastRemove1 (l : Launch) (D : va_G) (cA : Nat → ClassId) (sz : Nat) (qu : Nat) (hx : Nat) (mo : Int32) (fq : Nat → Option Nat)  : ct_M l D cA yn_AL_fastRemove cd_AL_fastRemove 1 0 0 sz [.ref qu, .ref hx, .int 0] [(qu, .inr (8, [.ref hx, .int 1, .int mo])), (hx, .inl (cA 4, 10, .inr (.inr (.inr (.inr fq)))))] (fun v_ w_ => v_ = none ∧ w_ = [(qu, .inr (8, [.ref hx, .int 0, .int (mo + 1)])), (hx, .inl (cA 4, 10, .inr (.inr (.inr (.inr (va_up fq 0 none))))))]) := by
  refine gw_met (by decide) rfl (Nat.le_of_ble_eq_true rfl) ?_
  intro p_ e_ s_ m_ args_ below_ meth_ c_ A_ S g_r g_k g_n hK hA
  refine gw_eq (ws' := [(qu, .inr (8, [.ref hx, .int 1, .int mo])), (hx, .inl (cA 4, 10, .inr (.inr (.inr (.inr fq)))))]) (lv' := [(0, .ref qu), (1, .ref hx), (2, .int 0)]) (st' := []) (pc' := 0) rfl rfl rfl rfl ?_
  refine gw_aload_n S dc_AL_fastRemove_0 rfl 0 rfl ?_
  refine gw_dup S dc_AL_fastRemove_1 rfl ?_
  refine gw_getU S hK.1 ic_AL rfl 2 (by decide) (gw_lk S mw_147) (gw_lk S mw_148) 0 rfl rfl dc_AL_fastRemove_2 ?_
  refine gw_iconst (v := 1) S dc_AL_fastRemove_5 (by decide) ?_
  refine gw_iadd S dc_AL_fastRemove_6 ?_
  refine gw_putU (ws' := [(qu, .inr (8, [.ref hx, .int 1, .int (mo + 1)])), (hx, .inl (cA 4, 10, .inr (.inr (.inr (.inr fq)))))]) (ty := .int) S hK.1 ic_AL rfl 2 (by decide) ty_AL to_AL nm_AL (gw_lk S mw_147) (gw_lk S mw_148) 0 rfl rfl (by decide +kernel) rfl rfl (Nat.le_of_ble_eq_true rfl) rfl dc_AL_fastRemove_7 ?_
  refine gw_aload_n S dc_AL_fastRemove_10 rfl 0 rfl ?_
  refine gw_get S hK.1 ic_AL rfl 1 (by decide) (gw_lk S mw_145) 0 rfl rfl dc_AL_fastRemove_11 ?_
  refine gw_iconst (v := 1) S dc_AL_fastRemove_14 (by decide) ?_
  refine gw_isub S dc_AL_fastRemove_15 ?_
  refine gw_eq (ws' := [(qu, .inr (8, [.ref hx, .int 1, .int (mo + 1)])), (hx, .inl (cA 4, 10, .inr (.inr (.inr (.inr fq)))))]) (lv' := [(0, .ref qu), (1, .ref hx), (2, .int 0)]) (st' := [.int 0]) (pc' := 16) rfl rfl (by rw [show (1 - 1 : Int32) = 0 from by decide]) rfl ?_
  refine gw_dup S dc_AL_fastRemove_16 rfl ?_
  refine gw_istore_n (lv' := [(3, .int 0), (0, .ref qu), (1, .ref hx), (2, .int 0)]) S dc_AL_fastRemove_17 rfl (by decide) rfl ?_
  refine gw_iload_n S dc_AL_fastRemove_18 rfl 3 rfl ?_
  refine gw_icmp_le (tgt := 34) S dc_AL_fastRemove_19 (by decide) (fun c_1 => ?_) (fun c_1 => by exact absurd c_1 (by decide))
  refine gw_aload_n S dc_AL_fastRemove_34 rfl 2 rfl ?_
  refine gw_aload_n S dc_AL_fastRemove_35 rfl 1 rfl ?_
  refine gw_iload_n S dc_AL_fastRemove_36 rfl 0 rfl ?_
  refine gw_dup_x1 S dc_AL_fastRemove_37 rfl rfl ?_
  refine gw_put (ws' := [(qu, .inr (8, [.ref hx, .int 0, .int (mo + 1)])), (hx, .inl (cA 4, 10, .inr (.inr (.inr (.inr fq)))))]) (ty := .int) S hK.1 ic_AL rfl 1 (by decide) ty_AL to_AL nm_AL (gw_lk S mw_145) 0 rfl rfl (by decide +kernel) rfl rfl (Nat.le_of_ble_eq_true rfl) rfl dc_AL_fastRemove_38 ?_
  refine gw_null S dc_AL_fastRemove_41 ?_
  refine gw_astqN (ws' := [(qu, .inr (8, [.ref hx, .int 0, .int (mo + 1)])), (hx, .inl (cA 4, 10, .inr (.inr (.inr (.inr (va_up fq 0 none))))))]) S hK.1 1 4 rfl rfl (by unfold vp_in; decide) rfl dc_AL_fastRemove_42 ?_
  exact gw_vret (w := [(qu, .inr (8, [.ref hx, .int 0, .int (mo + 1)])), (hx, .inl (cA 4, 10, .inr (.inr (.inr (.inr (va_up fq 0 none))))))]) S g_r g_k  [0, 1] rfl (by decide) ⟨rfl, rfl⟩ dc_AL_fastRemove_43
set_option maxRecDepth 100000 in
set_option maxHeartbeats 4000000 in
theorem c_AL_fastRemovem (l : Launch) (D : va_G) (cA : Nat → ClassId) (sz : Nat) (qu : Nat) (hx : Nat) (c : Nat) (mo : Int32) (fq : Nat → Option Nat) (pl : va_W) (hc : 2 ≤ c) (hc2 : c ≤ 10) (hel : ∀ i, i < c → ∀ y, fq i = some y → ∃ (k : Nat) (fs : List Value), pl[k]? = some (y, .inr (6, fs))) : ct_M l D cA yn_AL_fastRemove cd_AL_fastRemove 2 0 0 sz [.ref qu, .ref hx, .int 0] ([(qu, .inr (8, [.ref hx, .int (nI c), .int mo])), (hx, .inl (cA 4, 10, .inr (.inr (.inr (.inr fq)))))] ++ pl) (fun v_ w_ => v_ = none ∧ w_ = ([(qu, .inr (8, [.ref hx, .int (nI (c - 1)), .int (mo + 1)])), (hx, .inl (cA 4, 10, .inr (.inr (.inr (.inr (va_up (va_cpy fq fq 1 0 (c - 1)) (c - 1) none))))))] ++ pl)) := by
  refine gw_met (by decide) rfl (Nat.le_of_ble_eq_true rfl) ?_
  intro p_ e_ s_ m_ args_ below_ meth_ c_ A_ S g_r g_k g_n hK hA
  refine gw_eq (ws' := ([(qu, .inr (8, [.ref hx, .int (nI c), .int mo])), (hx, .inl (cA 4, 10, .inr (.inr (.inr (.inr fq)))))] ++ pl)) (lv' := [(0, .ref qu), (1, .ref hx), (2, .int 0)]) (st' := []) (pc' := 0) rfl rfl rfl rfl ?_
  refine gw_aload_n S dc_AL_fastRemove_0 rfl 0 rfl ?_
  refine gw_dup S dc_AL_fastRemove_1 rfl ?_
  refine gw_getU S hK.1 ic_AL rfl 2 (by decide) (gw_lk S mw_147) (gw_lk S mw_148) 0 rfl rfl dc_AL_fastRemove_2 ?_
  refine gw_iconst (v := 1) S dc_AL_fastRemove_5 (by decide) ?_
  refine gw_iadd S dc_AL_fastRemove_6 ?_
  refine gw_putU (ws' := ([(qu, .inr (8, [.ref hx, .int (nI c), .int (mo + 1)])), (hx, .inl (cA 4, 10, .inr (.inr (.inr (.inr fq)))))] ++ pl)) (ty := .int) S hK.1 ic_AL rfl 2 (by decide) ty_AL to_AL nm_AL (gw_lk S mw_147) (gw_lk S mw_148) 0 rfl rfl (by decide +kernel) rfl rfl (Nat.le_of_ble_eq_true rfl) rfl dc_AL_fastRemove_7 ?_
  refine gw_aload_n S dc_AL_fastRemove_10 rfl 0 rfl ?_
  refine gw_get S hK.1 ic_AL rfl 1 (by decide) (gw_lk S mw_145) 0 rfl rfl dc_AL_fastRemove_11 ?_
  refine gw_iconst (v := 1) S dc_AL_fastRemove_14 (by decide) ?_
  refine gw_isub S dc_AL_fastRemove_15 ?_
  refine gw_eq (ws' := ([(qu, .inr (8, [.ref hx, .int (nI c), .int (mo + 1)])), (hx, .inl (cA 4, 10, .inr (.inr (.inr (.inr fq)))))] ++ pl)) (lv' := [(0, .ref qu), (1, .ref hx), (2, .int 0)]) (st' := [.int (nI (c - 1))]) (pc' := 16) rfl rfl (by rw [show (nI c - 1 : Int32) = nI (c - 1) from pk_sub (b := 1) (by omega)]) rfl ?_
  refine gw_dup S dc_AL_fastRemove_16 rfl ?_
  refine gw_istore_n (lv' := [(3, .int (nI (c - 1))), (0, .ref qu), (1, .ref hx), (2, .int 0)]) S dc_AL_fastRemove_17 rfl (by decide) rfl ?_
  refine gw_iload_n S dc_AL_fastRemove_18 rfl 3 rfl ?_
  refine gw_icmp_le (tgt := 34) S dc_AL_fastRemove_19 (by decide) (fun c_1 => ?_) (fun c_1 => ?_)
  · -- taken
    exact absurd c_1 (nI_ge (a := 0) (by omega) (by omega))
  · -- not
    refine gw_aload_n S dc_AL_fastRemove_22 rfl 2 rfl ?_
    refine gw_iload_n S dc_AL_fastRemove_23 rfl 3 rfl ?_
    refine gw_iconst (v := 1) S dc_AL_fastRemove_24 (by decide) ?_
    refine gw_iadd S dc_AL_fastRemove_25 ?_
    refine gw_eq (ws' := ([(qu, .inr (8, [.ref hx, .int (nI c), .int (mo + 1)])), (hx, .inl (cA 4, 10, .inr (.inr (.inr (.inr fq)))))] ++ pl)) (lv' := [(3, .int (nI (c - 1))), (0, .ref qu), (1, .ref hx), (2, .int 0)]) (st' := [.int 1, .ref hx]) (pc' := 26) rfl rfl (by rw [show (0 + 1 : Int32) = 1 from by decide]) rfl ?_
    refine gw_aload_n S dc_AL_fastRemove_26 rfl 2 rfl ?_
    refine gw_iload_n S dc_AL_fastRemove_27 rfl 3 rfl ?_
    refine gw_iload_n S dc_AL_fastRemove_28 rfl 0 rfl ?_
    refine gw_iload_n S dc_AL_fastRemove_29 rfl 3 rfl ?_
    refine gw_isub S dc_AL_fastRemove_30 ?_
    refine gw_eq (ws' := ([(qu, .inr (8, [.ref hx, .int (nI c), .int (mo + 1)])), (hx, .inl (cA 4, 10, .inr (.inr (.inr (.inr fq)))))] ++ pl)) (lv' := [(3, .int (nI (c - 1))), (0, .ref qu), (1, .ref hx), (2, .int 0)]) (st' := [.int (nI (c - 1)), .int 0, .ref hx, .int 1, .ref hx]) (pc' := 31) rfl rfl (by rw [Int32.sub_zero]) rfl ?_
    refine gw_copyq (ws' := ([(qu, .inr (8, [.ref hx, .int (nI c), .int (mo + 1)])), (hx, .inl (cA 4, 10, .inr (.inr (.inr (.inr (va_cpy fq fq 1 0 (c - 1)))))))] ++ pl)) (E1 := "java/lang/Object") (ci := 6) (r := (rn_Rev, tb_Rev, 4)) S hK.1 (gw_lk S mw_717) (gw_lk S mw_679) (gw_lk S mw_678) (gw_lk S mw_18) 1 4 rfl rfl rfl (hK.2 _ mn_1048).2 (by decide) (by decide) (nI_pos (by omega)) (by rw [nI_clamp (by omega)]; show 1 + _ ≤ _; omega) (by rw [nI_clamp (by omega)]; show 0 + _ ≤ _; omega) (fun i hi y hy => by rw [nI_clamp (by omega)] at hi; obtain ⟨k, fs, hk⟩ := hel (1 + i) (by omega) y hy; exact ⟨k + 2, fs, hk⟩) (by rw [nI_clamp (by omega)] <;> rfl) (Nat.le_of_ble_eq_true rfl) (Nat.le_of_ble_eq_true rfl) dc_AL_fastRemove_31 ?_
    refine gw_aload_n S dc_AL_fastRemove_34 rfl 2 rfl ?_
    refine gw_aload_n S dc_AL_fastRemove_35 rfl 1 rfl ?_
    refine gw_iload_n S dc_AL_fastRemove_36 rfl 0 rfl ?_
    refine gw_dup_x1 S dc_AL_fastRemove_37 rfl rfl ?_
    refine gw_put (ws' := ([(qu, .inr (8, [.ref hx, .int (nI (c - 1)), .int (mo + 1)])), (hx, .inl (cA 4, 10, .inr (.inr (.inr (.inr (va_cpy fq fq 1 0 (c - 1)))))))] ++ pl)) (ty := .int) S hK.1 ic_AL rfl 1 (by decide) ty_AL to_AL nm_AL (gw_lk S mw_145) 0 rfl rfl (by decide +kernel) rfl rfl (Nat.le_of_ble_eq_true rfl) rfl dc_AL_fastRemove_38 ?_
    refine gw_null S dc_AL_fastRemove_41 ?_
    refine gw_astqN (ws' := ([(qu, .inr (8, [.ref hx, .int (nI (c - 1)), .int (mo + 1)])), (hx, .inl (cA 4, 10, .inr (.inr (.inr (.inr (va_up (va_cpy fq fq 1 0 (c - 1)) (c - 1) none))))))] ++ pl)) S hK.1 1 4 rfl rfl (nI_in (by omega) (by decide)) (by rw [nI_clamp (by omega)] <;> rfl) dc_AL_fastRemove_42 ?_
    refine gw_pm (ws' := ([(qu, .inr (8, [.ref hx, .int (nI (c - 1)), .int (mo + 1)])), (hx, .inl (cA 4, 10, .inr (.inr (.inr (.inr (va_up (va_cpy fq fq 1 0 (c - 1)) (c - 1) none))))))] ++ pl)) (pm_ix (X' := ([(qu, .inr (8, [.ref hx, .int (nI (c - 1)), .int (mo + 1)])), (hx, .inl (cA 4, 10, .inr (.inr (.inr (.inr (va_up (va_cpy fq fq 1 0 (c - 1)) (c - 1) none))))))] : va_W)) 2 rfl [0, 1] (by decide) rfl) ?_
    exact gw_vret (w := ([(qu, .inr (8, [.ref hx, .int (nI (c - 1)), .int (mo + 1)])), (hx, .inl (cA 4, 10, .inr (.inr (.inr (.inr (va_up (va_cpy fq fq 1 0 (c - 1)) (c - 1) none))))))] ++ pl)) S g_r g_k  (List.range (([(qu, .inr (8, [.ref hx, .int (nI (c - 1)), .int (mo + 1)])), (hx, .inl (cA 4, 10, .inr (.inr (.inr (.inr (va_up (va_cpy fq fq 1 0 (c - 1)) (c - 1) none))))))] ++ pl) : va_W).length) (th_id _) (th_nC _) ⟨(by simp only [if_neg c_1]), (by simp only [if_neg c_1])⟩ dc_AL_fastRemove_43
