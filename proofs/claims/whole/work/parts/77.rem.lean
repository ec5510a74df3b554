set_option maxRecDepth 100000 in
set_option maxHeartbeats 4000000 in
theorem c_AL_fastRemove9 (l : Launch) (D : va_G) (cA : Nat → ClassId) (sz : Nat) (qu : Nat) (hx : Nat) (c : Nat) (mo : Int32) (fq : Nat → Option Nat) (pl : va_W) (hc : 2 ≤ c) (hc2 : c ≤ 10) (hel : ∀ i, 1 ≤ i → i < c → ∀ y, fq i = some y → ∃ (k : Nat) (fs : List Value), pl[k]? = some (y, .inr (6, fs))) : ct_M l D cA yn_AL_fastRemove cd_AL_fastRemove 2 0 0 sz [.ref qu, .ref hx, .int 0] ([(qu, .inr (8, [.ref hx, .int (nI c), .int mo])), (hx, .inl (cA 4, 10, .inr (.inr (.inr (.inr fq)))))] ++ pl) (fun v_ w_ => v_ = none ∧ w_ = ([(qu, .inr (8, [.ref hx, .int (nI (c - 1)), .int (mo + 1)])), (hx, .inl (cA 4, 10, .inr (.inr (.inr (.inr (va_up (va_cpy fq fq 1 0 (c - 1)) (c - 1) none))))))] ++ pl)) := by
  refine gw_met (by decide) rfl (Nat.le_of_ble_eq_true rfl) ?_
  intro p_ e_ s_ m_ args_ below_ meth_ c_ A_ S g_r g_k g_n hK hA
  refine gw_eq (ws' := ([(qu, .inr (8, [.ref hx, .int (nI c), .int mo])), (hx, .inl (cA 4, 10, .inr (.inr (.inr (.inr fq)))))] ++ pl)) (lv' := [(0, .ref qu), (1, .ref hx), (2, .int 0)]) (st' := []) (pc' := 0) rfl rfl rfl rfl ?_
  refine gw_aload_n S dc_AL_fastRemove_0 rfl 0 rfl ?_
  refine gw_dup S dc_AL_fastRemove_1 rfl ?_
  refine gw_getU S hK.1 ic_AL rfl 2 (by decide) (gw_lk S mw_147) (gw_lk S mw_148) 0 rfl rfl dc_AL_fastRemove_2 ?_
  refine gw_iconst (v := 1) S dc_AL_fastRemove_5 (by decide) ?_
  refine gw_iadd S dc_AL_fastRemove_6 ?_
  refine gw_putU (ws' := ([(qu, .inr (8, [.ref hx, .int (nI c), .int (mo + 1)])), (hx, .inl (cA 4, 10, .inr (.inr (.inr (.inr fq)))))] ++ pl)) (ty := .int) S hK.1 ic_AL rfl 2 (by decide) ty_AL to_AL nm_AL (gw_lk S mw_147) (gw_lk S mw_148) 0 rfl rfl (by decide +kernel) rfl rfl (Nat.le_of_ble_eq_true rfl) rfl dc_AL_fastRemove_7 ?_
  refine gw_aload_n S dc_AL_fastRemove_10 rfl 0 rfl ?_
  refine gw_get S hK.1 ic_AL rfl 1 (by decide) (gw_lk S mw_145) 0 rfl rfl dc_AL_fastRemove_11 ?_
  refine gw_iconst (v := 1) S dc_AL_fastRemove_14 (by decide) ?_
  refine gw_isub S dc_AL_fastRemove_15 ?_
  refine gw_eq (ws' := ([(qu, .inr (8, [.ref hx, .int (nI c), .int (mo + 1)])), (hx, .inl (cA 4, 10, .inr (.inr (.inr (.inr fq)))))] ++ pl)) (lv' := [(0, .ref qu), (1, .ref hx), (2, .int 0)]) (st' := [.int (nI (c - 1))]) (pc' := 16) rfl rfl (by rw [show (nI c - 1 : Int32) = nI (c - 1) from pk_sub (b := 1) (by omega)]) rfl ?_
  refine gw_dup S dc_AL_fastRemove_16 rfl ?_
  refine gw_istore_n (lv' := [(3, .int (nI (c - 1))), (0, .ref qu), (1, .ref hx), (2, .int 0)]) S dc_AL_fastRemove_17 rfl (by decide) rfl ?_
  refine gw_iload_n S dc_AL_fastRemove_18 rfl 3 rfl ?_
  refine gw_icmp_le (tgt := 34) S dc_AL_fastRemove_19 (by decide) (fun c_1 => ?_) (fun c_1 => ?_)
  · -- taken
    exact absurd c_1 (nI_ge (a := 0) (by omega) (by omega))
  · -- not
    refine gw_aload_n S dc_AL_fastRemove_22 rfl 2 rfl ?_
    refine gw_iload_n S dc_AL_fastRemove_23 rfl 3 rfl ?_
    refine gw_iconst (v := 1) S dc_AL_fastRemove_24 (by decide) ?_
    refine gw_iadd S dc_AL_fastRemove_25 ?_
    refine gw_eq (ws' := ([(qu, .inr (8, [.ref hx, .int (nI c), .int (mo + 1)])), (hx, .inl (cA 4, 10, .inr (.inr (.inr (.inr fq)))))] ++ pl)) (lv' := [(3, .int (nI (c - 1))), (0, .ref qu), (1, .ref hx), (2, .int 0)]) (st' := [.int 1, .ref hx]) (pc' := 26) rfl rfl (by rw [show (0 + 1 : Int32) = 1 from by decide]) rfl ?_
    refine gw_aload_n S dc_AL_fastRemove_26 rfl 2 rfl ?_
    refine gw_iload_n S dc_AL_fastRemove_27 rfl 3 rfl ?_
    refine gw_iload_n S dc_AL_fastRemove_28 rfl 0 rfl ?_
    refine gw_iload_n S dc_AL_fastRemove_29 rfl 3 rfl ?_
    refine gw_isub S dc_AL_fastRemove_30 ?_
    refine gw_eq (ws' := ([(qu, .inr (8, [.ref hx, .int (nI c), .int (mo + 1)])), (hx, .inl (cA 4, 10, .inr (.inr (.inr (.inr fq)))))] ++ pl)) (lv' := [(3, .int (nI (c - 1))), (0, .ref qu), (1, .ref hx), (2, .int 0)]) (st' := [.int (nI (c - 1)), .int 0, .ref hx, .int 1, .ref hx]) (pc' := 31) rfl rfl (by rw [Int32.sub_zero]) rfl ?_
    refine gw_copyq (ws' := ([(qu, .inr (8, [.ref hx, .int (nI c), .int (mo + 1)])), (hx, .inl (cA 4, 10, .inr (.inr (.inr (.inr (va_cpy fq fq 1 0 (c - 1)))))))] ++ pl)) (E1 := "java/lang/Object") (ci := 6) (r := (rn_Rev, tb_Rev, 4)) S hK.1 (gw_lk S mw_717) (gw_lk S mw_679) (gw_lk S mw_678) (gw_lk S mw_18) 1 4 rfl rfl rfl (hK.2 _ mn_1048).2 (by decide) (by decide) (nI_pos (by omega)) (by rw [nI_clamp (by omega)]; show 1 + _ ≤ _; omega) (by rw [nI_clamp (by omega)]; show 0 + _ ≤ _; omega) (fun i hi y hy => by rw [nI_clamp (by omega)] at hi; obtain ⟨k, fs, hk⟩ := hel (1 + i) (by omega) (by omega) y hy; exact ⟨k + 2, fs, hk⟩) (by rw [nI_clamp (by omega)] <;> rfl) (Nat.le_of_ble_eq_true rfl) (Nat.le_of_ble_eq_true rfl) dc_AL_fastRemove_31 ?_
    refine gw_aload_n S dc_AL_fastRemove_34 rfl 2 rfl ?_
    refine gw_aload_n S dc_AL_fastRemove_35 rfl 1 rfl ?_
    refine gw_iload_n S dc_AL_fastRemove_36 rfl 0 rfl ?_
    refine gw_dup_x1 S dc_AL_fastRemove_37 rfl rfl ?_
    refine gw_put (ws' := ([(qu, .inr (8, [.ref hx, .int (nI (c - 1)), .int (mo + 1)])), (hx, .inl (cA 4, 10, .inr (.inr (.inr (.inr (va_cpy fq fq 1 0 (c - 1)))))))] ++ pl)) (ty := .int) S hK.1 ic_AL rfl 1 (by decide) ty_AL to_AL nm_AL (gw_lk S mw_145) 0 rfl rfl (by decide +kernel) rfl rfl (Nat.le_of_ble_eq_true rfl) rfl dc_AL_fastRemove_38 ?_
    refine gw_null S dc_AL_fastRemove_41 ?_
    refine gw_astqN (ws' := ([(qu, .inr (8, [.ref hx, .int (nI (c - 1)), .int (mo + 1)])), (hx, .inl (cA 4, 10, .inr (.inr (.inr (.inr (va_up (va_cpy fq fq 1 0 (c - 1)) (c - 1) none))))))] ++ pl)) S hK.1 1 4 rfl rfl (nI_in (by omega) (by decide)) (by rw [nI_clamp (by omega)] <;> rfl) dc_AL_fastRemove_42 ?_
    refine gw_pm (ws' := ([(qu, .inr (8, [.ref hx, .int (nI (c - 1)), .int (mo + 1)])), (hx, .inl (cA 4, 10, .inr (.inr (.inr (.inr (va_up (va_cpy fq fq 1 0 (c - 1)) (c - 1) none))))))] ++ pl)) (pm_ix (X' := ([(qu, .inr (8, [.ref hx, .int (nI (c - 1)), .int (mo + 1)])), (hx, .inl (cA 4, 10, .inr (.inr (.inr (.inr (va_up (va_cpy fq fq 1 0 (c - 1)) (c - 1) none))))))] : va_W)) 2 rfl [0, 1] (by decide) rfl) ?_
    exact gw_vret (w := ([(qu, .inr (8, [.ref hx, .int (nI (c - 1)), .int (mo + 1)])), (hx, .inl (cA 4, 10, .inr (.inr (.inr (.inr (va_up (va_cpy fq fq 1 0 (c - 1)) (c - 1) none))))))] ++ pl)) S g_r g_k  (List.range (([(qu, .inr (8, [.ref hx, .int (nI (c - 1)), .int (mo + 1)])), (hx, .inl (cA 4, 10, .inr (.inr (.inr (.inr (va_up (va_cpy fq fq 1 0 (c - 1)) (c - 1) none))))))] ++ pl) : va_W).length) (th_id _) (th_nC _) ⟨(by simp only [if_neg c_1]), (by simp only [if_neg c_1])⟩ dc_AL_fastRemove_43
set_option maxRecDepth 100000 in
set_option maxHeartbeats 4000000 in
theorem c_AL_remove9 (l : Launch) (D : va_G) (cA : Nat → ClassId) (sz : Nat) (qu : Nat) (hx : Nat) (c : Nat) (mo : Int32) (fq : Nat → Option Nat) (rv : Nat) (pl : va_W) (hf : fq 0 = some rv) (hc : 2 ≤ c) (hc2 : c ≤ 10) (hel : ∀ i, 1 ≤ i → i < c → ∀ y, fq i = some y → ∃ (k : Nat) (fs : List Value), pl[k]? = some (y, .inr (6, fs))) : ct_M l D cA yn_AL_remove cd_AL_remove 4 0 0 sz [.ref qu, .int 0] ([(qu, .inr (8, [.ref hx, .int (nI c), .int mo])), (hx, .inl (cA 4, 10, .inr (.inr (.inr (.inr fq)))))] ++ pl) (fun v_ w_ => v_ = some (.ref rv) ∧ w_ = ([(qu, .inr (8, [.ref hx, .int (nI (c - 1)), .int (mo + 1)])), (hx, .inl (cA 4, 10, .inr (.inr (.inr (.inr (va_up (va_cpy fq fq 1 0 (c - 1)) (c - 1) none))))))] ++ pl)) := by
  refine gw_met (by decide) rfl (Nat.le_of_ble_eq_true rfl) ?_
  intro p_ e_ s_ m_ args_ below_ meth_ c_ A_ S g_r g_k g_n hK hA
  refine gw_eq (ws' := ([(qu, .inr (8, [.ref hx, .int (nI c), .int mo])), (hx, .inl (cA 4, 10, .inr (.inr (.inr (.inr fq)))))] ++ pl)) (lv' := [(0, .ref qu), (1, .int 0)]) (st' := []) (pc' := 0) rfl rfl rfl rfl ?_
  refine gw_iload_n S dc_AL_remove_0 rfl 1 rfl ?_
  refine gw_aload_n S dc_AL_remove_1 rfl 0 rfl ?_
  refine gw_get S hK.1 ic_AL rfl 1 (by decide) (gw_lk S mw_145) 0 rfl rfl dc_AL_remove_2 ?_
  refine gw_callSR (As := [.int 0, .int (nI c)]) (st := []) S hK (c_Objs_checkIndex l D cA 0 (nI c) (by decide) (nI_lt (a := 0) (by omega) (by omega))) (cw_AL_118 S.2.2.2.2 rfl rfl ⟨Nat.le_of_ble_eq_true rfl, Nat.le_of_ble_eq_true rfl⟩) [] rfl (by decide) rfl rfl (Nat.le_of_ble_eq_true rfl) dc_AL_remove_5 ⟨Nat.le_of_ble_eq_true rfl, Nat.le_of_ble_eq_true rfl⟩ ?_
  rintro _ rfl
  refine gw_eq (ws' := ([(qu, .inr (8, [.ref hx, .int (nI c), .int mo])), (hx, .inl (cA 4, 10, .inr (.inr (.inr (.inr fq)))))] ++ pl)) (lv' := [(0, .ref qu), (1, .int 0)]) (st' := [.int 0]) (pc' := 8) rfl rfl rfl rfl ?_
  refine gw_pop S dc_AL_remove_8 rfl ?_
  refine gw_aload_n S dc_AL_remove_9 rfl 0 rfl ?_
  refine gw_get S hK.1 ic_AL rfl 0 (by decide) (gw_lk S mw_144) 0 rfl rfl dc_AL_remove_10 ?_
  refine gw_astore_n (lv' := [(2, .ref hx), (0, .ref qu), (1, .int 0)]) S dc_AL_remove_13 rfl (by decide) rfl ?_
  refine gw_aload_n S dc_AL_remove_14 rfl 0 rfl ?_
  refine gw_iload_n S dc_AL_remove_15 rfl 2 rfl ?_
  refine gw_aald S hK.1 1 4 rfl rfl (by unfold vp_in; decide) dc_AL_remove_16 ?_
  refine gw_eq (ws' := ([(qu, .inr (8, [.ref hx, .int (nI c), .int mo])), (hx, .inl (cA 4, 10, .inr (.inr (.inr (.inr fq)))))] ++ pl)) (lv' := [(2, .ref hx), (0, .ref qu), (1, .int 0)]) (st' := [.ref rv]) (pc' := 17) rfl rfl (by have e9 : fq (Int32.toNatClampNeg 0) = some rv := hf; rw [e9] <;> rfl) rfl ?_
  refine gw_astore_n (lv' := [(3, .ref rv), (2, .ref hx), (0, .ref qu), (1, .int 0)]) S dc_AL_remove_17 rfl (by decide) rfl ?_
  refine gw_aload_n S dc_AL_remove_18 rfl 2 rfl ?_
  refine gw_aload_n S dc_AL_remove_19 rfl 1 rfl ?_
  refine gw_iload_n S dc_AL_remove_20 rfl 3 rfl ?_
  refine gw_pm (ws' := (([(qu, .inr (8, [.ref hx, .int (nI c), .int mo])), (hx, .inl (cA 4, 10, .inr (.inr (.inr (.inr fq)))))] ++ pl) ++ [])) (pm_tail (A := ([(qu, .inr (8, [.ref hx, .int (nI c), .int mo])), (hx, .inl (cA 4, 10, .inr (.inr (.inr (.inr fq)))))] : va_W)) (B := ([] : va_W)) 2 rfl [0, 1] (by decide) rfl) ?_
  refine gw_callV (As := [.ref hx, .int 0]) (st := []) (wr := []) S hK hA (fun sz => c_AL_fastRemove9 l D cA sz qu hx c mo fq pl (by assumption) (by assumption) (by assumption)) (cw_AL_144 S.2.2.2.2 rfl rfl ⟨Nat.le_of_ble_eq_true rfl, Nat.le_of_ble_eq_true rfl⟩) (List.range (([(qu, .inr (8, [.ref hx, .int (nI c), .int mo])), (hx, .inl (cA 4, 10, .inr (.inr (.inr (.inr fq)))))] ++ pl) : va_W).length) ((List.range ([] : va_W).length).map ((([(qu, .inr (8, [.ref hx, .int (nI c), .int mo])), (hx, .inl (cA 4, 10, .inr (.inr (.inr (.inr fq)))))] ++ pl) : va_W).length + ·)) (th_C _ _) (th_nC _) (th_R _ _) (th_nR _ _) (th_d _ _) 0 rfl rfl rfl rfl rfl (Nat.le_of_ble_eq_true rfl) dc_AL_remove_21 ⟨Nat.le_of_ble_eq_true rfl, Nat.le_of_ble_eq_true rfl⟩ ?_
  rintro _ _ ⟨rfl, rfl⟩
  refine gw_eq (ws' := ([(qu, .inr (8, [.ref hx, .int (nI (c - 1)), .int (mo + 1)])), (hx, .inl (cA 4, 10, .inr (.inr (.inr (.inr (va_up (va_cpy fq fq 1 0 (c - 1)) (c - 1) none))))))] ++ pl)) (lv' := [(3, .ref rv), (2, .ref hx), (0, .ref qu), (1, .int 0)]) (st' := []) (pc' := 24) rfl rfl rfl rfl ?_
  refine gw_aload_n S dc_AL_remove_24 rfl 0 rfl ?_
  refine gw_pm (ws' := ([(qu, .inr (8, [.ref hx, .int (nI (c - 1)), .int (mo + 1)])), (hx, .inl (cA 4, 10, .inr (.inr (.inr (.inr (va_up (va_cpy fq fq 1 0 (c - 1)) (c - 1) none))))))] ++ pl)) (pm_ix (X' := ([(qu, .inr (8, [.ref hx, .int (nI (c - 1)), .int (mo + 1)])), (hx, .inl (cA 4, 10, .inr (.inr (.inr (.inr (va_up (va_cpy fq fq 1 0 (c - 1)) (c - 1) none))))))] : va_W)) 2 rfl [0, 1] (by decide) rfl) ?_
  exact gw_aret (w := ([(qu, .inr (8, [.ref hx, .int (nI (c - 1)), .int (mo + 1)])), (hx, .inl (cA 4, 10, .inr (.inr (.inr (.inr (va_up (va_cpy fq fq 1 0 (c - 1)) (c - 1) none))))))] ++ pl)) S g_r g_k (Or.inl ⟨_, rfl⟩) (Or.inr ⟨_, rfl⟩) (List.range (([(qu, .inr (8, [.ref hx, .int (nI (c - 1)), .int (mo + 1)])), (hx, .inl (cA 4, 10, .inr (.inr (.inr (.inr (va_up (va_cpy fq fq 1 0 (c - 1)) (c - 1) none))))))] ++ pl) : va_W).length) (th_id _) (th_nC _) ⟨rfl, rfl⟩ dc_AL_remove_25
set_option maxRecDepth 100000 in
set_option maxHeartbeats 4000000 in
theorem c_PC_send_09 (l : Launch) (D : va_G) (cA : Nat → ClassId) (sz : Nat) (pc : Nat) (tx : Nat) (ca : Nat) (te : Nat) (hh : Nat) (hp : Nat) (qu : Nat) (sp : Nat) (pl : Int32) (ap : Int32) (hs : Nat) (g : Nat → Int32) (hq : Nat) (c : Nat) (mq : Int32) (fq : Nat → Option Nat) (h1 : Nat) (h2 : Nat) (h3 : Nat) (sd : Int32) (b : Nat → Int64) (rv : Nat) (vn : Int32) (va : Int32) (vm : Int32) (vd : Int32) (tl9 : va_W) (hc2 : ¬ g 2 = 0) (hq0 : 0 < c) (hq9 : c ≤ 6) (hf : fq 0 = some rv) (hc8 : 2 ≤ c) (hel : ∀ i, 1 ≤ i → i < c → ∀ y, fq i = some y → ∃ (k : Nat) (fs : List Value), tl9[k]? = some (y, .inr (6, fs))) : ct_M l D cA yn_PC_send cd_PC_send 6 0 0 sz [.ref pc, .int 0] ([(pc, .inr (7, [.ref tx, .ref ca, .ref te, .ref hh, .ref hp, .ref qu, .ref sp, .int pl, .int ap])), (te, .inr (1, [.ref hs])), (hs, .inl (cA 0, 7, .inl g)), (qu, .inr (8, [.ref hq, .int (nI c), .int mq])), (hq, .inl (cA 4, 10, .inr (.inr (.inr (.inr fq))))), (hh, .inr (2, [.ref h1, .ref h2, .ref h3, .int sd])), (h1, .inl (cA 1, 8, .inr (.inl b))), (rv, .inr (6, [.int vn, .int va, .int vm, .int vd]))] ++ tl9) (fun v_ w_ => v_ = some (.int 1) ∧ w_ = ([(pc, .inr (7, [.ref tx, .ref ca, .ref te, .ref hh, .ref hp, .ref qu, .ref sp, .int pl, .int ap])), (te, .inr (1, [.ref hs])), (hs, .inl (cA 0, 7, .inl g)), (qu, .inr (8, [.ref hq, .int (nI (c - 1)), .int (mq + 1)])), (hq, .inl (cA 4, 10, .inr (.inr (.inr (.inr (va_up (va_cpy fq fq 1 0 (c - 1)) (c - 1) none)))))), (hh, .inr (2, [.ref h1, .ref h2, .ref h3, .int (f_Host_reverse_standing sd va vd)])), (h1, .inl (cA 1, 8, .inr (.inl (f_Host_reverse_1 b va vm vd)))), (rv, .inr (6, [.int vn, .int va, .int vm, .int (f_Host_reverse_isDue va vd)]))] ++ tl9)) := by
  refine gw_met (by decide) rfl (Nat.le_of_ble_eq_true rfl) ?_
  intro p_ e_ s_ m_ args_ below_ meth_ c_ A_ S g_r g_k g_n hK hA
  refine gw_eq (ws' := ([(pc, .inr (7, [.ref tx, .ref ca, .ref te, .ref hh, .ref hp, .ref qu, .ref sp, .int pl, .int ap])), (te, .inr (1, [.ref hs])), (hs, .inl (cA 0, 7, .inl g)), (qu, .inr (8, [.ref hq, .int (nI c), .int mq])), (hq, .inl (cA 4, 10, .inr (.inr (.inr (.inr fq))))), (hh, .inr (2, [.ref h1, .ref h2, .ref h3, .int sd])), (h1, .inl (cA 1, 8, .inr (.inl b))), (rv, .inr (6, [.int vn, .int va, .int vm, .int vd]))] ++ tl9)) (lv' := [(0, .ref pc), (1, .int 0)]) (st' := []) (pc' := 0) rfl rfl rfl rfl ?_
  refine gw_iload_n S dc_PC_send_0 rfl 1 rfl ?_
  refine gw_iconst (v := 0) S dc_PC_send_1 (by decide) ?_
  refine gw_iconst (v := 2) S dc_PC_send_2 (by decide) ?_
  refine gw_callSR (As := [.int 0, .int 0, .int 2]) (st := []) S hK (c_PC_isWithin l D cA 0 0 2 ) (cw_PC_61 S.2.2.2.2 rfl rfl ⟨Nat.le_of_ble_eq_true rfl, Nat.le_of_ble_eq_true rfl⟩) [] rfl (by decide) rfl rfl (Nat.le_of_ble_eq_true rfl) dc_PC_send_3 ⟨Nat.le_of_ble_eq_true rfl, Nat.le_of_ble_eq_true rfl⟩ ?_
  rintro _ rfl
  refine gw_eq (ws' := ([(pc, .inr (7, [.ref tx, .ref ca, .ref te, .ref hh, .ref hp, .ref qu, .ref sp, .int pl, .int ap])), (te, .inr (1, [.ref hs])), (hs, .inl (cA 0, 7, .inl g)), (qu, .inr (8, [.ref hq, .int (nI c), .int mq])), (hq, .inl (cA 4, 10, .inr (.inr (.inr (.inr fq))))), (hh, .inr (2, [.ref h1, .ref h2, .ref h3, .int sd])), (h1, .inl (cA 1, 8, .inr (.inl b))), (rv, .inr (6, [.int vn, .int va, .int vm, .int vd]))] ++ tl9)) (lv' := [(0, .ref pc), (1, .int 0)]) (st' := [.int (f_PC_isWithin 0 0 2)]) (pc' := 6) rfl rfl rfl rfl ?_
  refine gw_if_eq (tgt := 29) S dc_PC_send_6 (by decide) (fun c_2 => ?_) (fun c_2 => ?_)
  · -- taken
    exact absurd c_2 (by decide)
  · -- not
    refine gw_aload_n S dc_PC_send_9 rfl 0 rfl ?_
    refine gw_get S hK.1 ic_PC rfl 2 (by decide) (gw_lk S mw_247) 0 rfl rfl dc_PC_send_10 ?_
    refine gw_callVR (As := []) (st := []) S hK (c_Term_isConnected l D cA te hs g ) (cw_PC_142 S.2.2.2.2 rfl rfl ⟨Nat.le_of_ble_eq_true rfl, Nat.le_of_ble_eq_true rfl⟩) [1, 2] rfl (by decide) 0 rfl rfl rfl rfl rfl (Nat.le_of_ble_eq_true rfl) dc_PC_send_13 ⟨Nat.le_of_ble_eq_true rfl, Nat.le_of_ble_eq_true rfl⟩ ?_
    rintro _ rfl
    refine gw_eq (ws' := ([(pc, .inr (7, [.ref tx, .ref ca, .ref te, .ref hh, .ref hp, .ref qu, .ref sp, .int pl, .int ap])), (te, .inr (1, [.ref hs])), (hs, .inl (cA 0, 7, .inl g)), (qu, .inr (8, [.ref hq, .int (nI c), .int mq])), (hq, .inl (cA 4, 10, .inr (.inr (.inr (.inr fq))))), (hh, .inr (2, [.ref h1, .ref h2, .ref h3, .int sd])), (h1, .inl (cA 1, 8, .inr (.inl b))), (rv, .inr (6, [.int vn, .int va, .int vm, .int vd]))] ++ tl9)) (lv' := [(0, .ref pc), (1, .int 0)]) (st' := [.int (f_Term_isConnected g)]) (pc' := 16) rfl rfl rfl rfl ?_
    refine gw_if_eq (tgt := 29) S dc_PC_send_16 (by decide) (fun c_4 => ?_) (fun c_4 => ?_)
    · -- taken
      exact absurd ((ic_0 g).mp c_4) hc2
    · -- not
      refine gw_aload_n S dc_PC_send_19 rfl 0 rfl ?_
      refine gw_get S hK.1 ic_PC rfl 5 (by decide) (gw_lk S mw_250) 0 rfl rfl dc_PC_send_20 ?_
      refine gw_callVR (As := []) (st := []) S hK (c_AL_isEmpty l D cA qu hq c mq ) (cw_PC_146 S.2.2.2.2 rfl rfl ⟨Nat.le_of_ble_eq_true rfl, Nat.le_of_ble_eq_true rfl⟩) [3] rfl (by decide) 0 rfl rfl rfl rfl rfl (Nat.le_of_ble_eq_true rfl) dc_PC_send_23 ⟨Nat.le_of_ble_eq_true rfl, Nat.le_of_ble_eq_true rfl⟩ ?_
      rintro _ rfl
      refine gw_eq (ws' := ([(pc, .inr (7, [.ref tx, .ref ca, .ref te, .ref hh, .ref hp, .ref qu, .ref sp, .int pl, .int ap])), (te, .inr (1, [.ref hs])), (hs, .inl (cA 0, 7, .inl g)), (qu, .inr (8, [.ref hq, .int (nI c), .int mq])), (hq, .inl (cA 4, 10, .inr (.inr (.inr (.inr fq))))), (hh, .inr (2, [.ref h1, .ref h2, .ref h3, .int sd])), (h1, .inl (cA 1, 8, .inr (.inl b))), (rv, .inr (6, [.int vn, .int va, .int vm, .int vd]))] ++ tl9)) (lv' := [(0, .ref pc), (1, .int 0)]) (st' := [.int (f_AL_isEmpty c)]) (pc' := 26) rfl rfl rfl rfl ?_
      refine gw_if_eq (tgt := 31) S dc_PC_send_26 (by decide) (fun c_6 => ?_) (fun c_6 => ?_)
      · -- taken
        refine gw_iload_n S dc_PC_send_31 rfl 1 rfl ?_
        refine gw_iconst (v := 1) S dc_PC_send_32 (by decide) ?_
        refine gw_icmp_ne (tgt := 38) S dc_PC_send_33 (by decide) (fun c_7 => ?_) (fun c_7 => by exact absurd c_7 (by decide))
        refine gw_aload_n S dc_PC_send_38 rfl 0 rfl ?_
        refine gw_get S hK.1 ic_PC rfl 3 (by decide) (gw_lk S mw_248) 0 rfl rfl dc_PC_send_39 ?_
        refine gw_aload_n S dc_PC_send_42 rfl 0 rfl ?_
        refine gw_get S hK.1 ic_PC rfl 5 (by decide) (gw_lk S mw_250) 0 rfl rfl dc_PC_send_43 ?_
        refine gw_iconst (v := 0) S dc_PC_send_46 (by decide) ?_
        refine gw_callVR (As := [.int 0]) (st := [.ref hh]) S hK (c_AL_get l D cA qu hq c mq 0 fq rv (by omega) (by omega) (by omega) hf) (cw_PC_149 S.2.2.2.2 rfl rfl ⟨Nat.le_of_ble_eq_true rfl, Nat.le_of_ble_eq_true rfl⟩) [3, 4] rfl (by decide) 0 rfl rfl rfl rfl rfl (Nat.le_of_ble_eq_true rfl) dc_PC_send_47 ⟨Nat.le_of_ble_eq_true rfl, Nat.le_of_ble_eq_true rfl⟩ ?_
        rintro _ rfl
        refine gw_eq (ws' := ([(pc, .inr (7, [.ref tx, .ref ca, .ref te, .ref hh, .ref hp, .ref qu, .ref sp, .int pl, .int ap])), (te, .inr (1, [.ref hs])), (hs, .inl (cA 0, 7, .inl g)), (qu, .inr (8, [.ref hq, .int (nI c), .int mq])), (hq, .inl (cA 4, 10, .inr (.inr (.inr (.inr fq))))), (hh, .inr (2, [.ref h1, .ref h2, .ref h3, .int sd])), (h1, .inl (cA 1, 8, .inr (.inl b))), (rv, .inr (6, [.int vn, .int va, .int vm, .int vd]))] ++ tl9)) (lv' := [(0, .ref pc), (1, .int 0)]) (st' := [.ref rv, .ref hh]) (pc' := 50) rfl rfl rfl rfl ?_
        refine gw_castY (C := rn_Rev) (r := (rn_Rev, tb_Rev, 4)) S hK.1 (gw_lk S mw_602) (hK.2 _ mn_1036).2 7 rfl rfl rfl dc_PC_send_50 ?_
        refine gw_pm (ws' := ([(hh, .inr (2, [.ref h1, .ref h2, .ref h3, .int sd])), (h1, .inl (cA 1, 8, .inr (.inl b))), (rv, .inr (6, [.int vn, .int va, .int vm, .int vd]))] ++ ([(pc, .inr (7, [.ref tx, .ref ca, .ref te, .ref hh, .ref hp, .ref qu, .ref sp, .int pl, .int ap])), (te, .inr (1, [.ref hs])), (hs, .inl (cA 0, 7, .inl g)), (qu, .inr (8, [.ref hq, .int (nI c), .int mq])), (hq, .inl (cA 4, 10, .inr (.inr (.inr (.inr fq)))))] ++ tl9))) (pm_head (A := ([(hh, .inr (2, [.ref h1, .ref h2, .ref h3, .int sd])), (h1, .inl (cA 1, 8, .inr (.inl b))), (rv, .inr (6, [.int vn, .int va, .int vm, .int vd]))] : va_W)) (B := ([(pc, .inr (7, [.ref tx, .ref ca, .ref te, .ref hh, .ref hp, .ref qu, .ref sp, .int pl, .int ap])), (te, .inr (1, [.ref hs])), (hs, .inl (cA 0, 7, .inl g)), (qu, .inr (8, [.ref hq, .int (nI c), .int mq])), (hq, .inl (cA 4, 10, .inr (.inr (.inr (.inr fq)))))] : va_W)) 8 rfl [5, 6, 7, 0, 1, 2, 3, 4] (by decide) rfl) ?_
        refine gw_callV (As := [.ref rv]) (st := []) (wr := ([(pc, .inr (7, [.ref tx, .ref ca, .ref te, .ref hh, .ref hp, .ref qu, .ref sp, .int pl, .int ap])), (te, .inr (1, [.ref hs])), (hs, .inl (cA 0, 7, .inl g)), (qu, .inr (8, [.ref hq, .int (nI c), .int mq])), (hq, .inl (cA 4, 10, .inr (.inr (.inr (.inr fq)))))] ++ tl9)) S hK hA (fun sz => c_Host_reverse l D cA sz hh h1 h2 h3 b sd rv vn va vm vd ) (cw_PC_153 S.2.2.2.2 rfl rfl ⟨Nat.le_of_ble_eq_true rfl, Nat.le_of_ble_eq_true rfl⟩) (List.range ([(hh, .inr (2, [.ref h1, .ref h2, .ref h3, .int sd])), (h1, .inl (cA 1, 8, .inr (.inl b))), (rv, .inr (6, [.int vn, .int va, .int vm, .int vd]))] : va_W).length) ((List.range (([(pc, .inr (7, [.ref tx, .ref ca, .ref te, .ref hh, .ref hp, .ref qu, .ref sp, .int pl, .int ap])), (te, .inr (1, [.ref hs])), (hs, .inl (cA 0, 7, .inl g)), (qu, .inr (8, [.ref hq, .int (nI c), .int mq])), (hq, .inl (cA 4, 10, .inr (.inr (.inr (.inr fq)))))] ++ tl9) : va_W).length).map (([(hh, .inr (2, [.ref h1, .ref h2, .ref h3, .int sd])), (h1, .inl (cA 1, 8, .inr (.inl b))), (rv, .inr (6, [.int vn, .int va, .int vm, .int vd]))] : va_W).length + ·)) (th_C _ _) (th_nC _) (th_R _ _) (th_nR _ _) (th_d _ _) 0 rfl rfl rfl rfl rfl (Nat.le_of_ble_eq_true rfl) dc_PC_send_53 ⟨Nat.le_of_ble_eq_true rfl, Nat.le_of_ble_eq_true rfl⟩ ?_
        rintro _ _ ⟨rfl, rfl⟩
        refine gw_pm (ws' := (([(pc, .inr (7, [.ref tx, .ref ca, .ref te, .ref hh, .ref hp, .ref qu, .ref sp, .int pl, .int ap])), (te, .inr (1, [.ref hs])), (hs, .inl (cA 0, 7, .inl g)), (qu, .inr (8, [.ref hq, .int (nI c), .int mq])), (hq, .inl (cA 4, 10, .inr (.inr (.inr (.inr fq)))))] ++ [(hh, .inr (2, [.ref h1, .ref h2, .ref h3, .int (f_Host_reverse_standing sd va vd)])), (h1, .inl (cA 1, 8, .inr (.inl (f_Host_reverse_1 b va vm vd)))), (rv, .inr (6, [.int vn, .int va, .int vm, .int (f_Host_reverse_isDue va vd)]))]) ++ tl9)) (pm_mid _ _ _) ?_
        refine gw_eq (ws' := ([(pc, .inr (7, [.ref tx, .ref ca, .ref te, .ref hh, .ref hp, .ref qu, .ref sp, .int pl, .int ap])), (te, .inr (1, [.ref hs])), (hs, .inl (cA 0, 7, .inl g)), (qu, .inr (8, [.ref hq, .int (nI c), .int mq])), (hq, .inl (cA 4, 10, .inr (.inr (.inr (.inr fq))))), (hh, .inr (2, [.ref h1, .ref h2, .ref h3, .int (f_Host_reverse_standing sd va vd)])), (h1, .inl (cA 1, 8, .inr (.inl (f_Host_reverse_1 b va vm vd)))), (rv, .inr (6, [.int vn, .int va, .int vm, .int (f_Host_reverse_isDue va vd)]))] ++ tl9)) (lv' := [(0, .ref pc), (1, .int 0)]) (st' := []) (pc' := 56) rfl rfl rfl rfl ?_
        refine gw_iload_n S dc_PC_send_56 rfl 1 rfl ?_
        refine gw_iconst (v := 2) S dc_PC_send_57 (by decide) ?_
        refine gw_icmp_ne (tgt := 63) S dc_PC_send_58 (by decide) (fun c_9 => ?_) (fun c_9 => by exact absurd c_9 (by decide))
        refine gw_aload_n S dc_PC_send_63 rfl 0 rfl ?_
        refine gw_get S hK.1 ic_PC rfl 5 (by decide) (gw_lk S mw_250) 0 rfl rfl dc_PC_send_64 ?_
        refine gw_iconst (v := 0) S dc_PC_send_67 (by decide) ?_
        refine gw_pm (ws' := (([(qu, .inr (8, [.ref hq, .int (nI c), .int mq])), (hq, .inl (cA 4, 10, .inr (.inr (.inr (.inr fq)))))] ++ tl9) ++ [(pc, .inr (7, [.ref tx, .ref ca, .ref te, .ref hh, .ref hp, .ref qu, .ref sp, .int pl, .int ap])), (te, .inr (1, [.ref hs])), (hs, .inl (cA 0, 7, .inl g)), (hh, .inr (2, [.ref h1, .ref h2, .ref h3, .int (f_Host_reverse_standing sd va vd)])), (h1, .inl (cA 1, 8, .inr (.inl (f_Host_reverse_1 b va vm vd)))), (rv, .inr (6, [.int vn, .int va, .int vm, .int (f_Host_reverse_isDue va vd)]))])) (pm_tail (A := ([(qu, .inr (8, [.ref hq, .int (nI c), .int mq])), (hq, .inl (cA 4, 10, .inr (.inr (.inr (.inr fq)))))] : va_W)) (B := ([(pc, .inr (7, [.ref tx, .ref ca, .ref te, .ref hh, .ref hp, .ref qu, .ref sp, .int pl, .int ap])), (te, .inr (1, [.ref hs])), (hs, .inl (cA 0, 7, .inl g)), (hh, .inr (2, [.ref h1, .ref h2, .ref h3, .int (f_Host_reverse_standing sd va vd)])), (h1, .inl (cA 1, 8, .inr (.inl (f_Host_reverse_1 b va vm vd)))), (rv, .inr (6, [.int vn, .int va, .int vm, .int (f_Host_reverse_isDue va vd)]))] : va_W)) 8 rfl [3, 4, 0, 1, 2, 5, 6, 7] (by decide) rfl) ?_
        refine gw_callV (As := [.int 0]) (st := []) (wr := [(pc, .inr (7, [.ref tx, .ref ca, .ref te, .ref hh, .ref hp, .ref qu, .ref sp, .int pl, .int ap])), (te, .inr (1, [.ref hs])), (hs, .inl (cA 0, 7, .inl g)), (hh, .inr (2, [.ref h1, .ref h2, .ref h3, .int (f_Host_reverse_standing sd va vd)])), (h1, .inl (cA 1, 8, .inr (.inl (f_Host_reverse_1 b va vm vd)))), (rv, .inr (6, [.int vn, .int va, .int vm, .int (f_Host_reverse_isDue va vd)]))]) S hK hA (fun sz => c_AL_remove9 l D cA sz qu hq c mq fq rv tl9 hf hc8 (by omega) hel) (cw_PC_157 S.2.2.2.2 rfl rfl ⟨Nat.le_of_ble_eq_true rfl, Nat.le_of_ble_eq_true rfl⟩) (List.range (([(qu, .inr (8, [.ref hq, .int (nI c), .int mq])), (hq, .inl (cA 4, 10, .inr (.inr (.inr (.inr fq)))))] ++ tl9) : va_W).length) ((List.range ([(pc, .inr (7, [.ref tx, .ref ca, .ref te, .ref hh, .ref hp, .ref qu, .ref sp, .int pl, .int ap])), (te, .inr (1, [.ref hs])), (hs, .inl (cA 0, 7, .inl g)), (hh, .inr (2, [.ref h1, .ref h2, .ref h3, .int (f_Host_reverse_standing sd va vd)])), (h1, .inl (cA 1, 8, .inr (.inl (f_Host_reverse_1 b va vm vd)))), (rv, .inr (6, [.int vn, .int va, .int vm, .int (f_Host_reverse_isDue va vd)]))] : va_W).length).map ((([(qu, .inr (8, [.ref hq, .int (nI c), .int mq])), (hq, .inl (cA 4, 10, .inr (.inr (.inr (.inr fq)))))] ++ tl9) : va_W).length + ·)) (th_C _ _) (th_nC _) (th_R _ _) (th_nR _ _) (th_d _ _) 0 rfl rfl rfl rfl rfl (Nat.le_of_ble_eq_true rfl) dc_PC_send_68 ⟨Nat.le_of_ble_eq_true rfl, Nat.le_of_ble_eq_true rfl⟩ ?_
        rintro _ _ ⟨rfl, rfl⟩
        refine gw_eq (ws' := ([(pc, .inr (7, [.ref tx, .ref ca, .ref te, .ref hh, .ref hp, .ref qu, .ref sp, .int pl, .int ap])), (te, .inr (1, [.ref hs])), (hs, .inl (cA 0, 7, .inl g)), (hh, .inr (2, [.ref h1, .ref h2, .ref h3, .int (f_Host_reverse_standing sd va vd)])), (h1, .inl (cA 1, 8, .inr (.inl (f_Host_reverse_1 b va vm vd)))), (rv, .inr (6, [.int vn, .int va, .int vm, .int (f_Host_reverse_isDue va vd)])), (qu, .inr (8, [.ref hq, .int (nI (c - 1)), .int (mq + 1)])), (hq, .inl (cA 4, 10, .inr (.inr (.inr (.inr (va_up (va_cpy fq fq 1 0 (c - 1)) (c - 1) none))))))] ++ tl9)) (lv' := [(0, .ref pc), (1, .int 0)]) (st' := [.ref rv]) (pc' := 71) rfl rfl rfl rfl ?_
        refine gw_pop S dc_PC_send_71 rfl ?_
        refine gw_iconst (v := 1) S dc_PC_send_72 (by decide) ?_
        refine gw_pm (ws' := ([(pc, .inr (7, [.ref tx, .ref ca, .ref te, .ref hh, .ref hp, .ref qu, .ref sp, .int pl, .int ap])), (te, .inr (1, [.ref hs])), (hs, .inl (cA 0, 7, .inl g)), (qu, .inr (8, [.ref hq, .int (nI (c - 1)), .int (mq + 1)])), (hq, .inl (cA 4, 10, .inr (.inr (.inr (.inr (va_up (va_cpy fq fq 1 0 (c - 1)) (c - 1) none)))))), (hh, .inr (2, [.ref h1, .ref h2, .ref h3, .int (f_Host_reverse_standing sd va vd)])), (h1, .inl (cA 1, 8, .inr (.inl (f_Host_reverse_1 b va vm vd)))), (rv, .inr (6, [.int vn, .int va, .int vm, .int (f_Host_reverse_isDue va vd)]))] ++ tl9)) (pm_ix (X' := ([(pc, .inr (7, [.ref tx, .ref ca, .ref te, .ref hh, .ref hp, .ref qu, .ref sp, .int pl, .int ap])), (te, .inr (1, [.ref hs])), (hs, .inl (cA 0, 7, .inl g)), (qu, .inr (8, [.ref hq, .int (nI (c - 1)), .int (mq + 1)])), (hq, .inl (cA 4, 10, .inr (.inr (.inr (.inr (va_up (va_cpy fq fq 1 0 (c - 1)) (c - 1) none)))))), (hh, .inr (2, [.ref h1, .ref h2, .ref h3, .int (f_Host_reverse_standing sd va vd)])), (h1, .inl (cA 1, 8, .inr (.inl (f_Host_reverse_1 b va vm vd)))), (rv, .inr (6, [.int vn, .int va, .int vm, .int (f_Host_reverse_isDue va vd)]))] : va_W)) 8 rfl [0, 1, 2, 6, 7, 3, 4, 5] (by decide) rfl) ?_
        exact gw_iret (w := ([(pc, .inr (7, [.ref tx, .ref ca, .ref te, .ref hh, .ref hp, .ref qu, .ref sp, .int pl, .int ap])), (te, .inr (1, [.ref hs])), (hs, .inl (cA 0, 7, .inl g)), (qu, .inr (8, [.ref hq, .int (nI (c - 1)), .int (mq + 1)])), (hq, .inl (cA 4, 10, .inr (.inr (.inr (.inr (va_up (va_cpy fq fq 1 0 (c - 1)) (c - 1) none)))))), (hh, .inr (2, [.ref h1, .ref h2, .ref h3, .int (f_Host_reverse_standing sd va vd)])), (h1, .inl (cA 1, 8, .inr (.inl (f_Host_reverse_1 b va vm vd)))), (rv, .inr (6, [.int vn, .int va, .int vm, .int (f_Host_reverse_isDue va vd)]))] ++ tl9)) S g_r g_k  (List.range (([(pc, .inr (7, [.ref tx, .ref ca, .ref te, .ref hh, .ref hp, .ref qu, .ref sp, .int pl, .int ap])), (te, .inr (1, [.ref hs])), (hs, .inl (cA 0, 7, .inl g)), (qu, .inr (8, [.ref hq, .int (nI (c - 1)), .int (mq + 1)])), (hq, .inl (cA 4, 10, .inr (.inr (.inr (.inr (va_up (va_cpy fq fq 1 0 (c - 1)) (c - 1) none)))))), (hh, .inr (2, [.ref h1, .ref h2, .ref h3, .int (f_Host_reverse_standing sd va vd)])), (h1, .inl (cA 1, 8, .inr (.inl (f_Host_reverse_1 b va vm vd)))), (rv, .inr (6, [.int vn, .int va, .int vm, .int (f_Host_reverse_isDue va vd)]))] ++ tl9) : va_W).length) (th_id _) (th_nC _) ⟨(by simp only [if_neg c_2, if_neg c_4, if_pos c_6]), (by simp only [if_neg c_2, if_neg c_4, if_pos c_6])⟩ dc_PC_send_73
      · -- not
        exact absurd (ie_0 hq0 hq9) c_6
theorem eq_qe (que : Nat → Int32) (x : Int32) : f_Mod_queued (nI 0) que x = -1 := by
  unfold f_Mod_queued
  by_cases c : x < 0
  · rw [if_pos c]
  · rw [if_neg c, if_pos]
    obtain ⟨j, hj, rfl⟩ := nI_of c
    exact nI_le (Nat.zero_le _) hj
theorem wq {x : Int32} {c : Nat} (h1 : 1 ≤ c) (h6 : c ≤ 6) (h : ¬ f_PC_isWithin x 0 (nI (c - 1)) = 0) : ∃ j : Nat, j < c ∧ x = nI j := by
  unfold f_PC_isWithin at h
  by_cases d : x < 0
  · rw [if_pos d] at h; exact absurd rfl h
  · obtain ⟨j, hj, rfl⟩ := nI_of d
    rw [if_neg d] at h
    rcases Nat.lt_or_ge (c - 1) j with q | q
    · rw [if_pos (nI_lt q hj)] at h; exact absurd rfl h
    · exact ⟨j, by omega, rfl⟩
theorem eq_qn {que : Nat → Int32} {x : Int32} {c : Nat} (h1 : 1 ≤ c) (h6 : c ≤ 6) (h : f_PC_isWithin x 0 (nI (c - 1)) = 0) : f_Mod_queued (nI c) que x = -1 := by
  unfold f_Mod_queued
  unfold f_PC_isWithin at h
  by_cases d : x < 0
  · rw [if_pos d]
  · obtain ⟨j, hj, rfl⟩ := nI_of d
    rw [if_neg d] at h ⊢
    rcases Nat.lt_or_ge (c - 1) j with q | q
    · rw [if_pos (nI_le (by omega) hj)]
    · rw [if_neg (nI_nlt q (by omega))] at h
      exact absurd h (by decide)
theorem eq_qy {que : Nat → Int32} {i c : Nat} (h : i < c) (h6 : c ≤ 6) : f_Mod_queued (nI c) que (nI i) = que i := by
  unfold f_Mod_queued
  rw [if_neg (nI_pos (by omega)), if_neg (nI_ge h (by omega)), nI_clamp (by omega)]
theorem pw_rev {B S C V V' : va_W} {q r : Nat × va_E} (h : V.Perm (r :: V')) : (B ++ (S ++ ([q] ++ (C ++ V)))).Perm ((B ++ [q, r]) ++ (S ++ (C ++ V'))) := by
  rw [List.append_assoc]
  refine List.Perm.append_left B ?_
  have h1 : (C ++ V).Perm (r :: (C ++ V')) := (List.Perm.append_left C h).trans List.perm_middle
  have h2 : (S ++ ([q] ++ (C ++ V))).Perm (S ++ (q :: r :: (C ++ V'))) := List.Perm.append_left S (List.Perm.cons q h1)
  refine h2.trans ?_
  exact List.perm_append_comm_assoc S [q, r] (C ++ V')
theorem rv_at {pam pcd pbk : Nat → Int32} {L : List (Nat × Nat × Nat)} {G : va_W} {i : Nat} {r : Nat × Nat × Nat} (h : L[i]? = some r) : ∃ V', (L.map (rv_c pam pcd pbk) ++ G).Perm (rv_c pam pcd pbk r :: V') := by
  obtain ⟨l1, l2, e⟩ := List.append_of_mem (List.mem_of_getElem? h)
  refine ⟨l1.map (rv_c pam pcd pbk) ++ (l2.map (rv_c pam pcd pbk) ++ G), ?_⟩
  rw [e, List.map_append, List.map_cons, List.append_assoc, List.cons_append]
  exact List.perm_middle
