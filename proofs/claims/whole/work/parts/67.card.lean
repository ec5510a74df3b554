set_option maxRecDepth 100000 in
set_option maxHeartbeats 4000000 in
theorem c_AL_remove1 (l : Launch) (D : va_G) (cA : Nat → ClassId) (sz : Nat) (qu : Nat) (hx : Nat) (mo : Int32) (fq : Nat → Option Nat) (rv : Nat) (hf : fq 0 = some rv) : ct_M l D cA yn_AL_remove cd_AL_remove 4 0 0 sz [.ref qu, .int 0] [(qu, .inr (8, [.ref hx, .int 1, .int mo])), (hx, .inl (cA 4, 10, .inr (.inr (.inr (.inr fq)))))] (fun v_ w_ => v_ = some (.ref rv) ∧ w_ = [(qu, .inr (8, [.ref hx, .int 0, .int (mo + 1)])), (hx, .inl (cA 4, 10, .inr (.inr (.inr (.inr (va_up fq 0 none))))))]) := by
  refine gw_met (by decide) rfl (Nat.le_of_ble_eq_true rfl) ?_
  intro p_ e_ s_ m_ args_ below_ meth_ c_ A_ S g_r g_k g_n hK hA
  refine gw_eq (ws' := [(qu, .inr (8, [.ref hx, .int 1, .int mo])), (hx, .inl (cA 4, 10, .inr (.inr (.inr (.inr fq)))))]) (lv' := [(0, .ref qu), (1, .int 0)]) (st' := []) (pc' := 0) rfl rfl rfl rfl ?_
  refine gw_iload_n S dc_AL_remove_0 rfl 1 rfl ?_
  refine gw_aload_n S dc_AL_remove_1 rfl 0 rfl ?_
  refine gw_get S hK.1 ic_AL rfl 1 (by decide) (gw_lk S mw_145) 0 rfl rfl dc_AL_remove_2 ?_
  refine gw_callSR (As := [.int 0, .int 1]) (st := []) S hK (c_Objs_checkIndex l D cA 0 1 (by decide) (by decide)) (cw_AL_118 S.2.2.2.2 rfl rfl ⟨Nat.le_of_ble_eq_true rfl, Nat.le_of_ble_eq_true rfl⟩) [] rfl (by decide) rfl rfl (Nat.le_of_ble_eq_true rfl) dc_AL_remove_5 ⟨Nat.le_of_ble_eq_true rfl, Nat.le_of_ble_eq_true rfl⟩ ?_
  rintro _ rfl
  refine gw_eq (ws' := [(qu, .inr (8, [.ref hx, .int 1, .int mo])), (hx, .inl (cA 4, 10, .inr (.inr (.inr (.inr fq)))))]) (lv' := [(0, .ref qu), (1, .int 0)]) (st' := [.int 0]) (pc' := 8) rfl rfl rfl rfl ?_
  refine gw_pop S dc_AL_remove_8 rfl ?_
  refine gw_aload_n S dc_AL_remove_9 rfl 0 rfl ?_
  refine gw_get S hK.1 ic_AL rfl 0 (by decide) (gw_lk S mw_144) 0 rfl rfl dc_AL_remove_10 ?_
  refine gw_astore_n (lv' := [(2, .ref hx), (0, .ref qu), (1, .int 0)]) S dc_AL_remove_13 rfl (by decide) rfl ?_
  refine gw_aload_n S dc_AL_remove_14 rfl 0 rfl ?_
  refine gw_iload_n S dc_AL_remove_15 rfl 2 rfl ?_
  refine gw_aald S hK.1 1 4 rfl rfl (by unfold vp_in; decide) dc_AL_remove_16 ?_
  refine gw_eq (ws' := [(qu, .inr (8, [.ref hx, .int 1, .int mo])), (hx, .inl (cA 4, 10, .inr (.inr (.inr (.inr fq)))))]) (lv' := [(2, .ref hx), (0, .ref qu), (1, .int 0)]) (st' := [.ref rv]) (pc' := 17) rfl rfl (by have e9 : fq (Int32.toNatClampNeg 0) = some rv := hf; rw [e9] <;> rfl) rfl ?_
  refine gw_astore_n (lv' := [(3, .ref rv), (2, .ref hx), (0, .ref qu), (1, .int 0)]) S dc_AL_remove_17 rfl (by decide) rfl ?_
  refine gw_aload_n S dc_AL_remove_18 rfl 2 rfl ?_
  refine gw_aload_n S dc_AL_remove_19 rfl 1 rfl ?_
  refine gw_iload_n S dc_AL_remove_20 rfl 3 rfl ?_
  refine gw_callV (As := [.ref hx, .int 0]) (st := []) (wr := []) S hK hA (fun sz => c_AL_fastRemove1 l D cA sz qu hx mo fq ) (cw_AL_144 S.2.2.2.2 rfl rfl ⟨Nat.le_of_ble_eq_true rfl, Nat.le_of_ble_eq_true rfl⟩) [0, 1] [] rfl (by decide) rfl (by decide) (by decide) 0 rfl rfl rfl rfl rfl (Nat.le_of_ble_eq_true rfl) dc_AL_remove_21 ⟨Nat.le_of_ble_eq_true rfl, Nat.le_of_ble_eq_true rfl⟩ ?_
  rintro _ _ ⟨rfl, rfl⟩
  refine gw_eq (ws' := [(qu, .inr (8, [.ref hx, .int 0, .int (mo + 1)])), (hx, .inl (cA 4, 10, .inr (.inr (.inr (.inr (va_up fq 0 none))))))]) (lv' := [(3, .ref rv), (2, .ref hx), (0, .ref qu), (1, .int 0)]) (st' := []) (pc' := 24) rfl rfl rfl rfl ?_
  refine gw_aload_n S dc_AL_remove_24 rfl 0 rfl ?_
  exact gw_aret (w := [(qu, .inr (8, [.ref hx, .int 0, .int (mo + 1)])), (hx, .inl (cA 4, 10, .inr (.inr (.inr (.inr (va_up fq 0 none))))))]) S g_r g_k (Or.inl ⟨_, rfl⟩) (Or.inr ⟨_, rfl⟩) [0, 1] rfl (by decide) ⟨rfl, rfl⟩ dc_AL_remove_25
set_option maxRecDepth 100000 in
set_option maxHeartbeats 4000000 in
theorem c_AL_removem (l : Launch) (D : va_G) (cA : Nat → ClassId) (sz : Nat) (qu : Nat) (hx : Nat) (c : Nat) (mo : Int32) (fq : Nat → Option Nat) (rv : Nat) (pl : va_W) (hf : fq 0 = some rv) (hc : 2 ≤ c) (hc2 : c ≤ 10) (hel : ∀ i, i < c → ∀ y, fq i = some y → ∃ (k : Nat) (fs : List Value), pl[k]? = some (y, .inr (6, fs))) : ct_M l D cA yn_AL_remove cd_AL_remove 4 0 0 sz [.ref qu, .int 0] ([(qu, .inr (8, [.ref hx, .int (nI c), .int mo])), (hx, .inl (cA 4, 10, .inr (.inr (.inr (.inr fq)))))] ++ pl) (fun v_ w_ => v_ = some (.ref rv) ∧ w_ = ([(qu, .inr (8, [.ref hx, .int (nI (c - 1)), .int (mo + 1)])), (hx, .inl (cA 4, 10, .inr (.inr (.inr (.inr (va_up (va_cpy fq fq 1 0 (c - 1)) (c - 1) none))))))] ++ pl)) := by
  refine gw_met (by decide) rfl (Nat.le_of_ble_eq_true rfl) ?_
  intro p_ e_ s_ m_ args_ below_ meth_ c_ A_ S g_r g_k g_n hK hA
  refine gw_eq (ws' := ([(qu, .inr (8, [.ref hx, .int (nI c), .int mo])), (hx, .inl (cA 4, 10, .inr (.inr (.inr (.inr fq)))))] ++ pl)) (lv' := [(0, .ref qu), (1, .int 0)]) (st' := []) (pc' := 0) rfl rfl rfl rfl ?_
  refine gw_iload_n S dc_AL_remove_0 rfl 1 rfl ?_
  refine gw_aload_n S dc_AL_remove_1 rfl 0 rfl ?_
  refine gw_get S hK.1 ic_AL rfl 1 (by decide) (gw_lk S mw_145) 0 rfl rfl dc_AL_remove_2 ?_
  refine gw_callSR (As := [.int 0, .int (nI c)]) (st := []) S hK (c_Objs_checkIndex l D cA 0 (nI c) (by decide) (nI_lt (a := 0) (by omega) (by omega))) (cw_AL_118 S.2.2.2.2 rfl rfl ⟨Nat.le_of_ble_eq_true rfl, Nat.le_of_ble_eq_true rfl⟩) [] rfl (by decide) rfl rfl (Nat.le_of_ble_eq_true rfl) dc_AL_remove_5 ⟨Nat.le_of_ble_eq_true rfl, Nat.le_of_ble_eq_true rfl⟩ ?_
  rintro _ rfl
  refine gw_eq (ws' := ([(qu, .inr (8, [.ref hx, .int (nI c), .int mo])), (hx, .inl (cA 4, 10, .inr (.inr (.inr (.inr fq)))))] ++ pl)) (lv' := [(0, .ref qu), (1, .int 0)]) (st' := [.int 0]) (pc' := 8) rfl rfl rfl rfl ?_
  refine gw_pop S dc_AL_remove_8 rfl ?_
  refine gw_aload_n S dc_AL_remove_9 rfl 0 rfl ?_
  refine gw_get S hK.1 ic_AL rfl 0 (by decide) (gw_lk S mw_144) 0 rfl rfl dc_AL_remove_10 ?_
  refine gw_astore_n (lv' := [(2, .ref hx), (0, .ref qu), (1, .int 0)]) S dc_AL_remove_13 rfl (by decide) rfl ?_
  refine gw_aload_n S dc_AL_remove_14 rfl 0 rfl ?_
  refine gw_iload_n S dc_AL_remove_15 rfl 2 rfl ?_
  refine gw_aald S hK.1 1 4 rfl rfl (by unfold vp_in; decide) dc_AL_remove_16 ?_
  refine gw_eq (ws' := ([(qu, .inr (8, [.ref hx, .int (nI c), .int mo])), (hx, .inl (cA 4, 10, .inr (.inr (.inr (.inr fq)))))] ++ pl)) (lv' := [(2, .ref hx), (0, .ref qu), (1, .int 0)]) (st' := [.ref rv]) (pc' := 17) rfl rfl (by have e9 : fq (Int32.toNatClampNeg 0) = some rv := hf; rw [e9] <;> rfl) rfl ?_
  refine gw_astore_n (lv' := [(3, .ref rv), (2, .ref hx), (0, .ref qu), (1, .int 0)]) S dc_AL_remove_17 rfl (by decide) rfl ?_
  refine gw_aload_n S dc_AL_remove_18 rfl 2 rfl ?_
  refine gw_aload_n S dc_AL_remove_19 rfl 1 rfl ?_
  refine gw_iload_n S dc_AL_remove_20 rfl 3 rfl ?_
  refine gw_pm (ws' := (([(qu, .inr (8, [.ref hx, .int (nI c), .int mo])), (hx, .inl (cA 4, 10, .inr (.inr (.inr (.inr fq)))))] ++ pl) ++ [])) (pm_tail (A := ([(qu, .inr (8, [.ref hx, .int (nI c), .int mo])), (hx, .inl (cA 4, 10, .inr (.inr (.inr (.inr fq)))))] : va_W)) (B := ([] : va_W)) 2 rfl [0, 1] (by decide) rfl) ?_
  refine gw_callV (As := [.ref hx, .int 0]) (st := []) (wr := []) S hK hA (fun sz => c_AL_fastRemovem l D cA sz qu hx c mo fq pl (by assumption) (by assumption) (by assumption)) (cw_AL_144 S.2.2.2.2 rfl rfl ⟨Nat.le_of_ble_eq_true rfl, Nat.le_of_ble_eq_true rfl⟩) (List.range (([(qu, .inr (8, [.ref hx, .int (nI c), .int mo])), (hx, .inl (cA 4, 10, .inr (.inr (.inr (.inr fq)))))] ++ pl) : va_W).length) ((List.range ([] : va_W).length).map ((([(qu, .inr (8, [.ref hx, .int (nI c), .int mo])), (hx, .inl (cA 4, 10, .inr (.inr (.inr (.inr fq)))))] ++ pl) : va_W).length + ·)) (th_C _ _) (th_nC _) (th_R _ _) (th_nR _ _) (th_d _ _) 0 rfl rfl rfl rfl rfl (Nat.le_of_ble_eq_true rfl) dc_AL_remove_21 ⟨Nat.le_of_ble_eq_true rfl, Nat.le_of_ble_eq_true rfl⟩ ?_
  rintro _ _ ⟨rfl, rfl⟩
  refine gw_eq (ws' := ([(qu, .inr (8, [.ref hx, .int (nI (c - 1)), .int (mo + 1)])), (hx, .inl (cA 4, 10, .inr (.inr (.inr (.inr (va_up (va_cpy fq fq 1 0 (c - 1)) (c - 1) none))))))] ++ pl)) (lv' := [(3, .ref rv), (2, .ref hx), (0, .ref qu), (1, .int 0)]) (st' := []) (pc' := 24) rfl rfl rfl rfl ?_
  refine gw_aload_n S dc_AL_remove_24 rfl 0 rfl ?_
  refine gw_pm (ws' := ([(qu, .inr (8, [.ref hx, .int (nI (c - 1)), .int (mo + 1)])), (hx, .inl (cA 4, 10, .inr (.inr (.inr (.inr (va_up (va_cpy fq fq 1 0 (c - 1)) (c - 1) none))))))] ++ pl)) (pm_ix (X' := ([(qu, .inr (8, [.ref hx, .int (nI (c - 1)), .int (mo + 1)])), (hx, .inl (cA 4, 10, .inr (.inr (.inr (.inr (va_up (va_cpy fq fq 1 0 (c - 1)) (c - 1) none))))))] : va_W)) 2 rfl [0, 1] (by decide) rfl) ?_
  exact gw_aret (w := ([(qu, .inr (8, [.ref hx, .int (nI (c - 1)), .int (mo + 1)])), (hx, .inl (cA 4, 10, .inr (.inr (.inr (.inr (va_up (va_cpy fq fq 1 0 (c - 1)) (c - 1) none))))))] ++ pl)) S g_r g_k (Or.inl ⟨_, rfl⟩) (Or.inr ⟨_, rfl⟩) (List.range (([(qu, .inr (8, [.ref hx, .int (nI (c - 1)), .int (mo + 1)])), (hx, .inl (cA 4, 10, .inr (.inr (.inr (.inr (va_up (va_cpy fq fq 1 0 (c - 1)) (c - 1) none))))))] ++ pl) : va_W).length) (th_id _) (th_nC _) ⟨rfl, rfl⟩ dc_AL_remove_25
noncomputable def f_Rev_init_isDue (co : Int32) : Int32 := if co = 1 then 1 else (0)
set_option maxRecDepth 100000 in
set_option maxHeartbeats 4000000 in
theorem c_Rev_init (l : Launch) (D : va_G) (cA : Nat → ClassId) (sz : Nat) (h : Nat) (hp : Nat) (hd : Nat) (nu : Int32) (am : Int32) (ty : Int32) (fa : Int32) (oc : Int32) (fl : Int32) (wi : Int32) (fi : Int32) (fc : Int32) (s2 : Int32) (sc : Int32) (co : Int32) (a : Int32)  : ct_M l D cA yn_Rev_init cd_Rev_init 2 0 0 sz [.ref h, .ref hp, .int a] [(h, .inr (6, [.int 0, .int 0, .int 0, .int 0])), (hp, .inr (3, [.ref hd, .int nu, .int am, .int ty, .int fa, .int oc, .int fl, .int wi, .int fi, .int fc, .int s2, .int sc, .int co]))] (fun v_ w_ => v_ = none ∧ w_ = [(h, .inr (6, [.int nu, .int a, .int am, .int (f_Rev_init_isDue co)])), (hp, .inr (3, [.ref hd, .int nu, .int am, .int ty, .int fa, .int oc, .int fl, .int wi, .int fi, .int fc, .int s2, .int sc, .int co]))]) := by
  refine gw_met (by decide) rfl (Nat.le_of_ble_eq_true rfl) ?_
  intro p_ e_ s_ m_ args_ below_ meth_ c_ A_ S g_r g_k g_n hK hA
  refine gw_eq (ws' := [(h, .inr (6, [.int 0, .int 0, .int 0, .int 0])), (hp, .inr (3, [.ref hd, .int nu, .int am, .int ty, .int fa, .int oc, .int fl, .int wi, .int fi, .int fc, .int s2, .int sc, .int co]))]) (lv' := [(0, .ref h), (1, .ref hp), (2, .int a)]) (st' := []) (pc' := 0) rfl rfl rfl rfl ?_
  refine gw_aload_n S dc_Rev_init_0 rfl 0 rfl ?_
  refine gw_oinit S (gw_lk S mw_607) (gw_lk S mw_27) (gw_lk S mw_28) (Nat.le_of_ble_eq_true rfl) (Nat.le_of_ble_eq_true rfl) dc_Rev_init_1 ?_
  refine gw_aload_n S dc_Rev_init_4 rfl 0 rfl ?_
  refine gw_aload_n S dc_Rev_init_5 rfl 1 rfl ?_
  refine gw_getN S hK.1 ic_Pmt rfl 1 (by decide) (hK.2 _ mn_86).2 1 rfl rfl dc_Rev_init_6 ?_
  refine gw_putF (ws' := [(h, .inr (6, [.int nu, .int 0, .int 0, .int 0])), (hp, .inr (3, [.ref hd, .int nu, .int am, .int ty, .int fa, .int oc, .int fl, .int wi, .int fi, .int fc, .int s2, .int sc, .int co]))]) (ty := .int) S hK.1 ic_Rev rfl 0 (by decide) ty_Rev to_Rev nm_Rev (gw_lk S mw_608) 0 rfl rfl g_n rfl (by decide +kernel) rfl rfl (Nat.le_of_ble_eq_true rfl) rfl dc_Rev_init_9 ?_
  refine gw_aload_n S dc_Rev_init_12 rfl 0 rfl ?_
  refine gw_iload_n S dc_Rev_init_13 rfl 2 rfl ?_
  refine gw_putF (ws' := [(h, .inr (6, [.int nu, .int a, .int 0, .int 0])), (hp, .inr (3, [.ref hd, .int nu, .int am, .int ty, .int fa, .int oc, .int fl, .int wi, .int fi, .int fc, .int s2, .int sc, .int co]))]) (ty := .int) S hK.1 ic_Rev rfl 1 (by decide) ty_Rev to_Rev nm_Rev (gw_lk S mw_610) 0 rfl rfl g_n rfl (by decide +kernel) rfl rfl (Nat.le_of_ble_eq_true rfl) rfl dc_Rev_init_14 ?_
  refine gw_aload_n S dc_Rev_init_17 rfl 0 rfl ?_
  refine gw_aload_n S dc_Rev_init_18 rfl 1 rfl ?_
  refine gw_getN S hK.1 ic_Pmt rfl 2 (by decide) (hK.2 _ mn_89).2 1 rfl rfl dc_Rev_init_19 ?_
  refine gw_putF (ws' := [(h, .inr (6, [.int nu, .int a, .int am, .int 0])), (hp, .inr (3, [.ref hd, .int nu, .int am, .int ty, .int fa, .int oc, .int fl, .int wi, .int fi, .int fc, .int s2, .int sc, .int co]))]) (ty := .int) S hK.1 ic_Rev rfl 2 (by decide) ty_Rev to_Rev nm_Rev (gw_lk S mw_612) 0 rfl rfl g_n rfl (by decide +kernel) rfl rfl (Nat.le_of_ble_eq_true rfl) rfl dc_Rev_init_22 ?_
  refine gw_aload_n S dc_Rev_init_25 rfl 0 rfl ?_
  refine gw_aload_n S dc_Rev_init_26 rfl 1 rfl ?_
  refine gw_getN S hK.1 ic_Pmt rfl 12 (by decide) (hK.2 _ mn_101).2 1 rfl rfl dc_Rev_init_27 ?_
  refine gw_iconst (v := 1) S dc_Rev_init_30 (by decide) ?_
  refine gw_icmp_ne (tgt := 38) S dc_Rev_init_31 (by decide) (fun c_1 => ?_) (fun c_1 => ?_)
  · -- taken
    refine gw_iconst (v := 0) S dc_Rev_init_38 (by decide) ?_
    refine gw_put (ws' := [(h, .inr (6, [.int nu, .int a, .int am, .int 0])), (hp, .inr (3, [.ref hd, .int nu, .int am, .int ty, .int fa, .int oc, .int fl, .int wi, .int fi, .int fc, .int s2, .int sc, .int co]))]) (ty := .boolean) S hK.1 ic_Rev rfl 3 (by decide) ty_Rev to_Rev nm_Rev (gw_lk S mw_614) 0 rfl rfl (by decide +kernel) rfl rfl (Nat.le_of_ble_eq_true rfl) rfl dc_Rev_init_39 ?_
    exact gw_vret (w := [(h, .inr (6, [.int nu, .int a, .int am, .int 0])), (hp, .inr (3, [.ref hd, .int nu, .int am, .int ty, .int fa, .int oc, .int fl, .int wi, .int fi, .int fc, .int s2, .int sc, .int co]))]) S g_r g_k  [0, 1] rfl (by decide) ⟨(by simp only [f_Rev_init_isDue, if_neg c_1]), (by simp only [f_Rev_init_isDue, if_neg c_1])⟩ dc_Rev_init_42
  · -- not
    refine gw_iconst (v := 1) S dc_Rev_init_34 (by decide) ?_
    refine gw_goto (tgt := 39) S dc_Rev_init_35 (by decide) ?_
    refine gw_put (ws' := [(h, .inr (6, [.int nu, .int a, .int am, .int 1])), (hp, .inr (3, [.ref hd, .int nu, .int am, .int ty, .int fa, .int oc, .int fl, .int wi, .int fi, .int fc, .int s2, .int sc, .int co]))]) (ty := .boolean) S hK.1 ic_Rev rfl 3 (by decide) ty_Rev to_Rev nm_Rev (gw_lk S mw_614) 0 rfl rfl (by decide +kernel) rfl rfl (Nat.le_of_ble_eq_true rfl) rfl dc_Rev_init_39 ?_
    exact gw_vret (w := [(h, .inr (6, [.int nu, .int a, .int am, .int 1])), (hp, .inr (3, [.ref hd, .int nu, .int am, .int ty, .int fa, .int oc, .int fl, .int wi, .int fi, .int fc, .int s2, .int sc, .int co]))]) S g_r g_k  [0, 1] rfl (by decide) ⟨(by simp only [f_Rev_init_isDue, if_pos c_1]), (by simp only [f_Rev_init_isDue, if_pos c_1])⟩ dc_Rev_init_42
noncomputable def f_Card_unfitTag (z : Int32) (n : Int32) (f : Nat → Int32) (tg : Nat → Int32) (ss : Nat → Int32) (ln : Nat → Int32) : Int32 := if (f_Card_fits z n f tg ss ln 90) = 0 then 90 else (if (f_Card_fits z n f tg ss ln 140) = 0 then 140 else (if (f_Card_fits z n f tg ss ln 142) = 0 then 142 else (if (f_Card_fits z n f tg ss ln 24356) = 0 then 24356 else (if (f_Card_fits z n f tg ss ln 40717) = 0 then 40717 else (if (f_Card_fits z n f tg ss ln 40718) = 0 then 40718 else (if (f_Card_fits z n f tg ss ln 40719) = 0 then 40719 else (if (f_Card_fits z n f tg ss ln 40724) = 0 then 40724 else (if (f_Card_fits z n f tg ss ln 40739) = 0 then 40739 else (-1)))))))))
set_option maxRecDepth 100000 in
set_option maxHeartbeats 4000000 in
theorem c_Card_unfitTag (l : Launch) (D : va_G) (cA : Nat → ClassId) (sz : Nat) (ut9 ed9 : Nat) (hc : Nat) (ho : Nat) (ky : Int32) (pn : Int32) (tr : Int32) (ct : Int32) (rn : Int32) (sn : Int32) (ac : Int32) (ed : Int32) (md : Int32) (mn : Int32) (mo : Int32) (lo : Int32) (up : Int32) (hr : Nat) (ht : Nat) (hx : Nat) (hl : Nat) (hi : Nat) (z : Int32) (hb : Nat) (n : Int32) (f : Nat → Int32) (tg : Nat → Int32) (ss : Nat → Int32) (ln : Nat → Int32) (hz : rw_ok z 30) (hN : rw_ok n 60) : ct_Z l D cA ut9 ed9 yn_Card_unfitTag cd_Card_unfitTag 6 0 0 sz [.ref hc] [(hc, .inr (5, [.ref ho, .int ky, .int pn, .int tr, .int ct, .int rn, .int sn, .int ac, .int ed, .int md, .int mn, .int mo, .int lo, .int up])), (ho, .inr (4, [.ref hr, .ref ht, .ref hx, .ref hl, .ref hi, .int z])), (hr, .inr (0, [.ref hb, .int n])), (hb, .inl (cA 0, 60, .inl f)), (ht, .inl (cA 0, 30, .inl tg)), (hx, .inl (cA 0, 30, .inl ss)), (hl, .inl (cA 0, 30, .inl ln))] (fun v_ w_ => v_ = some (.int (f_Card_unfitTag z n f tg ss ln)) ∧ w_ = [(hc, .inr (5, [.ref ho, .int ky, .int pn, .int tr, .int ct, .int rn, .int sn, .int ac, .int ed, .int md, .int mn, .int mo, .int lo, .int up])), (ho, .inr (4, [.ref hr, .ref ht, .ref hx, .ref hl, .ref hi, .int z])), (hr, .inr (0, [.ref hb, .int n])), (hb, .inl (cA 0, 60, .inl f)), (ht, .inl (cA 0, 30, .inl tg)), (hx, .inl (cA 0, 30, .inl ss)), (hl, .inl (cA 0, 30, .inl ln))]) := by
  refine gw_metZ (by decide) rfl (Nat.le_of_ble_eq_true rfl) ?_
  intro p_ e_ s_ m_ args_ below_ meth_ c_ A_ S g_r g_k g_n hK hA hX
  refine gw_eq (ws' := [(hc, .inr (5, [.ref ho, .int ky, .int pn, .int tr, .int ct, .int rn, .int sn, .int ac, .int ed, .int md, .int mn, .int mo, .int lo, .int up])), (ho, .inr (4, [.ref hr, .ref ht, .ref hx, .ref hl, .ref hi, .int z])), (hr, .inr (0, [.ref hb, .int n])), (hb, .inl (cA 0, 60, .inl f)), (ht, .inl (cA 0, 30, .inl tg)), (hx, .inl (cA 0, 30, .inl ss)), (hl, .inl (cA 0, 30, .inl ln))]) (lv' := [(0, .ref hc)]) (st' := []) (pc' := 0) rfl rfl rfl rfl ?_
  refine gw_iconst (v := 0) S dc_Card_unfitTag_0 (by decide) ?_
  refine gw_istore_n (lv' := [(1, .int 0), (0, .ref hc)]) S dc_Card_unfitTag_1 rfl (by decide) rfl ?_
  refine gw_iload_n S dc_Card_unfitTag_2 rfl 0 rfl ?_
  refine gw_gets S hX.1 (gw_lk S mw_355) dc_Card_unfitTag_3 ?_
  refine gw_tlen (v := 9) S hX.2.1 (by decide) dc_Card_unfitTag_6 ?_
  refine gw_icmp_ge (tgt := 34) S dc_Card_unfitTag_7 (by decide) (fun c_1 => by exact absurd c_1 (by decide)) (fun c_1 => ?_)
  refine gw_aload_n S dc_Card_unfitTag_10 rfl 1 rfl ?_
  refine gw_gets S hX.1 (gw_lk S mw_355) dc_Card_unfitTag_11 ?_
  refine gw_iload_n S dc_Card_unfitTag_14 rfl 0 rfl ?_
  refine gw_ti (v := .int 90) S hX.2.1 (by unfold vp_in; decide) rfl dc_Card_unfitTag_15 ?_
  refine gw_callVR (As := [.int 90]) (st := []) S hK (c_Card_fits l D cA hc ho ky pn tr ct rn sn ac ed md mn mo lo up hr ht hx hl hi z hb n f tg ss ln 90 (by assumption) (by assumption)) (cw_Card_81 S.2.2.2.2 rfl rfl ⟨Nat.le_of_ble_eq_true rfl, Nat.le_of_ble_eq_true rfl⟩) [0, 1, 2, 3, 4, 5, 6] rfl (by decide) 0 rfl rfl rfl rfl rfl (Nat.le_of_ble_eq_true rfl) dc_Card_unfitTag_16 ⟨Nat.le_of_ble_eq_true rfl, Nat.le_of_ble_eq_true rfl⟩ ?_
  rintro _ rfl
  refine gw_eq (ws' := [(hc, .inr (5, [.ref ho, .int ky, .int pn, .int tr, .int ct, .int rn, .int sn, .int ac, .int ed, .int md, .int mn, .int mo, .int lo, .int up])), (ho, .inr (4, [.ref hr, .ref ht, .ref hx, .ref hl, .ref hi, .int z])), (hr, .inr (0, [.ref hb, .int n])), (hb, .inl (cA 0, 60, .inl f)), (ht, .inl (cA 0, 30, .inl tg)), (hx, .inl (cA 0, 30, .inl ss)), (hl, .inl (cA 0, 30, .inl ln))]) (lv' := [(1, .int 0), (0, .ref hc)]) (st' := [.int (f_Card_fits z n f tg ss ln 90)]) (pc' := 19) rfl rfl rfl rfl ?_
  refine gw_if_ne (tgt := 28) S dc_Card_unfitTag_19 (by decide) (fun c_3 => ?_) (fun c_3 => ?_)
  · -- taken
    refine gw_iinc (v := 1) (lv' := [(1, .int 1), (0, .ref hc)]) S dc_Card_unfitTag_28 0 rfl (by decide) (by decide) rfl ?_
    refine gw_goto (tgt := 2) S dc_Card_unfitTag_31 (by decide) ?_
    refine gw_iload_n S dc_Card_unfitTag_2 rfl 0 rfl ?_
    refine gw_gets S hX.1 (gw_lk S mw_355) dc_Card_unfitTag_3 ?_
    refine gw_tlen (v := 9) S hX.2.1 (by decide) dc_Card_unfitTag_6 ?_
    refine gw_icmp_ge (tgt := 34) S dc_Card_unfitTag_7 (by decide) (fun c_4 => by exact absurd c_4 (by decide)) (fun c_4 => ?_)
    refine gw_aload_n S dc_Card_unfitTag_10 rfl 1 rfl ?_
    refine gw_gets S hX.1 (gw_lk S mw_355) dc_Card_unfitTag_11 ?_
    refine gw_iload_n S dc_Card_unfitTag_14 rfl 0 rfl ?_
    refine gw_ti (v := .int 140) S hX.2.1 (by unfold vp_in; decide) rfl dc_Card_unfitTag_15 ?_
    refine gw_callVR (As := [.int 140]) (st := []) S hK (c_Card_fits l D cA hc ho ky pn tr ct rn sn ac ed md mn mo lo up hr ht hx hl hi z hb n f tg ss ln 140 (by assumption) (by assumption)) (cw_Card_81 S.2.2.2.2 rfl rfl ⟨Nat.le_of_ble_eq_true rfl, Nat.le_of_ble_eq_true rfl⟩) [0, 1, 2, 3, 4, 5, 6] rfl (by decide) 0 rfl rfl rfl rfl rfl (Nat.le_of_ble_eq_true rfl) dc_Card_unfitTag_16 ⟨Nat.le_of_ble_eq_true rfl, Nat.le_of_ble_eq_true rfl⟩ ?_
    rintro _ rfl
    refine gw_eq (ws' := [(hc, .inr (5, [.ref ho, .int ky, .int pn, .int tr, .int ct, .int rn, .int sn, .int ac, .int ed, .int md, .int mn, .int mo, .int lo, .int up])), (ho, .inr (4, [.ref hr, .ref ht, .ref hx, .ref hl, .ref hi, .int z])), (hr, .inr (0, [.ref hb, .int n])), (hb, .inl (cA 0, 60, .inl f)), (ht, .inl (cA 0, 30, .inl tg)), (hx, .inl (cA 0, 30, .inl ss)), (hl, .inl (cA 0, 30, .inl ln))]) (lv' := [(1, .int 1), (0, .ref hc)]) (st' := [.int (f_Card_fits z n f tg ss ln 140)]) (pc' := 19) rfl rfl rfl rfl ?_
    refine gw_if_ne (tgt := 28) S dc_Card_unfitTag_19 (by decide) (fun c_6 => ?_) (fun c_6 => ?_)
    · -- taken
      refine gw_iinc (v := 2) (lv' := [(1, .int 2), (0, .ref hc)]) S dc_Card_unfitTag_28 0 rfl (by decide) (by decide) rfl ?_
      refine gw_goto (tgt := 2) S dc_Card_unfitTag_31 (by decide) ?_
      refine gw_iload_n S dc_Card_unfitTag_2 rfl 0 rfl ?_
      refine gw_gets S hX.1 (gw_lk S mw_355) dc_Card_unfitTag_3 ?_
      refine gw_tlen (v := 9) S hX.2.1 (by decide) dc_Card_unfitTag_6 ?_
      refine gw_icmp_ge (tgt := 34) S dc_Card_unfitTag_7 (by decide) (fun c_7 => by exact absurd c_7 (by decide)) (fun c_7 => ?_)
      refine gw_aload_n S dc_Card_unfitTag_10 rfl 1 rfl ?_
      refine gw_gets S hX.1 (gw_lk S mw_355) dc_Card_unfitTag_11 ?_
      refine gw_iload_n S dc_Card_unfitTag_14 rfl 0 rfl ?_
      refine gw_ti (v := .int 142) S hX.2.1 (by unfold vp_in; decide) rfl dc_Card_unfitTag_15 ?_
      refine gw_callVR (As := [.int 142]) (st := []) S hK (c_Card_fits l D cA hc ho ky pn tr ct rn sn ac ed md mn mo lo up hr ht hx hl hi z hb n f tg ss ln 142 (by assumption) (by assumption)) (cw_Card_81 S.2.2.2.2 rfl rfl ⟨Nat.le_of_ble_eq_true rfl, Nat.le_of_ble_eq_true rfl⟩) [0, 1, 2, 3, 4, 5, 6] rfl (by decide) 0 rfl rfl rfl rfl rfl (Nat.le_of_ble_eq_true rfl) dc_Card_unfitTag_16 ⟨Nat.le_of_ble_eq_true rfl, Nat.le_of_ble_eq_true rfl⟩ ?_
      rintro _ rfl
      refine gw_eq (ws' := [(hc, .inr (5, [.ref ho, .int ky, .int pn, .int tr, .int ct, .int rn, .int sn, .int ac, .int ed, .int md, .int mn, .int mo, .int lo, .int up])), (ho, .inr (4, [.ref hr, .ref ht, .ref hx, .ref hl, .ref hi, .int z])), (hr, .inr (0, [.ref hb, .int n])), (hb, .inl (cA 0, 60, .inl f)), (ht, .inl (cA 0, 30, .inl tg)), (hx, .inl (cA 0, 30, .inl ss)), (hl, .inl (cA 0, 30, .inl ln))]) (lv' := [(1, .int 2), (0, .ref hc)]) (st' := [.int (f_Card_fits z n f tg ss ln 142)]) (pc' := 19) rfl rfl rfl rfl ?_
      refine gw_if_ne (tgt := 28) S dc_Card_unfitTag_19 (by decide) (fun c_9 => ?_) (fun c_9 => ?_)
      · -- taken
        refine gw_iinc (v := 3) (lv' := [(1, .int 3), (0, .ref hc)]) S dc_Card_unfitTag_28 0 rfl (by decide) (by decide) rfl ?_
        refine gw_goto (tgt := 2) S dc_Card_unfitTag_31 (by decide) ?_
        refine gw_iload_n S dc_Card_unfitTag_2 rfl 0 rfl ?_
        refine gw_gets S hX.1 (gw_lk S mw_355) dc_Card_unfitTag_3 ?_
        refine gw_tlen (v := 9) S hX.2.1 (by decide) dc_Card_unfitTag_6 ?_
        refine gw_icmp_ge (tgt := 34) S dc_Card_unfitTag_7 (by decide) (fun c_10 => by exact absurd c_10 (by decide)) (fun c_10 => ?_)
        refine gw_aload_n S dc_Card_unfitTag_10 rfl 1 rfl ?_
        refine gw_gets S hX.1 (gw_lk S mw_355) dc_Card_unfitTag_11 ?_
        refine gw_iload_n S dc_Card_unfitTag_14 rfl 0 rfl ?_
        refine gw_ti (v := .int 24356) S hX.2.1 (by unfold vp_in; decide) rfl dc_Card_unfitTag_15 ?_
        refine gw_callVR (As := [.int 24356]) (st := []) S hK (c_Card_fits l D cA hc ho ky pn tr ct rn sn ac ed md mn mo lo up hr ht hx hl hi z hb n f tg ss ln 24356 (by assumption) (by assumption)) (cw_Card_81 S.2.2.2.2 rfl rfl ⟨Nat.le_of_ble_eq_true rfl, Nat.le_of_ble_eq_true rfl⟩) [0, 1, 2, 3, 4, 5, 6] rfl (by decide) 0 rfl rfl rfl rfl rfl (Nat.le_of_ble_eq_true rfl) dc_Card_unfitTag_16 ⟨Nat.le_of_ble_eq_true rfl, Nat.le_of_ble_eq_true rfl⟩ ?_
        rintro _ rfl
        refine gw_eq (ws' := [(hc, .inr (5, [.ref ho, .int ky, .int pn, .int tr, .int ct, .int rn, .int sn, .int ac, .int ed, .int md, .int mn, .int mo, .int lo, .int up])), (ho, .inr (4, [.ref hr, .ref ht, .ref hx, .ref hl, .ref hi, .int z])), (hr, .inr (0, [.ref hb, .int n])), (hb, .inl (cA 0, 60, .inl f)), (ht, .inl (cA 0, 30, .inl tg)), (hx, .inl (cA 0, 30, .inl ss)), (hl, .inl (cA 0, 30, .inl ln))]) (lv' := [(1, .int 3), (0, .ref hc)]) (st' := [.int (f_Card_fits z n f tg ss ln 24356)]) (pc' := 19) rfl rfl rfl rfl ?_
        refine gw_if_ne (tgt := 28) S dc_Card_unfitTag_19 (by decide) (fun c_12 => ?_) (fun c_12 => ?_)
        · -- taken
          refine gw_iinc (v := 4) (lv' := [(1, .int 4), (0, .ref hc)]) S dc_Card_unfitTag_28 0 rfl (by decide) (by decide) rfl ?_
          refine gw_goto (tgt := 2) S dc_Card_unfitTag_31 (by decide) ?_
          refine gw_iload_n S dc_Card_unfitTag_2 rfl 0 rfl ?_
          refine gw_gets S hX.1 (gw_lk S mw_355) dc_Card_unfitTag_3 ?_
          refine gw_tlen (v := 9) S hX.2.1 (by decide) dc_Card_unfitTag_6 ?_
          refine gw_icmp_ge (tgt := 34) S dc_Card_unfitTag_7 (by decide) (fun c_13 => by exact absurd c_13 (by decide)) (fun c_13 => ?_)
          refine gw_aload_n S dc_Card_unfitTag_10 rfl 1 rfl ?_
          refine gw_gets S hX.1 (gw_lk S mw_355) dc_Card_unfitTag_11 ?_
          refine gw_iload_n S dc_Card_unfitTag_14 rfl 0 rfl ?_
          refine gw_ti (v := .int 40717) S hX.2.1 (by unfold vp_in; decide) rfl dc_Card_unfitTag_15 ?_
          refine gw_callVR (As := [.int 40717]) (st := []) S hK (c_Card_fits l D cA hc ho ky pn tr ct rn sn ac ed md mn mo lo up hr ht hx hl hi z hb n f tg ss ln 40717 (by assumption) (by assumption)) (cw_Card_81 S.2.2.2.2 rfl rfl ⟨Nat.le_of_ble_eq_true rfl, Nat.le_of_ble_eq_true rfl⟩) [0, 1, 2, 3, 4, 5, 6] rfl (by decide) 0 rfl rfl rfl rfl rfl (Nat.le_of_ble_eq_true rfl) dc_Card_unfitTag_16 ⟨Nat.le_of_ble_eq_true rfl, Nat.le_of_ble_eq_true rfl⟩ ?_
          rintro _ rfl
          refine gw_eq (ws' := [(hc, .inr (5, [.ref ho, .int ky, .int pn, .int tr, .int ct, .int rn, .int sn, .int ac, .int ed, .int md, .int mn, .int mo, .int lo, .int up])), (ho, .inr (4, [.ref hr, .ref ht, .ref hx, .ref hl, .ref hi, .int z])), (hr, .inr (0, [.ref hb, .int n])), (hb, .inl (cA 0, 60, .inl f)), (ht, .inl (cA 0, 30, .inl tg)), (hx, .inl (cA 0, 30, .inl ss)), (hl, .inl (cA 0, 30, .inl ln))]) (lv' := [(1, .int 4), (0, .ref hc)]) (st' := [.int (f_Card_fits z n f tg ss ln 40717)]) (pc' := 19) rfl rfl rfl rfl ?_
          refine gw_if_ne (tgt := 28) S dc_Card_unfitTag_19 (by decide) (fun c_15 => ?_) (fun c_15 => ?_)
          · -- taken
            refine gw_iinc (v := 5) (lv' := [(1, .int 5), (0, .ref hc)]) S dc_Card_unfitTag_28 0 rfl (by decide) (by decide) rfl ?_
            refine gw_goto (tgt := 2) S dc_Card_unfitTag_31 (by decide) ?_
            refine gw_iload_n S dc_Card_unfitTag_2 rfl 0 rfl ?_
            refine gw_gets S hX.1 (gw_lk S mw_355) dc_Card_unfitTag_3 ?_
            refine gw_tlen (v := 9) S hX.2.1 (by decide) dc_Card_unfitTag_6 ?_
            refine gw_icmp_ge (tgt := 34) S dc_Card_unfitTag_7 (by decide) (fun c_16 => by exact absurd c_16 (by decide)) (fun c_16 => ?_)
            refine gw_aload_n S dc_Card_unfitTag_10 rfl 1 rfl ?_
            refine gw_gets S hX.1 (gw_lk S mw_355) dc_Card_unfitTag_11 ?_
            refine gw_iload_n S dc_Card_unfitTag_14 rfl 0 rfl ?_
            refine gw_ti (v := .int 40718) S hX.2.1 (by unfold vp_in; decide) rfl dc_Card_unfitTag_15 ?_
            refine gw_callVR (As := [.int 40718]) (st := []) S hK (c_Card_fits l D cA hc ho ky pn tr ct rn sn ac ed md mn mo lo up hr ht hx hl hi z hb n f tg ss ln 40718 (by assumption) (by assumption)) (cw_Card_81 S.2.2.2.2 rfl rfl ⟨Nat.le_of_ble_eq_true rfl, Nat.le_of_ble_eq_true rfl⟩) [0, 1, 2, 3, 4, 5, 6] rfl (by decide) 0 rfl rfl rfl rfl rfl (Nat.le_of_ble_eq_true rfl) dc_Card_unfitTag_16 ⟨Nat.le_of_ble_eq_true rfl, Nat.le_of_ble_eq_true rfl⟩ ?_
            rintro _ rfl
            refine gw_eq (ws' := [(hc, .inr (5, [.ref ho, .int ky, .int pn, .int tr, .int ct, .int rn, .int sn, .int ac, .int ed, .int md, .int mn, .int mo, .int lo, .int up])), (ho, .inr (4, [.ref hr, .ref ht, .ref hx, .ref hl, .ref hi, .int z])), (hr, .inr (0, [.ref hb, .int n])), (hb, .inl (cA 0, 60, .inl f)), (ht, .inl (cA 0, 30, .inl tg)), (hx, .inl (cA 0, 30, .inl ss)), (hl, .inl (cA 0, 30, .inl ln))]) (lv' := [(1, .int 5), (0, .ref hc)]) (st' := [.int (f_Card_fits z n f tg ss ln 40718)]) (pc' := 19) rfl rfl rfl rfl ?_
            refine gw_if_ne (tgt := 28) S dc_Card_unfitTag_19 (by decide) (fun c_18 => ?_) (fun c_18 => ?_)
            · -- taken
              refine gw_iinc (v := 6) (lv' := [(1, .int 6), (0, .ref hc)]) S dc_Card_unfitTag_28 0 rfl (by decide) (by decide) rfl ?_
              refine gw_goto (tgt := 2) S dc_Card_unfitTag_31 (by decide) ?_
              refine gw_iload_n S dc_Card_unfitTag_2 rfl 0 rfl ?_
              refine gw_gets S hX.1 (gw_lk S mw_355) dc_Card_unfitTag_3 ?_
              refine gw_tlen (v := 9) S hX.2.1 (by decide) dc_Card_unfitTag_6 ?_
              refine gw_icmp_ge (tgt := 34) S dc_Card_unfitTag_7 (by decide) (fun c_19 => by exact absurd c_19 (by decide)) (fun c_19 => ?_)
              refine gw_aload_n S dc_Card_unfitTag_10 rfl 1 rfl ?_
              refine gw_gets S hX.1 (gw_lk S mw_355) dc_Card_unfitTag_11 ?_
              refine gw_iload_n S dc_Card_unfitTag_14 rfl 0 rfl ?_
              refine gw_ti (v := .int 40719) S hX.2.1 (by unfold vp_in; decide) rfl dc_Card_unfitTag_15 ?_
              refine gw_callVR (As := [.int 40719]) (st := []) S hK (c_Card_fits l D cA hc ho ky pn tr ct rn sn ac ed md mn mo lo up hr ht hx hl hi z hb n f tg ss ln 40719 (by assumption) (by assumption)) (cw_Card_81 S.2.2.2.2 rfl rfl ⟨Nat.le_of_ble_eq_true rfl, Nat.le_of_ble_eq_true rfl⟩) [0, 1, 2, 3, 4, 5, 6] rfl (by decide) 0 rfl rfl rfl rfl rfl (Nat.le_of_ble_eq_true rfl) dc_Card_unfitTag_16 ⟨Nat.le_of_ble_eq_true rfl, Nat.le_of_ble_eq_true rfl⟩ ?_
              rintro _ rfl
              refine gw_eq (ws' := [(hc, .inr (5, [.ref ho, .int ky, .int pn, .int tr, .int ct, .int rn, .int sn, .int ac, .int ed, .int md, .int mn, .int mo, .int lo, .int up])), (ho, .inr (4, [.ref hr, .ref ht, .ref hx, .ref hl, .ref hi, .int z])), (hr, .inr (0, [.ref hb, .int n])), (hb, .inl (cA 0, 60, .inl f)), (ht, .inl (cA 0, 30, .inl tg)), (hx, .inl (cA 0, 30, .inl ss)), (hl, .inl (cA 0, 30, .inl ln))]) (lv' := [(1, .int 6), (0, .ref hc)]) (st' := [.int (f_Card_fits z n f tg ss ln 40719)]) (pc' := 19) rfl rfl rfl rfl ?_
              refine gw_if_ne (tgt := 28) S dc_Card_unfitTag_19 (by decide) (fun c_21 => ?_) (fun c_21 => ?_)
              · -- taken
                refine gw_iinc (v := 7) (lv' := [(1, .int 7), (0, .ref hc)]) S dc_Card_unfitTag_28 0 rfl (by decide) (by decide) rfl ?_
                refine gw_goto (tgt := 2) S dc_Card_unfitTag_31 (by decide) ?_
                refine gw_iload_n S dc_Card_unfitTag_2 rfl 0 rfl ?_
                refine gw_gets S hX.1 (gw_lk S mw_355) dc_Card_unfitTag_3 ?_
                refine gw_tlen (v := 9) S hX.2.1 (by decide) dc_Card_unfitTag_6 ?_
                refine gw_icmp_ge (tgt := 34) S dc_Card_unfitTag_7 (by decide) (fun c_22 => by exact absurd c_22 (by decide)) (fun c_22 => ?_)
                refine gw_aload_n S dc_Card_unfitTag_10 rfl 1 rfl ?_
                refine gw_gets S hX.1 (gw_lk S mw_355) dc_Card_unfitTag_11 ?_
                refine gw_iload_n S dc_Card_unfitTag_14 rfl 0 rfl ?_
                refine gw_ti (v := .int 40724) S hX.2.1 (by unfold vp_in; decide) rfl dc_Card_unfitTag_15 ?_
                refine gw_callVR (As := [.int 40724]) (st := []) S hK (c_Card_fits l D cA hc ho ky pn tr ct rn sn ac ed md mn mo lo up hr ht hx hl hi z hb n f tg ss ln 40724 (by assumption) (by assumption)) (cw_Card_81 S.2.2.2.2 rfl rfl ⟨Nat.le_of_ble_eq_true rfl, Nat.le_of_ble_eq_true rfl⟩) [0, 1, 2, 3, 4, 5, 6] rfl (by decide) 0 rfl rfl rfl rfl rfl (Nat.le_of_ble_eq_true rfl) dc_Card_unfitTag_16 ⟨Nat.le_of_ble_eq_true rfl, Nat.le_of_ble_eq_true rfl⟩ ?_
                rintro _ rfl
                refine gw_eq (ws' := [(hc, .inr (5, [.ref ho, .int ky, .int pn, .int tr, .int ct, .int rn, .int sn, .int ac, .int ed, .int md, .int mn, .int mo, .int lo, .int up])), (ho, .inr (4, [.ref hr, .ref ht, .ref hx, .ref hl, .ref hi, .int z])), (hr, .inr (0, [.ref hb, .int n])), (hb, .inl (cA 0, 60, .inl f)), (ht, .inl (cA 0, 30, .inl tg)), (hx, .inl (cA 0, 30, .inl ss)), (hl, .inl (cA 0, 30, .inl ln))]) (lv' := [(1, .int 7), (0, .ref hc)]) (st' := [.int (f_Card_fits z n f tg ss ln 40724)]) (pc' := 19) rfl rfl rfl rfl ?_
                refine gw_if_ne (tgt := 28) S dc_Card_unfitTag_19 (by decide) (fun c_24 => ?_) (fun c_24 => ?_)
                · -- taken
                  refine gw_iinc (v := 8) (lv' := [(1, .int 8), (0, .ref hc)]) S dc_Card_unfitTag_28 0 rfl (by decide) (by decide) rfl ?_
                  refine gw_goto (tgt := 2) S dc_Card_unfitTag_31 (by decide) ?_
                  refine gw_iload_n S dc_Card_unfitTag_2 rfl 0 rfl ?_
                  refine gw_gets S hX.1 (gw_lk S mw_355) dc_Card_unfitTag_3 ?_
                  refine gw_tlen (v := 9) S hX.2.1 (by decide) dc_Card_unfitTag_6 ?_
                  refine gw_icmp_ge (tgt := 34) S dc_Card_unfitTag_7 (by decide) (fun c_25 => by exact absurd c_25 (by decide)) (fun c_25 => ?_)
                  refine gw_aload_n S dc_Card_unfitTag_10 rfl 1 rfl ?_
                  refine gw_gets S hX.1 (gw_lk S mw_355) dc_Card_unfitTag_11 ?_
                  refine gw_iload_n S dc_Card_unfitTag_14 rfl 0 rfl ?_
                  refine gw_ti (v := .int 40739) S hX.2.1 (by unfold vp_in; decide) rfl dc_Card_unfitTag_15 ?_
                  refine gw_callVR (As := [.int 40739]) (st := []) S hK (c_Card_fits l D cA hc ho ky pn tr ct rn sn ac ed md mn mo lo up hr ht hx hl hi z hb n f tg ss ln 40739 (by assumption) (by assumption)) (cw_Card_81 S.2.2.2.2 rfl rfl ⟨Nat.le_of_ble_eq_true rfl, Nat.le_of_ble_eq_true rfl⟩) [0, 1, 2, 3, 4, 5, 6] rfl (by decide) 0 rfl rfl rfl rfl rfl (Nat.le_of_ble_eq_true rfl) dc_Card_unfitTag_16 ⟨Nat.le_of_ble_eq_true rfl, Nat.le_of_ble_eq_true rfl⟩ ?_
                  rintro _ rfl
                  refine gw_eq (ws' := [(hc, .inr (5, [.ref ho, .int ky, .int pn, .int tr, .int ct, .int rn, .int sn, .int ac, .int ed, .int md, .int mn, .int mo, .int lo, .int up])), (ho, .inr (4, [.ref hr, .ref ht, .ref hx, .ref hl, .ref hi, .int z])), (hr, .inr (0, [.ref hb, .int n])), (hb, .inl (cA 0, 60, .inl f)), (ht, .inl (cA 0, 30, .inl tg)), (hx, .inl (cA 0, 30, .inl ss)), (hl, .inl (cA 0, 30, .inl ln))]) (lv' := [(1, .int 8), (0, .ref hc)]) (st' := [.int (f_Card_fits z n f tg ss ln 40739)]) (pc' := 19) rfl rfl rfl rfl ?_
                  refine gw_if_ne (tgt := 28) S dc_Card_unfitTag_19 (by decide) (fun c_27 => ?_) (fun c_27 => ?_)
                  · -- taken
                    refine gw_iinc (v := 9) (lv' := [(1, .int 9), (0, .ref hc)]) S dc_Card_unfitTag_28 0 rfl (by decide) (by decide) rfl ?_
                    refine gw_goto (tgt := 2) S dc_Card_unfitTag_31 (by decide) ?_
                    refine gw_iload_n S dc_Card_unfitTag_2 rfl 0 rfl ?_
                    refine gw_gets S hX.1 (gw_lk S mw_355) dc_Card_unfitTag_3 ?_
                    refine gw_tlen (v := 9) S hX.2.1 (by decide) dc_Card_unfitTag_6 ?_
                    refine gw_icmp_ge (tgt := 34) S dc_Card_unfitTag_7 (by decide) (fun c_28 => ?_) (fun c_28 => by exact absurd c_28 (by decide))
                    refine gw_iconst (v := -1) S dc_Card_unfitTag_34 (by decide) ?_
                    exact gw_iret (w := [(hc, .inr (5, [.ref ho, .int ky, .int pn, .int tr, .int ct, .int rn, .int sn, .int ac, .int ed, .int md, .int mn, .int mo, .int lo, .int up])), (ho, .inr (4, [.ref hr, .ref ht, .ref hx, .ref hl, .ref hi, .int z])), (hr, .inr (0, [.ref hb, .int n])), (hb, .inl (cA 0, 60, .inl f)), (ht, .inl (cA 0, 30, .inl tg)), (hx, .inl (cA 0, 30, .inl ss)), (hl, .inl (cA 0, 30, .inl ln))]) S g_r g_k  [0, 1, 2, 3, 4, 5, 6] rfl (by decide) ⟨(by simp only [f_Card_unfitTag, if_neg c_3, if_neg c_6, if_neg c_9, if_neg c_12, if_neg c_15, if_neg c_18, if_neg c_21, if_neg c_24, if_neg c_27]), (by simp only [f_Card_unfitTag, if_neg c_3, if_neg c_6, if_neg c_9, if_neg c_12, if_neg c_15, if_neg c_18, if_neg c_21, if_neg c_24, if_neg c_27])⟩ dc_Card_unfitTag_35
                  · -- not
                    refine gw_gets S hX.1 (gw_lk S mw_355) dc_Card_unfitTag_22 ?_
                    refine gw_iload_n S dc_Card_unfitTag_25 rfl 0 rfl ?_
                    refine gw_ti (v := .int 40739) S hX.2.1 (by unfold vp_in; decide) rfl dc_Card_unfitTag_26 ?_
                    exact gw_iret (w := [(hc, .inr (5, [.ref ho, .int ky, .int pn, .int tr, .int ct, .int rn, .int sn, .int ac, .int ed, .int md, .int mn, .int mo, .int lo, .int up])), (ho, .inr (4, [.ref hr, .ref ht, .ref hx, .ref hl, .ref hi, .int z])), (hr, .inr (0, [.ref hb, .int n])), (hb, .inl (cA 0, 60, .inl f)), (ht, .inl (cA 0, 30, .inl tg)), (hx, .inl (cA 0, 30, .inl ss)), (hl, .inl (cA 0, 30, .inl ln))]) S g_r g_k  [0, 1, 2, 3, 4, 5, 6] rfl (by decide) ⟨(by simp only [f_Card_unfitTag, if_neg c_3, if_neg c_6, if_neg c_9, if_neg c_12, if_neg c_15, if_neg c_18, if_neg c_21, if_neg c_24, if_pos c_27]), (by simp only [f_Card_unfitTag, if_neg c_3, if_neg c_6, if_neg c_9, if_neg c_12, if_neg c_15, if_neg c_18, if_neg c_21, if_neg c_24, if_pos c_27])⟩ dc_Card_unfitTag_27
                · -- not
                  refine gw_gets S hX.1 (gw_lk S mw_355) dc_Card_unfitTag_22 ?_
                  refine gw_iload_n S dc_Card_unfitTag_25 rfl 0 rfl ?_
                  refine gw_ti (v := .int 40724) S hX.2.1 (by unfold vp_in; decide) rfl dc_Card_unfitTag_26 ?_
                  exact gw_iret (w := [(hc, .inr (5, [.ref ho, .int ky, .int pn, .int tr, .int ct, .int rn, .int sn, .int ac, .int ed, .int md, .int mn, .int mo, .int lo, .int up])), (ho, .inr (4, [.ref hr, .ref ht, .ref hx, .ref hl, .ref hi, .int z])), (hr, .inr (0, [.ref hb, .int n])), (hb, .inl (cA 0, 60, .inl f)), (ht, .inl (cA 0, 30, .inl tg)), (hx, .inl (cA 0, 30, .inl ss)), (hl, .inl (cA 0, 30, .inl ln))]) S g_r g_k  [0, 1, 2, 3, 4, 5, 6] rfl (by decide) ⟨(by simp only [f_Card_unfitTag, if_neg c_3, if_neg c_6, if_neg c_9, if_neg c_12, if_neg c_15, if_neg c_18, if_neg c_21, if_pos c_24]), (by simp only [f_Card_unfitTag, if_neg c_3, if_neg c_6, if_neg c_9, if_neg c_12, if_neg c_15, if_neg c_18, if_neg c_21, if_pos c_24])⟩ dc_Card_unfitTag_27
              · -- not
                refine gw_gets S hX.1 (gw_lk S mw_355) dc_Card_unfitTag_22 ?_
                refine gw_iload_n S dc_Card_unfitTag_25 rfl 0 rfl ?_
                refine gw_ti (v := .int 40719) S hX.2.1 (by unfold vp_in; decide) rfl dc_Card_unfitTag_26 ?_
                exact gw_iret (w := [(hc, .inr (5, [.ref ho, .int ky, .int pn, .int tr, .int ct, .int rn, .int sn, .int ac, .int ed, .int md, .int mn, .int mo, .int lo, .int up])), (ho, .inr (4, [.ref hr, .ref ht, .ref hx, .ref hl, .ref hi, .int z])), (hr, .inr (0, [.ref hb, .int n])), (hb, .inl (cA 0, 60, .inl f)), (ht, .inl (cA 0, 30, .inl tg)), (hx, .inl (cA 0, 30, .inl ss)), (hl, .inl (cA 0, 30, .inl ln))]) S g_r g_k  [0, 1, 2, 3, 4, 5, 6] rfl (by decide) ⟨(by simp only [f_Card_unfitTag, if_neg c_3, if_neg c_6, if_neg c_9, if_neg c_12, if_neg c_15, if_neg c_18, if_pos c_21]), (by simp only [f_Card_unfitTag, if_neg c_3, if_neg c_6, if_neg c_9, if_neg c_12, if_neg c_15, if_neg c_18, if_pos c_21])⟩ dc_Card_unfitTag_27
            · -- not
              refine gw_gets S hX.1 (gw_lk S mw_355) dc_Card_unfitTag_22 ?_
              refine gw_iload_n S dc_Card_unfitTag_25 rfl 0 rfl ?_
              refine gw_ti (v := .int 40718) S hX.2.1 (by unfold vp_in; decide) rfl dc_Card_unfitTag_26 ?_
              exact gw_iret (w := [(hc, .inr (5, [.ref ho, .int ky, .int pn, .int tr, .int ct, .int rn, .int sn, .int ac, .int ed, .int md, .int mn, .int mo, .int lo, .int up])), (ho, .inr (4, [.ref hr, .ref ht, .ref hx, .ref hl, .ref hi, .int z])), (hr, .inr (0, [.ref hb, .int n])), (hb, .inl (cA 0, 60, .inl f)), (ht, .inl (cA 0, 30, .inl tg)), (hx, .inl (cA 0, 30, .inl ss)), (hl, .inl (cA 0, 30, .inl ln))]) S g_r g_k  [0, 1, 2, 3, 4, 5, 6] rfl (by decide) ⟨(by simp only [f_Card_unfitTag, if_neg c_3, if_neg c_6, if_neg c_9, if_neg c_12, if_neg c_15, if_pos c_18]), (by simp only [f_Card_unfitTag, if_neg c_3, if_neg c_6, if_neg c_9, if_neg c_12, if_neg c_15, if_pos c_18])⟩ dc_Card_unfitTag_27
          · -- not
            refine gw_gets S hX.1 (gw_lk S mw_355) dc_Card_unfitTag_22 ?_
            refine gw_iload_n S dc_Card_unfitTag_25 rfl 0 rfl ?_
            refine gw_ti (v := .int 40717) S hX.2.1 (by unfold vp_in; decide) rfl dc_Card_unfitTag_26 ?_
            exact gw_iret (w := [(hc, .inr (5, [.ref ho, .int ky, .int pn, .int tr, .int ct, .int rn, .int sn, .int ac, .int ed, .int md, .int mn, .int mo, .int lo, .int up])), (ho, .inr (4, [.ref hr, .ref ht, .ref hx, .ref hl, .ref hi, .int z])), (hr, .inr (0, [.ref hb, .int n])), (hb, .inl (cA 0, 60, .inl f)), (ht, .inl (cA 0, 30, .inl tg)), (hx, .inl (cA 0, 30, .inl ss)), (hl, .inl (cA 0, 30, .inl ln))]) S g_r g_k  [0, 1, 2, 3, 4, 5, 6] rfl (by decide) ⟨(by simp only [f_Card_unfitTag, if_neg c_3, if_neg c_6, if_neg c_9, if_neg c_12, if_pos c_15]), (by simp only [f_Card_unfitTag, if_neg c_3, if_neg c_6, if_neg c_9, if_neg c_12, if_pos c_15])⟩ dc_Card_unfitTag_27
        · -- not
          refine gw_gets S hX.1 (gw_lk S mw_355) dc_Card_unfitTag_22 ?_
          refine gw_iload_n S dc_Card_unfitTag_25 rfl 0 rfl ?_
          refine gw_ti (v := .int 24356) S hX.2.1 (by unfold vp_in; decide) rfl dc_Card_unfitTag_26 ?_
          exact gw_iret (w := [(hc, .inr (5, [.ref ho, .int ky, .int pn, .int tr, .int ct, .int rn, .int sn, .int ac, .int ed, .int md, .int mn, .int mo, .int lo, .int up])), (ho, .inr (4, [.ref hr, .ref ht, .ref hx, .ref hl, .ref hi, .int z])), (hr, .inr (0, [.ref hb, .int n])), (hb, .inl (cA 0, 60, .inl f)), (ht, .inl (cA 0, 30, .inl tg)), (hx, .inl (cA 0, 30, .inl ss)), (hl, .inl (cA 0, 30, .inl ln))]) S g_r g_k  [0, 1, 2, 3, 4, 5, 6] rfl (by decide) ⟨(by simp only [f_Card_unfitTag, if_neg c_3, if_neg c_6, if_neg c_9, if_pos c_12]), (by simp only [f_Card_unfitTag, if_neg c_3, if_neg c_6, if_neg c_9, if_pos c_12])⟩ dc_Card_unfitTag_27
      · -- not
        refine gw_gets S hX.1 (gw_lk S mw_355) dc_Card_unfitTag_22 ?_
        refine gw_iload_n S dc_Card_unfitTag_25 rfl 0 rfl ?_
        refine gw_ti (v := .int 142) S hX.2.1 (by unfold vp_in; decide) rfl dc_Card_unfitTag_26 ?_
        exact gw_iret (w := [(hc, .inr (5, [.ref ho, .int ky, .int pn, .int tr, .int ct, .int rn, .int sn, .int ac, .int ed, .int md, .int mn, .int mo, .int lo, .int up])), (ho, .inr (4, [.ref hr, .ref ht, .ref hx, .ref hl, .ref hi, .int z])), (hr, .inr (0, [.ref hb, .int n])), (hb, .inl (cA 0, 60, .inl f)), (ht, .inl (cA 0, 30, .inl tg)), (hx, .inl (cA 0, 30, .inl ss)), (hl, .inl (cA 0, 30, .inl ln))]) S g_r g_k  [0, 1, 2, 3, 4, 5, 6] rfl (by decide) ⟨(by simp only [f_Card_unfitTag, if_neg c_3, if_neg c_6, if_pos c_9]), (by simp only [f_Card_unfitTag, if_neg c_3, if_neg c_6, if_pos c_9])⟩ dc_Card_unfitTag_27
    · -- not
      refine gw_gets S hX.1 (gw_lk S mw_355) dc_Card_unfitTag_22 ?_
      refine gw_iload_n S dc_Card_unfitTag_25 rfl 0 rfl ?_
      refine gw_ti (v := .int 140) S hX.2.1 (by unfold vp_in; decide) rfl dc_Card_unfitTag_26 ?_
      exact gw_iret (w := [(hc, .inr (5, [.ref ho, .int ky, .int pn, .int tr, .int ct, .int rn, .int sn, .int ac, .int ed, .int md, .int mn, .int mo, .int lo, .int up])), (ho, .inr (4, [.ref hr, .ref ht, .ref hx, .ref hl, .ref hi, .int z])), (hr, .inr (0, [.ref hb, .int n])), (hb, .inl (cA 0, 60, .inl f)), (ht, .inl (cA 0, 30, .inl tg)), (hx, .inl (cA 0, 30, .inl ss)), (hl, .inl (cA 0, 30, .inl ln))]) S g_r g_k  [0, 1, 2, 3, 4, 5, 6] rfl (by decide) ⟨(by simp only [f_Card_unfitTag, if_neg c_3, if_pos c_6]), (by simp only [f_Card_unfitTag, if_neg c_3, if_pos c_6])⟩ dc_Card_unfitTag_27
  · -- not
    refine gw_gets S hX.1 (gw_lk S mw_355) dc_Card_unfitTag_22 ?_
    refine gw_iload_n S dc_Card_unfitTag_25 rfl 0 rfl ?_
    refine gw_ti (v := .int 90) S hX.2.1 (by unfold vp_in; decide) rfl dc_Card_unfitTag_26 ?_
    exact gw_iret (w := [(hc, .inr (5, [.ref ho, .int ky, .int pn, .int tr, .int ct, .int rn, .int sn, .int ac, .int ed, .int md, .int mn, .int mo, .int lo, .int up])), (ho, .inr (4, [.ref hr, .ref ht, .ref hx, .ref hl, .ref hi, .int z])), (hr, .inr (0, [.ref hb, .int n])), (hb, .inl (cA 0, 60, .inl f)), (ht, .inl (cA 0, 30, .inl tg)), (hx, .inl (cA 0, 30, .inl ss)), (hl, .inl (cA 0, 30, .inl ln))]) S g_r g_k  [0, 1, 2, 3, 4, 5, 6] rfl (by decide) ⟨(by simp only [f_Card_unfitTag, if_pos c_3]), (by simp only [f_Card_unfitTag, if_pos c_3])⟩ dc_Card_unfitTag_27
theorem uf_eq (z n : Int32) (f tg ss ln : Nat → Int32) : f_Card_unfitTag z n f tg ss ln = uf_v z n f tg ss ln uf_L := rfl
theorem c_Tree_readD (l : Launch) (D : va_G) (cA : Nat → ClassId) (sz : Nat) (h : Nat) (hr : Nat) (ht : Nat) (hs : Nat) (hl : Nat) (hi : Nat) (z : Int32) (hb : Nat) (n : Int32) (f : Nat → Int32) (tg : Nat → Int32) (ss : Nat → Int32) (ln : Nat → Int32) (nn : Nat → Int32) (h2 : Nat) (hb2 : Nat) (n2 : Int32) (g : Nat → Int32) (r9 : Int32) (tg2 : Nat → Int32) (ss2 : Nat → Int32) (ln2 : Nat → Int32) (nn2 : Nat → Int32) (z2 : Int32) (hN : rw_ok n2 60) (hF : ct_F n2 (cp_f f g (Int32.toNatClampNeg n2)) 4 0 n2 (-1) (tg, ss, ln, nn, 0) = (r9, (tg2, ss2, ln2, nn2, z2))) : ct_M l D cA yn_Tree_read cd_Tree_read 8 0 0 sz [.ref h, .ref h2] [(h, .inr (4, [.ref hr, .ref ht, .ref hs, .ref hl, .ref hi, .int z])), (hr, .inr (0, [.ref hb, .int n])), (hb, .inl (cA 0, 60, .inl f)), (ht, .inl (cA 0, 30, .inl tg)), (hs, .inl (cA 0, 30, .inl ss)), (hl, .inl (cA 0, 30, .inl ln)), (hi, .inl (cA 0, 30, .inl nn)), (h2, .inr (0, [.ref hb2, .int n2])), (hb2, .inl (cA 0, 60, .inl g))] (fun v_ w_ => v_ = some (.int r9) ∧ w_ = [(h, .inr (4, [.ref hr, .ref ht, .ref hs, .ref hl, .ref hi, .int z2])), (hr, .inr (0, [.ref hb, .int n2])), (hb, .inl (cA 0, 60, .inl (cp_f f g (Int32.toNatClampNeg n2)))), (ht, .inl (cA 0, 30, .inl tg2)), (hs, .inl (cA 0, 30, .inl ss2)), (hl, .inl (cA 0, 30, .inl ln2)), (hi, .inl (cA 0, 30, .inl nn2)), (h2, .inr (0, [.ref hb2, .int n2])), (hb2, .inl (cA 0, 60, .inl g))]) := by
  refine gw_cons (c_Tree_read l D cA sz h hr ht hs hl hi z hb n f tg ss ln nn h2 hb2 n2 g hN) ?_
  rintro v w ⟨F9, hF9, rfl, rfl⟩
  rw [hF] at hF9
  subst hF9
  exact ⟨rfl, rfl⟩
set_option maxRecDepth 100000 in
set_option maxHeartbeats 4000000 in
theorem c_PC_cardThere_n (l : Launch) (D : va_G) (cA : Nat → ClassId) (pc : Nat) (tx : Nat) (ca : Nat) (te : Nat) (hh : Nat) (hp : Nat) (qu : Nat) (sp : Nat) (pl : Int32) (ap : Int32) (x : Int32) (hx : f_PC_isWithin x 0 3 = 0) : ct_R l D cA yn_PC_cardThere cd_PC_cardThere 2 [.ref pc, .int x] [(pc, .inr (7, [.ref tx, .ref ca, .ref te, .ref hh, .ref hp, .ref qu, .ref sp, .int pl, .int ap]))] (fun v_ => v_ = some (.null)) := by
  refine gw_metR (by decide) rfl (Nat.le_of_ble_eq_true rfl) ?_
  intro p_ e_ s_ m_ args_ below_ meth_ c_ S g_r g_k hK
  refine gw_eq (ws' := [(pc, .inr (7, [.ref tx, .ref ca, .ref te, .ref hh, .ref hp, .ref qu, .ref sp, .int pl, .int ap]))]) (lv' := [(0, .ref pc), (1, .int x)]) (st' := []) (pc' := 0) rfl rfl rfl rfl ?_
  refine gw_iload_n S dc_PC_cardThere_0 rfl 1 rfl ?_
  refine gw_iconst (v := 0) S dc_PC_cardThere_1 (by decide) ?_
  refine gw_iconst (v := 3) S dc_PC_cardThere_2 (by decide) ?_
  refine gw_callSR (As := [.int x, .int 0, .int 3]) (st := []) S hK (c_PC_isWithin l D cA x 0 3 ) (cw_PC_61 S.2.2.2.2 rfl rfl ⟨Nat.le_of_ble_eq_true rfl, Nat.le_of_ble_eq_true rfl⟩) [] rfl (by decide) rfl rfl (Nat.le_of_ble_eq_true rfl) dc_PC_cardThere_3 ⟨Nat.le_of_ble_eq_true rfl, Nat.le_of_ble_eq_true rfl⟩ ?_
  rintro _ rfl
  refine gw_eq (ws' := [(pc, .inr (7, [.ref tx, .ref ca, .ref te, .ref hh, .ref hp, .ref qu, .ref sp, .int pl, .int ap]))]) (lv' := [(0, .ref pc), (1, .int x)]) (st' := [.int (f_PC_isWithin x 0 3)]) (pc' := 6) rfl rfl rfl rfl ?_
  refine gw_if_eq (tgt := 18) S dc_PC_cardThere_6 (by decide) (fun c_2 => ?_) (fun c_2 => ?_)
  · -- taken
    refine gw_null S dc_PC_cardThere_18 ?_
    exact gw_aretR S g_r g_k (Or.inl ⟨_, rfl⟩) (Or.inl rfl) (by simp only [if_pos c_2]) dc_PC_cardThere_19
  · -- not
    exact absurd hx c_2
set_option maxRecDepth 100000 in
set_option maxHeartbeats 4000000 in
theorem c_PC_cardThere_z (l : Launch) (D : va_G) (cA : Nat → ClassId) (pc : Nat) (tx : Nat) (ca : Nat) (te : Nat) (hh : Nat) (hp : Nat) (qu : Nat) (sp : Nat) (pl : Int32) (ap : Int32) (cf : Nat → Option Nat) (ar : Nat) (har : ar ≤ 3) (hcf : cf ar = none) : ct_R l D cA yn_PC_cardThere cd_PC_cardThere 2 [.ref pc, .int (nI ar)] [(pc, .inr (7, [.ref tx, .ref ca, .ref te, .ref hh, .ref hp, .ref qu, .ref sp, .int pl, .int ap])), (ca, .inl (cA 3, 4, .inr (.inr (.inr (.inr cf)))))] (fun v_ => v_ = some (.null)) := by
  refine gw_metR (by decide) rfl (Nat.le_of_ble_eq_true rfl) ?_
  intro p_ e_ s_ m_ args_ below_ meth_ c_ S g_r g_k hK
  refine gw_eq (ws' := [(pc, .inr (7, [.ref tx, .ref ca, .ref te, .ref hh, .ref hp, .ref qu, .ref sp, .int pl, .int ap])), (ca, .inl (cA 3, 4, .inr (.inr (.inr (.inr cf)))))]) (lv' := [(0, .ref pc), (1, .int (nI ar))]) (st' := []) (pc' := 0) rfl rfl rfl rfl ?_
  refine gw_iload_n S dc_PC_cardThere_0 rfl 1 rfl ?_
  refine gw_iconst (v := 0) S dc_PC_cardThere_1 (by decide) ?_
  refine gw_iconst (v := 3) S dc_PC_cardThere_2 (by decide) ?_
  refine gw_callSR (As := [.int (nI ar), .int 0, .int 3]) (st := []) S hK (c_PC_isWithin l D cA (nI ar) 0 3 ) (cw_PC_61 S.2.2.2.2 rfl rfl ⟨Nat.le_of_ble_eq_true rfl, Nat.le_of_ble_eq_true rfl⟩) [] rfl (by decide) rfl rfl (Nat.le_of_ble_eq_true rfl) dc_PC_cardThere_3 ⟨Nat.le_of_ble_eq_true rfl, Nat.le_of_ble_eq_true rfl⟩ ?_
  rintro _ rfl
  refine gw_eq (ws' := [(pc, .inr (7, [.ref tx, .ref ca, .ref te, .ref hh, .ref hp, .ref qu, .ref sp, .int pl, .int ap])), (ca, .inl (cA 3, 4, .inr (.inr (.inr (.inr cf)))))]) (lv' := [(0, .ref pc), (1, .int (nI ar))]) (st' := [.int (f_PC_isWithin (nI ar) 0 3)]) (pc' := 6) rfl rfl rfl rfl ?_
  refine gw_if_eq (tgt := 18) S dc_PC_cardThere_6 (by decide) (fun c_2 => ?_) (fun c_2 => ?_)
  · -- taken
    exact absurd c_2 (in_ok (b := 3) (Nat.le_trans har (by decide)) (by decide))
  · -- not
    refine gw_aload_n S dc_PC_cardThere_9 rfl 0 rfl ?_
    refine gw_get S hK.1 ic_PC rfl 1 (by decide) (gw_lk S mw_246) 0 rfl rfl dc_PC_cardThere_10 ?_
    refine gw_iload_n S dc_PC_cardThere_13 rfl 1 rfl ?_
    refine gw_aald S hK.1 1 3 rfl rfl (nI_in (by omega) (by decide)) dc_PC_cardThere_14 ?_
    refine gw_eq (ws' := [(pc, .inr (7, [.ref tx, .ref ca, .ref te, .ref hh, .ref hp, .ref qu, .ref sp, .int pl, .int ap])), (ca, .inl (cA 3, 4, .inr (.inr (.inr (.inr cf)))))]) (lv' := [(0, .ref pc), (1, .int (nI ar))]) (st' := [.null]) (pc' := 15) rfl rfl (by rw [nI_clamp (by omega), hcf] <;> rfl) rfl ?_
    refine gw_goto (tgt := 19) S dc_PC_cardThere_15 (by decide) ?_
    exact gw_aretR S g_r g_k (Or.inl ⟨_, rfl⟩) (Or.inl rfl) (by simp only [if_neg c_2]) dc_PC_cardThere_19
set_option maxRecDepth 100000 in
set_option maxHeartbeats 4000000 in
theorem c_PC_cardThere_y (l : Launch) (D : va_G) (cA : Nat → ClassId) (pc : Nat) (tx : Nat) (ca : Nat) (te : Nat) (hh : Nat) (hp : Nat) (qu : Nat) (sp : Nat) (pl : Int32) (ap : Int32) (cf : Nat → Option Nat) (ar : Nat) (hc : Nat) (har : ar ≤ 3) (hcf : cf ar = some hc) : ct_R l D cA yn_PC_cardThere cd_PC_cardThere 2 [.ref pc, .int (nI ar)] [(pc, .inr (7, [.ref tx, .ref ca, .ref te, .ref hh, .ref hp, .ref qu, .ref sp, .int pl, .int ap])), (ca, .inl (cA 3, 4, .inr (.inr (.inr (.inr cf)))))] (fun v_ => v_ = some (.ref hc)) := by
  refine gw_metR (by decide) rfl (Nat.le_of_ble_eq_true rfl) ?_
  intro p_ e_ s_ m_ args_ below_ meth_ c_ S g_r g_k hK
  refine gw_eq (ws' := [(pc, .inr (7, [.ref tx, .ref ca, .ref te, .ref hh, .ref hp, .ref qu, .ref sp, .int pl, .int ap])), (ca, .inl (cA 3, 4, .inr (.inr (.inr (.inr cf)))))]) (lv' := [(0, .ref pc), (1, .int (nI ar))]) (st' := []) (pc' := 0) rfl rfl rfl rfl ?_
  refine gw_iload_n S dc_PC_cardThere_0 rfl 1 rfl ?_
  refine gw_iconst (v := 0) S dc_PC_cardThere_1 (by decide) ?_
  refine gw_iconst (v := 3) S dc_PC_cardThere_2 (by decide) ?_
  refine gw_callSR (As := [.int (nI ar), .int 0, .int 3]) (st := []) S hK (c_PC_isWithin l D cA (nI ar) 0 3 ) (cw_PC_61 S.2.2.2.2 rfl rfl ⟨Nat.le_of_ble_eq_true rfl, Nat.le_of_ble_eq_true rfl⟩) [] rfl (by decide) rfl rfl (Nat.le_of_ble_eq_true rfl) dc_PC_cardThere_3 ⟨Nat.le_of_ble_eq_true rfl, Nat.le_of_ble_eq_true rfl⟩ ?_
  rintro _ rfl
  refine gw_eq (ws' := [(pc, .inr (7, [.ref tx, .ref ca, .ref te, .ref hh, .ref hp, .ref qu, .ref sp, .int pl, .int ap])), (ca, .inl (cA 3, 4, .inr (.inr (.inr (.inr cf)))))]) (lv' := [(0, .ref pc), (1, .int (nI ar))]) (st' := [.int (f_PC_isWithin (nI ar) 0 3)]) (pc' := 6) rfl rfl rfl rfl ?_
  refine gw_if_eq (tgt := 18) S dc_PC_cardThere_6 (by decide) (fun c_2 => ?_) (fun c_2 => ?_)
  · -- taken
    exact absurd c_2 (in_ok (b := 3) (Nat.le_trans har (by decide)) (by decide))
  · -- not
    refine gw_aload_n S dc_PC_cardThere_9 rfl 0 rfl ?_
    refine gw_get S hK.1 ic_PC rfl 1 (by decide) (gw_lk S mw_246) 0 rfl rfl dc_PC_cardThere_10 ?_
    refine gw_iload_n S dc_PC_cardThere_13 rfl 1 rfl ?_
    refine gw_aald S hK.1 1 3 rfl rfl (nI_in (by omega) (by decide)) dc_PC_cardThere_14 ?_
    refine gw_eq (ws' := [(pc, .inr (7, [.ref tx, .ref ca, .ref te, .ref hh, .ref hp, .ref qu, .ref sp, .int pl, .int ap])), (ca, .inl (cA 3, 4, .inr (.inr (.inr (.inr cf)))))]) (lv' := [(0, .ref pc), (1, .int (nI ar))]) (st' := [.ref hc]) (pc' := 15) rfl rfl (by rw [nI_clamp (by omega), hcf] <;> rfl) rfl ?_
    refine gw_goto (tgt := 19) S dc_PC_cardThere_15 (by decide) ?_
    exact gw_aretR S g_r g_k (Or.inl ⟨_, rfl⟩) (Or.inr ⟨_, rfl⟩) (by simp only [if_neg c_2]) dc_PC_cardThere_19
set_option maxRecDepth 100000 in
set_option maxHeartbeats 4000000 in
theorem c_PC_putSpare_z (l : Launch) (D : va_G) (cA : Nat → ClassId) (sz : Nat) (pc : Nat) (tx : Nat) (ca : Nat) (te : Nat) (hh : Nat) (hp : Nat) (qu : Nat) (sp : Nat) (pl : Int32) (ap : Int32) (so : Nat) (ky : Int32) (pn : Int32) (tr : Int32) (ct : Int32) (rn : Int32) (sn : Int32) (ac : Int32) (ed : Int32) (md : Int32) (mn : Int32) (mo : Int32) (lo : Int32) (up : Int32) (cf : Nat → Option Nat) (ar : Nat) (har : ar ≤ 3) (hcf : cf ar = none) : ct_M l D cA yn_PC_putSpare cd_PC_putSpare 5 8 202 sz [.ref pc, .int (nI ar)] [(pc, .inr (7, [.ref tx, .ref ca, .ref te, .ref hh, .ref hp, .ref qu, .ref sp, .int pl, .int ap])), (ca, .inl (cA 3, 4, .inr (.inr (.inr (.inr cf))))), (sp, .inr (5, [.ref so, .int ky, .int pn, .int tr, .int ct, .int rn, .int sn, .int ac, .int ed, .int md, .int mn, .int mo, .int lo, .int up]))] (fun v_ w_ => ∃ (qk : Nat), ∃ (qo : Nat), ∃ (qr : Nat), ∃ (qb : Nat), ∃ (qt : Nat), ∃ (qs : Nat), ∃ (ql : Nat), ∃ (qi : Nat), v_ = none ∧ w_ = [(pc, .inr (7, [.ref tx, .ref ca, .ref te, .ref hh, .ref hp, .ref qu, .ref qk, .int pl, .int ap])), (ca, .inl (cA 3, 4, .inr (.inr (.inr (.inr (va_up cf ar (some sp))))))), (sp, .inr (5, [.ref so, .int ky, .int pn, .int tr, .int ct, .int rn, .int sn, .int ac, .int ed, .int md, .int mn, .int mo, .int lo, .int up])), (qk, .inr (5, [.ref qo, .int 0, .int 0, .int 0, .int 0, .int 0, .int 0, .int 0, .int 0, .int 0, .int 0, .int 0, .int 0, .int 0])), (qo, .inr (4, [.ref qr, .ref qt, .ref qs, .ref ql, .ref qi, .int 0])), (qr, .inr (0, [.ref qb, .int 0])), (qb, .inl (cA 0, 60, .inl (fun _ => 0))), (qt, .inl (cA 0, 30, .inl (fun _ => 0))), (qs, .inl (cA 0, 30, .inl (fun _ => 0))), (ql, .inl (cA 0, 30, .inl (fun _ => 0))), (qi, .inl (cA 0, 30, .inl (fun _ => 0)))]) := by
  refine gw_met (by decide) rfl (Nat.le_of_ble_eq_true rfl) ?_
  intro p_ e_ s_ m_ args_ below_ meth_ c_ A_ S g_r g_k g_n hK hA
  refine gw_eq (ws' := [(pc, .inr (7, [.ref tx, .ref ca, .ref te, .ref hh, .ref hp, .ref qu, .ref sp, .int pl, .int ap])), (ca, .inl (cA 3, 4, .inr (.inr (.inr (.inr cf))))), (sp, .inr (5, [.ref so, .int ky, .int pn, .int tr, .int ct, .int rn, .int sn, .int ac, .int ed, .int md, .int mn, .int mo, .int lo, .int up]))]) (lv' := [(0, .ref pc), (1, .int (nI ar))]) (st' := []) (pc' := 0) rfl rfl rfl rfl ?_
  refine gw_aload_n S dc_PC_putSpare_0 rfl 0 rfl ?_
  refine gw_get S hK.1 ic_PC rfl 1 (by decide) (gw_lk S mw_246) 0 rfl rfl dc_PC_putSpare_1 ?_
  refine gw_iload_n S dc_PC_putSpare_4 rfl 1 rfl ?_
  refine gw_aald S hK.1 1 3 rfl rfl (nI_in (by omega) (by decide)) dc_PC_putSpare_5 ?_
  refine gw_eq (ws' := [(pc, .inr (7, [.ref tx, .ref ca, .ref te, .ref hh, .ref hp, .ref qu, .ref sp, .int pl, .int ap])), (ca, .inl (cA 3, 4, .inr (.inr (.inr (.inr cf))))), (sp, .inr (5, [.ref so, .int ky, .int pn, .int tr, .int ct, .int rn, .int sn, .int ac, .int ed, .int md, .int mn, .int mo, .int lo, .int up]))]) (lv' := [(0, .ref pc), (1, .int (nI ar))]) (st' := [.null]) (pc' := 6) rfl rfl (by rw [nI_clamp (by omega), hcf] <;> rfl) rfl ?_
  refine gw_astore_nN (lv' := [(2, .null), (0, .ref pc), (1, .int (nI ar))]) S dc_PC_putSpare_6 rfl (by decide) rfl ?_
  refine gw_aload_n S dc_PC_putSpare_7 rfl 1 rfl ?_
  refine gw_get S hK.1 ic_PC rfl 1 (by decide) (gw_lk S mw_246) 0 rfl rfl dc_PC_putSpare_8 ?_
  refine gw_iload_n S dc_PC_putSpare_11 rfl 2 rfl ?_
  refine gw_aload_n S dc_PC_putSpare_12 rfl 1 rfl ?_
  refine gw_get S hK.1 ic_PC rfl 6 (by decide) (gw_lk S mw_251) 0 rfl rfl dc_PC_putSpare_13 ?_
  refine gw_astq (ws' := [(pc, .inr (7, [.ref tx, .ref ca, .ref te, .ref hh, .ref hp, .ref qu, .ref sp, .int pl, .int ap])), (ca, .inl (cA 3, 4, .inr (.inr (.inr (.inr (va_up cf ar (some sp))))))), (sp, .inr (5, [.ref so, .int ky, .int pn, .int tr, .int ct, .int rn, .int sn, .int ac, .int ed, .int md, .int mn, .int mo, .int lo, .int up]))]) (r := (rn_Card, tb_Card, 14)) S hK.1 1 3 2 5 rfl rfl rfl rfl (nI_in (by omega) (by decide)) (by rw [nI_clamp (by omega)] <;> rfl) dc_PC_putSpare_16 ?_
  refine gw_aload_n S dc_PC_putSpare_17 rfl 1 rfl ?_
  refine gw_aload_nN S dc_PC_putSpare_18 rfl 0 rfl ?_
  refine gw_ifnonnullN S dc_PC_putSpare_19 ?_
  refine gw_new (C := rn_Card) (T := tb_Card) (N := 14) (ci := 5) (fs := [.null, .int 0, .int 0, .int 0, .int 0, .int 0, .int 0, .int 0, .int 0, .int 0, .int 0, .int 0, .int 0, .int 0]) S hK.1 hA ic_Card ty_Card to_Card (gw_lk S mw_43) (gw_lk S mw_156) (gw_lk S mw_9) rfl df_Card (Nat.le_of_ble_eq_true rfl) (Nat.le_of_ble_eq_true rfl) dc_PC_putSpare_22 (fun q_1 => ?_)
  refine gw_eq (ws' := [(pc, .inr (7, [.ref tx, .ref ca, .ref te, .ref hh, .ref hp, .ref qu, .ref sp, .int pl, .int ap])), (ca, .inl (cA 3, 4, .inr (.inr (.inr (.inr (va_up cf ar (some sp))))))), (sp, .inr (5, [.ref so, .int ky, .int pn, .int tr, .int ct, .int rn, .int sn, .int ac, .int ed, .int md, .int mn, .int mo, .int lo, .int up])), (q_1, .inr (5, [.null, .int 0, .int 0, .int 0, .int 0, .int 0, .int 0, .int 0, .int 0, .int 0, .int 0, .int 0, .int 0, .int 0]))]) (lv' := [(2, .null), (0, .ref pc), (1, .int (nI ar))]) (st' := [.ref q_1, .ref pc]) (pc' := 25) rfl rfl rfl rfl ?_
  refine gw_dup S dc_PC_putSpare_25 rfl ?_
  refine gw_callIN (ret := none) (As := []) (st := [.ref q_1, .ref pc]) (wr := [(pc, .inr (7, [.ref tx, .ref ca, .ref te, .ref hh, .ref hp, .ref qu, .ref sp, .int pl, .int ap])), (ca, .inl (cA 3, 4, .inr (.inr (.inr (.inr (va_up cf ar (some sp))))))), (sp, .inr (5, [.ref so, .int ky, .int pn, .int tr, .int ct, .int rn, .int sn, .int ac, .int ed, .int md, .int mn, .int mo, .int lo, .int up]))]) S hK hA (fun sz => c_Card_init l D cA sz q_1 ) (cw_PC_52 S.2.2.2.2 rfl rfl ⟨Nat.le_of_ble_eq_true rfl, Nat.le_of_ble_eq_true rfl⟩ (hK.2 _ mn_157).2) [3] [0, 1, 2] rfl (by decide) rfl (by decide) (by decide) rfl rfl (Nat.le_of_ble_eq_true rfl) dc_PC_putSpare_26 ⟨Nat.le_of_ble_eq_true rfl, Nat.le_of_ble_eq_true rfl⟩ ?_
  rintro _ _ ⟨qo_2, qr_3, qb_4, qt_5, qs_6, ql_7, qi_8, rfl, rfl⟩
  refine gw_eq (ws' := [(pc, .inr (7, [.ref tx, .ref ca, .ref te, .ref hh, .ref hp, .ref qu, .ref sp, .int pl, .int ap])), (ca, .inl (cA 3, 4, .inr (.inr (.inr (.inr (va_up cf ar (some sp))))))), (sp, .inr (5, [.ref so, .int ky, .int pn, .int tr, .int ct, .int rn, .int sn, .int ac, .int ed, .int md, .int mn, .int mo, .int lo, .int up])), (q_1, .inr (5, [.ref qo_2, .int 0, .int 0, .int 0, .int 0, .int 0, .int 0, .int 0, .int 0, .int 0, .int 0, .int 0, .int 0, .int 0])), (qo_2, .inr (4, [.ref qr_3, .ref qt_5, .ref qs_6, .ref ql_7, .ref qi_8, .int 0])), (qr_3, .inr (0, [.ref qb_4, .int 0])), (qb_4, .inl (cA 0, 60, .inl (fun _ => 0))), (qt_5, .inl (cA 0, 30, .inl (fun _ => 0))), (qs_6, .inl (cA 0, 30, .inl (fun _ => 0))), (ql_7, .inl (cA 0, 30, .inl (fun _ => 0))), (qi_8, .inl (cA 0, 30, .inl (fun _ => 0)))]) (lv' := [(2, .null), (0, .ref pc), (1, .int (nI ar))]) (st' := [.ref q_1, .ref pc]) (pc' := 29) rfl rfl rfl rfl ?_
  refine gw_goto (tgt := 33) S dc_PC_putSpare_29 (by decide) ?_
  refine gw_put (ws' := [(pc, .inr (7, [.ref tx, .ref ca, .ref te, .ref hh, .ref hp, .ref qu, .ref q_1, .int pl, .int ap])), (ca, .inl (cA 3, 4, .inr (.inr (.inr (.inr (va_up cf ar (some sp))))))), (sp, .inr (5, [.ref so, .int ky, .int pn, .int tr, .int ct, .int rn, .int sn, .int ac, .int ed, .int md, .int mn, .int mo, .int lo, .int up])), (q_1, .inr (5, [.ref qo_2, .int 0, .int 0, .int 0, .int 0, .int 0, .int 0, .int 0, .int 0, .int 0, .int 0, .int 0, .int 0, .int 0])), (qo_2, .inr (4, [.ref qr_3, .ref qt_5, .ref qs_6, .ref ql_7, .ref qi_8, .int 0])), (qr_3, .inr (0, [.ref qb_4, .int 0])), (qb_4, .inl (cA 0, 60, .inl (fun _ => 0))), (qt_5, .inl (cA 0, 30, .inl (fun _ => 0))), (qs_6, .inl (cA 0, 30, .inl (fun _ => 0))), (ql_7, .inl (cA 0, 30, .inl (fun _ => 0))), (qi_8, .inl (cA 0, 30, .inl (fun _ => 0)))]) (ty := .object "PayChain$Card") S hK.1 ic_PC rfl 6 (by decide) ty_PC to_PC nm_PC (gw_lk S mw_251) 0 rfl rfl (by decide +kernel) rfl rfl (Nat.le_of_ble_eq_true rfl) rfl dc_PC_putSpare_33 ?_
  exact gw_vret (w := [(pc, .inr (7, [.ref tx, .ref ca, .ref te, .ref hh, .ref hp, .ref qu, .ref q_1, .int pl, .int ap])), (ca, .inl (cA 3, 4, .inr (.inr (.inr (.inr (va_up cf ar (some sp))))))), (sp, .inr (5, [.ref so, .int ky, .int pn, .int tr, .int ct, .int rn, .int sn, .int ac, .int ed, .int md, .int mn, .int mo, .int lo, .int up])), (q_1, .inr (5, [.ref qo_2, .int 0, .int 0, .int 0, .int 0, .int 0, .int 0, .int 0, .int 0, .int 0, .int 0, .int 0, .int 0, .int 0])), (qo_2, .inr (4, [.ref qr_3, .ref qt_5, .ref qs_6, .ref ql_7, .ref qi_8, .int 0])), (qr_3, .inr (0, [.ref qb_4, .int 0])), (qb_4, .inl (cA 0, 60, .inl (fun _ => 0))), (qt_5, .inl (cA 0, 30, .inl (fun _ => 0))), (qs_6, .inl (cA 0, 30, .inl (fun _ => 0))), (ql_7, .inl (cA 0, 30, .inl (fun _ => 0))), (qi_8, .inl (cA 0, 30, .inl (fun _ => 0)))]) S g_r g_k  [0, 1, 2, 3, 4, 5, 6, 7, 8, 9, 10] rfl (by decide) ⟨q_1, qo_2, qr_3, qb_4, qt_5, qs_6, ql_7, qi_8, rfl, rfl⟩ dc_PC_putSpare_36
set_option maxRecDepth 100000 in
set_option maxHeartbeats 4000000 in
theorem c_PC_putSpare_y (l : Launch) (D : va_G) (cA : Nat → ClassId) (sz : Nat) (pc : Nat) (tx : Nat) (ca : Nat) (te : Nat) (hh : Nat) (hp : Nat) (qu : Nat) (sp : Nat) (pl : Int32) (ap : Int32) (so : Nat) (ky : Int32) (pn : Int32) (tr : Int32) (ct : Int32) (rn : Int32) (sn : Int32) (ac : Int32) (ed : Int32) (md : Int32) (mn : Int32) (mo : Int32) (lo : Int32) (up : Int32) (cf : Nat → Option Nat) (ar : Nat) (hc : Nat) (har : ar ≤ 3) (hcf : cf ar = some hc) : ct_M l D cA yn_PC_putSpare cd_PC_putSpare 2 0 0 sz [.ref pc, .int (nI ar)] [(pc, .inr (7, [.ref tx, .ref ca, .ref te, .ref hh, .ref hp, .ref qu, .ref sp, .int pl, .int ap])), (ca, .inl (cA 3, 4, .inr (.inr (.inr (.inr cf))))), (sp, .inr (5, [.ref so, .int ky, .int pn, .int tr, .int ct, .int rn, .int sn, .int ac, .int ed, .int md, .int mn, .int mo, .int lo, .int up]))] (fun v_ w_ => v_ = none ∧ w_ = [(pc, .inr (7, [.ref tx, .ref ca, .ref te, .ref hh, .ref hp, .ref qu, .ref hc, .int pl, .int ap])), (ca, .inl (cA 3, 4, .inr (.inr (.inr (.inr (va_up cf ar (some sp))))))), (sp, .inr (5, [.ref so, .int ky, .int pn, .int tr, .int ct, .int rn, .int sn, .int ac, .int ed, .int md, .int mn, .int mo, .int lo, .int up]))]) := by
  refine gw_met (by decide) rfl (Nat.le_of_ble_eq_true rfl) ?_
  intro p_ e_ s_ m_ args_ below_ meth_ c_ A_ S g_r g_k g_n hK hA
  refine gw_eq (ws' := [(pc, .inr (7, [.ref tx, .ref ca, .ref te, .ref hh, .ref hp, .ref qu, .ref sp, .int pl, .int ap])), (ca, .inl (cA 3, 4, .inr (.inr (.inr (.inr cf))))), (sp, .inr (5, [.ref so, .int ky, .int pn, .int tr, .int ct, .int rn, .int sn, .int ac, .int ed, .int md, .int mn, .int mo, .int lo, .int up]))]) (lv' := [(0, .ref pc), (1, .int (nI ar))]) (st' := []) (pc' := 0) rfl rfl rfl rfl ?_
  refine gw_aload_n S dc_PC_putSpare_0 rfl 0 rfl ?_
  refine gw_get S hK.1 ic_PC rfl 1 (by decide) (gw_lk S mw_246) 0 rfl rfl dc_PC_putSpare_1 ?_
  refine gw_iload_n S dc_PC_putSpare_4 rfl 1 rfl ?_
  refine gw_aald S hK.1 1 3 rfl rfl (nI_in (by omega) (by decide)) dc_PC_putSpare_5 ?_
  refine gw_eq (ws' := [(pc, .inr (7, [.ref tx, .ref ca, .ref te, .ref hh, .ref hp, .ref qu, .ref sp, .int pl, .int ap])), (ca, .inl (cA 3, 4, .inr (.inr (.inr (.inr cf))))), (sp, .inr (5, [.ref so, .int ky, .int pn, .int tr, .int ct, .int rn, .int sn, .int ac, .int ed, .int md, .int mn, .int mo, .int lo, .int up]))]) (lv' := [(0, .ref pc), (1, .int (nI ar))]) (st' := [.ref hc]) (pc' := 6) rfl rfl (by rw [nI_clamp (by omega), hcf] <;> rfl) rfl ?_
  refine gw_astore_n (lv' := [(2, .ref hc), (0, .ref pc), (1, .int (nI ar))]) S dc_PC_putSpare_6 rfl (by decide) rfl ?_
  refine gw_aload_n S dc_PC_putSpare_7 rfl 1 rfl ?_
  refine gw_get S hK.1 ic_PC rfl 1 (by decide) (gw_lk S mw_246) 0 rfl rfl dc_PC_putSpare_8 ?_
  refine gw_iload_n S dc_PC_putSpare_11 rfl 2 rfl ?_
  refine gw_aload_n S dc_PC_putSpare_12 rfl 1 rfl ?_
  refine gw_get S hK.1 ic_PC rfl 6 (by decide) (gw_lk S mw_251) 0 rfl rfl dc_PC_putSpare_13 ?_
  refine gw_astq (ws' := [(pc, .inr (7, [.ref tx, .ref ca, .ref te, .ref hh, .ref hp, .ref qu, .ref sp, .int pl, .int ap])), (ca, .inl (cA 3, 4, .inr (.inr (.inr (.inr (va_up cf ar (some sp))))))), (sp, .inr (5, [.ref so, .int ky, .int pn, .int tr, .int ct, .int rn, .int sn, .int ac, .int ed, .int md, .int mn, .int mo, .int lo, .int up]))]) (r := (rn_Card, tb_Card, 14)) S hK.1 1 3 2 5 rfl rfl rfl rfl (nI_in (by omega) (by decide)) (by rw [nI_clamp (by omega)] <;> rfl) dc_PC_putSpare_16 ?_
  refine gw_aload_n S dc_PC_putSpare_17 rfl 1 rfl ?_
  refine gw_aload_n S dc_PC_putSpare_18 rfl 0 rfl ?_
  refine gw_ifnonnull (tgt := 32) S dc_PC_putSpare_19 (by decide) ?_
  refine gw_aload_n S dc_PC_putSpare_32 rfl 0 rfl ?_
  refine gw_put (ws' := [(pc, .inr (7, [.ref tx, .ref ca, .ref te, .ref hh, .ref hp, .ref qu, .ref hc, .int pl, .int ap])), (ca, .inl (cA 3, 4, .inr (.inr (.inr (.inr (va_up cf ar (some sp))))))), (sp, .inr (5, [.ref so, .int ky, .int pn, .int tr, .int ct, .int rn, .int sn, .int ac, .int ed, .int md, .int mn, .int mo, .int lo, .int up]))]) (ty := .object "PayChain$Card") S hK.1 ic_PC rfl 6 (by decide) ty_PC to_PC nm_PC (gw_lk S mw_251) 0 rfl rfl (by decide +kernel) rfl rfl (Nat.le_of_ble_eq_true rfl) rfl dc_PC_putSpare_33 ?_
  exact gw_vret (w := [(pc, .inr (7, [.ref tx, .ref ca, .ref te, .ref hh, .ref hp, .ref qu, .ref hc, .int pl, .int ap])), (ca, .inl (cA 3, 4, .inr (.inr (.inr (.inr (va_up cf ar (some sp))))))), (sp, .inr (5, [.ref so, .int ky, .int pn, .int tr, .int ct, .int rn, .int sn, .int ac, .int ed, .int md, .int mn, .int mo, .int lo, .int up]))]) S g_r g_k  [0, 1, 2] rfl (by decide) ⟨rfl, rfl⟩ dc_PC_putSpare_36
